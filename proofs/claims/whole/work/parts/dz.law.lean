/-! THE LAW'S LOOP, whole -/
theorem dL_law_0 : decode cL_law 0 = .ok (.new 8, 3) := by decide +kernel
theorem dL_law_3 : decode cL_law 3 = .ok (.dup, 1) := by decide +kernel
theorem dL_law_4 : decode cL_law 4 = .ok (.invokespecial 94, 3) := by decide +kernel
theorem dL_law_7 : decode cL_law 7 = .ok (.astore_n 1, 1) := by decide +kernel
theorem dL_law_8 : decode cL_law 8 = .ok (.new 95, 3) := by decide +kernel
theorem dL_law_11 : decode cL_law 11 = .ok (.dup, 1) := by decide +kernel
theorem dL_law_12 : decode cL_law 12 = .ok (.invokespecial 97, 3) := by decide +kernel
theorem dL_law_15 : decode cL_law 15 = .ok (.astore_n 2, 1) := by decide +kernel
theorem dL_law_16 : decode cL_law 16 = .ok (.iconst 1, 1) := by decide +kernel
theorem dL_law_17 : decode cL_law 17 = .ok (.newarray .long, 2) := by decide +kernel
theorem dL_law_19 : decode cL_law 19 = .ok (.astore_n 3, 1) := by decide +kernel
theorem dL_law_20 : decode cL_law 20 = .ok (.iconst 0, 1) := by decide +kernel
theorem dL_law_21 : decode cL_law 21 = .ok (.istore 4, 2) := by decide +kernel
theorem dL_law_23 : decode cL_law 23 = .ok (.iload 4, 2) := by decide +kernel
theorem dL_law_25 : decode cL_law 25 = .ok (.aload_n 0, 1) := by decide +kernel
theorem dL_law_26 : decode cL_law 26 = .ok (.arraylength, 1) := by decide +kernel
theorem dL_law_27 : decode cL_law 27 = .ok (.bipush 6, 2) := by decide +kernel
theorem dL_law_29 : decode cL_law 29 = .ok (.isub, 1) := by decide +kernel
theorem dL_law_30 : decode cL_law 30 = .ok (.if_icmp .gt 2108, 3) := by decide +kernel
theorem dL_law_33 : decode cL_law 33 = .ok (.aload_n 0, 1) := by decide +kernel
theorem dL_law_34 : decode cL_law 34 = .ok (.iload 4, 2) := by decide +kernel
theorem dL_law_36 : decode cL_law 36 = .ok (.iaload, 1) := by decide +kernel
theorem dL_law_37 : decode cL_law 37 = .ok (.bipush 63, 2) := by decide +kernel
theorem dL_law_39 : decode cL_law 39 = .ok (.iand, 1) := by decide +kernel
theorem dL_law_40 : decode cL_law 40 = .ok (.tableswitch 2092 0 35 #[160, 233, 289, 302, 358, 426, 506, 597, 610, 678, 691, 704, 717, 785, 841, 941, 954, 967, 1023, 1036, 1092, 1160, 1240, 1308, 1364, 1420, 1512, 1592, 1648, 1716, 1772, 1840, 1908, 1976, 2068, 2079], 160) := by decide +kernel
theorem dL_law_200 : decode cL_law 200 = .ok (.aload_n 1, 1) := by decide +kernel
theorem dL_law_201 : decode cL_law 201 = .ok (.aload_n 0, 1) := by decide +kernel
theorem dL_law_202 : decode cL_law 202 = .ok (.iload 4, 2) := by decide +kernel
theorem dL_law_204 : decode cL_law 204 = .ok (.iconst 1, 1) := by decide +kernel
theorem dL_law_205 : decode cL_law 205 = .ok (.iadd, 1) := by decide +kernel
theorem dL_law_206 : decode cL_law 206 = .ok (.iaload, 1) := by decide +kernel
theorem dL_law_207 : decode cL_law 207 = .ok (.aload_n 0, 1) := by decide +kernel
theorem dL_law_208 : decode cL_law 208 = .ok (.iload 4, 2) := by decide +kernel
theorem dL_law_210 : decode cL_law 210 = .ok (.iconst 2, 1) := by decide +kernel
theorem dL_law_211 : decode cL_law 211 = .ok (.iadd, 1) := by decide +kernel
theorem dL_law_212 : decode cL_law 212 = .ok (.iaload, 1) := by decide +kernel
theorem dL_law_213 : decode cL_law 213 = .ok (.aload_n 0, 1) := by decide +kernel
theorem dL_law_214 : decode cL_law 214 = .ok (.iload 4, 2) := by decide +kernel
theorem dL_law_216 : decode cL_law 216 = .ok (.iconst 3, 1) := by decide +kernel
theorem dL_law_217 : decode cL_law 217 = .ok (.iadd, 1) := by decide +kernel
theorem dL_law_218 : decode cL_law 218 = .ok (.iaload, 1) := by decide +kernel
theorem dL_law_219 : decode cL_law 219 = .ok (.aload_n 0, 1) := by decide +kernel
theorem dL_law_220 : decode cL_law 220 = .ok (.iload 4, 2) := by decide +kernel
theorem dL_law_222 : decode cL_law 222 = .ok (.iconst 4, 1) := by decide +kernel
theorem dL_law_223 : decode cL_law 223 = .ok (.iadd, 1) := by decide +kernel
theorem dL_law_224 : decode cL_law 224 = .ok (.iaload, 1) := by decide +kernel
theorem dL_law_225 : decode cL_law 225 = .ok (.aload_n 0, 1) := by decide +kernel
theorem dL_law_226 : decode cL_law 226 = .ok (.iload 4, 2) := by decide +kernel
theorem dL_law_228 : decode cL_law 228 = .ok (.iconst 5, 1) := by decide +kernel
theorem dL_law_229 : decode cL_law 229 = .ok (.iadd, 1) := by decide +kernel
theorem dL_law_230 : decode cL_law 230 = .ok (.iaload, 1) := by decide +kernel
theorem dL_law_231 : decode cL_law 231 = .ok (.invokevirtual 98, 3) := by decide +kernel
theorem dL_law_234 : decode cL_law 234 = .ok (.aload_n 2, 1) := by decide +kernel
theorem dL_law_235 : decode cL_law 235 = .ok (.aload_n 0, 1) := by decide +kernel
theorem dL_law_236 : decode cL_law 236 = .ok (.iload 4, 2) := by decide +kernel
theorem dL_law_238 : decode cL_law 238 = .ok (.iconst 1, 1) := by decide +kernel
theorem dL_law_239 : decode cL_law 239 = .ok (.iadd, 1) := by decide +kernel
theorem dL_law_240 : decode cL_law 240 = .ok (.iaload, 1) := by decide +kernel
theorem dL_law_241 : decode cL_law 241 = .ok (.aload_n 0, 1) := by decide +kernel
theorem dL_law_242 : decode cL_law 242 = .ok (.iload 4, 2) := by decide +kernel
theorem dL_law_244 : decode cL_law 244 = .ok (.iconst 2, 1) := by decide +kernel
theorem dL_law_245 : decode cL_law 245 = .ok (.iadd, 1) := by decide +kernel
theorem dL_law_246 : decode cL_law 246 = .ok (.iaload, 1) := by decide +kernel
theorem dL_law_247 : decode cL_law 247 = .ok (.aload_n 0, 1) := by decide +kernel
theorem dL_law_248 : decode cL_law 248 = .ok (.iload 4, 2) := by decide +kernel
theorem dL_law_250 : decode cL_law 250 = .ok (.iconst 3, 1) := by decide +kernel
theorem dL_law_251 : decode cL_law 251 = .ok (.iadd, 1) := by decide +kernel
theorem dL_law_252 : decode cL_law 252 = .ok (.iaload, 1) := by decide +kernel
theorem dL_law_253 : decode cL_law 253 = .ok (.aload_n 0, 1) := by decide +kernel
theorem dL_law_254 : decode cL_law 254 = .ok (.iload 4, 2) := by decide +kernel
theorem dL_law_256 : decode cL_law 256 = .ok (.iconst 4, 1) := by decide +kernel
theorem dL_law_257 : decode cL_law 257 = .ok (.iadd, 1) := by decide +kernel
theorem dL_law_258 : decode cL_law 258 = .ok (.iaload, 1) := by decide +kernel
theorem dL_law_259 : decode cL_law 259 = .ok (.aload_n 0, 1) := by decide +kernel
theorem dL_law_260 : decode cL_law 260 = .ok (.iload 4, 2) := by decide +kernel
theorem dL_law_262 : decode cL_law 262 = .ok (.iconst 5, 1) := by decide +kernel
theorem dL_law_263 : decode cL_law 263 = .ok (.iadd, 1) := by decide +kernel
theorem dL_law_264 : decode cL_law 264 = .ok (.iaload, 1) := by decide +kernel
theorem dL_law_265 : decode cL_law 265 = .ok (.invokevirtual 102, 3) := by decide +kernel
theorem dL_law_268 : decode cL_law 268 = .ok (.if_icmp .eq 1864, 3) := by decide +kernel
theorem dL_law_271 : decode cL_law 271 = .ok (.iconst 0, 1) := by decide +kernel
theorem dL_law_272 : decode cL_law 272 = .ok (.ireturn, 1) := by decide +kernel
theorem dL_law_273 : decode cL_law 273 = .ok (.aload_n 1, 1) := by decide +kernel
theorem dL_law_274 : decode cL_law 274 = .ok (.aload_n 0, 1) := by decide +kernel
theorem dL_law_275 : decode cL_law 275 = .ok (.iload 4, 2) := by decide +kernel
theorem dL_law_277 : decode cL_law 277 = .ok (.iconst 1, 1) := by decide +kernel
theorem dL_law_278 : decode cL_law 278 = .ok (.iadd, 1) := by decide +kernel
theorem dL_law_279 : decode cL_law 279 = .ok (.iaload, 1) := by decide +kernel
theorem dL_law_280 : decode cL_law 280 = .ok (.aload_n 3, 1) := by decide +kernel
theorem dL_law_281 : decode cL_law 281 = .ok (.invokestatic 103, 3) := by decide +kernel
theorem dL_law_284 : decode cL_law 284 = .ok (.istore 5, 2) := by decide +kernel
theorem dL_law_286 : decode cL_law 286 = .ok (.aload_n 2, 1) := by decide +kernel
theorem dL_law_287 : decode cL_law 287 = .ok (.aload_n 0, 1) := by decide +kernel
theorem dL_law_288 : decode cL_law 288 = .ok (.iload 4, 2) := by decide +kernel
theorem dL_law_290 : decode cL_law 290 = .ok (.iconst 1, 1) := by decide +kernel
theorem dL_law_291 : decode cL_law 291 = .ok (.iadd, 1) := by decide +kernel
theorem dL_law_292 : decode cL_law 292 = .ok (.iaload, 1) := by decide +kernel
theorem dL_law_293 : decode cL_law 293 = .ok (.invokevirtual 108, 3) := by decide +kernel
theorem dL_law_296 : decode cL_law 296 = .ok (.istore 6, 2) := by decide +kernel
theorem dL_law_298 : decode cL_law 298 = .ok (.aload_n 2, 1) := by decide +kernel
theorem dL_law_299 : decode cL_law 299 = .ok (.invokevirtual 109, 3) := by decide +kernel
theorem dL_law_302 : decode cL_law 302 = .ok (.iload 5, 2) := by decide +kernel
theorem dL_law_304 : decode cL_law 304 = .ok (.if_icmp .eq 5, 3) := by decide +kernel
theorem dL_law_307 : decode cL_law 307 = .ok (.iconst 0, 1) := by decide +kernel
theorem dL_law_308 : decode cL_law 308 = .ok (.ireturn, 1) := by decide +kernel
theorem dL_law_309 : decode cL_law 309 = .ok (.iload 5, 2) := by decide +kernel
theorem dL_law_311 : decode cL_law 311 = .ok (.ifCond .ne 15, 3) := by decide +kernel
theorem dL_law_314 : decode cL_law 314 = .ok (.aload_n 3, 1) := by decide +kernel
theorem dL_law_315 : decode cL_law 315 = .ok (.iconst 0, 1) := by decide +kernel
theorem dL_law_316 : decode cL_law 316 = .ok (.laload, 1) := by decide +kernel
theorem dL_law_317 : decode cL_law 317 = .ok (.iload 6, 2) := by decide +kernel
theorem dL_law_319 : decode cL_law 319 = .ok (.i2l, 1) := by decide +kernel
theorem dL_law_320 : decode cL_law 320 = .ok (.lcmp, 1) := by decide +kernel
theorem dL_law_321 : decode cL_law 321 = .ok (.ifCond .eq 5, 3) := by decide +kernel
theorem dL_law_324 : decode cL_law 324 = .ok (.iconst 0, 1) := by decide +kernel
theorem dL_law_325 : decode cL_law 325 = .ok (.ireturn, 1) := by decide +kernel
theorem dL_law_326 : decode cL_law 326 = .ok (.goto 1806, 3) := by decide +kernel
theorem dL_law_329 : decode cL_law 329 = .ok (.aload_n 1, 1) := by decide +kernel
theorem dL_law_330 : decode cL_law 330 = .ok (.invokevirtual 113, 3) := by decide +kernel
theorem dL_law_333 : decode cL_law 333 = .ok (.aload_n 2, 1) := by decide +kernel
theorem dL_law_334 : decode cL_law 334 = .ok (.invokevirtual 116, 3) := by decide +kernel
theorem dL_law_337 : decode cL_law 337 = .ok (.if_icmp .eq 1795, 3) := by decide +kernel
theorem dL_law_340 : decode cL_law 340 = .ok (.iconst 0, 1) := by decide +kernel
theorem dL_law_341 : decode cL_law 341 = .ok (.ireturn, 1) := by decide +kernel
theorem dL_law_342 : decode cL_law 342 = .ok (.aload_n 1, 1) := by decide +kernel
theorem dL_law_343 : decode cL_law 343 = .ok (.aload_n 0, 1) := by decide +kernel
theorem dL_law_344 : decode cL_law 344 = .ok (.iload 4, 2) := by decide +kernel
theorem dL_law_346 : decode cL_law 346 = .ok (.iconst 1, 1) := by decide +kernel
theorem dL_law_347 : decode cL_law 347 = .ok (.iadd, 1) := by decide +kernel
theorem dL_law_348 : decode cL_law 348 = .ok (.iaload, 1) := by decide +kernel
theorem dL_law_349 : decode cL_law 349 = .ok (.aload_n 3, 1) := by decide +kernel
theorem dL_law_350 : decode cL_law 350 = .ok (.invokestatic 117, 3) := by decide +kernel
theorem dL_law_353 : decode cL_law 353 = .ok (.istore 5, 2) := by decide +kernel
theorem dL_law_355 : decode cL_law 355 = .ok (.aload_n 2, 1) := by decide +kernel
theorem dL_law_356 : decode cL_law 356 = .ok (.aload_n 0, 1) := by decide +kernel
theorem dL_law_357 : decode cL_law 357 = .ok (.iload 4, 2) := by decide +kernel
theorem dL_law_359 : decode cL_law 359 = .ok (.iconst 1, 1) := by decide +kernel
theorem dL_law_360 : decode cL_law 360 = .ok (.iadd, 1) := by decide +kernel
theorem dL_law_361 : decode cL_law 361 = .ok (.iaload, 1) := by decide +kernel
theorem dL_law_362 : decode cL_law 362 = .ok (.invokevirtual 119, 3) := by decide +kernel
theorem dL_law_365 : decode cL_law 365 = .ok (.istore 6, 2) := by decide +kernel
theorem dL_law_367 : decode cL_law 367 = .ok (.aload_n 2, 1) := by decide +kernel
theorem dL_law_368 : decode cL_law 368 = .ok (.invokevirtual 109, 3) := by decide +kernel
theorem dL_law_371 : decode cL_law 371 = .ok (.iload 5, 2) := by decide +kernel
theorem dL_law_373 : decode cL_law 373 = .ok (.if_icmp .eq 5, 3) := by decide +kernel
theorem dL_law_376 : decode cL_law 376 = .ok (.iconst 0, 1) := by decide +kernel
theorem dL_law_377 : decode cL_law 377 = .ok (.ireturn, 1) := by decide +kernel
theorem dL_law_378 : decode cL_law 378 = .ok (.iload 5, 2) := by decide +kernel
theorem dL_law_380 : decode cL_law 380 = .ok (.ifCond .ne 15, 3) := by decide +kernel
theorem dL_law_383 : decode cL_law 383 = .ok (.aload_n 3, 1) := by decide +kernel
theorem dL_law_384 : decode cL_law 384 = .ok (.iconst 0, 1) := by decide +kernel
theorem dL_law_385 : decode cL_law 385 = .ok (.laload, 1) := by decide +kernel
theorem dL_law_386 : decode cL_law 386 = .ok (.iload 6, 2) := by decide +kernel
theorem dL_law_388 : decode cL_law 388 = .ok (.i2l, 1) := by decide +kernel
theorem dL_law_389 : decode cL_law 389 = .ok (.lcmp, 1) := by decide +kernel
theorem dL_law_390 : decode cL_law 390 = .ok (.ifCond .eq 5, 3) := by decide +kernel
theorem dL_law_393 : decode cL_law 393 = .ok (.iconst 0, 1) := by decide +kernel
theorem dL_law_394 : decode cL_law 394 = .ok (.ireturn, 1) := by decide +kernel
theorem dL_law_395 : decode cL_law 395 = .ok (.goto 1737, 3) := by decide +kernel
theorem dL_law_398 : decode cL_law 398 = .ok (.aload_n 1, 1) := by decide +kernel
theorem dL_law_399 : decode cL_law 399 = .ok (.aload_n 0, 1) := by decide +kernel
theorem dL_law_400 : decode cL_law 400 = .ok (.iload 4, 2) := by decide +kernel
theorem dL_law_402 : decode cL_law 402 = .ok (.iconst 1, 1) := by decide +kernel
theorem dL_law_403 : decode cL_law 403 = .ok (.iadd, 1) := by decide +kernel
theorem dL_law_404 : decode cL_law 404 = .ok (.iaload, 1) := by decide +kernel
theorem dL_law_405 : decode cL_law 405 = .ok (.aload_n 0, 1) := by decide +kernel
theorem dL_law_406 : decode cL_law 406 = .ok (.iload 4, 2) := by decide +kernel
theorem dL_law_408 : decode cL_law 408 = .ok (.iconst 2, 1) := by decide +kernel
theorem dL_law_409 : decode cL_law 409 = .ok (.iadd, 1) := by decide +kernel
theorem dL_law_410 : decode cL_law 410 = .ok (.iaload, 1) := by decide +kernel
theorem dL_law_411 : decode cL_law 411 = .ok (.aload_n 3, 1) := by decide +kernel
theorem dL_law_412 : decode cL_law 412 = .ok (.invokestatic 120, 3) := by decide +kernel
theorem dL_law_415 : decode cL_law 415 = .ok (.istore 5, 2) := by decide +kernel
theorem dL_law_417 : decode cL_law 417 = .ok (.aload_n 2, 1) := by decide +kernel
theorem dL_law_418 : decode cL_law 418 = .ok (.aload_n 0, 1) := by decide +kernel
theorem dL_law_419 : decode cL_law 419 = .ok (.iload 4, 2) := by decide +kernel
theorem dL_law_421 : decode cL_law 421 = .ok (.iconst 1, 1) := by decide +kernel
theorem dL_law_422 : decode cL_law 422 = .ok (.iadd, 1) := by decide +kernel
theorem dL_law_423 : decode cL_law 423 = .ok (.iaload, 1) := by decide +kernel
theorem dL_law_424 : decode cL_law 424 = .ok (.aload_n 0, 1) := by decide +kernel
theorem dL_law_425 : decode cL_law 425 = .ok (.iload 4, 2) := by decide +kernel
theorem dL_law_427 : decode cL_law 427 = .ok (.iconst 2, 1) := by decide +kernel
theorem dL_law_428 : decode cL_law 428 = .ok (.iadd, 1) := by decide +kernel
theorem dL_law_429 : decode cL_law 429 = .ok (.iaload, 1) := by decide +kernel
theorem dL_law_430 : decode cL_law 430 = .ok (.invokevirtual 123, 3) := by decide +kernel
theorem dL_law_433 : decode cL_law 433 = .ok (.istore 6, 2) := by decide +kernel
theorem dL_law_435 : decode cL_law 435 = .ok (.aload_n 2, 1) := by decide +kernel
theorem dL_law_436 : decode cL_law 436 = .ok (.invokevirtual 109, 3) := by decide +kernel
theorem dL_law_439 : decode cL_law 439 = .ok (.iload 5, 2) := by decide +kernel
theorem dL_law_441 : decode cL_law 441 = .ok (.if_icmp .eq 5, 3) := by decide +kernel
theorem dL_law_444 : decode cL_law 444 = .ok (.iconst 0, 1) := by decide +kernel
theorem dL_law_445 : decode cL_law 445 = .ok (.ireturn, 1) := by decide +kernel
theorem dL_law_446 : decode cL_law 446 = .ok (.iload 5, 2) := by decide +kernel
theorem dL_law_448 : decode cL_law 448 = .ok (.ifCond .ne 15, 3) := by decide +kernel
theorem dL_law_451 : decode cL_law 451 = .ok (.aload_n 3, 1) := by decide +kernel
theorem dL_law_452 : decode cL_law 452 = .ok (.iconst 0, 1) := by decide +kernel
theorem dL_law_453 : decode cL_law 453 = .ok (.laload, 1) := by decide +kernel
theorem dL_law_454 : decode cL_law 454 = .ok (.iload 6, 2) := by decide +kernel
theorem dL_law_456 : decode cL_law 456 = .ok (.i2l, 1) := by decide +kernel
theorem dL_law_457 : decode cL_law 457 = .ok (.lcmp, 1) := by decide +kernel
theorem dL_law_458 : decode cL_law 458 = .ok (.ifCond .eq 5, 3) := by decide +kernel
theorem dL_law_461 : decode cL_law 461 = .ok (.iconst 0, 1) := by decide +kernel
theorem dL_law_462 : decode cL_law 462 = .ok (.ireturn, 1) := by decide +kernel
theorem dL_law_463 : decode cL_law 463 = .ok (.goto 1669, 3) := by decide +kernel
theorem dL_law_466 : decode cL_law 466 = .ok (.aload_n 1, 1) := by decide +kernel
theorem dL_law_467 : decode cL_law 467 = .ok (.aload_n 0, 1) := by decide +kernel
theorem dL_law_468 : decode cL_law 468 = .ok (.iload 4, 2) := by decide +kernel
theorem dL_law_470 : decode cL_law 470 = .ok (.iconst 1, 1) := by decide +kernel
theorem dL_law_471 : decode cL_law 471 = .ok (.iadd, 1) := by decide +kernel
theorem dL_law_472 : decode cL_law 472 = .ok (.iaload, 1) := by decide +kernel
theorem dL_law_473 : decode cL_law 473 = .ok (.aload_n 0, 1) := by decide +kernel
theorem dL_law_474 : decode cL_law 474 = .ok (.iload 4, 2) := by decide +kernel
theorem dL_law_476 : decode cL_law 476 = .ok (.iconst 2, 1) := by decide +kernel
theorem dL_law_477 : decode cL_law 477 = .ok (.iadd, 1) := by decide +kernel
theorem dL_law_478 : decode cL_law 478 = .ok (.iaload, 1) := by decide +kernel
theorem dL_law_479 : decode cL_law 479 = .ok (.aload_n 0, 1) := by decide +kernel
theorem dL_law_480 : decode cL_law 480 = .ok (.iload 4, 2) := by decide +kernel
theorem dL_law_482 : decode cL_law 482 = .ok (.iconst 3, 1) := by decide +kernel
theorem dL_law_483 : decode cL_law 483 = .ok (.iadd, 1) := by decide +kernel
theorem dL_law_484 : decode cL_law 484 = .ok (.iaload, 1) := by decide +kernel
theorem dL_law_485 : decode cL_law 485 = .ok (.aload_n 3, 1) := by decide +kernel
theorem dL_law_486 : decode cL_law 486 = .ok (.invokestatic 124, 3) := by decide +kernel
theorem dL_law_489 : decode cL_law 489 = .ok (.istore 5, 2) := by decide +kernel
theorem dL_law_491 : decode cL_law 491 = .ok (.aload_n 2, 1) := by decide +kernel
theorem dL_law_492 : decode cL_law 492 = .ok (.aload_n 0, 1) := by decide +kernel
theorem dL_law_493 : decode cL_law 493 = .ok (.iload 4, 2) := by decide +kernel
theorem dL_law_495 : decode cL_law 495 = .ok (.iconst 1, 1) := by decide +kernel
theorem dL_law_496 : decode cL_law 496 = .ok (.iadd, 1) := by decide +kernel
theorem dL_law_497 : decode cL_law 497 = .ok (.iaload, 1) := by decide +kernel
theorem dL_law_498 : decode cL_law 498 = .ok (.aload_n 0, 1) := by decide +kernel
theorem dL_law_499 : decode cL_law 499 = .ok (.iload 4, 2) := by decide +kernel
theorem dL_law_501 : decode cL_law 501 = .ok (.iconst 2, 1) := by decide +kernel
theorem dL_law_502 : decode cL_law 502 = .ok (.iadd, 1) := by decide +kernel
theorem dL_law_503 : decode cL_law 503 = .ok (.iaload, 1) := by decide +kernel
theorem dL_law_504 : decode cL_law 504 = .ok (.aload_n 0, 1) := by decide +kernel
theorem dL_law_505 : decode cL_law 505 = .ok (.iload 4, 2) := by decide +kernel
theorem dL_law_507 : decode cL_law 507 = .ok (.iconst 3, 1) := by decide +kernel
theorem dL_law_508 : decode cL_law 508 = .ok (.iadd, 1) := by decide +kernel
theorem dL_law_509 : decode cL_law 509 = .ok (.iaload, 1) := by decide +kernel
theorem dL_law_510 : decode cL_law 510 = .ok (.invokevirtual 127, 3) := by decide +kernel
theorem dL_law_513 : decode cL_law 513 = .ok (.istore 6, 2) := by decide +kernel
theorem dL_law_515 : decode cL_law 515 = .ok (.aload_n 2, 1) := by decide +kernel
theorem dL_law_516 : decode cL_law 516 = .ok (.invokevirtual 109, 3) := by decide +kernel
theorem dL_law_519 : decode cL_law 519 = .ok (.iload 5, 2) := by decide +kernel
theorem dL_law_521 : decode cL_law 521 = .ok (.if_icmp .eq 5, 3) := by decide +kernel
theorem dL_law_524 : decode cL_law 524 = .ok (.iconst 0, 1) := by decide +kernel
theorem dL_law_525 : decode cL_law 525 = .ok (.ireturn, 1) := by decide +kernel
theorem dL_law_526 : decode cL_law 526 = .ok (.iload 5, 2) := by decide +kernel
theorem dL_law_528 : decode cL_law 528 = .ok (.ifCond .ne 15, 3) := by decide +kernel
theorem dL_law_531 : decode cL_law 531 = .ok (.aload_n 3, 1) := by decide +kernel
theorem dL_law_532 : decode cL_law 532 = .ok (.iconst 0, 1) := by decide +kernel
theorem dL_law_533 : decode cL_law 533 = .ok (.laload, 1) := by decide +kernel
theorem dL_law_534 : decode cL_law 534 = .ok (.iload 6, 2) := by decide +kernel
theorem dL_law_536 : decode cL_law 536 = .ok (.i2l, 1) := by decide +kernel
theorem dL_law_537 : decode cL_law 537 = .ok (.lcmp, 1) := by decide +kernel
theorem dL_law_538 : decode cL_law 538 = .ok (.ifCond .eq 5, 3) := by decide +kernel
theorem dL_law_541 : decode cL_law 541 = .ok (.iconst 0, 1) := by decide +kernel
theorem dL_law_542 : decode cL_law 542 = .ok (.ireturn, 1) := by decide +kernel
theorem dL_law_543 : decode cL_law 543 = .ok (.goto 1589, 3) := by decide +kernel
theorem dL_law_546 : decode cL_law 546 = .ok (.aload_n 1, 1) := by decide +kernel
theorem dL_law_547 : decode cL_law 547 = .ok (.aload_n 0, 1) := by decide +kernel
theorem dL_law_548 : decode cL_law 548 = .ok (.iload 4, 2) := by decide +kernel
theorem dL_law_550 : decode cL_law 550 = .ok (.iconst 1, 1) := by decide +kernel
theorem dL_law_551 : decode cL_law 551 = .ok (.iadd, 1) := by decide +kernel
theorem dL_law_552 : decode cL_law 552 = .ok (.iaload, 1) := by decide +kernel
theorem dL_law_553 : decode cL_law 553 = .ok (.aload_n 0, 1) := by decide +kernel
theorem dL_law_554 : decode cL_law 554 = .ok (.iload 4, 2) := by decide +kernel
theorem dL_law_556 : decode cL_law 556 = .ok (.iconst 2, 1) := by decide +kernel
theorem dL_law_557 : decode cL_law 557 = .ok (.iadd, 1) := by decide +kernel
theorem dL_law_558 : decode cL_law 558 = .ok (.iaload, 1) := by decide +kernel
theorem dL_law_559 : decode cL_law 559 = .ok (.ifCond .eq 7, 3) := by decide +kernel
theorem dL_law_562 : decode cL_law 562 = .ok (.iconst 1, 1) := by decide +kernel
theorem dL_law_563 : decode cL_law 563 = .ok (.goto 4, 3) := by decide +kernel
theorem dL_law_566 : decode cL_law 566 = .ok (.iconst 0, 1) := by decide +kernel
theorem dL_law_567 : decode cL_law 567 = .ok (.aload_n 3, 1) := by decide +kernel
theorem dL_law_568 : decode cL_law 568 = .ok (.invokestatic 128, 3) := by decide +kernel
theorem dL_law_571 : decode cL_law 571 = .ok (.istore 5, 2) := by decide +kernel
theorem dL_law_573 : decode cL_law 573 = .ok (.aload_n 2, 1) := by decide +kernel
theorem dL_law_574 : decode cL_law 574 = .ok (.aload_n 0, 1) := by decide +kernel
theorem dL_law_575 : decode cL_law 575 = .ok (.iload 4, 2) := by decide +kernel
theorem dL_law_577 : decode cL_law 577 = .ok (.iconst 1, 1) := by decide +kernel
theorem dL_law_578 : decode cL_law 578 = .ok (.iadd, 1) := by decide +kernel
theorem dL_law_579 : decode cL_law 579 = .ok (.iaload, 1) := by decide +kernel
theorem dL_law_580 : decode cL_law 580 = .ok (.aload_n 0, 1) := by decide +kernel
theorem dL_law_581 : decode cL_law 581 = .ok (.iload 4, 2) := by decide +kernel
theorem dL_law_583 : decode cL_law 583 = .ok (.iconst 2, 1) := by decide +kernel
theorem dL_law_584 : decode cL_law 584 = .ok (.iadd, 1) := by decide +kernel
theorem dL_law_585 : decode cL_law 585 = .ok (.iaload, 1) := by decide +kernel
theorem dL_law_586 : decode cL_law 586 = .ok (.ifCond .eq 7, 3) := by decide +kernel
theorem dL_law_589 : decode cL_law 589 = .ok (.iconst 1, 1) := by decide +kernel
theorem dL_law_590 : decode cL_law 590 = .ok (.goto 4, 3) := by decide +kernel
theorem dL_law_593 : decode cL_law 593 = .ok (.iconst 0, 1) := by decide +kernel
theorem dL_law_594 : decode cL_law 594 = .ok (.invokevirtual 131, 3) := by decide +kernel
theorem dL_law_597 : decode cL_law 597 = .ok (.istore 6, 2) := by decide +kernel
theorem dL_law_599 : decode cL_law 599 = .ok (.aload_n 2, 1) := by decide +kernel
theorem dL_law_600 : decode cL_law 600 = .ok (.invokevirtual 109, 3) := by decide +kernel
theorem dL_law_603 : decode cL_law 603 = .ok (.iload 5, 2) := by decide +kernel
theorem dL_law_605 : decode cL_law 605 = .ok (.if_icmp .eq 5, 3) := by decide +kernel
theorem dL_law_608 : decode cL_law 608 = .ok (.iconst 0, 1) := by decide +kernel
theorem dL_law_609 : decode cL_law 609 = .ok (.ireturn, 1) := by decide +kernel
theorem dL_law_610 : decode cL_law 610 = .ok (.iload 5, 2) := by decide +kernel
theorem dL_law_612 : decode cL_law 612 = .ok (.ifCond .ne 22, 3) := by decide +kernel
theorem dL_law_615 : decode cL_law 615 = .ok (.aload_n 3, 1) := by decide +kernel
theorem dL_law_616 : decode cL_law 616 = .ok (.iconst 0, 1) := by decide +kernel
theorem dL_law_617 : decode cL_law 617 = .ok (.laload, 1) := by decide +kernel
theorem dL_law_618 : decode cL_law 618 = .ok (.iload 6, 2) := by decide +kernel
theorem dL_law_620 : decode cL_law 620 = .ok (.ifCond .eq 7, 3) := by decide +kernel
theorem dL_law_623 : decode cL_law 623 = .ok (.lconst 1, 1) := by decide +kernel
theorem dL_law_624 : decode cL_law 624 = .ok (.goto 4, 3) := by decide +kernel
theorem dL_law_627 : decode cL_law 627 = .ok (.lconst 0, 1) := by decide +kernel
theorem dL_law_628 : decode cL_law 628 = .ok (.lcmp, 1) := by decide +kernel
theorem dL_law_629 : decode cL_law 629 = .ok (.ifCond .eq 5, 3) := by decide +kernel
theorem dL_law_632 : decode cL_law 632 = .ok (.iconst 0, 1) := by decide +kernel
theorem dL_law_633 : decode cL_law 633 = .ok (.ireturn, 1) := by decide +kernel
theorem dL_law_634 : decode cL_law 634 = .ok (.goto 1498, 3) := by decide +kernel
theorem dL_law_637 : decode cL_law 637 = .ok (.aload_n 1, 1) := by decide +kernel
theorem dL_law_638 : decode cL_law 638 = .ok (.invokevirtual 132, 3) := by decide +kernel
theorem dL_law_641 : decode cL_law 641 = .ok (.aload_n 2, 1) := by decide +kernel
theorem dL_law_642 : decode cL_law 642 = .ok (.invokevirtual 135, 3) := by decide +kernel
theorem dL_law_645 : decode cL_law 645 = .ok (.if_icmp .eq 1487, 3) := by decide +kernel
theorem dL_law_648 : decode cL_law 648 = .ok (.iconst 0, 1) := by decide +kernel
theorem dL_law_649 : decode cL_law 649 = .ok (.ireturn, 1) := by decide +kernel
theorem dL_law_650 : decode cL_law 650 = .ok (.aload_n 1, 1) := by decide +kernel
theorem dL_law_651 : decode cL_law 651 = .ok (.aload_n 0, 1) := by decide +kernel
theorem dL_law_652 : decode cL_law 652 = .ok (.iload 4, 2) := by decide +kernel
theorem dL_law_654 : decode cL_law 654 = .ok (.iconst 1, 1) := by decide +kernel
theorem dL_law_655 : decode cL_law 655 = .ok (.iadd, 1) := by decide +kernel
theorem dL_law_656 : decode cL_law 656 = .ok (.iaload, 1) := by decide +kernel
theorem dL_law_657 : decode cL_law 657 = .ok (.aload_n 0, 1) := by decide +kernel
theorem dL_law_658 : decode cL_law 658 = .ok (.iload 4, 2) := by decide +kernel
theorem dL_law_660 : decode cL_law 660 = .ok (.iconst 2, 1) := by decide +kernel
theorem dL_law_661 : decode cL_law 661 = .ok (.iadd, 1) := by decide +kernel
theorem dL_law_662 : decode cL_law 662 = .ok (.iaload, 1) := by decide +kernel
theorem dL_law_663 : decode cL_law 663 = .ok (.aload_n 3, 1) := by decide +kernel
theorem dL_law_664 : decode cL_law 664 = .ok (.invokestatic 136, 3) := by decide +kernel
theorem dL_law_667 : decode cL_law 667 = .ok (.istore 5, 2) := by decide +kernel
theorem dL_law_669 : decode cL_law 669 = .ok (.aload_n 2, 1) := by decide +kernel
theorem dL_law_670 : decode cL_law 670 = .ok (.aload_n 0, 1) := by decide +kernel
theorem dL_law_671 : decode cL_law 671 = .ok (.iload 4, 2) := by decide +kernel
theorem dL_law_673 : decode cL_law 673 = .ok (.iconst 1, 1) := by decide +kernel
theorem dL_law_674 : decode cL_law 674 = .ok (.iadd, 1) := by decide +kernel
theorem dL_law_675 : decode cL_law 675 = .ok (.iaload, 1) := by decide +kernel
theorem dL_law_676 : decode cL_law 676 = .ok (.aload_n 0, 1) := by decide +kernel
theorem dL_law_677 : decode cL_law 677 = .ok (.iload 4, 2) := by decide +kernel
theorem dL_law_679 : decode cL_law 679 = .ok (.iconst 2, 1) := by decide +kernel
theorem dL_law_680 : decode cL_law 680 = .ok (.iadd, 1) := by decide +kernel
theorem dL_law_681 : decode cL_law 681 = .ok (.iaload, 1) := by decide +kernel
theorem dL_law_682 : decode cL_law 682 = .ok (.invokevirtual 138, 3) := by decide +kernel
theorem dL_law_685 : decode cL_law 685 = .ok (.istore 6, 2) := by decide +kernel
theorem dL_law_687 : decode cL_law 687 = .ok (.aload_n 2, 1) := by decide +kernel
theorem dL_law_688 : decode cL_law 688 = .ok (.invokevirtual 109, 3) := by decide +kernel
theorem dL_law_691 : decode cL_law 691 = .ok (.iload 5, 2) := by decide +kernel
theorem dL_law_693 : decode cL_law 693 = .ok (.if_icmp .eq 5, 3) := by decide +kernel
theorem dL_law_696 : decode cL_law 696 = .ok (.iconst 0, 1) := by decide +kernel
theorem dL_law_697 : decode cL_law 697 = .ok (.ireturn, 1) := by decide +kernel
theorem dL_law_698 : decode cL_law 698 = .ok (.iload 5, 2) := by decide +kernel
theorem dL_law_700 : decode cL_law 700 = .ok (.ifCond .ne 15, 3) := by decide +kernel
theorem dL_law_703 : decode cL_law 703 = .ok (.aload_n 3, 1) := by decide +kernel
theorem dL_law_704 : decode cL_law 704 = .ok (.iconst 0, 1) := by decide +kernel
theorem dL_law_705 : decode cL_law 705 = .ok (.laload, 1) := by decide +kernel
theorem dL_law_706 : decode cL_law 706 = .ok (.iload 6, 2) := by decide +kernel
theorem dL_law_708 : decode cL_law 708 = .ok (.i2l, 1) := by decide +kernel
theorem dL_law_709 : decode cL_law 709 = .ok (.lcmp, 1) := by decide +kernel
theorem dL_law_710 : decode cL_law 710 = .ok (.ifCond .eq 5, 3) := by decide +kernel
theorem dL_law_713 : decode cL_law 713 = .ok (.iconst 0, 1) := by decide +kernel
theorem dL_law_714 : decode cL_law 714 = .ok (.ireturn, 1) := by decide +kernel
theorem dL_law_715 : decode cL_law 715 = .ok (.goto 1417, 3) := by decide +kernel
theorem dL_law_718 : decode cL_law 718 = .ok (.aload_n 1, 1) := by decide +kernel
theorem dL_law_719 : decode cL_law 719 = .ok (.invokevirtual 139, 3) := by decide +kernel
theorem dL_law_722 : decode cL_law 722 = .ok (.aload_n 2, 1) := by decide +kernel
theorem dL_law_723 : decode cL_law 723 = .ok (.invokevirtual 142, 3) := by decide +kernel
theorem dL_law_726 : decode cL_law 726 = .ok (.if_icmp .eq 1406, 3) := by decide +kernel
theorem dL_law_729 : decode cL_law 729 = .ok (.iconst 0, 1) := by decide +kernel
theorem dL_law_730 : decode cL_law 730 = .ok (.ireturn, 1) := by decide +kernel
theorem dL_law_731 : decode cL_law 731 = .ok (.aload_n 1, 1) := by decide +kernel
theorem dL_law_732 : decode cL_law 732 = .ok (.invokevirtual 143, 3) := by decide +kernel
theorem dL_law_735 : decode cL_law 735 = .ok (.aload_n 2, 1) := by decide +kernel
theorem dL_law_736 : decode cL_law 736 = .ok (.invokevirtual 146, 3) := by decide +kernel
theorem dL_law_739 : decode cL_law 739 = .ok (.if_icmp .eq 1393, 3) := by decide +kernel
theorem dL_law_742 : decode cL_law 742 = .ok (.iconst 0, 1) := by decide +kernel
theorem dL_law_743 : decode cL_law 743 = .ok (.ireturn, 1) := by decide +kernel
theorem dL_law_744 : decode cL_law 744 = .ok (.aload_n 1, 1) := by decide +kernel
theorem dL_law_745 : decode cL_law 745 = .ok (.invokevirtual 147, 3) := by decide +kernel
theorem dL_law_748 : decode cL_law 748 = .ok (.aload_n 2, 1) := by decide +kernel
theorem dL_law_749 : decode cL_law 749 = .ok (.invokevirtual 150, 3) := by decide +kernel
theorem dL_law_752 : decode cL_law 752 = .ok (.if_icmp .eq 1380, 3) := by decide +kernel
theorem dL_law_755 : decode cL_law 755 = .ok (.iconst 0, 1) := by decide +kernel
theorem dL_law_756 : decode cL_law 756 = .ok (.ireturn, 1) := by decide +kernel
theorem dL_law_757 : decode cL_law 757 = .ok (.aload_n 1, 1) := by decide +kernel
theorem dL_law_758 : decode cL_law 758 = .ok (.aload_n 0, 1) := by decide +kernel
theorem dL_law_759 : decode cL_law 759 = .ok (.iload 4, 2) := by decide +kernel
theorem dL_law_761 : decode cL_law 761 = .ok (.iconst 1, 1) := by decide +kernel
theorem dL_law_762 : decode cL_law 762 = .ok (.iadd, 1) := by decide +kernel
theorem dL_law_763 : decode cL_law 763 = .ok (.iaload, 1) := by decide +kernel
theorem dL_law_764 : decode cL_law 764 = .ok (.aload_n 0, 1) := by decide +kernel
theorem dL_law_765 : decode cL_law 765 = .ok (.iload 4, 2) := by decide +kernel
theorem dL_law_767 : decode cL_law 767 = .ok (.iconst 2, 1) := by decide +kernel
theorem dL_law_768 : decode cL_law 768 = .ok (.iadd, 1) := by decide +kernel
theorem dL_law_769 : decode cL_law 769 = .ok (.iaload, 1) := by decide +kernel
theorem dL_law_770 : decode cL_law 770 = .ok (.aload_n 3, 1) := by decide +kernel
theorem dL_law_771 : decode cL_law 771 = .ok (.invokestatic 151, 3) := by decide +kernel
theorem dL_law_774 : decode cL_law 774 = .ok (.istore 5, 2) := by decide +kernel
theorem dL_law_776 : decode cL_law 776 = .ok (.aload_n 2, 1) := by decide +kernel
theorem dL_law_777 : decode cL_law 777 = .ok (.aload_n 0, 1) := by decide +kernel
theorem dL_law_778 : decode cL_law 778 = .ok (.iload 4, 2) := by decide +kernel
theorem dL_law_780 : decode cL_law 780 = .ok (.iconst 1, 1) := by decide +kernel
theorem dL_law_781 : decode cL_law 781 = .ok (.iadd, 1) := by decide +kernel
theorem dL_law_782 : decode cL_law 782 = .ok (.iaload, 1) := by decide +kernel
theorem dL_law_783 : decode cL_law 783 = .ok (.aload_n 0, 1) := by decide +kernel
theorem dL_law_784 : decode cL_law 784 = .ok (.iload 4, 2) := by decide +kernel
theorem dL_law_786 : decode cL_law 786 = .ok (.iconst 2, 1) := by decide +kernel
theorem dL_law_787 : decode cL_law 787 = .ok (.iadd, 1) := by decide +kernel
theorem dL_law_788 : decode cL_law 788 = .ok (.iaload, 1) := by decide +kernel
theorem dL_law_789 : decode cL_law 789 = .ok (.invokevirtual 153, 3) := by decide +kernel
theorem dL_law_792 : decode cL_law 792 = .ok (.istore 6, 2) := by decide +kernel
theorem dL_law_794 : decode cL_law 794 = .ok (.aload_n 2, 1) := by decide +kernel
theorem dL_law_795 : decode cL_law 795 = .ok (.invokevirtual 109, 3) := by decide +kernel
theorem dL_law_798 : decode cL_law 798 = .ok (.iload 5, 2) := by decide +kernel
theorem dL_law_800 : decode cL_law 800 = .ok (.if_icmp .eq 5, 3) := by decide +kernel
theorem dL_law_803 : decode cL_law 803 = .ok (.iconst 0, 1) := by decide +kernel
theorem dL_law_804 : decode cL_law 804 = .ok (.ireturn, 1) := by decide +kernel
theorem dL_law_805 : decode cL_law 805 = .ok (.iload 5, 2) := by decide +kernel
theorem dL_law_807 : decode cL_law 807 = .ok (.ifCond .ne 15, 3) := by decide +kernel
theorem dL_law_810 : decode cL_law 810 = .ok (.aload_n 3, 1) := by decide +kernel
theorem dL_law_811 : decode cL_law 811 = .ok (.iconst 0, 1) := by decide +kernel
theorem dL_law_812 : decode cL_law 812 = .ok (.laload, 1) := by decide +kernel
theorem dL_law_813 : decode cL_law 813 = .ok (.iload 6, 2) := by decide +kernel
theorem dL_law_815 : decode cL_law 815 = .ok (.i2l, 1) := by decide +kernel
theorem dL_law_816 : decode cL_law 816 = .ok (.lcmp, 1) := by decide +kernel
theorem dL_law_817 : decode cL_law 817 = .ok (.ifCond .eq 5, 3) := by decide +kernel
theorem dL_law_820 : decode cL_law 820 = .ok (.iconst 0, 1) := by decide +kernel
theorem dL_law_821 : decode cL_law 821 = .ok (.ireturn, 1) := by decide +kernel
theorem dL_law_822 : decode cL_law 822 = .ok (.goto 1310, 3) := by decide +kernel
theorem dL_law_825 : decode cL_law 825 = .ok (.aload_n 1, 1) := by decide +kernel
theorem dL_law_826 : decode cL_law 826 = .ok (.aload_n 0, 1) := by decide +kernel
theorem dL_law_827 : decode cL_law 827 = .ok (.iload 4, 2) := by decide +kernel
theorem dL_law_829 : decode cL_law 829 = .ok (.iconst 1, 1) := by decide +kernel
theorem dL_law_830 : decode cL_law 830 = .ok (.iadd, 1) := by decide +kernel
theorem dL_law_831 : decode cL_law 831 = .ok (.iaload, 1) := by decide +kernel
theorem dL_law_832 : decode cL_law 832 = .ok (.aload_n 3, 1) := by decide +kernel
theorem dL_law_833 : decode cL_law 833 = .ok (.invokestatic 154, 3) := by decide +kernel
theorem dL_law_836 : decode cL_law 836 = .ok (.istore 5, 2) := by decide +kernel
theorem dL_law_838 : decode cL_law 838 = .ok (.aload_n 2, 1) := by decide +kernel
theorem dL_law_839 : decode cL_law 839 = .ok (.aload_n 0, 1) := by decide +kernel
theorem dL_law_840 : decode cL_law 840 = .ok (.iload 4, 2) := by decide +kernel
theorem dL_law_842 : decode cL_law 842 = .ok (.iconst 1, 1) := by decide +kernel
theorem dL_law_843 : decode cL_law 843 = .ok (.iadd, 1) := by decide +kernel
theorem dL_law_844 : decode cL_law 844 = .ok (.iaload, 1) := by decide +kernel
theorem dL_law_845 : decode cL_law 845 = .ok (.invokevirtual 156, 3) := by decide +kernel
theorem dL_law_848 : decode cL_law 848 = .ok (.istore 6, 2) := by decide +kernel
theorem dL_law_850 : decode cL_law 850 = .ok (.aload_n 2, 1) := by decide +kernel
theorem dL_law_851 : decode cL_law 851 = .ok (.invokevirtual 109, 3) := by decide +kernel
theorem dL_law_854 : decode cL_law 854 = .ok (.iload 5, 2) := by decide +kernel
theorem dL_law_856 : decode cL_law 856 = .ok (.if_icmp .eq 5, 3) := by decide +kernel
theorem dL_law_859 : decode cL_law 859 = .ok (.iconst 0, 1) := by decide +kernel
theorem dL_law_860 : decode cL_law 860 = .ok (.ireturn, 1) := by decide +kernel
theorem dL_law_861 : decode cL_law 861 = .ok (.iload 5, 2) := by decide +kernel
theorem dL_law_863 : decode cL_law 863 = .ok (.ifCond .ne 15, 3) := by decide +kernel
theorem dL_law_866 : decode cL_law 866 = .ok (.aload_n 3, 1) := by decide +kernel
theorem dL_law_867 : decode cL_law 867 = .ok (.iconst 0, 1) := by decide +kernel
theorem dL_law_868 : decode cL_law 868 = .ok (.laload, 1) := by decide +kernel
theorem dL_law_869 : decode cL_law 869 = .ok (.iload 6, 2) := by decide +kernel
theorem dL_law_871 : decode cL_law 871 = .ok (.i2l, 1) := by decide +kernel
theorem dL_law_872 : decode cL_law 872 = .ok (.lcmp, 1) := by decide +kernel
theorem dL_law_873 : decode cL_law 873 = .ok (.ifCond .eq 5, 3) := by decide +kernel
theorem dL_law_876 : decode cL_law 876 = .ok (.iconst 0, 1) := by decide +kernel
theorem dL_law_877 : decode cL_law 877 = .ok (.ireturn, 1) := by decide +kernel
theorem dL_law_878 : decode cL_law 878 = .ok (.goto 1254, 3) := by decide +kernel
theorem dL_law_881 : decode cL_law 881 = .ok (.aload_n 1, 1) := by decide +kernel
theorem dL_law_882 : decode cL_law 882 = .ok (.aload_n 0, 1) := by decide +kernel
theorem dL_law_883 : decode cL_law 883 = .ok (.iload 4, 2) := by decide +kernel
theorem dL_law_885 : decode cL_law 885 = .ok (.iconst 1, 1) := by decide +kernel
theorem dL_law_886 : decode cL_law 886 = .ok (.iadd, 1) := by decide +kernel
theorem dL_law_887 : decode cL_law 887 = .ok (.iaload, 1) := by decide +kernel
theorem dL_law_888 : decode cL_law 888 = .ok (.aload_n 0, 1) := by decide +kernel
theorem dL_law_889 : decode cL_law 889 = .ok (.iload 4, 2) := by decide +kernel
theorem dL_law_891 : decode cL_law 891 = .ok (.iconst 2, 1) := by decide +kernel
theorem dL_law_892 : decode cL_law 892 = .ok (.iadd, 1) := by decide +kernel
theorem dL_law_893 : decode cL_law 893 = .ok (.iaload, 1) := by decide +kernel
theorem dL_law_894 : decode cL_law 894 = .ok (.i2l, 1) := by decide +kernel
theorem dL_law_895 : decode cL_law 895 = .ok (.bipush 32, 2) := by decide +kernel
theorem dL_law_897 : decode cL_law 897 = .ok (.lshl, 1) := by decide +kernel
theorem dL_law_898 : decode cL_law 898 = .ok (.aload_n 0, 1) := by decide +kernel
theorem dL_law_899 : decode cL_law 899 = .ok (.iload 4, 2) := by decide +kernel
theorem dL_law_901 : decode cL_law 901 = .ok (.iconst 3, 1) := by decide +kernel
theorem dL_law_902 : decode cL_law 902 = .ok (.iadd, 1) := by decide +kernel
theorem dL_law_903 : decode cL_law 903 = .ok (.iaload, 1) := by decide +kernel
theorem dL_law_904 : decode cL_law 904 = .ok (.i2l, 1) := by decide +kernel
theorem dL_law_905 : decode cL_law 905 = .ok (.ldc2_w 157, 3) := by decide +kernel
theorem dL_law_908 : decode cL_law 908 = .ok (.land, 1) := by decide +kernel
theorem dL_law_909 : decode cL_law 909 = .ok (.lor, 1) := by decide +kernel
theorem dL_law_910 : decode cL_law 910 = .ok (.aload_n 3, 1) := by decide +kernel
theorem dL_law_911 : decode cL_law 911 = .ok (.invokestatic 159, 3) := by decide +kernel
theorem dL_law_914 : decode cL_law 914 = .ok (.istore 5, 2) := by decide +kernel
theorem dL_law_916 : decode cL_law 916 = .ok (.aload_n 2, 1) := by decide +kernel
theorem dL_law_917 : decode cL_law 917 = .ok (.aload_n 0, 1) := by decide +kernel
theorem dL_law_918 : decode cL_law 918 = .ok (.iload 4, 2) := by decide +kernel
theorem dL_law_920 : decode cL_law 920 = .ok (.iconst 1, 1) := by decide +kernel
theorem dL_law_921 : decode cL_law 921 = .ok (.iadd, 1) := by decide +kernel
theorem dL_law_922 : decode cL_law 922 = .ok (.iaload, 1) := by decide +kernel
theorem dL_law_923 : decode cL_law 923 = .ok (.aload_n 0, 1) := by decide +kernel
theorem dL_law_924 : decode cL_law 924 = .ok (.iload 4, 2) := by decide +kernel
theorem dL_law_926 : decode cL_law 926 = .ok (.iconst 2, 1) := by decide +kernel
theorem dL_law_927 : decode cL_law 927 = .ok (.iadd, 1) := by decide +kernel
theorem dL_law_928 : decode cL_law 928 = .ok (.iaload, 1) := by decide +kernel
theorem dL_law_929 : decode cL_law 929 = .ok (.i2l, 1) := by decide +kernel
theorem dL_law_930 : decode cL_law 930 = .ok (.bipush 32, 2) := by decide +kernel
theorem dL_law_932 : decode cL_law 932 = .ok (.lshl, 1) := by decide +kernel
theorem dL_law_933 : decode cL_law 933 = .ok (.aload_n 0, 1) := by decide +kernel
theorem dL_law_934 : decode cL_law 934 = .ok (.iload 4, 2) := by decide +kernel
theorem dL_law_936 : decode cL_law 936 = .ok (.iconst 3, 1) := by decide +kernel
theorem dL_law_937 : decode cL_law 937 = .ok (.iadd, 1) := by decide +kernel
theorem dL_law_938 : decode cL_law 938 = .ok (.iaload, 1) := by decide +kernel
theorem dL_law_939 : decode cL_law 939 = .ok (.i2l, 1) := by decide +kernel
theorem dL_law_940 : decode cL_law 940 = .ok (.ldc2_w 157, 3) := by decide +kernel
theorem dL_law_943 : decode cL_law 943 = .ok (.land, 1) := by decide +kernel
theorem dL_law_944 : decode cL_law 944 = .ok (.lor, 1) := by decide +kernel
theorem dL_law_945 : decode cL_law 945 = .ok (.invokevirtual 162, 3) := by decide +kernel
theorem dL_law_948 : decode cL_law 948 = .ok (.istore 6, 2) := by decide +kernel
theorem dL_law_950 : decode cL_law 950 = .ok (.aload_n 2, 1) := by decide +kernel
theorem dL_law_951 : decode cL_law 951 = .ok (.invokevirtual 109, 3) := by decide +kernel
theorem dL_law_954 : decode cL_law 954 = .ok (.iload 5, 2) := by decide +kernel
theorem dL_law_956 : decode cL_law 956 = .ok (.if_icmp .eq 5, 3) := by decide +kernel
theorem dL_law_959 : decode cL_law 959 = .ok (.iconst 0, 1) := by decide +kernel
theorem dL_law_960 : decode cL_law 960 = .ok (.ireturn, 1) := by decide +kernel
theorem dL_law_961 : decode cL_law 961 = .ok (.iload 5, 2) := by decide +kernel
theorem dL_law_963 : decode cL_law 963 = .ok (.ifCond .ne 15, 3) := by decide +kernel
theorem dL_law_966 : decode cL_law 966 = .ok (.aload_n 3, 1) := by decide +kernel
theorem dL_law_967 : decode cL_law 967 = .ok (.iconst 0, 1) := by decide +kernel
theorem dL_law_968 : decode cL_law 968 = .ok (.laload, 1) := by decide +kernel
theorem dL_law_969 : decode cL_law 969 = .ok (.iload 6, 2) := by decide +kernel
theorem dL_law_971 : decode cL_law 971 = .ok (.i2l, 1) := by decide +kernel
theorem dL_law_972 : decode cL_law 972 = .ok (.lcmp, 1) := by decide +kernel
theorem dL_law_973 : decode cL_law 973 = .ok (.ifCond .eq 5, 3) := by decide +kernel
theorem dL_law_976 : decode cL_law 976 = .ok (.iconst 0, 1) := by decide +kernel
theorem dL_law_977 : decode cL_law 977 = .ok (.ireturn, 1) := by decide +kernel
theorem dL_law_978 : decode cL_law 978 = .ok (.goto 1154, 3) := by decide +kernel
theorem dL_law_981 : decode cL_law 981 = .ok (.aload_n 1, 1) := by decide +kernel
theorem dL_law_982 : decode cL_law 982 = .ok (.invokevirtual 163, 3) := by decide +kernel
theorem dL_law_985 : decode cL_law 985 = .ok (.aload_n 2, 1) := by decide +kernel
theorem dL_law_986 : decode cL_law 986 = .ok (.invokevirtual 166, 3) := by decide +kernel
theorem dL_law_989 : decode cL_law 989 = .ok (.if_icmp .eq 1143, 3) := by decide +kernel
theorem dL_law_992 : decode cL_law 992 = .ok (.iconst 0, 1) := by decide +kernel
theorem dL_law_993 : decode cL_law 993 = .ok (.ireturn, 1) := by decide +kernel
theorem dL_law_994 : decode cL_law 994 = .ok (.aload_n 1, 1) := by decide +kernel
theorem dL_law_995 : decode cL_law 995 = .ok (.invokevirtual 167, 3) := by decide +kernel
theorem dL_law_998 : decode cL_law 998 = .ok (.aload_n 2, 1) := by decide +kernel
theorem dL_law_999 : decode cL_law 999 = .ok (.invokevirtual 170, 3) := by decide +kernel
theorem dL_law_1002 : decode cL_law 1002 = .ok (.if_icmp .eq 1130, 3) := by decide +kernel
theorem dL_law_1005 : decode cL_law 1005 = .ok (.iconst 0, 1) := by decide +kernel
theorem dL_law_1006 : decode cL_law 1006 = .ok (.ireturn, 1) := by decide +kernel
theorem dL_law_1007 : decode cL_law 1007 = .ok (.aload_n 1, 1) := by decide +kernel
theorem dL_law_1008 : decode cL_law 1008 = .ok (.aload_n 0, 1) := by decide +kernel
theorem dL_law_1009 : decode cL_law 1009 = .ok (.iload 4, 2) := by decide +kernel
theorem dL_law_1011 : decode cL_law 1011 = .ok (.iconst 1, 1) := by decide +kernel
theorem dL_law_1012 : decode cL_law 1012 = .ok (.iadd, 1) := by decide +kernel
theorem dL_law_1013 : decode cL_law 1013 = .ok (.iaload, 1) := by decide +kernel
theorem dL_law_1014 : decode cL_law 1014 = .ok (.aload_n 3, 1) := by decide +kernel
theorem dL_law_1015 : decode cL_law 1015 = .ok (.invokestatic 171, 3) := by decide +kernel
theorem dL_law_1018 : decode cL_law 1018 = .ok (.istore 5, 2) := by decide +kernel
theorem dL_law_1020 : decode cL_law 1020 = .ok (.aload_n 2, 1) := by decide +kernel
theorem dL_law_1021 : decode cL_law 1021 = .ok (.aload_n 0, 1) := by decide +kernel
theorem dL_law_1022 : decode cL_law 1022 = .ok (.iload 4, 2) := by decide +kernel
theorem dL_law_1024 : decode cL_law 1024 = .ok (.iconst 1, 1) := by decide +kernel
theorem dL_law_1025 : decode cL_law 1025 = .ok (.iadd, 1) := by decide +kernel
theorem dL_law_1026 : decode cL_law 1026 = .ok (.iaload, 1) := by decide +kernel
theorem dL_law_1027 : decode cL_law 1027 = .ok (.invokevirtual 173, 3) := by decide +kernel
theorem dL_law_1030 : decode cL_law 1030 = .ok (.istore 6, 2) := by decide +kernel
theorem dL_law_1032 : decode cL_law 1032 = .ok (.aload_n 2, 1) := by decide +kernel
theorem dL_law_1033 : decode cL_law 1033 = .ok (.invokevirtual 109, 3) := by decide +kernel
theorem dL_law_1036 : decode cL_law 1036 = .ok (.iload 5, 2) := by decide +kernel
theorem dL_law_1038 : decode cL_law 1038 = .ok (.if_icmp .eq 5, 3) := by decide +kernel
theorem dL_law_1041 : decode cL_law 1041 = .ok (.iconst 0, 1) := by decide +kernel
theorem dL_law_1042 : decode cL_law 1042 = .ok (.ireturn, 1) := by decide +kernel
theorem dL_law_1043 : decode cL_law 1043 = .ok (.iload 5, 2) := by decide +kernel
theorem dL_law_1045 : decode cL_law 1045 = .ok (.ifCond .ne 15, 3) := by decide +kernel
theorem dL_law_1048 : decode cL_law 1048 = .ok (.aload_n 3, 1) := by decide +kernel
theorem dL_law_1049 : decode cL_law 1049 = .ok (.iconst 0, 1) := by decide +kernel
theorem dL_law_1050 : decode cL_law 1050 = .ok (.laload, 1) := by decide +kernel
theorem dL_law_1051 : decode cL_law 1051 = .ok (.iload 6, 2) := by decide +kernel
theorem dL_law_1053 : decode cL_law 1053 = .ok (.i2l, 1) := by decide +kernel
theorem dL_law_1054 : decode cL_law 1054 = .ok (.lcmp, 1) := by decide +kernel
theorem dL_law_1055 : decode cL_law 1055 = .ok (.ifCond .eq 5, 3) := by decide +kernel
theorem dL_law_1058 : decode cL_law 1058 = .ok (.iconst 0, 1) := by decide +kernel
theorem dL_law_1059 : decode cL_law 1059 = .ok (.ireturn, 1) := by decide +kernel
theorem dL_law_1060 : decode cL_law 1060 = .ok (.goto 1072, 3) := by decide +kernel
theorem dL_law_1063 : decode cL_law 1063 = .ok (.aload_n 1, 1) := by decide +kernel
theorem dL_law_1064 : decode cL_law 1064 = .ok (.invokevirtual 174, 3) := by decide +kernel
theorem dL_law_1067 : decode cL_law 1067 = .ok (.aload_n 2, 1) := by decide +kernel
theorem dL_law_1068 : decode cL_law 1068 = .ok (.invokevirtual 177, 3) := by decide +kernel
theorem dL_law_1071 : decode cL_law 1071 = .ok (.if_icmp .eq 1061, 3) := by decide +kernel
theorem dL_law_1074 : decode cL_law 1074 = .ok (.iconst 0, 1) := by decide +kernel
theorem dL_law_1075 : decode cL_law 1075 = .ok (.ireturn, 1) := by decide +kernel
theorem dL_law_1076 : decode cL_law 1076 = .ok (.aload_n 1, 1) := by decide +kernel
theorem dL_law_1077 : decode cL_law 1077 = .ok (.aload_n 0, 1) := by decide +kernel
theorem dL_law_1078 : decode cL_law 1078 = .ok (.iload 4, 2) := by decide +kernel
theorem dL_law_1080 : decode cL_law 1080 = .ok (.iconst 1, 1) := by decide +kernel
theorem dL_law_1081 : decode cL_law 1081 = .ok (.iadd, 1) := by decide +kernel
theorem dL_law_1082 : decode cL_law 1082 = .ok (.iaload, 1) := by decide +kernel
theorem dL_law_1083 : decode cL_law 1083 = .ok (.aload_n 3, 1) := by decide +kernel
theorem dL_law_1084 : decode cL_law 1084 = .ok (.invokestatic 178, 3) := by decide +kernel
theorem dL_law_1087 : decode cL_law 1087 = .ok (.istore 5, 2) := by decide +kernel
theorem dL_law_1089 : decode cL_law 1089 = .ok (.aload_n 2, 1) := by decide +kernel
theorem dL_law_1090 : decode cL_law 1090 = .ok (.aload_n 0, 1) := by decide +kernel
theorem dL_law_1091 : decode cL_law 1091 = .ok (.iload 4, 2) := by decide +kernel
theorem dL_law_1093 : decode cL_law 1093 = .ok (.iconst 1, 1) := by decide +kernel
theorem dL_law_1094 : decode cL_law 1094 = .ok (.iadd, 1) := by decide +kernel
theorem dL_law_1095 : decode cL_law 1095 = .ok (.iaload, 1) := by decide +kernel
theorem dL_law_1096 : decode cL_law 1096 = .ok (.invokevirtual 180, 3) := by decide +kernel
theorem dL_law_1099 : decode cL_law 1099 = .ok (.istore 6, 2) := by decide +kernel
theorem dL_law_1101 : decode cL_law 1101 = .ok (.aload_n 2, 1) := by decide +kernel
theorem dL_law_1102 : decode cL_law 1102 = .ok (.invokevirtual 109, 3) := by decide +kernel
theorem dL_law_1105 : decode cL_law 1105 = .ok (.iload 5, 2) := by decide +kernel
theorem dL_law_1107 : decode cL_law 1107 = .ok (.if_icmp .eq 5, 3) := by decide +kernel
theorem dL_law_1110 : decode cL_law 1110 = .ok (.iconst 0, 1) := by decide +kernel
theorem dL_law_1111 : decode cL_law 1111 = .ok (.ireturn, 1) := by decide +kernel
theorem dL_law_1112 : decode cL_law 1112 = .ok (.iload 5, 2) := by decide +kernel
theorem dL_law_1114 : decode cL_law 1114 = .ok (.ifCond .ne 15, 3) := by decide +kernel
theorem dL_law_1117 : decode cL_law 1117 = .ok (.aload_n 3, 1) := by decide +kernel
theorem dL_law_1118 : decode cL_law 1118 = .ok (.iconst 0, 1) := by decide +kernel
theorem dL_law_1119 : decode cL_law 1119 = .ok (.laload, 1) := by decide +kernel
theorem dL_law_1120 : decode cL_law 1120 = .ok (.iload 6, 2) := by decide +kernel
theorem dL_law_1122 : decode cL_law 1122 = .ok (.i2l, 1) := by decide +kernel
theorem dL_law_1123 : decode cL_law 1123 = .ok (.lcmp, 1) := by decide +kernel
theorem dL_law_1124 : decode cL_law 1124 = .ok (.ifCond .eq 5, 3) := by decide +kernel
theorem dL_law_1127 : decode cL_law 1127 = .ok (.iconst 0, 1) := by decide +kernel
theorem dL_law_1128 : decode cL_law 1128 = .ok (.ireturn, 1) := by decide +kernel
theorem dL_law_1129 : decode cL_law 1129 = .ok (.goto 1003, 3) := by decide +kernel
theorem dL_law_1132 : decode cL_law 1132 = .ok (.aload_n 1, 1) := by decide +kernel
theorem dL_law_1133 : decode cL_law 1133 = .ok (.aload_n 0, 1) := by decide +kernel
theorem dL_law_1134 : decode cL_law 1134 = .ok (.iload 4, 2) := by decide +kernel
theorem dL_law_1136 : decode cL_law 1136 = .ok (.iconst 1, 1) := by decide +kernel
theorem dL_law_1137 : decode cL_law 1137 = .ok (.iadd, 1) := by decide +kernel
theorem dL_law_1138 : decode cL_law 1138 = .ok (.iaload, 1) := by decide +kernel
theorem dL_law_1139 : decode cL_law 1139 = .ok (.aload_n 0, 1) := by decide +kernel
theorem dL_law_1140 : decode cL_law 1140 = .ok (.iload 4, 2) := by decide +kernel
theorem dL_law_1142 : decode cL_law 1142 = .ok (.iconst 2, 1) := by decide +kernel
theorem dL_law_1143 : decode cL_law 1143 = .ok (.iadd, 1) := by decide +kernel
theorem dL_law_1144 : decode cL_law 1144 = .ok (.iaload, 1) := by decide +kernel
theorem dL_law_1145 : decode cL_law 1145 = .ok (.aload_n 3, 1) := by decide +kernel
theorem dL_law_1146 : decode cL_law 1146 = .ok (.invokestatic 181, 3) := by decide +kernel
theorem dL_law_1149 : decode cL_law 1149 = .ok (.istore 5, 2) := by decide +kernel
theorem dL_law_1151 : decode cL_law 1151 = .ok (.aload_n 2, 1) := by decide +kernel
theorem dL_law_1152 : decode cL_law 1152 = .ok (.aload_n 0, 1) := by decide +kernel
theorem dL_law_1153 : decode cL_law 1153 = .ok (.iload 4, 2) := by decide +kernel
theorem dL_law_1155 : decode cL_law 1155 = .ok (.iconst 1, 1) := by decide +kernel
theorem dL_law_1156 : decode cL_law 1156 = .ok (.iadd, 1) := by decide +kernel
theorem dL_law_1157 : decode cL_law 1157 = .ok (.iaload, 1) := by decide +kernel
theorem dL_law_1158 : decode cL_law 1158 = .ok (.aload_n 0, 1) := by decide +kernel
theorem dL_law_1159 : decode cL_law 1159 = .ok (.iload 4, 2) := by decide +kernel
theorem dL_law_1161 : decode cL_law 1161 = .ok (.iconst 2, 1) := by decide +kernel
theorem dL_law_1162 : decode cL_law 1162 = .ok (.iadd, 1) := by decide +kernel
theorem dL_law_1163 : decode cL_law 1163 = .ok (.iaload, 1) := by decide +kernel
theorem dL_law_1164 : decode cL_law 1164 = .ok (.invokevirtual 183, 3) := by decide +kernel
theorem dL_law_1167 : decode cL_law 1167 = .ok (.istore 6, 2) := by decide +kernel
theorem dL_law_1169 : decode cL_law 1169 = .ok (.aload_n 2, 1) := by decide +kernel
theorem dL_law_1170 : decode cL_law 1170 = .ok (.invokevirtual 109, 3) := by decide +kernel
theorem dL_law_1173 : decode cL_law 1173 = .ok (.iload 5, 2) := by decide +kernel
theorem dL_law_1175 : decode cL_law 1175 = .ok (.if_icmp .eq 5, 3) := by decide +kernel
theorem dL_law_1178 : decode cL_law 1178 = .ok (.iconst 0, 1) := by decide +kernel
theorem dL_law_1179 : decode cL_law 1179 = .ok (.ireturn, 1) := by decide +kernel
theorem dL_law_1180 : decode cL_law 1180 = .ok (.iload 5, 2) := by decide +kernel
theorem dL_law_1182 : decode cL_law 1182 = .ok (.ifCond .ne 15, 3) := by decide +kernel
theorem dL_law_1185 : decode cL_law 1185 = .ok (.aload_n 3, 1) := by decide +kernel
theorem dL_law_1186 : decode cL_law 1186 = .ok (.iconst 0, 1) := by decide +kernel
theorem dL_law_1187 : decode cL_law 1187 = .ok (.laload, 1) := by decide +kernel
theorem dL_law_1188 : decode cL_law 1188 = .ok (.iload 6, 2) := by decide +kernel
theorem dL_law_1190 : decode cL_law 1190 = .ok (.i2l, 1) := by decide +kernel
theorem dL_law_1191 : decode cL_law 1191 = .ok (.lcmp, 1) := by decide +kernel
theorem dL_law_1192 : decode cL_law 1192 = .ok (.ifCond .eq 5, 3) := by decide +kernel
theorem dL_law_1195 : decode cL_law 1195 = .ok (.iconst 0, 1) := by decide +kernel
theorem dL_law_1196 : decode cL_law 1196 = .ok (.ireturn, 1) := by decide +kernel
theorem dL_law_1197 : decode cL_law 1197 = .ok (.goto 935, 3) := by decide +kernel
theorem dL_law_1200 : decode cL_law 1200 = .ok (.aload_n 1, 1) := by decide +kernel
theorem dL_law_1201 : decode cL_law 1201 = .ok (.aload_n 0, 1) := by decide +kernel
theorem dL_law_1202 : decode cL_law 1202 = .ok (.iload 4, 2) := by decide +kernel
theorem dL_law_1204 : decode cL_law 1204 = .ok (.iconst 1, 1) := by decide +kernel
theorem dL_law_1205 : decode cL_law 1205 = .ok (.iadd, 1) := by decide +kernel
theorem dL_law_1206 : decode cL_law 1206 = .ok (.iaload, 1) := by decide +kernel
theorem dL_law_1207 : decode cL_law 1207 = .ok (.aload_n 0, 1) := by decide +kernel
theorem dL_law_1208 : decode cL_law 1208 = .ok (.iload 4, 2) := by decide +kernel
theorem dL_law_1210 : decode cL_law 1210 = .ok (.iconst 2, 1) := by decide +kernel
theorem dL_law_1211 : decode cL_law 1211 = .ok (.iadd, 1) := by decide +kernel
theorem dL_law_1212 : decode cL_law 1212 = .ok (.iaload, 1) := by decide +kernel
theorem dL_law_1213 : decode cL_law 1213 = .ok (.aload_n 0, 1) := by decide +kernel
theorem dL_law_1214 : decode cL_law 1214 = .ok (.iload 4, 2) := by decide +kernel
theorem dL_law_1216 : decode cL_law 1216 = .ok (.iconst 3, 1) := by decide +kernel
theorem dL_law_1217 : decode cL_law 1217 = .ok (.iadd, 1) := by decide +kernel
theorem dL_law_1218 : decode cL_law 1218 = .ok (.iaload, 1) := by decide +kernel
theorem dL_law_1219 : decode cL_law 1219 = .ok (.aload_n 3, 1) := by decide +kernel
theorem dL_law_1220 : decode cL_law 1220 = .ok (.invokestatic 184, 3) := by decide +kernel
theorem dL_law_1223 : decode cL_law 1223 = .ok (.istore 5, 2) := by decide +kernel
theorem dL_law_1225 : decode cL_law 1225 = .ok (.aload_n 2, 1) := by decide +kernel
theorem dL_law_1226 : decode cL_law 1226 = .ok (.aload_n 0, 1) := by decide +kernel
theorem dL_law_1227 : decode cL_law 1227 = .ok (.iload 4, 2) := by decide +kernel
theorem dL_law_1229 : decode cL_law 1229 = .ok (.iconst 1, 1) := by decide +kernel
theorem dL_law_1230 : decode cL_law 1230 = .ok (.iadd, 1) := by decide +kernel
theorem dL_law_1231 : decode cL_law 1231 = .ok (.iaload, 1) := by decide +kernel
theorem dL_law_1232 : decode cL_law 1232 = .ok (.aload_n 0, 1) := by decide +kernel
theorem dL_law_1233 : decode cL_law 1233 = .ok (.iload 4, 2) := by decide +kernel
theorem dL_law_1235 : decode cL_law 1235 = .ok (.iconst 2, 1) := by decide +kernel
theorem dL_law_1236 : decode cL_law 1236 = .ok (.iadd, 1) := by decide +kernel
theorem dL_law_1237 : decode cL_law 1237 = .ok (.iaload, 1) := by decide +kernel
theorem dL_law_1238 : decode cL_law 1238 = .ok (.aload_n 0, 1) := by decide +kernel
theorem dL_law_1239 : decode cL_law 1239 = .ok (.iload 4, 2) := by decide +kernel
theorem dL_law_1241 : decode cL_law 1241 = .ok (.iconst 3, 1) := by decide +kernel
theorem dL_law_1242 : decode cL_law 1242 = .ok (.iadd, 1) := by decide +kernel
theorem dL_law_1243 : decode cL_law 1243 = .ok (.iaload, 1) := by decide +kernel
theorem dL_law_1244 : decode cL_law 1244 = .ok (.invokevirtual 186, 3) := by decide +kernel
theorem dL_law_1247 : decode cL_law 1247 = .ok (.istore 6, 2) := by decide +kernel
theorem dL_law_1249 : decode cL_law 1249 = .ok (.aload_n 2, 1) := by decide +kernel
theorem dL_law_1250 : decode cL_law 1250 = .ok (.invokevirtual 109, 3) := by decide +kernel
theorem dL_law_1253 : decode cL_law 1253 = .ok (.iload 5, 2) := by decide +kernel
theorem dL_law_1255 : decode cL_law 1255 = .ok (.if_icmp .eq 5, 3) := by decide +kernel
theorem dL_law_1258 : decode cL_law 1258 = .ok (.iconst 0, 1) := by decide +kernel
theorem dL_law_1259 : decode cL_law 1259 = .ok (.ireturn, 1) := by decide +kernel
theorem dL_law_1260 : decode cL_law 1260 = .ok (.iload 5, 2) := by decide +kernel
theorem dL_law_1262 : decode cL_law 1262 = .ok (.ifCond .ne 15, 3) := by decide +kernel
theorem dL_law_1265 : decode cL_law 1265 = .ok (.aload_n 3, 1) := by decide +kernel
theorem dL_law_1266 : decode cL_law 1266 = .ok (.iconst 0, 1) := by decide +kernel
theorem dL_law_1267 : decode cL_law 1267 = .ok (.laload, 1) := by decide +kernel
theorem dL_law_1268 : decode cL_law 1268 = .ok (.iload 6, 2) := by decide +kernel
theorem dL_law_1270 : decode cL_law 1270 = .ok (.i2l, 1) := by decide +kernel
theorem dL_law_1271 : decode cL_law 1271 = .ok (.lcmp, 1) := by decide +kernel
theorem dL_law_1272 : decode cL_law 1272 = .ok (.ifCond .eq 5, 3) := by decide +kernel
theorem dL_law_1275 : decode cL_law 1275 = .ok (.iconst 0, 1) := by decide +kernel
theorem dL_law_1276 : decode cL_law 1276 = .ok (.ireturn, 1) := by decide +kernel
theorem dL_law_1277 : decode cL_law 1277 = .ok (.goto 855, 3) := by decide +kernel
theorem dL_law_1280 : decode cL_law 1280 = .ok (.aload_n 1, 1) := by decide +kernel
theorem dL_law_1281 : decode cL_law 1281 = .ok (.aload_n 0, 1) := by decide +kernel
theorem dL_law_1282 : decode cL_law 1282 = .ok (.iload 4, 2) := by decide +kernel
theorem dL_law_1284 : decode cL_law 1284 = .ok (.iconst 1, 1) := by decide +kernel
theorem dL_law_1285 : decode cL_law 1285 = .ok (.iadd, 1) := by decide +kernel
theorem dL_law_1286 : decode cL_law 1286 = .ok (.iaload, 1) := by decide +kernel
theorem dL_law_1287 : decode cL_law 1287 = .ok (.aload_n 0, 1) := by decide +kernel
theorem dL_law_1288 : decode cL_law 1288 = .ok (.iload 4, 2) := by decide +kernel
theorem dL_law_1290 : decode cL_law 1290 = .ok (.iconst 2, 1) := by decide +kernel
theorem dL_law_1291 : decode cL_law 1291 = .ok (.iadd, 1) := by decide +kernel
theorem dL_law_1292 : decode cL_law 1292 = .ok (.iaload, 1) := by decide +kernel
theorem dL_law_1293 : decode cL_law 1293 = .ok (.aload_n 3, 1) := by decide +kernel
theorem dL_law_1294 : decode cL_law 1294 = .ok (.invokestatic 187, 3) := by decide +kernel
theorem dL_law_1297 : decode cL_law 1297 = .ok (.istore 5, 2) := by decide +kernel
theorem dL_law_1299 : decode cL_law 1299 = .ok (.aload_n 2, 1) := by decide +kernel
theorem dL_law_1300 : decode cL_law 1300 = .ok (.aload_n 0, 1) := by decide +kernel
theorem dL_law_1301 : decode cL_law 1301 = .ok (.iload 4, 2) := by decide +kernel
theorem dL_law_1303 : decode cL_law 1303 = .ok (.iconst 1, 1) := by decide +kernel
theorem dL_law_1304 : decode cL_law 1304 = .ok (.iadd, 1) := by decide +kernel
theorem dL_law_1305 : decode cL_law 1305 = .ok (.iaload, 1) := by decide +kernel
theorem dL_law_1306 : decode cL_law 1306 = .ok (.aload_n 0, 1) := by decide +kernel
theorem dL_law_1307 : decode cL_law 1307 = .ok (.iload 4, 2) := by decide +kernel
theorem dL_law_1309 : decode cL_law 1309 = .ok (.iconst 2, 1) := by decide +kernel
theorem dL_law_1310 : decode cL_law 1310 = .ok (.iadd, 1) := by decide +kernel
theorem dL_law_1311 : decode cL_law 1311 = .ok (.iaload, 1) := by decide +kernel
theorem dL_law_1312 : decode cL_law 1312 = .ok (.invokevirtual 189, 3) := by decide +kernel
theorem dL_law_1315 : decode cL_law 1315 = .ok (.istore 6, 2) := by decide +kernel
theorem dL_law_1317 : decode cL_law 1317 = .ok (.aload_n 2, 1) := by decide +kernel
theorem dL_law_1318 : decode cL_law 1318 = .ok (.invokevirtual 109, 3) := by decide +kernel
theorem dL_law_1321 : decode cL_law 1321 = .ok (.iload 5, 2) := by decide +kernel
theorem dL_law_1323 : decode cL_law 1323 = .ok (.if_icmp .eq 5, 3) := by decide +kernel
theorem dL_law_1326 : decode cL_law 1326 = .ok (.iconst 0, 1) := by decide +kernel
theorem dL_law_1327 : decode cL_law 1327 = .ok (.ireturn, 1) := by decide +kernel
theorem dL_law_1328 : decode cL_law 1328 = .ok (.iload 5, 2) := by decide +kernel
theorem dL_law_1330 : decode cL_law 1330 = .ok (.ifCond .ne 15, 3) := by decide +kernel
theorem dL_law_1333 : decode cL_law 1333 = .ok (.aload_n 3, 1) := by decide +kernel
theorem dL_law_1334 : decode cL_law 1334 = .ok (.iconst 0, 1) := by decide +kernel
theorem dL_law_1335 : decode cL_law 1335 = .ok (.laload, 1) := by decide +kernel
theorem dL_law_1336 : decode cL_law 1336 = .ok (.iload 6, 2) := by decide +kernel
theorem dL_law_1338 : decode cL_law 1338 = .ok (.i2l, 1) := by decide +kernel
theorem dL_law_1339 : decode cL_law 1339 = .ok (.lcmp, 1) := by decide +kernel
theorem dL_law_1340 : decode cL_law 1340 = .ok (.ifCond .eq 5, 3) := by decide +kernel
theorem dL_law_1343 : decode cL_law 1343 = .ok (.iconst 0, 1) := by decide +kernel
theorem dL_law_1344 : decode cL_law 1344 = .ok (.ireturn, 1) := by decide +kernel
theorem dL_law_1345 : decode cL_law 1345 = .ok (.goto 787, 3) := by decide +kernel
theorem dL_law_1348 : decode cL_law 1348 = .ok (.aload_n 1, 1) := by decide +kernel
theorem dL_law_1349 : decode cL_law 1349 = .ok (.aload_n 0, 1) := by decide +kernel
theorem dL_law_1350 : decode cL_law 1350 = .ok (.iload 4, 2) := by decide +kernel
theorem dL_law_1352 : decode cL_law 1352 = .ok (.iconst 1, 1) := by decide +kernel
theorem dL_law_1353 : decode cL_law 1353 = .ok (.iadd, 1) := by decide +kernel
theorem dL_law_1354 : decode cL_law 1354 = .ok (.iaload, 1) := by decide +kernel
theorem dL_law_1355 : decode cL_law 1355 = .ok (.aload_n 3, 1) := by decide +kernel
theorem dL_law_1356 : decode cL_law 1356 = .ok (.invokestatic 190, 3) := by decide +kernel
theorem dL_law_1359 : decode cL_law 1359 = .ok (.istore 5, 2) := by decide +kernel
theorem dL_law_1361 : decode cL_law 1361 = .ok (.aload_n 2, 1) := by decide +kernel
theorem dL_law_1362 : decode cL_law 1362 = .ok (.aload_n 0, 1) := by decide +kernel
theorem dL_law_1363 : decode cL_law 1363 = .ok (.iload 4, 2) := by decide +kernel
theorem dL_law_1365 : decode cL_law 1365 = .ok (.iconst 1, 1) := by decide +kernel
theorem dL_law_1366 : decode cL_law 1366 = .ok (.iadd, 1) := by decide +kernel
theorem dL_law_1367 : decode cL_law 1367 = .ok (.iaload, 1) := by decide +kernel
theorem dL_law_1368 : decode cL_law 1368 = .ok (.invokevirtual 192, 3) := by decide +kernel
theorem dL_law_1371 : decode cL_law 1371 = .ok (.istore 6, 2) := by decide +kernel
theorem dL_law_1373 : decode cL_law 1373 = .ok (.aload_n 2, 1) := by decide +kernel
theorem dL_law_1374 : decode cL_law 1374 = .ok (.invokevirtual 109, 3) := by decide +kernel
theorem dL_law_1377 : decode cL_law 1377 = .ok (.iload 5, 2) := by decide +kernel
theorem dL_law_1379 : decode cL_law 1379 = .ok (.if_icmp .eq 5, 3) := by decide +kernel
theorem dL_law_1382 : decode cL_law 1382 = .ok (.iconst 0, 1) := by decide +kernel
theorem dL_law_1383 : decode cL_law 1383 = .ok (.ireturn, 1) := by decide +kernel
theorem dL_law_1384 : decode cL_law 1384 = .ok (.iload 5, 2) := by decide +kernel
theorem dL_law_1386 : decode cL_law 1386 = .ok (.ifCond .ne 15, 3) := by decide +kernel
theorem dL_law_1389 : decode cL_law 1389 = .ok (.aload_n 3, 1) := by decide +kernel
theorem dL_law_1390 : decode cL_law 1390 = .ok (.iconst 0, 1) := by decide +kernel
theorem dL_law_1391 : decode cL_law 1391 = .ok (.laload, 1) := by decide +kernel
theorem dL_law_1392 : decode cL_law 1392 = .ok (.iload 6, 2) := by decide +kernel
theorem dL_law_1394 : decode cL_law 1394 = .ok (.i2l, 1) := by decide +kernel
theorem dL_law_1395 : decode cL_law 1395 = .ok (.lcmp, 1) := by decide +kernel
theorem dL_law_1396 : decode cL_law 1396 = .ok (.ifCond .eq 5, 3) := by decide +kernel
theorem dL_law_1399 : decode cL_law 1399 = .ok (.iconst 0, 1) := by decide +kernel
theorem dL_law_1400 : decode cL_law 1400 = .ok (.ireturn, 1) := by decide +kernel
theorem dL_law_1401 : decode cL_law 1401 = .ok (.goto 731, 3) := by decide +kernel
theorem dL_law_1404 : decode cL_law 1404 = .ok (.aload_n 1, 1) := by decide +kernel
theorem dL_law_1405 : decode cL_law 1405 = .ok (.aload_n 0, 1) := by decide +kernel
theorem dL_law_1406 : decode cL_law 1406 = .ok (.iload 4, 2) := by decide +kernel
theorem dL_law_1408 : decode cL_law 1408 = .ok (.iconst 1, 1) := by decide +kernel
theorem dL_law_1409 : decode cL_law 1409 = .ok (.iadd, 1) := by decide +kernel
theorem dL_law_1410 : decode cL_law 1410 = .ok (.iaload, 1) := by decide +kernel
theorem dL_law_1411 : decode cL_law 1411 = .ok (.aload_n 3, 1) := by decide +kernel
theorem dL_law_1412 : decode cL_law 1412 = .ok (.invokestatic 193, 3) := by decide +kernel
theorem dL_law_1415 : decode cL_law 1415 = .ok (.istore 5, 2) := by decide +kernel
theorem dL_law_1417 : decode cL_law 1417 = .ok (.aload_n 2, 1) := by decide +kernel
theorem dL_law_1418 : decode cL_law 1418 = .ok (.aload_n 0, 1) := by decide +kernel
theorem dL_law_1419 : decode cL_law 1419 = .ok (.iload 4, 2) := by decide +kernel
theorem dL_law_1421 : decode cL_law 1421 = .ok (.iconst 1, 1) := by decide +kernel
theorem dL_law_1422 : decode cL_law 1422 = .ok (.iadd, 1) := by decide +kernel
theorem dL_law_1423 : decode cL_law 1423 = .ok (.iaload, 1) := by decide +kernel
theorem dL_law_1424 : decode cL_law 1424 = .ok (.invokevirtual 195, 3) := by decide +kernel
theorem dL_law_1427 : decode cL_law 1427 = .ok (.istore 6, 2) := by decide +kernel
theorem dL_law_1429 : decode cL_law 1429 = .ok (.aload_n 2, 1) := by decide +kernel
theorem dL_law_1430 : decode cL_law 1430 = .ok (.invokevirtual 109, 3) := by decide +kernel
theorem dL_law_1433 : decode cL_law 1433 = .ok (.iload 5, 2) := by decide +kernel
theorem dL_law_1435 : decode cL_law 1435 = .ok (.if_icmp .eq 5, 3) := by decide +kernel
theorem dL_law_1438 : decode cL_law 1438 = .ok (.iconst 0, 1) := by decide +kernel
theorem dL_law_1439 : decode cL_law 1439 = .ok (.ireturn, 1) := by decide +kernel
theorem dL_law_1440 : decode cL_law 1440 = .ok (.iload 5, 2) := by decide +kernel
theorem dL_law_1442 : decode cL_law 1442 = .ok (.ifCond .ne 15, 3) := by decide +kernel
theorem dL_law_1445 : decode cL_law 1445 = .ok (.aload_n 3, 1) := by decide +kernel
theorem dL_law_1446 : decode cL_law 1446 = .ok (.iconst 0, 1) := by decide +kernel
theorem dL_law_1447 : decode cL_law 1447 = .ok (.laload, 1) := by decide +kernel
theorem dL_law_1448 : decode cL_law 1448 = .ok (.iload 6, 2) := by decide +kernel
theorem dL_law_1450 : decode cL_law 1450 = .ok (.i2l, 1) := by decide +kernel
theorem dL_law_1451 : decode cL_law 1451 = .ok (.lcmp, 1) := by decide +kernel
theorem dL_law_1452 : decode cL_law 1452 = .ok (.ifCond .eq 5, 3) := by decide +kernel
theorem dL_law_1455 : decode cL_law 1455 = .ok (.iconst 0, 1) := by decide +kernel
theorem dL_law_1456 : decode cL_law 1456 = .ok (.ireturn, 1) := by decide +kernel
theorem dL_law_1457 : decode cL_law 1457 = .ok (.goto 675, 3) := by decide +kernel
theorem dL_law_1460 : decode cL_law 1460 = .ok (.aload_n 1, 1) := by decide +kernel
theorem dL_law_1461 : decode cL_law 1461 = .ok (.aload_n 0, 1) := by decide +kernel
theorem dL_law_1462 : decode cL_law 1462 = .ok (.iload 4, 2) := by decide +kernel
theorem dL_law_1464 : decode cL_law 1464 = .ok (.iconst 1, 1) := by decide +kernel
theorem dL_law_1465 : decode cL_law 1465 = .ok (.iadd, 1) := by decide +kernel
theorem dL_law_1466 : decode cL_law 1466 = .ok (.iaload, 1) := by decide +kernel
theorem dL_law_1467 : decode cL_law 1467 = .ok (.aload_n 0, 1) := by decide +kernel
theorem dL_law_1468 : decode cL_law 1468 = .ok (.iload 4, 2) := by decide +kernel
theorem dL_law_1470 : decode cL_law 1470 = .ok (.iconst 2, 1) := by decide +kernel
theorem dL_law_1471 : decode cL_law 1471 = .ok (.iadd, 1) := by decide +kernel
theorem dL_law_1472 : decode cL_law 1472 = .ok (.iaload, 1) := by decide +kernel
theorem dL_law_1473 : decode cL_law 1473 = .ok (.aload_n 0, 1) := by decide +kernel
theorem dL_law_1474 : decode cL_law 1474 = .ok (.iload 4, 2) := by decide +kernel
theorem dL_law_1476 : decode cL_law 1476 = .ok (.iconst 3, 1) := by decide +kernel
theorem dL_law_1477 : decode cL_law 1477 = .ok (.iadd, 1) := by decide +kernel
theorem dL_law_1478 : decode cL_law 1478 = .ok (.iaload, 1) := by decide +kernel
theorem dL_law_1479 : decode cL_law 1479 = .ok (.aload_n 0, 1) := by decide +kernel
theorem dL_law_1480 : decode cL_law 1480 = .ok (.iload 4, 2) := by decide +kernel
theorem dL_law_1482 : decode cL_law 1482 = .ok (.iconst 4, 1) := by decide +kernel
theorem dL_law_1483 : decode cL_law 1483 = .ok (.iadd, 1) := by decide +kernel
theorem dL_law_1484 : decode cL_law 1484 = .ok (.iaload, 1) := by decide +kernel
theorem dL_law_1485 : decode cL_law 1485 = .ok (.aload_n 3, 1) := by decide +kernel
theorem dL_law_1486 : decode cL_law 1486 = .ok (.invokestatic 196, 3) := by decide +kernel
theorem dL_law_1489 : decode cL_law 1489 = .ok (.istore 5, 2) := by decide +kernel
theorem dL_law_1491 : decode cL_law 1491 = .ok (.aload_n 2, 1) := by decide +kernel
theorem dL_law_1492 : decode cL_law 1492 = .ok (.aload_n 0, 1) := by decide +kernel
theorem dL_law_1493 : decode cL_law 1493 = .ok (.iload 4, 2) := by decide +kernel
theorem dL_law_1495 : decode cL_law 1495 = .ok (.iconst 1, 1) := by decide +kernel
theorem dL_law_1496 : decode cL_law 1496 = .ok (.iadd, 1) := by decide +kernel
theorem dL_law_1497 : decode cL_law 1497 = .ok (.iaload, 1) := by decide +kernel
theorem dL_law_1498 : decode cL_law 1498 = .ok (.aload_n 0, 1) := by decide +kernel
theorem dL_law_1499 : decode cL_law 1499 = .ok (.iload 4, 2) := by decide +kernel
theorem dL_law_1501 : decode cL_law 1501 = .ok (.iconst 2, 1) := by decide +kernel
theorem dL_law_1502 : decode cL_law 1502 = .ok (.iadd, 1) := by decide +kernel
theorem dL_law_1503 : decode cL_law 1503 = .ok (.iaload, 1) := by decide +kernel
theorem dL_law_1504 : decode cL_law 1504 = .ok (.aload_n 0, 1) := by decide +kernel
theorem dL_law_1505 : decode cL_law 1505 = .ok (.iload 4, 2) := by decide +kernel
theorem dL_law_1507 : decode cL_law 1507 = .ok (.iconst 3, 1) := by decide +kernel
theorem dL_law_1508 : decode cL_law 1508 = .ok (.iadd, 1) := by decide +kernel
theorem dL_law_1509 : decode cL_law 1509 = .ok (.iaload, 1) := by decide +kernel
theorem dL_law_1510 : decode cL_law 1510 = .ok (.aload_n 0, 1) := by decide +kernel
theorem dL_law_1511 : decode cL_law 1511 = .ok (.iload 4, 2) := by decide +kernel
theorem dL_law_1513 : decode cL_law 1513 = .ok (.iconst 4, 1) := by decide +kernel
theorem dL_law_1514 : decode cL_law 1514 = .ok (.iadd, 1) := by decide +kernel
theorem dL_law_1515 : decode cL_law 1515 = .ok (.iaload, 1) := by decide +kernel
theorem dL_law_1516 : decode cL_law 1516 = .ok (.invokevirtual 199, 3) := by decide +kernel
theorem dL_law_1519 : decode cL_law 1519 = .ok (.istore 6, 2) := by decide +kernel
theorem dL_law_1521 : decode cL_law 1521 = .ok (.aload_n 2, 1) := by decide +kernel
theorem dL_law_1522 : decode cL_law 1522 = .ok (.invokevirtual 109, 3) := by decide +kernel
theorem dL_law_1525 : decode cL_law 1525 = .ok (.iload 5, 2) := by decide +kernel
theorem dL_law_1527 : decode cL_law 1527 = .ok (.if_icmp .eq 5, 3) := by decide +kernel
theorem dL_law_1530 : decode cL_law 1530 = .ok (.iconst 0, 1) := by decide +kernel
theorem dL_law_1531 : decode cL_law 1531 = .ok (.ireturn, 1) := by decide +kernel
theorem dL_law_1532 : decode cL_law 1532 = .ok (.iload 5, 2) := by decide +kernel
theorem dL_law_1534 : decode cL_law 1534 = .ok (.ifCond .ne 15, 3) := by decide +kernel
theorem dL_law_1537 : decode cL_law 1537 = .ok (.aload_n 3, 1) := by decide +kernel
theorem dL_law_1538 : decode cL_law 1538 = .ok (.iconst 0, 1) := by decide +kernel
theorem dL_law_1539 : decode cL_law 1539 = .ok (.laload, 1) := by decide +kernel
theorem dL_law_1540 : decode cL_law 1540 = .ok (.iload 6, 2) := by decide +kernel
theorem dL_law_1542 : decode cL_law 1542 = .ok (.i2l, 1) := by decide +kernel
theorem dL_law_1543 : decode cL_law 1543 = .ok (.lcmp, 1) := by decide +kernel
theorem dL_law_1544 : decode cL_law 1544 = .ok (.ifCond .eq 5, 3) := by decide +kernel
theorem dL_law_1547 : decode cL_law 1547 = .ok (.iconst 0, 1) := by decide +kernel
theorem dL_law_1548 : decode cL_law 1548 = .ok (.ireturn, 1) := by decide +kernel
theorem dL_law_1549 : decode cL_law 1549 = .ok (.goto 583, 3) := by decide +kernel
theorem dL_law_1552 : decode cL_law 1552 = .ok (.aload_n 1, 1) := by decide +kernel
theorem dL_law_1553 : decode cL_law 1553 = .ok (.aload_n 0, 1) := by decide +kernel
theorem dL_law_1554 : decode cL_law 1554 = .ok (.iload 4, 2) := by decide +kernel
theorem dL_law_1556 : decode cL_law 1556 = .ok (.iconst 1, 1) := by decide +kernel
theorem dL_law_1557 : decode cL_law 1557 = .ok (.iadd, 1) := by decide +kernel
theorem dL_law_1558 : decode cL_law 1558 = .ok (.iaload, 1) := by decide +kernel
theorem dL_law_1559 : decode cL_law 1559 = .ok (.aload_n 0, 1) := by decide +kernel
theorem dL_law_1560 : decode cL_law 1560 = .ok (.iload 4, 2) := by decide +kernel
theorem dL_law_1562 : decode cL_law 1562 = .ok (.iconst 2, 1) := by decide +kernel
theorem dL_law_1563 : decode cL_law 1563 = .ok (.iadd, 1) := by decide +kernel
theorem dL_law_1564 : decode cL_law 1564 = .ok (.iaload, 1) := by decide +kernel
theorem dL_law_1565 : decode cL_law 1565 = .ok (.aload_n 0, 1) := by decide +kernel
theorem dL_law_1566 : decode cL_law 1566 = .ok (.iload 4, 2) := by decide +kernel
theorem dL_law_1568 : decode cL_law 1568 = .ok (.iconst 3, 1) := by decide +kernel
theorem dL_law_1569 : decode cL_law 1569 = .ok (.iadd, 1) := by decide +kernel
theorem dL_law_1570 : decode cL_law 1570 = .ok (.iaload, 1) := by decide +kernel
theorem dL_law_1571 : decode cL_law 1571 = .ok (.aload_n 3, 1) := by decide +kernel
theorem dL_law_1572 : decode cL_law 1572 = .ok (.invokestatic 200, 3) := by decide +kernel
theorem dL_law_1575 : decode cL_law 1575 = .ok (.istore 5, 2) := by decide +kernel
theorem dL_law_1577 : decode cL_law 1577 = .ok (.aload_n 2, 1) := by decide +kernel
theorem dL_law_1578 : decode cL_law 1578 = .ok (.aload_n 0, 1) := by decide +kernel
theorem dL_law_1579 : decode cL_law 1579 = .ok (.iload 4, 2) := by decide +kernel
theorem dL_law_1581 : decode cL_law 1581 = .ok (.iconst 1, 1) := by decide +kernel
theorem dL_law_1582 : decode cL_law 1582 = .ok (.iadd, 1) := by decide +kernel
theorem dL_law_1583 : decode cL_law 1583 = .ok (.iaload, 1) := by decide +kernel
theorem dL_law_1584 : decode cL_law 1584 = .ok (.aload_n 0, 1) := by decide +kernel
theorem dL_law_1585 : decode cL_law 1585 = .ok (.iload 4, 2) := by decide +kernel
theorem dL_law_1587 : decode cL_law 1587 = .ok (.iconst 2, 1) := by decide +kernel
theorem dL_law_1588 : decode cL_law 1588 = .ok (.iadd, 1) := by decide +kernel
theorem dL_law_1589 : decode cL_law 1589 = .ok (.iaload, 1) := by decide +kernel
theorem dL_law_1590 : decode cL_law 1590 = .ok (.aload_n 0, 1) := by decide +kernel
theorem dL_law_1591 : decode cL_law 1591 = .ok (.iload 4, 2) := by decide +kernel
theorem dL_law_1593 : decode cL_law 1593 = .ok (.iconst 3, 1) := by decide +kernel
theorem dL_law_1594 : decode cL_law 1594 = .ok (.iadd, 1) := by decide +kernel
theorem dL_law_1595 : decode cL_law 1595 = .ok (.iaload, 1) := by decide +kernel
theorem dL_law_1596 : decode cL_law 1596 = .ok (.invokevirtual 202, 3) := by decide +kernel
theorem dL_law_1599 : decode cL_law 1599 = .ok (.istore 6, 2) := by decide +kernel
theorem dL_law_1601 : decode cL_law 1601 = .ok (.aload_n 2, 1) := by decide +kernel
theorem dL_law_1602 : decode cL_law 1602 = .ok (.invokevirtual 109, 3) := by decide +kernel
theorem dL_law_1605 : decode cL_law 1605 = .ok (.iload 5, 2) := by decide +kernel
theorem dL_law_1607 : decode cL_law 1607 = .ok (.if_icmp .eq 5, 3) := by decide +kernel
theorem dL_law_1610 : decode cL_law 1610 = .ok (.iconst 0, 1) := by decide +kernel
theorem dL_law_1611 : decode cL_law 1611 = .ok (.ireturn, 1) := by decide +kernel
theorem dL_law_1612 : decode cL_law 1612 = .ok (.iload 5, 2) := by decide +kernel
theorem dL_law_1614 : decode cL_law 1614 = .ok (.ifCond .ne 15, 3) := by decide +kernel
theorem dL_law_1617 : decode cL_law 1617 = .ok (.aload_n 3, 1) := by decide +kernel
theorem dL_law_1618 : decode cL_law 1618 = .ok (.iconst 0, 1) := by decide +kernel
theorem dL_law_1619 : decode cL_law 1619 = .ok (.laload, 1) := by decide +kernel
theorem dL_law_1620 : decode cL_law 1620 = .ok (.iload 6, 2) := by decide +kernel
theorem dL_law_1622 : decode cL_law 1622 = .ok (.i2l, 1) := by decide +kernel
theorem dL_law_1623 : decode cL_law 1623 = .ok (.lcmp, 1) := by decide +kernel
theorem dL_law_1624 : decode cL_law 1624 = .ok (.ifCond .eq 5, 3) := by decide +kernel
theorem dL_law_1627 : decode cL_law 1627 = .ok (.iconst 0, 1) := by decide +kernel
theorem dL_law_1628 : decode cL_law 1628 = .ok (.ireturn, 1) := by decide +kernel
theorem dL_law_1629 : decode cL_law 1629 = .ok (.goto 503, 3) := by decide +kernel
theorem dL_law_1632 : decode cL_law 1632 = .ok (.aload_n 1, 1) := by decide +kernel
theorem dL_law_1633 : decode cL_law 1633 = .ok (.aload_n 0, 1) := by decide +kernel
theorem dL_law_1634 : decode cL_law 1634 = .ok (.iload 4, 2) := by decide +kernel
theorem dL_law_1636 : decode cL_law 1636 = .ok (.iconst 1, 1) := by decide +kernel
theorem dL_law_1637 : decode cL_law 1637 = .ok (.iadd, 1) := by decide +kernel
theorem dL_law_1638 : decode cL_law 1638 = .ok (.iaload, 1) := by decide +kernel
theorem dL_law_1639 : decode cL_law 1639 = .ok (.aload_n 3, 1) := by decide +kernel
theorem dL_law_1640 : decode cL_law 1640 = .ok (.invokestatic 203, 3) := by decide +kernel
theorem dL_law_1643 : decode cL_law 1643 = .ok (.istore 5, 2) := by decide +kernel
theorem dL_law_1645 : decode cL_law 1645 = .ok (.aload_n 2, 1) := by decide +kernel
theorem dL_law_1646 : decode cL_law 1646 = .ok (.aload_n 0, 1) := by decide +kernel
theorem dL_law_1647 : decode cL_law 1647 = .ok (.iload 4, 2) := by decide +kernel
theorem dL_law_1649 : decode cL_law 1649 = .ok (.iconst 1, 1) := by decide +kernel
theorem dL_law_1650 : decode cL_law 1650 = .ok (.iadd, 1) := by decide +kernel
theorem dL_law_1651 : decode cL_law 1651 = .ok (.iaload, 1) := by decide +kernel
theorem dL_law_1652 : decode cL_law 1652 = .ok (.invokevirtual 205, 3) := by decide +kernel
theorem dL_law_1655 : decode cL_law 1655 = .ok (.istore 6, 2) := by decide +kernel
theorem dL_law_1657 : decode cL_law 1657 = .ok (.aload_n 2, 1) := by decide +kernel
theorem dL_law_1658 : decode cL_law 1658 = .ok (.invokevirtual 109, 3) := by decide +kernel
theorem dL_law_1661 : decode cL_law 1661 = .ok (.iload 5, 2) := by decide +kernel
theorem dL_law_1663 : decode cL_law 1663 = .ok (.if_icmp .eq 5, 3) := by decide +kernel
theorem dL_law_1666 : decode cL_law 1666 = .ok (.iconst 0, 1) := by decide +kernel
theorem dL_law_1667 : decode cL_law 1667 = .ok (.ireturn, 1) := by decide +kernel
theorem dL_law_1668 : decode cL_law 1668 = .ok (.iload 5, 2) := by decide +kernel
theorem dL_law_1670 : decode cL_law 1670 = .ok (.ifCond .ne 15, 3) := by decide +kernel
theorem dL_law_1673 : decode cL_law 1673 = .ok (.aload_n 3, 1) := by decide +kernel
theorem dL_law_1674 : decode cL_law 1674 = .ok (.iconst 0, 1) := by decide +kernel
theorem dL_law_1675 : decode cL_law 1675 = .ok (.laload, 1) := by decide +kernel
theorem dL_law_1676 : decode cL_law 1676 = .ok (.iload 6, 2) := by decide +kernel
theorem dL_law_1678 : decode cL_law 1678 = .ok (.i2l, 1) := by decide +kernel
theorem dL_law_1679 : decode cL_law 1679 = .ok (.lcmp, 1) := by decide +kernel
theorem dL_law_1680 : decode cL_law 1680 = .ok (.ifCond .eq 5, 3) := by decide +kernel
theorem dL_law_1683 : decode cL_law 1683 = .ok (.iconst 0, 1) := by decide +kernel
theorem dL_law_1684 : decode cL_law 1684 = .ok (.ireturn, 1) := by decide +kernel
theorem dL_law_1685 : decode cL_law 1685 = .ok (.goto 447, 3) := by decide +kernel
theorem dL_law_1688 : decode cL_law 1688 = .ok (.aload_n 1, 1) := by decide +kernel
theorem dL_law_1689 : decode cL_law 1689 = .ok (.aload_n 0, 1) := by decide +kernel
theorem dL_law_1690 : decode cL_law 1690 = .ok (.iload 4, 2) := by decide +kernel
theorem dL_law_1692 : decode cL_law 1692 = .ok (.iconst 1, 1) := by decide +kernel
theorem dL_law_1693 : decode cL_law 1693 = .ok (.iadd, 1) := by decide +kernel
theorem dL_law_1694 : decode cL_law 1694 = .ok (.iaload, 1) := by decide +kernel
theorem dL_law_1695 : decode cL_law 1695 = .ok (.aload_n 0, 1) := by decide +kernel
theorem dL_law_1696 : decode cL_law 1696 = .ok (.iload 4, 2) := by decide +kernel
theorem dL_law_1698 : decode cL_law 1698 = .ok (.iconst 2, 1) := by decide +kernel
theorem dL_law_1699 : decode cL_law 1699 = .ok (.iadd, 1) := by decide +kernel
theorem dL_law_1700 : decode cL_law 1700 = .ok (.iaload, 1) := by decide +kernel
theorem dL_law_1701 : decode cL_law 1701 = .ok (.aload_n 3, 1) := by decide +kernel
theorem dL_law_1702 : decode cL_law 1702 = .ok (.invokestatic 206, 3) := by decide +kernel
theorem dL_law_1705 : decode cL_law 1705 = .ok (.istore 5, 2) := by decide +kernel
theorem dL_law_1707 : decode cL_law 1707 = .ok (.aload_n 2, 1) := by decide +kernel
theorem dL_law_1708 : decode cL_law 1708 = .ok (.aload_n 0, 1) := by decide +kernel
theorem dL_law_1709 : decode cL_law 1709 = .ok (.iload 4, 2) := by decide +kernel
theorem dL_law_1711 : decode cL_law 1711 = .ok (.iconst 1, 1) := by decide +kernel
theorem dL_law_1712 : decode cL_law 1712 = .ok (.iadd, 1) := by decide +kernel
theorem dL_law_1713 : decode cL_law 1713 = .ok (.iaload, 1) := by decide +kernel
theorem dL_law_1714 : decode cL_law 1714 = .ok (.aload_n 0, 1) := by decide +kernel
theorem dL_law_1715 : decode cL_law 1715 = .ok (.iload 4, 2) := by decide +kernel
theorem dL_law_1717 : decode cL_law 1717 = .ok (.iconst 2, 1) := by decide +kernel
theorem dL_law_1718 : decode cL_law 1718 = .ok (.iadd, 1) := by decide +kernel
theorem dL_law_1719 : decode cL_law 1719 = .ok (.iaload, 1) := by decide +kernel
theorem dL_law_1720 : decode cL_law 1720 = .ok (.invokevirtual 208, 3) := by decide +kernel
theorem dL_law_1723 : decode cL_law 1723 = .ok (.istore 6, 2) := by decide +kernel
theorem dL_law_1725 : decode cL_law 1725 = .ok (.aload_n 2, 1) := by decide +kernel
theorem dL_law_1726 : decode cL_law 1726 = .ok (.invokevirtual 109, 3) := by decide +kernel
theorem dL_law_1729 : decode cL_law 1729 = .ok (.iload 5, 2) := by decide +kernel
theorem dL_law_1731 : decode cL_law 1731 = .ok (.if_icmp .eq 5, 3) := by decide +kernel
theorem dL_law_1734 : decode cL_law 1734 = .ok (.iconst 0, 1) := by decide +kernel
theorem dL_law_1735 : decode cL_law 1735 = .ok (.ireturn, 1) := by decide +kernel
theorem dL_law_1736 : decode cL_law 1736 = .ok (.iload 5, 2) := by decide +kernel
theorem dL_law_1738 : decode cL_law 1738 = .ok (.ifCond .ne 15, 3) := by decide +kernel
theorem dL_law_1741 : decode cL_law 1741 = .ok (.aload_n 3, 1) := by decide +kernel
theorem dL_law_1742 : decode cL_law 1742 = .ok (.iconst 0, 1) := by decide +kernel
theorem dL_law_1743 : decode cL_law 1743 = .ok (.laload, 1) := by decide +kernel
theorem dL_law_1744 : decode cL_law 1744 = .ok (.iload 6, 2) := by decide +kernel
theorem dL_law_1746 : decode cL_law 1746 = .ok (.i2l, 1) := by decide +kernel
theorem dL_law_1747 : decode cL_law 1747 = .ok (.lcmp, 1) := by decide +kernel
theorem dL_law_1748 : decode cL_law 1748 = .ok (.ifCond .eq 5, 3) := by decide +kernel
theorem dL_law_1751 : decode cL_law 1751 = .ok (.iconst 0, 1) := by decide +kernel
theorem dL_law_1752 : decode cL_law 1752 = .ok (.ireturn, 1) := by decide +kernel
theorem dL_law_1753 : decode cL_law 1753 = .ok (.goto 379, 3) := by decide +kernel
theorem dL_law_1756 : decode cL_law 1756 = .ok (.aload_n 1, 1) := by decide +kernel
theorem dL_law_1757 : decode cL_law 1757 = .ok (.aload_n 0, 1) := by decide +kernel
theorem dL_law_1758 : decode cL_law 1758 = .ok (.iload 4, 2) := by decide +kernel
theorem dL_law_1760 : decode cL_law 1760 = .ok (.iconst 1, 1) := by decide +kernel
theorem dL_law_1761 : decode cL_law 1761 = .ok (.iadd, 1) := by decide +kernel
theorem dL_law_1762 : decode cL_law 1762 = .ok (.iaload, 1) := by decide +kernel
theorem dL_law_1763 : decode cL_law 1763 = .ok (.aload_n 3, 1) := by decide +kernel
theorem dL_law_1764 : decode cL_law 1764 = .ok (.invokestatic 209, 3) := by decide +kernel
theorem dL_law_1767 : decode cL_law 1767 = .ok (.istore 5, 2) := by decide +kernel
theorem dL_law_1769 : decode cL_law 1769 = .ok (.aload_n 2, 1) := by decide +kernel
theorem dL_law_1770 : decode cL_law 1770 = .ok (.aload_n 0, 1) := by decide +kernel
theorem dL_law_1771 : decode cL_law 1771 = .ok (.iload 4, 2) := by decide +kernel
theorem dL_law_1773 : decode cL_law 1773 = .ok (.iconst 1, 1) := by decide +kernel
theorem dL_law_1774 : decode cL_law 1774 = .ok (.iadd, 1) := by decide +kernel
theorem dL_law_1775 : decode cL_law 1775 = .ok (.iaload, 1) := by decide +kernel
theorem dL_law_1776 : decode cL_law 1776 = .ok (.invokevirtual 211, 3) := by decide +kernel
theorem dL_law_1779 : decode cL_law 1779 = .ok (.istore 6, 2) := by decide +kernel
theorem dL_law_1781 : decode cL_law 1781 = .ok (.aload_n 2, 1) := by decide +kernel
theorem dL_law_1782 : decode cL_law 1782 = .ok (.invokevirtual 109, 3) := by decide +kernel
theorem dL_law_1785 : decode cL_law 1785 = .ok (.iload 5, 2) := by decide +kernel
theorem dL_law_1787 : decode cL_law 1787 = .ok (.if_icmp .eq 5, 3) := by decide +kernel
theorem dL_law_1790 : decode cL_law 1790 = .ok (.iconst 0, 1) := by decide +kernel
theorem dL_law_1791 : decode cL_law 1791 = .ok (.ireturn, 1) := by decide +kernel
theorem dL_law_1792 : decode cL_law 1792 = .ok (.iload 5, 2) := by decide +kernel
theorem dL_law_1794 : decode cL_law 1794 = .ok (.ifCond .ne 15, 3) := by decide +kernel
theorem dL_law_1797 : decode cL_law 1797 = .ok (.aload_n 3, 1) := by decide +kernel
theorem dL_law_1798 : decode cL_law 1798 = .ok (.iconst 0, 1) := by decide +kernel
theorem dL_law_1799 : decode cL_law 1799 = .ok (.laload, 1) := by decide +kernel
theorem dL_law_1800 : decode cL_law 1800 = .ok (.iload 6, 2) := by decide +kernel
theorem dL_law_1802 : decode cL_law 1802 = .ok (.i2l, 1) := by decide +kernel
theorem dL_law_1803 : decode cL_law 1803 = .ok (.lcmp, 1) := by decide +kernel
theorem dL_law_1804 : decode cL_law 1804 = .ok (.ifCond .eq 5, 3) := by decide +kernel
theorem dL_law_1807 : decode cL_law 1807 = .ok (.iconst 0, 1) := by decide +kernel
theorem dL_law_1808 : decode cL_law 1808 = .ok (.ireturn, 1) := by decide +kernel
theorem dL_law_1809 : decode cL_law 1809 = .ok (.goto 323, 3) := by decide +kernel
theorem dL_law_1812 : decode cL_law 1812 = .ok (.aload_n 1, 1) := by decide +kernel
theorem dL_law_1813 : decode cL_law 1813 = .ok (.aload_n 0, 1) := by decide +kernel
theorem dL_law_1814 : decode cL_law 1814 = .ok (.iload 4, 2) := by decide +kernel
theorem dL_law_1816 : decode cL_law 1816 = .ok (.iconst 1, 1) := by decide +kernel
theorem dL_law_1817 : decode cL_law 1817 = .ok (.iadd, 1) := by decide +kernel
theorem dL_law_1818 : decode cL_law 1818 = .ok (.iaload, 1) := by decide +kernel
theorem dL_law_1819 : decode cL_law 1819 = .ok (.aload_n 0, 1) := by decide +kernel
theorem dL_law_1820 : decode cL_law 1820 = .ok (.iload 4, 2) := by decide +kernel
theorem dL_law_1822 : decode cL_law 1822 = .ok (.iconst 2, 1) := by decide +kernel
theorem dL_law_1823 : decode cL_law 1823 = .ok (.iadd, 1) := by decide +kernel
theorem dL_law_1824 : decode cL_law 1824 = .ok (.iaload, 1) := by decide +kernel
theorem dL_law_1825 : decode cL_law 1825 = .ok (.aload_n 3, 1) := by decide +kernel
theorem dL_law_1826 : decode cL_law 1826 = .ok (.invokestatic 212, 3) := by decide +kernel
theorem dL_law_1829 : decode cL_law 1829 = .ok (.istore 5, 2) := by decide +kernel
theorem dL_law_1831 : decode cL_law 1831 = .ok (.aload_n 2, 1) := by decide +kernel
theorem dL_law_1832 : decode cL_law 1832 = .ok (.aload_n 0, 1) := by decide +kernel
theorem dL_law_1833 : decode cL_law 1833 = .ok (.iload 4, 2) := by decide +kernel
theorem dL_law_1835 : decode cL_law 1835 = .ok (.iconst 1, 1) := by decide +kernel
theorem dL_law_1836 : decode cL_law 1836 = .ok (.iadd, 1) := by decide +kernel
theorem dL_law_1837 : decode cL_law 1837 = .ok (.iaload, 1) := by decide +kernel
theorem dL_law_1838 : decode cL_law 1838 = .ok (.aload_n 0, 1) := by decide +kernel
theorem dL_law_1839 : decode cL_law 1839 = .ok (.iload 4, 2) := by decide +kernel
theorem dL_law_1841 : decode cL_law 1841 = .ok (.iconst 2, 1) := by decide +kernel
theorem dL_law_1842 : decode cL_law 1842 = .ok (.iadd, 1) := by decide +kernel
theorem dL_law_1843 : decode cL_law 1843 = .ok (.iaload, 1) := by decide +kernel
theorem dL_law_1844 : decode cL_law 1844 = .ok (.invokevirtual 214, 3) := by decide +kernel
theorem dL_law_1847 : decode cL_law 1847 = .ok (.istore 6, 2) := by decide +kernel
theorem dL_law_1849 : decode cL_law 1849 = .ok (.aload_n 2, 1) := by decide +kernel
theorem dL_law_1850 : decode cL_law 1850 = .ok (.invokevirtual 109, 3) := by decide +kernel
theorem dL_law_1853 : decode cL_law 1853 = .ok (.iload 5, 2) := by decide +kernel
theorem dL_law_1855 : decode cL_law 1855 = .ok (.if_icmp .eq 5, 3) := by decide +kernel
theorem dL_law_1858 : decode cL_law 1858 = .ok (.iconst 0, 1) := by decide +kernel
theorem dL_law_1859 : decode cL_law 1859 = .ok (.ireturn, 1) := by decide +kernel
theorem dL_law_1860 : decode cL_law 1860 = .ok (.iload 5, 2) := by decide +kernel
theorem dL_law_1862 : decode cL_law 1862 = .ok (.ifCond .ne 15, 3) := by decide +kernel
theorem dL_law_1865 : decode cL_law 1865 = .ok (.aload_n 3, 1) := by decide +kernel
theorem dL_law_1866 : decode cL_law 1866 = .ok (.iconst 0, 1) := by decide +kernel
theorem dL_law_1867 : decode cL_law 1867 = .ok (.laload, 1) := by decide +kernel
theorem dL_law_1868 : decode cL_law 1868 = .ok (.iload 6, 2) := by decide +kernel
theorem dL_law_1870 : decode cL_law 1870 = .ok (.i2l, 1) := by decide +kernel
theorem dL_law_1871 : decode cL_law 1871 = .ok (.lcmp, 1) := by decide +kernel
theorem dL_law_1872 : decode cL_law 1872 = .ok (.ifCond .eq 5, 3) := by decide +kernel
theorem dL_law_1875 : decode cL_law 1875 = .ok (.iconst 0, 1) := by decide +kernel
theorem dL_law_1876 : decode cL_law 1876 = .ok (.ireturn, 1) := by decide +kernel
theorem dL_law_1877 : decode cL_law 1877 = .ok (.goto 255, 3) := by decide +kernel
theorem dL_law_1880 : decode cL_law 1880 = .ok (.aload_n 1, 1) := by decide +kernel
theorem dL_law_1881 : decode cL_law 1881 = .ok (.aload_n 0, 1) := by decide +kernel
theorem dL_law_1882 : decode cL_law 1882 = .ok (.iload 4, 2) := by decide +kernel
theorem dL_law_1884 : decode cL_law 1884 = .ok (.iconst 1, 1) := by decide +kernel
theorem dL_law_1885 : decode cL_law 1885 = .ok (.iadd, 1) := by decide +kernel
theorem dL_law_1886 : decode cL_law 1886 = .ok (.iaload, 1) := by decide +kernel
theorem dL_law_1887 : decode cL_law 1887 = .ok (.aload_n 0, 1) := by decide +kernel
theorem dL_law_1888 : decode cL_law 1888 = .ok (.iload 4, 2) := by decide +kernel
theorem dL_law_1890 : decode cL_law 1890 = .ok (.iconst 2, 1) := by decide +kernel
theorem dL_law_1891 : decode cL_law 1891 = .ok (.iadd, 1) := by decide +kernel
theorem dL_law_1892 : decode cL_law 1892 = .ok (.iaload, 1) := by decide +kernel
theorem dL_law_1893 : decode cL_law 1893 = .ok (.aload_n 3, 1) := by decide +kernel
theorem dL_law_1894 : decode cL_law 1894 = .ok (.invokestatic 215, 3) := by decide +kernel
theorem dL_law_1897 : decode cL_law 1897 = .ok (.istore 5, 2) := by decide +kernel
theorem dL_law_1899 : decode cL_law 1899 = .ok (.aload_n 2, 1) := by decide +kernel
theorem dL_law_1900 : decode cL_law 1900 = .ok (.aload_n 0, 1) := by decide +kernel
theorem dL_law_1901 : decode cL_law 1901 = .ok (.iload 4, 2) := by decide +kernel
theorem dL_law_1903 : decode cL_law 1903 = .ok (.iconst 1, 1) := by decide +kernel
theorem dL_law_1904 : decode cL_law 1904 = .ok (.iadd, 1) := by decide +kernel
theorem dL_law_1905 : decode cL_law 1905 = .ok (.iaload, 1) := by decide +kernel
theorem dL_law_1906 : decode cL_law 1906 = .ok (.aload_n 0, 1) := by decide +kernel
theorem dL_law_1907 : decode cL_law 1907 = .ok (.iload 4, 2) := by decide +kernel
theorem dL_law_1909 : decode cL_law 1909 = .ok (.iconst 2, 1) := by decide +kernel
theorem dL_law_1910 : decode cL_law 1910 = .ok (.iadd, 1) := by decide +kernel
theorem dL_law_1911 : decode cL_law 1911 = .ok (.iaload, 1) := by decide +kernel
theorem dL_law_1912 : decode cL_law 1912 = .ok (.invokevirtual 217, 3) := by decide +kernel
theorem dL_law_1915 : decode cL_law 1915 = .ok (.istore 6, 2) := by decide +kernel
theorem dL_law_1917 : decode cL_law 1917 = .ok (.aload_n 2, 1) := by decide +kernel
theorem dL_law_1918 : decode cL_law 1918 = .ok (.invokevirtual 109, 3) := by decide +kernel
theorem dL_law_1921 : decode cL_law 1921 = .ok (.iload 5, 2) := by decide +kernel
theorem dL_law_1923 : decode cL_law 1923 = .ok (.if_icmp .eq 5, 3) := by decide +kernel
theorem dL_law_1926 : decode cL_law 1926 = .ok (.iconst 0, 1) := by decide +kernel
theorem dL_law_1927 : decode cL_law 1927 = .ok (.ireturn, 1) := by decide +kernel
theorem dL_law_1928 : decode cL_law 1928 = .ok (.iload 5, 2) := by decide +kernel
theorem dL_law_1930 : decode cL_law 1930 = .ok (.ifCond .ne 15, 3) := by decide +kernel
theorem dL_law_1933 : decode cL_law 1933 = .ok (.aload_n 3, 1) := by decide +kernel
theorem dL_law_1934 : decode cL_law 1934 = .ok (.iconst 0, 1) := by decide +kernel
theorem dL_law_1935 : decode cL_law 1935 = .ok (.laload, 1) := by decide +kernel
theorem dL_law_1936 : decode cL_law 1936 = .ok (.iload 6, 2) := by decide +kernel
theorem dL_law_1938 : decode cL_law 1938 = .ok (.i2l, 1) := by decide +kernel
theorem dL_law_1939 : decode cL_law 1939 = .ok (.lcmp, 1) := by decide +kernel
theorem dL_law_1940 : decode cL_law 1940 = .ok (.ifCond .eq 5, 3) := by decide +kernel
theorem dL_law_1943 : decode cL_law 1943 = .ok (.iconst 0, 1) := by decide +kernel
theorem dL_law_1944 : decode cL_law 1944 = .ok (.ireturn, 1) := by decide +kernel
theorem dL_law_1945 : decode cL_law 1945 = .ok (.goto 187, 3) := by decide +kernel
theorem dL_law_1948 : decode cL_law 1948 = .ok (.aload_n 1, 1) := by decide +kernel
theorem dL_law_1949 : decode cL_law 1949 = .ok (.aload_n 0, 1) := by decide +kernel
theorem dL_law_1950 : decode cL_law 1950 = .ok (.iload 4, 2) := by decide +kernel
theorem dL_law_1952 : decode cL_law 1952 = .ok (.iconst 1, 1) := by decide +kernel
theorem dL_law_1953 : decode cL_law 1953 = .ok (.iadd, 1) := by decide +kernel
theorem dL_law_1954 : decode cL_law 1954 = .ok (.iaload, 1) := by decide +kernel
theorem dL_law_1955 : decode cL_law 1955 = .ok (.aload_n 0, 1) := by decide +kernel
theorem dL_law_1956 : decode cL_law 1956 = .ok (.iload 4, 2) := by decide +kernel
theorem dL_law_1958 : decode cL_law 1958 = .ok (.iconst 2, 1) := by decide +kernel
theorem dL_law_1959 : decode cL_law 1959 = .ok (.iadd, 1) := by decide +kernel
theorem dL_law_1960 : decode cL_law 1960 = .ok (.iaload, 1) := by decide +kernel
theorem dL_law_1961 : decode cL_law 1961 = .ok (.aload_n 3, 1) := by decide +kernel
theorem dL_law_1962 : decode cL_law 1962 = .ok (.invokestatic 218, 3) := by decide +kernel
theorem dL_law_1965 : decode cL_law 1965 = .ok (.istore 5, 2) := by decide +kernel
theorem dL_law_1967 : decode cL_law 1967 = .ok (.aload_n 2, 1) := by decide +kernel
theorem dL_law_1968 : decode cL_law 1968 = .ok (.aload_n 0, 1) := by decide +kernel
theorem dL_law_1969 : decode cL_law 1969 = .ok (.iload 4, 2) := by decide +kernel
theorem dL_law_1971 : decode cL_law 1971 = .ok (.iconst 1, 1) := by decide +kernel
theorem dL_law_1972 : decode cL_law 1972 = .ok (.iadd, 1) := by decide +kernel
theorem dL_law_1973 : decode cL_law 1973 = .ok (.iaload, 1) := by decide +kernel
theorem dL_law_1974 : decode cL_law 1974 = .ok (.aload_n 0, 1) := by decide +kernel
theorem dL_law_1975 : decode cL_law 1975 = .ok (.iload 4, 2) := by decide +kernel
theorem dL_law_1977 : decode cL_law 1977 = .ok (.iconst 2, 1) := by decide +kernel
theorem dL_law_1978 : decode cL_law 1978 = .ok (.iadd, 1) := by decide +kernel
theorem dL_law_1979 : decode cL_law 1979 = .ok (.iaload, 1) := by decide +kernel
theorem dL_law_1980 : decode cL_law 1980 = .ok (.invokevirtual 220, 3) := by decide +kernel
theorem dL_law_1983 : decode cL_law 1983 = .ok (.istore 6, 2) := by decide +kernel
theorem dL_law_1985 : decode cL_law 1985 = .ok (.aload_n 2, 1) := by decide +kernel
theorem dL_law_1986 : decode cL_law 1986 = .ok (.invokevirtual 109, 3) := by decide +kernel
theorem dL_law_1989 : decode cL_law 1989 = .ok (.iload 5, 2) := by decide +kernel
theorem dL_law_1991 : decode cL_law 1991 = .ok (.if_icmp .eq 5, 3) := by decide +kernel
theorem dL_law_1994 : decode cL_law 1994 = .ok (.iconst 0, 1) := by decide +kernel
theorem dL_law_1995 : decode cL_law 1995 = .ok (.ireturn, 1) := by decide +kernel
theorem dL_law_1996 : decode cL_law 1996 = .ok (.iload 5, 2) := by decide +kernel
theorem dL_law_1998 : decode cL_law 1998 = .ok (.ifCond .ne 15, 3) := by decide +kernel
theorem dL_law_2001 : decode cL_law 2001 = .ok (.aload_n 3, 1) := by decide +kernel
theorem dL_law_2002 : decode cL_law 2002 = .ok (.iconst 0, 1) := by decide +kernel
theorem dL_law_2003 : decode cL_law 2003 = .ok (.laload, 1) := by decide +kernel
theorem dL_law_2004 : decode cL_law 2004 = .ok (.iload 6, 2) := by decide +kernel
theorem dL_law_2006 : decode cL_law 2006 = .ok (.i2l, 1) := by decide +kernel
theorem dL_law_2007 : decode cL_law 2007 = .ok (.lcmp, 1) := by decide +kernel
theorem dL_law_2008 : decode cL_law 2008 = .ok (.ifCond .eq 5, 3) := by decide +kernel
theorem dL_law_2011 : decode cL_law 2011 = .ok (.iconst 0, 1) := by decide +kernel
theorem dL_law_2012 : decode cL_law 2012 = .ok (.ireturn, 1) := by decide +kernel
theorem dL_law_2013 : decode cL_law 2013 = .ok (.goto 119, 3) := by decide +kernel
theorem dL_law_2016 : decode cL_law 2016 = .ok (.aload_n 1, 1) := by decide +kernel
theorem dL_law_2017 : decode cL_law 2017 = .ok (.aload_n 0, 1) := by decide +kernel
theorem dL_law_2018 : decode cL_law 2018 = .ok (.iload 4, 2) := by decide +kernel
theorem dL_law_2020 : decode cL_law 2020 = .ok (.iconst 1, 1) := by decide +kernel
theorem dL_law_2021 : decode cL_law 2021 = .ok (.iadd, 1) := by decide +kernel
theorem dL_law_2022 : decode cL_law 2022 = .ok (.iaload, 1) := by decide +kernel
theorem dL_law_2023 : decode cL_law 2023 = .ok (.aload_n 0, 1) := by decide +kernel
theorem dL_law_2024 : decode cL_law 2024 = .ok (.iload 4, 2) := by decide +kernel
theorem dL_law_2026 : decode cL_law 2026 = .ok (.iconst 2, 1) := by decide +kernel
theorem dL_law_2027 : decode cL_law 2027 = .ok (.iadd, 1) := by decide +kernel
theorem dL_law_2028 : decode cL_law 2028 = .ok (.iaload, 1) := by decide +kernel
theorem dL_law_2029 : decode cL_law 2029 = .ok (.aload_n 0, 1) := by decide +kernel
theorem dL_law_2030 : decode cL_law 2030 = .ok (.iload 4, 2) := by decide +kernel
theorem dL_law_2032 : decode cL_law 2032 = .ok (.iconst 3, 1) := by decide +kernel
theorem dL_law_2033 : decode cL_law 2033 = .ok (.iadd, 1) := by decide +kernel
theorem dL_law_2034 : decode cL_law 2034 = .ok (.iaload, 1) := by decide +kernel
theorem dL_law_2035 : decode cL_law 2035 = .ok (.aload_n 0, 1) := by decide +kernel
theorem dL_law_2036 : decode cL_law 2036 = .ok (.iload 4, 2) := by decide +kernel
theorem dL_law_2038 : decode cL_law 2038 = .ok (.iconst 4, 1) := by decide +kernel
theorem dL_law_2039 : decode cL_law 2039 = .ok (.iadd, 1) := by decide +kernel
theorem dL_law_2040 : decode cL_law 2040 = .ok (.iaload, 1) := by decide +kernel
theorem dL_law_2041 : decode cL_law 2041 = .ok (.aload_n 3, 1) := by decide +kernel
theorem dL_law_2042 : decode cL_law 2042 = .ok (.invokestatic 221, 3) := by decide +kernel
theorem dL_law_2045 : decode cL_law 2045 = .ok (.istore 5, 2) := by decide +kernel
theorem dL_law_2047 : decode cL_law 2047 = .ok (.aload_n 2, 1) := by decide +kernel
theorem dL_law_2048 : decode cL_law 2048 = .ok (.aload_n 0, 1) := by decide +kernel
theorem dL_law_2049 : decode cL_law 2049 = .ok (.iload 4, 2) := by decide +kernel
theorem dL_law_2051 : decode cL_law 2051 = .ok (.iconst 1, 1) := by decide +kernel
theorem dL_law_2052 : decode cL_law 2052 = .ok (.iadd, 1) := by decide +kernel
theorem dL_law_2053 : decode cL_law 2053 = .ok (.iaload, 1) := by decide +kernel
theorem dL_law_2054 : decode cL_law 2054 = .ok (.aload_n 0, 1) := by decide +kernel
theorem dL_law_2055 : decode cL_law 2055 = .ok (.iload 4, 2) := by decide +kernel
theorem dL_law_2057 : decode cL_law 2057 = .ok (.iconst 2, 1) := by decide +kernel
theorem dL_law_2058 : decode cL_law 2058 = .ok (.iadd, 1) := by decide +kernel
theorem dL_law_2059 : decode cL_law 2059 = .ok (.iaload, 1) := by decide +kernel
theorem dL_law_2060 : decode cL_law 2060 = .ok (.aload_n 0, 1) := by decide +kernel
theorem dL_law_2061 : decode cL_law 2061 = .ok (.iload 4, 2) := by decide +kernel
theorem dL_law_2063 : decode cL_law 2063 = .ok (.iconst 3, 1) := by decide +kernel
theorem dL_law_2064 : decode cL_law 2064 = .ok (.iadd, 1) := by decide +kernel
theorem dL_law_2065 : decode cL_law 2065 = .ok (.iaload, 1) := by decide +kernel
theorem dL_law_2066 : decode cL_law 2066 = .ok (.aload_n 0, 1) := by decide +kernel
theorem dL_law_2067 : decode cL_law 2067 = .ok (.iload 4, 2) := by decide +kernel
theorem dL_law_2069 : decode cL_law 2069 = .ok (.iconst 4, 1) := by decide +kernel
theorem dL_law_2070 : decode cL_law 2070 = .ok (.iadd, 1) := by decide +kernel
theorem dL_law_2071 : decode cL_law 2071 = .ok (.iaload, 1) := by decide +kernel
theorem dL_law_2072 : decode cL_law 2072 = .ok (.invokevirtual 223, 3) := by decide +kernel
theorem dL_law_2075 : decode cL_law 2075 = .ok (.istore 6, 2) := by decide +kernel
theorem dL_law_2077 : decode cL_law 2077 = .ok (.aload_n 2, 1) := by decide +kernel
theorem dL_law_2078 : decode cL_law 2078 = .ok (.invokevirtual 109, 3) := by decide +kernel
theorem dL_law_2081 : decode cL_law 2081 = .ok (.iload 5, 2) := by decide +kernel
theorem dL_law_2083 : decode cL_law 2083 = .ok (.if_icmp .eq 5, 3) := by decide +kernel
theorem dL_law_2086 : decode cL_law 2086 = .ok (.iconst 0, 1) := by decide +kernel
theorem dL_law_2087 : decode cL_law 2087 = .ok (.ireturn, 1) := by decide +kernel
theorem dL_law_2088 : decode cL_law 2088 = .ok (.iload 5, 2) := by decide +kernel
theorem dL_law_2090 : decode cL_law 2090 = .ok (.ifCond .ne 15, 3) := by decide +kernel
theorem dL_law_2093 : decode cL_law 2093 = .ok (.aload_n 3, 1) := by decide +kernel
theorem dL_law_2094 : decode cL_law 2094 = .ok (.iconst 0, 1) := by decide +kernel
theorem dL_law_2095 : decode cL_law 2095 = .ok (.laload, 1) := by decide +kernel
theorem dL_law_2096 : decode cL_law 2096 = .ok (.iload 6, 2) := by decide +kernel
theorem dL_law_2098 : decode cL_law 2098 = .ok (.i2l, 1) := by decide +kernel
theorem dL_law_2099 : decode cL_law 2099 = .ok (.lcmp, 1) := by decide +kernel
theorem dL_law_2100 : decode cL_law 2100 = .ok (.ifCond .eq 5, 3) := by decide +kernel
theorem dL_law_2103 : decode cL_law 2103 = .ok (.iconst 0, 1) := by decide +kernel
theorem dL_law_2104 : decode cL_law 2104 = .ok (.ireturn, 1) := by decide +kernel
theorem dL_law_2105 : decode cL_law 2105 = .ok (.goto 27, 3) := by decide +kernel
theorem dL_law_2108 : decode cL_law 2108 = .ok (.aload_n 1, 1) := by decide +kernel
theorem dL_law_2109 : decode cL_law 2109 = .ok (.invokevirtual 224, 3) := by decide +kernel
theorem dL_law_2112 : decode cL_law 2112 = .ok (.aload_n 2, 1) := by decide +kernel
theorem dL_law_2113 : decode cL_law 2113 = .ok (.invokevirtual 227, 3) := by decide +kernel
theorem dL_law_2116 : decode cL_law 2116 = .ok (.goto 16, 3) := by decide +kernel
theorem dL_law_2119 : decode cL_law 2119 = .ok (.aload_n 1, 1) := by decide +kernel
theorem dL_law_2120 : decode cL_law 2120 = .ok (.invokevirtual 228, 3) := by decide +kernel
theorem dL_law_2123 : decode cL_law 2123 = .ok (.aload_n 2, 1) := by decide +kernel
theorem dL_law_2124 : decode cL_law 2124 = .ok (.invokevirtual 232, 3) := by decide +kernel
theorem dL_law_2127 : decode cL_law 2127 = .ok (.if_icmp .eq 5, 3) := by decide +kernel
theorem dL_law_2130 : decode cL_law 2130 = .ok (.iconst 0, 1) := by decide +kernel
theorem dL_law_2131 : decode cL_law 2131 = .ok (.ireturn, 1) := by decide +kernel
theorem dL_law_2132 : decode cL_law 2132 = .ok (.iinc 4 6, 3) := by decide +kernel
theorem dL_law_2135 : decode cL_law 2135 = .ok (.goto (-2112), 3) := by decide +kernel
theorem dL_law_2138 : decode cL_law 2138 = .ok (.iconst 1, 1) := by decide +kernel
theorem dL_law_2139 : decode cL_law 2139 = .ok (.ireturn, 1) := by decide +kernel

abbrev lpost : am_Post := fun y _ _ _ _ _ => y = .inl (some (.int 1))
abbrev RuL (K : (Nat → ClassId) → Prop) (kc ks pc : Nat) (ls : List (Option Value)) (st : List Value) (n : Nat) (kd : mK) (I : mI) (J : mJ) (P : mP) : Prop := RuZ (K, []) RL cL_law 7 (some .boolean) "law" 70 lpost kc ks pc ls st n kd I J P
set_option maxHeartbeats 4000000 in
set_option maxRecDepth 100000 in
theorem ld_feed (o i L : Nat) {K : (Nat → ClassId) → Prop} {xs : Nat → Int32} {kc ks : Nat} {z5 z6 : Option Value} {n : Nat} {kd : mK} {I : mI} {J : mJ} {P : mP} (hZ : ∀ cA : Nat → ClassId, K cA → cA 301 = L ∧ ∀ j, nI (cA (310 + j)) = xs j) (hi : i + 6 ≤ L) (hL : L ≤ 3072) (h : stW o n kd I J P) (hn9 : n < 900000) (hk : ∀ n' kd' I' J' P' z5 z6, n ≤ n' → n' ≤ n + 1 → stW o n' kd' I' J' P' → RuL K kc ks 2132 [some (.ref 1000200), some (.ref o), some (.ref (o + 69)), some (.ref (o + 125)), some (.int (nI i)), z5, z6] [] n' kd' I' J' P') : RuL K (kc + 1) (ks + 10240) 200 [some (.ref 1000200), some (.ref o), some (.ref (o + 69)), some (.ref (o + 125)), some (.int (nI i)), z5, z6] [] n kd I J P := by
  have hko := h.k.1
  have hout := h.2.1
  have ho9 := h.2.2
  obtain ⟨d2, mc, ms, d3, v, w, C, D, ⟨b2, b3, b4, b5, rfl⟩, hW, hR, hN⟩ := ow_feed o (xs (i + 1)) (xs (i + 2)) (xs (i + 3)) (xs (i + 4)) (xs (i + 5)) h hn9
  refine r_aload_n dL_law_200 rfl ?_
  refine r_aload_n dL_law_201 rfl ?_
  refine r_iload dL_law_202 rfl ?_
  refine r_iconst (v := nI 1) dL_law_204 (by decide) ?_
  refine r_iadd dL_law_205 ?_
  rw [show nI i + nI 1 = nI (i + 1) from nI_add i 1]
  refine r_sld hZ dL_law_206 (nI_in8 L (by omega) (by omega)) (nI_clamp (by omega)) ?_
  refine r_aload_n dL_law_207 rfl ?_
  refine r_iload dL_law_208 rfl ?_
  refine r_iconst (v := nI 2) dL_law_210 (by decide) ?_
  refine r_iadd dL_law_211 ?_
  rw [show nI i + nI 2 = nI (i + 2) from nI_add i 2]
  refine r_sld hZ dL_law_212 (nI_in8 L (by omega) (by omega)) (nI_clamp (by omega)) ?_
  refine r_aload_n dL_law_213 rfl ?_
  refine r_iload dL_law_214 rfl ?_
  refine r_iconst (v := nI 3) dL_law_216 (by decide) ?_
  refine r_iadd dL_law_217 ?_
  rw [show nI i + nI 3 = nI (i + 3) from nI_add i 3]
  refine r_sld hZ dL_law_218 (nI_in8 L (by omega) (by omega)) (nI_clamp (by omega)) ?_
  refine r_aload_n dL_law_219 rfl ?_
  refine r_iload dL_law_220 rfl ?_
  refine r_iconst (v := nI 4) dL_law_222 (by decide) ?_
  refine r_iadd dL_law_223 ?_
  rw [show nI i + nI 4 = nI (i + 4) from nI_add i 4]
  refine r_sld hZ dL_law_224 (nI_in8 L (by omega) (by omega)) (nI_clamp (by omega)) ?_
  refine r_aload_n dL_law_225 rfl ?_
  refine r_iload dL_law_226 rfl ?_
  refine r_iconst (v := nI 5) dL_law_228 (by decide) ?_
  refine r_iadd dL_law_229 ?_
  rw [show nI i + nI 5 = nI (i + 5) from nI_add i 5]
  refine r_sld hZ dL_law_230 (nI_in8 L (by omega) (by omega)) (nI_clamp (by omega)) ?_
  refine r_virt (kc2 := kc) (ks2 := ks) hW lk_L_98 mc_X9_feed dL_law_231 hko (by omega) rfl rfl (Nat.le_of_ble_eq_true rfl) (by omega) (by omega) (fun _ _ _ _ _ _ q => nomatch q.1) ?_
  rintro y n1 kd1 I1 J1 P1 ⟨q0, g1, g3, g2, g4⟩
  cases q0
  simp only [Option.toList, List.cons_append, List.nil_append]
  have hs : sameM (o + 69) kd kd1 I I1 P P1 := fun a x1 x2 => ⟨(g2 a (by omega) (by omega)).1, (g2 a (by omega) (by omega)).2.1, (g2 a (by omega) (by omega)).2.2.2⟩
  have hM1 := h.m hs
  have ho1 : kd1 (o + 125) = some (4, 1) := by rw [(g2 (o + 125) (by omega) (by omega)).1]; exact hout
  refine r_aload_n dL_law_234 rfl ?_
  refine r_aload_n dL_law_235 rfl ?_
  refine r_iload dL_law_236 rfl ?_
  refine r_iconst (v := nI 1) dL_law_238 (by decide) ?_
  refine r_iadd dL_law_239 ?_
  rw [show nI i + nI 1 = nI (i + 1) from nI_add i 1]
  refine r_sld hZ dL_law_240 (nI_in8 L (by omega) (by omega)) (nI_clamp (by omega)) ?_
  refine r_aload_n dL_law_241 rfl ?_
  refine r_iload dL_law_242 rfl ?_
  refine r_iconst (v := nI 2) dL_law_244 (by decide) ?_
  refine r_iadd dL_law_245 ?_
  rw [show nI i + nI 2 = nI (i + 2) from nI_add i 2]
  refine r_sld hZ dL_law_246 (nI_in8 L (by omega) (by omega)) (nI_clamp (by omega)) ?_
  refine r_aload_n dL_law_247 rfl ?_
  refine r_iload dL_law_248 rfl ?_
  refine r_iconst (v := nI 3) dL_law_250 (by decide) ?_
  refine r_iadd dL_law_251 ?_
  rw [show nI i + nI 3 = nI (i + 3) from nI_add i 3]
  refine r_sld hZ dL_law_252 (nI_in8 L (by omega) (by omega)) (nI_clamp (by omega)) ?_
  refine r_aload_n dL_law_253 rfl ?_
  refine r_iload dL_law_254 rfl ?_
  refine r_iconst (v := nI 4) dL_law_256 (by decide) ?_
  refine r_iadd dL_law_257 ?_
  rw [show nI i + nI 4 = nI (i + 4) from nI_add i 4]
  refine r_sld hZ dL_law_258 (nI_in8 L (by omega) (by omega)) (nI_clamp (by omega)) ?_
  refine r_aload_n dL_law_259 rfl ?_
  refine r_iload dL_law_260 rfl ?_
  refine r_iconst (v := nI 5) dL_law_262 (by decide) ?_
  refine r_iadd dL_law_263 ?_
  rw [show nI i + nI 5 = nI (i + 5) from nI_add i 5]
  refine r_sld hZ dL_law_264 (nI_in8 L (by omega) (by omega)) (nI_clamp (by omega)) ?_
  refine r_virt (hR n1 kd1 I1 J1 P1 hs) lk_L_102 mc_X10_feed dL_law_265 hM1.1 (by omega) rfl rfl (Nat.le_of_ble_eq_true rfl) (Nat.le_of_eq (Nat.zero_add _)) (Nat.le_of_eq (Nat.zero_add _)) (fun _ _ _ _ _ _ q => nomatch q.1) ?_
  rintro y n2 kd2 I2 J2 P2 ⟨q0, rfl, rfl, rfl, t1, t0, t2⟩
  cases q0
  simp only [Option.toList, List.cons_append, List.nil_append]
  refine r_icmp_eq (tgt := 2132) dL_law_268 (by decide) (fun _ => ?_) (fun hz => absurd (show _ from rfl) hz)
  exact hk _ _ _ _ _ _ _ g1.1 g1.2 ⟨hN.on g4 (fun a ha => t1 a ha) t2, ho1, by omega⟩

set_option maxHeartbeats 4000000 in
set_option maxRecDepth 100000 in
theorem ld_street (o i L : Nat) {K : (Nat → ClassId) → Prop} {xs : Nat → Int32} {kc ks : Nat} {z5 z6 : Option Value} {n : Nat} {kd : mK} {I : mI} {J : mJ} {P : mP} (hZ : ∀ cA : Nat → ClassId, K cA → cA 301 = L ∧ ∀ j, nI (cA (310 + j)) = xs j) (hi : i + 6 ≤ L) (hL : L ≤ 3072) (h : stW o n kd I J P) (hn9 : n < 900000) (hk : ∀ n' kd' I' J' P' z5 z6, n ≤ n' → n' ≤ n + 1 → stW o n' kd' I' J' P' → RuL K kc ks 2132 [some (.ref 1000200), some (.ref o), some (.ref (o + 69)), some (.ref (o + 125)), some (.int (nI i)), z5, z6] [] n' kd' I' J' P') : RuL K (kc + 1) (ks + 10240) 273 [some (.ref 1000200), some (.ref o), some (.ref (o + 69)), some (.ref (o + 125)), some (.int (nI i)), z5, z6] [] n kd I J P := by
  have hko := h.k.1
  have hout := h.2.1
  have ho9 := h.2.2
  obtain ⟨k, d2, mc, ms, d3, v, w, C, D, ⟨b1, b2, b3, b4, b5, b6⟩, hW, hR, hN⟩ := ow_street o (xs (i + 1)) h hn9
  by_cases hk0 : k = 0
  · subst hk0
    have hvw := b6 rfl
    subst hvw
    refine r_aload_n dL_law_273 rfl ?_
    refine r_aload_n dL_law_274 rfl ?_
    refine r_iload dL_law_275 rfl ?_
    refine r_iconst (v := nI 1) dL_law_277 (by decide) ?_
    refine r_iadd dL_law_278 ?_
    rw [show nI i + nI 1 = nI (i + 1) from nI_add i 1]
    refine r_sld hZ dL_law_279 (nI_in8 L (by omega) (by omega)) (nI_clamp (by omega)) ?_
    refine r_aload_n dL_law_280 rfl ?_
    refine r_statW (kc2 := kc) (ks2 := ks) hW lk_L_103 mw_street dL_law_281 (by omega) rfl rfl (Nat.le_of_ble_eq_true rfl) (by omega) (by omega) (fun _ _ _ _ _ _ q => nomatch q.1) ?_
    rintro y n1 kd1 I1 J1 P1 ⟨q0, g1, g2, g3, g4⟩
    cases q0
    simp only [Option.toList, List.cons_append, List.nil_append]
    have hs : sameM (o + 69) kd kd1 I I1 P P1 := fun a x1 x2 => g2 a (by omega) (by omega)
    have hM1 := h.m hs
    have ho1 : kd1 (o + 125) = some (4, 1) := by rw [(g2 (o + 125) (by omega) (by omega)).1]; exact hout
    refine r_istore dL_law_284 (by decide) ?_
    refine r_aload_n dL_law_286 rfl ?_
    refine r_aload_n dL_law_287 rfl ?_
    refine r_iload dL_law_288 rfl ?_
    refine r_iconst (v := nI 1) dL_law_290 (by decide) ?_
    refine r_iadd dL_law_291 ?_
    rw [show nI i + nI 1 = nI (i + 1) from nI_add i 1]
    refine r_sld hZ dL_law_292 (nI_in8 L (by omega) (by omega)) (nI_clamp (by omega)) ?_
    refine r_virt (hR n1 kd1 I1 J1 P1 hs) lk_L_108 mc_X10_street dL_law_293 hM1.1 (by omega) rfl rfl (Nat.le_of_ble_eq_true rfl) (Nat.le_of_eq (Nat.zero_add _)) (Nat.le_of_eq (Nat.zero_add _)) (fun _ _ _ _ _ _ q => nomatch q.1) ?_
    rintro y n2 kd2 I2 J2 P2 ⟨q0, rfl, rfl, rfl, t1, t0, t2⟩
    cases q0
    simp only [Option.toList, List.cons_append, List.nil_append]
    refine r_istore dL_law_296 (by decide) ?_
    refine r_aload_n dL_law_298 rfl ?_
    refine r_virtE (c_X10_thrown (o + 69) hM1) lk_L_109 mc_X10_thrown dL_law_299 hM1.1 (by decide) rfl rfl (Nat.le_of_ble_eq_true rfl) ?_
    rw [t0]
    refine r_iload dL_law_302 rfl ?_
    refine r_icmp_eq (tgt := 309) dL_law_304 (by decide) (fun _ => ?_) (fun hz => absurd (show _ from rfl) hz)
    refine r_iload dL_law_309 rfl ?_
    refine r_if_ne (tgt := 326) dL_law_311 (by decide) (fun hz => absurd (show _ from rfl) hz) (fun _ => ?_)
    refine r_aload_n dL_law_314 rfl ?_
    refine r_iconst (v := nI 0) dL_law_315 (by decide) ?_
    refine r_lald dL_law_316 ho1 (nI_in8 1 (j := 0) (by decide) (by decide)) (nI_clamp (n := 0) (by decide)) ?_
    rw [show J2 (o + 125) 0 = v.toInt64 from by rw [(t1 (o + 125) (by omega)).2]; exact g3 rfl]
    refine r_iload dL_law_317 rfl ?_
    refine r_i2l dL_law_319 ?_
    refine r_lcmp dL_law_320 ?_
    refine r_if_eq (tgt := 326) dL_law_321 (by decide) (fun _ => ?_) (fun hz => absurd (show _ from ((lg_cmp_eq _ _).mpr rfl)) hz)
    refine r_goto (tgt := 2132) dL_law_326 (by decide) ?_
    exact hk _ _ _ _ _ _ _ g1.1 g1.2 ⟨hN.on g4 (fun a ha => t1 a ha) t2, ho1, by omega⟩
  · skip
    refine r_aload_n dL_law_273 rfl ?_
    refine r_aload_n dL_law_274 rfl ?_
    refine r_iload dL_law_275 rfl ?_
    refine r_iconst (v := nI 1) dL_law_277 (by decide) ?_
    refine r_iadd dL_law_278 ?_
    rw [show nI i + nI 1 = nI (i + 1) from nI_add i 1]
    refine r_sld hZ dL_law_279 (nI_in8 L (by omega) (by omega)) (nI_clamp (by omega)) ?_
    refine r_aload_n dL_law_280 rfl ?_
    refine r_statW (kc2 := kc) (ks2 := ks) hW lk_L_103 mw_street dL_law_281 (by omega) rfl rfl (Nat.le_of_ble_eq_true rfl) (by omega) (by omega) (fun _ _ _ _ _ _ q => nomatch q.1) ?_
    rintro y n1 kd1 I1 J1 P1 ⟨q0, g1, g2, g3, g4⟩
    cases q0
    simp only [Option.toList, List.cons_append, List.nil_append]
    have hs : sameM (o + 69) kd kd1 I I1 P P1 := fun a x1 x2 => g2 a (by omega) (by omega)
    have hM1 := h.m hs
    have ho1 : kd1 (o + 125) = some (4, 1) := by rw [(g2 (o + 125) (by omega) (by omega)).1]; exact hout
    refine r_istore dL_law_284 (by decide) ?_
    refine r_aload_n dL_law_286 rfl ?_
    refine r_aload_n dL_law_287 rfl ?_
    refine r_iload dL_law_288 rfl ?_
    refine r_iconst (v := nI 1) dL_law_290 (by decide) ?_
    refine r_iadd dL_law_291 ?_
    rw [show nI i + nI 1 = nI (i + 1) from nI_add i 1]
    refine r_sld hZ dL_law_292 (nI_in8 L (by omega) (by omega)) (nI_clamp (by omega)) ?_
    refine r_virt (hR n1 kd1 I1 J1 P1 hs) lk_L_108 mc_X10_street dL_law_293 hM1.1 (by omega) rfl rfl (Nat.le_of_ble_eq_true rfl) (Nat.le_of_eq (Nat.zero_add _)) (Nat.le_of_eq (Nat.zero_add _)) (fun _ _ _ _ _ _ q => nomatch q.1) ?_
    rintro y n2 kd2 I2 J2 P2 ⟨q0, rfl, rfl, rfl, t1, t0, t2⟩
    cases q0
    simp only [Option.toList, List.cons_append, List.nil_append]
    refine r_istore dL_law_296 (by decide) ?_
    refine r_aload_n dL_law_298 rfl ?_
    refine r_virtE (c_X10_thrown (o + 69) hM1) lk_L_109 mc_X10_thrown dL_law_299 hM1.1 (by decide) rfl rfl (Nat.le_of_ble_eq_true rfl) ?_
    rw [t0]
    refine r_iload dL_law_302 rfl ?_
    refine r_icmp_eq (tgt := 309) dL_law_304 (by decide) (fun _ => ?_) (fun hz => absurd (show _ from rfl) hz)
    refine r_iload dL_law_309 rfl ?_
    refine r_if_ne (tgt := 326) dL_law_311 (by decide) (fun _ => ?_) (fun hz => absurd hz (show ¬ _ from (by rw [z_eq (by omega)]; exact hk0)))
    refine r_goto (tgt := 2132) dL_law_326 (by decide) ?_
    exact hk _ _ _ _ _ _ _ g1.1 g1.2 ⟨hN.on g4 (fun a ha => t1 a ha) t2, ho1, by omega⟩

set_option maxHeartbeats 4000000 in
set_option maxRecDepth 100000 in
theorem ld_fault (o i L : Nat) {K : (Nat → ClassId) → Prop} {xs : Nat → Int32} {kc ks : Nat} {z5 z6 : Option Value} {n : Nat} {kd : mK} {I : mI} {J : mJ} {P : mP} (hZ : ∀ cA : Nat → ClassId, K cA → cA 301 = L ∧ ∀ j, nI (cA (310 + j)) = xs j) (hi : i + 6 ≤ L) (hL : L ≤ 3072) (h : stW o n kd I J P) (hn9 : n < 900000) (hk : ∀ n' kd' I' J' P' z5 z6, n ≤ n' → n' ≤ n + 1 → stW o n' kd' I' J' P' → RuL K kc ks 2132 [some (.ref 1000200), some (.ref o), some (.ref (o + 69)), some (.ref (o + 125)), some (.int (nI i)), z5, z6] [] n' kd' I' J' P') : RuL K (kc + 1) (ks + 10240) 329 [some (.ref 1000200), some (.ref o), some (.ref (o + 69)), some (.ref (o + 125)), some (.int (nI i)), z5, z6] [] n kd I J P := by
  have hko := h.k.1
  have hout := h.2.1
  have ho9 := h.2.2
  obtain ⟨d2, mc, ms, d3, v, w, C, D, ⟨b2, b3, b4, b5, rfl⟩, hW, hR, hN⟩ := ow_fault o  h hn9
  refine r_aload_n dL_law_329 rfl ?_
  refine r_virt (kc2 := kc) (ks2 := ks) hW lk_L_113 mc_X9_fault dL_law_330 hko (by omega) rfl rfl (Nat.le_of_ble_eq_true rfl) (by omega) (by omega) (fun _ _ _ _ _ _ q => nomatch q.1) ?_
  rintro y n1 kd1 I1 J1 P1 ⟨q0, g1, g3, g2, g4⟩
  cases q0
  simp only [Option.toList, List.cons_append, List.nil_append]
  have hs : sameM (o + 69) kd kd1 I I1 P P1 := fun a x1 x2 => ⟨(g2 a (by omega) (by omega)).1, (g2 a (by omega) (by omega)).2.1, (g2 a (by omega) (by omega)).2.2.2⟩
  have hM1 := h.m hs
  have ho1 : kd1 (o + 125) = some (4, 1) := by rw [(g2 (o + 125) (by omega) (by omega)).1]; exact hout
  refine r_aload_n dL_law_333 rfl ?_
  refine r_virt (hR n1 kd1 I1 J1 P1 hs) lk_L_116 mc_X10_fault dL_law_334 hM1.1 (by omega) rfl rfl (Nat.le_of_ble_eq_true rfl) (Nat.le_of_eq (Nat.zero_add _)) (Nat.le_of_eq (Nat.zero_add _)) (fun _ _ _ _ _ _ q => nomatch q.1) ?_
  rintro y n2 kd2 I2 J2 P2 ⟨q0, rfl, rfl, rfl, t1, t0, t2⟩
  cases q0
  simp only [Option.toList, List.cons_append, List.nil_append]
  refine r_icmp_eq (tgt := 2132) dL_law_337 (by decide) (fun _ => ?_) (fun hz => absurd (show _ from rfl) hz)
  exact hk _ _ _ _ _ _ _ g1.1 g1.2 ⟨hN.on g4 (fun a ha => t1 a ha) t2, ho1, by omega⟩

set_option maxHeartbeats 4000000 in
set_option maxRecDepth 100000 in
theorem ld_count (o i L : Nat) {K : (Nat → ClassId) → Prop} {xs : Nat → Int32} {kc ks : Nat} {z5 z6 : Option Value} {n : Nat} {kd : mK} {I : mI} {J : mJ} {P : mP} (hZ : ∀ cA : Nat → ClassId, K cA → cA 301 = L ∧ ∀ j, nI (cA (310 + j)) = xs j) (hi : i + 6 ≤ L) (hL : L ≤ 3072) (h : stW o n kd I J P) (hn9 : n < 900000) (hk : ∀ n' kd' I' J' P' z5 z6, n ≤ n' → n' ≤ n + 1 → stW o n' kd' I' J' P' → RuL K kc ks 2132 [some (.ref 1000200), some (.ref o), some (.ref (o + 69)), some (.ref (o + 125)), some (.int (nI i)), z5, z6] [] n' kd' I' J' P') : RuL K (kc + 1) (ks + 10240) 342 [some (.ref 1000200), some (.ref o), some (.ref (o + 69)), some (.ref (o + 125)), some (.int (nI i)), z5, z6] [] n kd I J P := by
  have hko := h.k.1
  have hout := h.2.1
  have ho9 := h.2.2
  obtain ⟨k, d2, mc, ms, d3, v, w, C, D, ⟨b1, b2, b3, b4, b5, b6⟩, hW, hR, hN⟩ := ow_count o (xs (i + 1)) h hn9
  by_cases hk0 : k = 0
  · subst hk0
    have hvw := b6 rfl
    subst hvw
    refine r_aload_n dL_law_342 rfl ?_
    refine r_aload_n dL_law_343 rfl ?_
    refine r_iload dL_law_344 rfl ?_
    refine r_iconst (v := nI 1) dL_law_346 (by decide) ?_
    refine r_iadd dL_law_347 ?_
    rw [show nI i + nI 1 = nI (i + 1) from nI_add i 1]
    refine r_sld hZ dL_law_348 (nI_in8 L (by omega) (by omega)) (nI_clamp (by omega)) ?_
    refine r_aload_n dL_law_349 rfl ?_
    refine r_statW (kc2 := kc) (ks2 := ks) hW lk_L_117 mw_count dL_law_350 (by omega) rfl rfl (Nat.le_of_ble_eq_true rfl) (by omega) (by omega) (fun _ _ _ _ _ _ q => nomatch q.1) ?_
    rintro y n1 kd1 I1 J1 P1 ⟨q0, g1, g2, g3, g4⟩
    cases q0
    simp only [Option.toList, List.cons_append, List.nil_append]
    have hs : sameM (o + 69) kd kd1 I I1 P P1 := fun a x1 x2 => g2 a (by omega) (by omega)
    have hM1 := h.m hs
    have ho1 : kd1 (o + 125) = some (4, 1) := by rw [(g2 (o + 125) (by omega) (by omega)).1]; exact hout
    refine r_istore dL_law_353 (by decide) ?_
    refine r_aload_n dL_law_355 rfl ?_
    refine r_aload_n dL_law_356 rfl ?_
    refine r_iload dL_law_357 rfl ?_
    refine r_iconst (v := nI 1) dL_law_359 (by decide) ?_
    refine r_iadd dL_law_360 ?_
    rw [show nI i + nI 1 = nI (i + 1) from nI_add i 1]
    refine r_sld hZ dL_law_361 (nI_in8 L (by omega) (by omega)) (nI_clamp (by omega)) ?_
    refine r_virt (hR n1 kd1 I1 J1 P1 hs) lk_L_119 mc_X10_count dL_law_362 hM1.1 (by omega) rfl rfl (Nat.le_of_ble_eq_true rfl) (Nat.le_of_eq (Nat.zero_add _)) (Nat.le_of_eq (Nat.zero_add _)) (fun _ _ _ _ _ _ q => nomatch q.1) ?_
    rintro y n2 kd2 I2 J2 P2 ⟨q0, rfl, rfl, rfl, t1, t0, t2⟩
    cases q0
    simp only [Option.toList, List.cons_append, List.nil_append]
    refine r_istore dL_law_365 (by decide) ?_
    refine r_aload_n dL_law_367 rfl ?_
    refine r_virtE (c_X10_thrown (o + 69) hM1) lk_L_109 mc_X10_thrown dL_law_368 hM1.1 (by decide) rfl rfl (Nat.le_of_ble_eq_true rfl) ?_
    rw [t0]
    refine r_iload dL_law_371 rfl ?_
    refine r_icmp_eq (tgt := 378) dL_law_373 (by decide) (fun _ => ?_) (fun hz => absurd (show _ from rfl) hz)
    refine r_iload dL_law_378 rfl ?_
    refine r_if_ne (tgt := 395) dL_law_380 (by decide) (fun hz => absurd (show _ from rfl) hz) (fun _ => ?_)
    refine r_aload_n dL_law_383 rfl ?_
    refine r_iconst (v := nI 0) dL_law_384 (by decide) ?_
    refine r_lald dL_law_385 ho1 (nI_in8 1 (j := 0) (by decide) (by decide)) (nI_clamp (n := 0) (by decide)) ?_
    rw [show J2 (o + 125) 0 = v.toInt64 from by rw [(t1 (o + 125) (by omega)).2]; exact g3 rfl]
    refine r_iload dL_law_386 rfl ?_
    refine r_i2l dL_law_388 ?_
    refine r_lcmp dL_law_389 ?_
    refine r_if_eq (tgt := 395) dL_law_390 (by decide) (fun _ => ?_) (fun hz => absurd (show _ from ((lg_cmp_eq _ _).mpr rfl)) hz)
    refine r_goto (tgt := 2132) dL_law_395 (by decide) ?_
    exact hk _ _ _ _ _ _ _ g1.1 g1.2 ⟨hN.on g4 (fun a ha => t1 a ha) t2, ho1, by omega⟩
  · skip
    refine r_aload_n dL_law_342 rfl ?_
    refine r_aload_n dL_law_343 rfl ?_
    refine r_iload dL_law_344 rfl ?_
    refine r_iconst (v := nI 1) dL_law_346 (by decide) ?_
    refine r_iadd dL_law_347 ?_
    rw [show nI i + nI 1 = nI (i + 1) from nI_add i 1]
    refine r_sld hZ dL_law_348 (nI_in8 L (by omega) (by omega)) (nI_clamp (by omega)) ?_
    refine r_aload_n dL_law_349 rfl ?_
    refine r_statW (kc2 := kc) (ks2 := ks) hW lk_L_117 mw_count dL_law_350 (by omega) rfl rfl (Nat.le_of_ble_eq_true rfl) (by omega) (by omega) (fun _ _ _ _ _ _ q => nomatch q.1) ?_
    rintro y n1 kd1 I1 J1 P1 ⟨q0, g1, g2, g3, g4⟩
    cases q0
    simp only [Option.toList, List.cons_append, List.nil_append]
    have hs : sameM (o + 69) kd kd1 I I1 P P1 := fun a x1 x2 => g2 a (by omega) (by omega)
    have hM1 := h.m hs
    have ho1 : kd1 (o + 125) = some (4, 1) := by rw [(g2 (o + 125) (by omega) (by omega)).1]; exact hout
    refine r_istore dL_law_353 (by decide) ?_
    refine r_aload_n dL_law_355 rfl ?_
    refine r_aload_n dL_law_356 rfl ?_
    refine r_iload dL_law_357 rfl ?_
    refine r_iconst (v := nI 1) dL_law_359 (by decide) ?_
    refine r_iadd dL_law_360 ?_
    rw [show nI i + nI 1 = nI (i + 1) from nI_add i 1]
    refine r_sld hZ dL_law_361 (nI_in8 L (by omega) (by omega)) (nI_clamp (by omega)) ?_
    refine r_virt (hR n1 kd1 I1 J1 P1 hs) lk_L_119 mc_X10_count dL_law_362 hM1.1 (by omega) rfl rfl (Nat.le_of_ble_eq_true rfl) (Nat.le_of_eq (Nat.zero_add _)) (Nat.le_of_eq (Nat.zero_add _)) (fun _ _ _ _ _ _ q => nomatch q.1) ?_
    rintro y n2 kd2 I2 J2 P2 ⟨q0, rfl, rfl, rfl, t1, t0, t2⟩
    cases q0
    simp only [Option.toList, List.cons_append, List.nil_append]
    refine r_istore dL_law_365 (by decide) ?_
    refine r_aload_n dL_law_367 rfl ?_
    refine r_virtE (c_X10_thrown (o + 69) hM1) lk_L_109 mc_X10_thrown dL_law_368 hM1.1 (by decide) rfl rfl (Nat.le_of_ble_eq_true rfl) ?_
    rw [t0]
    refine r_iload dL_law_371 rfl ?_
    refine r_icmp_eq (tgt := 378) dL_law_373 (by decide) (fun _ => ?_) (fun hz => absurd (show _ from rfl) hz)
    refine r_iload dL_law_378 rfl ?_
    refine r_if_ne (tgt := 395) dL_law_380 (by decide) (fun _ => ?_) (fun hz => absurd hz (show ¬ _ from (by rw [z_eq (by omega)]; exact hk0)))
    refine r_goto (tgt := 2132) dL_law_395 (by decide) ?_
    exact hk _ _ _ _ _ _ _ g1.1 g1.2 ⟨hN.on g4 (fun a ha => t1 a ha) t2, ho1, by omega⟩

set_option maxHeartbeats 4000000 in
set_option maxRecDepth 100000 in
theorem ld_house (o i L : Nat) {K : (Nat → ClassId) → Prop} {xs : Nat → Int32} {kc ks : Nat} {z5 z6 : Option Value} {n : Nat} {kd : mK} {I : mI} {J : mJ} {P : mP} (hZ : ∀ cA : Nat → ClassId, K cA → cA 301 = L ∧ ∀ j, nI (cA (310 + j)) = xs j) (hi : i + 6 ≤ L) (hL : L ≤ 3072) (h : stW o n kd I J P) (hn9 : n < 900000) (hk : ∀ n' kd' I' J' P' z5 z6, n ≤ n' → n' ≤ n + 1 → stW o n' kd' I' J' P' → RuL K kc ks 2132 [some (.ref 1000200), some (.ref o), some (.ref (o + 69)), some (.ref (o + 125)), some (.int (nI i)), z5, z6] [] n' kd' I' J' P') : RuL K (kc + 1) (ks + 10240) 398 [some (.ref 1000200), some (.ref o), some (.ref (o + 69)), some (.ref (o + 125)), some (.int (nI i)), z5, z6] [] n kd I J P := by
  have hko := h.k.1
  have hout := h.2.1
  have ho9 := h.2.2
  obtain ⟨k, d2, mc, ms, d3, v, w, C, D, ⟨b1, b2, b3, b4, b5, b6⟩, hW, hR, hN⟩ := ow_house o (xs (i + 1)) (xs (i + 2)) h hn9
  by_cases hk0 : k = 0
  · subst hk0
    have hvw := b6 rfl
    subst hvw
    refine r_aload_n dL_law_398 rfl ?_
    refine r_aload_n dL_law_399 rfl ?_
    refine r_iload dL_law_400 rfl ?_
    refine r_iconst (v := nI 1) dL_law_402 (by decide) ?_
    refine r_iadd dL_law_403 ?_
    rw [show nI i + nI 1 = nI (i + 1) from nI_add i 1]
    refine r_sld hZ dL_law_404 (nI_in8 L (by omega) (by omega)) (nI_clamp (by omega)) ?_
    refine r_aload_n dL_law_405 rfl ?_
    refine r_iload dL_law_406 rfl ?_
    refine r_iconst (v := nI 2) dL_law_408 (by decide) ?_
    refine r_iadd dL_law_409 ?_
    rw [show nI i + nI 2 = nI (i + 2) from nI_add i 2]
    refine r_sld hZ dL_law_410 (nI_in8 L (by omega) (by omega)) (nI_clamp (by omega)) ?_
    refine r_aload_n dL_law_411 rfl ?_
    refine r_statW (kc2 := kc) (ks2 := ks) hW lk_L_120 mw_house dL_law_412 (by omega) rfl rfl (Nat.le_of_ble_eq_true rfl) (by omega) (by omega) (fun _ _ _ _ _ _ q => nomatch q.1) ?_
    rintro y n1 kd1 I1 J1 P1 ⟨q0, g1, g2, g3, g4⟩
    cases q0
    simp only [Option.toList, List.cons_append, List.nil_append]
    have hs : sameM (o + 69) kd kd1 I I1 P P1 := fun a x1 x2 => g2 a (by omega) (by omega)
    have hM1 := h.m hs
    have ho1 : kd1 (o + 125) = some (4, 1) := by rw [(g2 (o + 125) (by omega) (by omega)).1]; exact hout
    refine r_istore dL_law_415 (by decide) ?_
    refine r_aload_n dL_law_417 rfl ?_
    refine r_aload_n dL_law_418 rfl ?_
    refine r_iload dL_law_419 rfl ?_
    refine r_iconst (v := nI 1) dL_law_421 (by decide) ?_
    refine r_iadd dL_law_422 ?_
    rw [show nI i + nI 1 = nI (i + 1) from nI_add i 1]
    refine r_sld hZ dL_law_423 (nI_in8 L (by omega) (by omega)) (nI_clamp (by omega)) ?_
    refine r_aload_n dL_law_424 rfl ?_
    refine r_iload dL_law_425 rfl ?_
    refine r_iconst (v := nI 2) dL_law_427 (by decide) ?_
    refine r_iadd dL_law_428 ?_
    rw [show nI i + nI 2 = nI (i + 2) from nI_add i 2]
    refine r_sld hZ dL_law_429 (nI_in8 L (by omega) (by omega)) (nI_clamp (by omega)) ?_
    refine r_virt (hR n1 kd1 I1 J1 P1 hs) lk_L_123 mc_X10_house dL_law_430 hM1.1 (by omega) rfl rfl (Nat.le_of_ble_eq_true rfl) (Nat.le_of_eq (Nat.zero_add _)) (Nat.le_of_eq (Nat.zero_add _)) (fun _ _ _ _ _ _ q => nomatch q.1) ?_
    rintro y n2 kd2 I2 J2 P2 ⟨q0, rfl, rfl, rfl, t1, t0, t2⟩
    cases q0
    simp only [Option.toList, List.cons_append, List.nil_append]
    refine r_istore dL_law_433 (by decide) ?_
    refine r_aload_n dL_law_435 rfl ?_
    refine r_virtE (c_X10_thrown (o + 69) hM1) lk_L_109 mc_X10_thrown dL_law_436 hM1.1 (by decide) rfl rfl (Nat.le_of_ble_eq_true rfl) ?_
    rw [t0]
    refine r_iload dL_law_439 rfl ?_
    refine r_icmp_eq (tgt := 446) dL_law_441 (by decide) (fun _ => ?_) (fun hz => absurd (show _ from rfl) hz)
    refine r_iload dL_law_446 rfl ?_
    refine r_if_ne (tgt := 463) dL_law_448 (by decide) (fun hz => absurd (show _ from rfl) hz) (fun _ => ?_)
    refine r_aload_n dL_law_451 rfl ?_
    refine r_iconst (v := nI 0) dL_law_452 (by decide) ?_
    refine r_lald dL_law_453 ho1 (nI_in8 1 (j := 0) (by decide) (by decide)) (nI_clamp (n := 0) (by decide)) ?_
    rw [show J2 (o + 125) 0 = v.toInt64 from by rw [(t1 (o + 125) (by omega)).2]; exact g3 rfl]
    refine r_iload dL_law_454 rfl ?_
    refine r_i2l dL_law_456 ?_
    refine r_lcmp dL_law_457 ?_
    refine r_if_eq (tgt := 463) dL_law_458 (by decide) (fun _ => ?_) (fun hz => absurd (show _ from ((lg_cmp_eq _ _).mpr rfl)) hz)
    refine r_goto (tgt := 2132) dL_law_463 (by decide) ?_
    exact hk _ _ _ _ _ _ _ g1.1 g1.2 ⟨hN.on g4 (fun a ha => t1 a ha) t2, ho1, by omega⟩
  · skip
    refine r_aload_n dL_law_398 rfl ?_
    refine r_aload_n dL_law_399 rfl ?_
    refine r_iload dL_law_400 rfl ?_
    refine r_iconst (v := nI 1) dL_law_402 (by decide) ?_
    refine r_iadd dL_law_403 ?_
    rw [show nI i + nI 1 = nI (i + 1) from nI_add i 1]
    refine r_sld hZ dL_law_404 (nI_in8 L (by omega) (by omega)) (nI_clamp (by omega)) ?_
    refine r_aload_n dL_law_405 rfl ?_
    refine r_iload dL_law_406 rfl ?_
    refine r_iconst (v := nI 2) dL_law_408 (by decide) ?_
    refine r_iadd dL_law_409 ?_
    rw [show nI i + nI 2 = nI (i + 2) from nI_add i 2]
    refine r_sld hZ dL_law_410 (nI_in8 L (by omega) (by omega)) (nI_clamp (by omega)) ?_
    refine r_aload_n dL_law_411 rfl ?_
    refine r_statW (kc2 := kc) (ks2 := ks) hW lk_L_120 mw_house dL_law_412 (by omega) rfl rfl (Nat.le_of_ble_eq_true rfl) (by omega) (by omega) (fun _ _ _ _ _ _ q => nomatch q.1) ?_
    rintro y n1 kd1 I1 J1 P1 ⟨q0, g1, g2, g3, g4⟩
    cases q0
    simp only [Option.toList, List.cons_append, List.nil_append]
    have hs : sameM (o + 69) kd kd1 I I1 P P1 := fun a x1 x2 => g2 a (by omega) (by omega)
    have hM1 := h.m hs
    have ho1 : kd1 (o + 125) = some (4, 1) := by rw [(g2 (o + 125) (by omega) (by omega)).1]; exact hout
    refine r_istore dL_law_415 (by decide) ?_
    refine r_aload_n dL_law_417 rfl ?_
    refine r_aload_n dL_law_418 rfl ?_
    refine r_iload dL_law_419 rfl ?_
    refine r_iconst (v := nI 1) dL_law_421 (by decide) ?_
    refine r_iadd dL_law_422 ?_
    rw [show nI i + nI 1 = nI (i + 1) from nI_add i 1]
    refine r_sld hZ dL_law_423 (nI_in8 L (by omega) (by omega)) (nI_clamp (by omega)) ?_
    refine r_aload_n dL_law_424 rfl ?_
    refine r_iload dL_law_425 rfl ?_
    refine r_iconst (v := nI 2) dL_law_427 (by decide) ?_
    refine r_iadd dL_law_428 ?_
    rw [show nI i + nI 2 = nI (i + 2) from nI_add i 2]
    refine r_sld hZ dL_law_429 (nI_in8 L (by omega) (by omega)) (nI_clamp (by omega)) ?_
    refine r_virt (hR n1 kd1 I1 J1 P1 hs) lk_L_123 mc_X10_house dL_law_430 hM1.1 (by omega) rfl rfl (Nat.le_of_ble_eq_true rfl) (Nat.le_of_eq (Nat.zero_add _)) (Nat.le_of_eq (Nat.zero_add _)) (fun _ _ _ _ _ _ q => nomatch q.1) ?_
    rintro y n2 kd2 I2 J2 P2 ⟨q0, rfl, rfl, rfl, t1, t0, t2⟩
    cases q0
    simp only [Option.toList, List.cons_append, List.nil_append]
    refine r_istore dL_law_433 (by decide) ?_
    refine r_aload_n dL_law_435 rfl ?_
    refine r_virtE (c_X10_thrown (o + 69) hM1) lk_L_109 mc_X10_thrown dL_law_436 hM1.1 (by decide) rfl rfl (Nat.le_of_ble_eq_true rfl) ?_
    rw [t0]
    refine r_iload dL_law_439 rfl ?_
    refine r_icmp_eq (tgt := 446) dL_law_441 (by decide) (fun _ => ?_) (fun hz => absurd (show _ from rfl) hz)
    refine r_iload dL_law_446 rfl ?_
    refine r_if_ne (tgt := 463) dL_law_448 (by decide) (fun _ => ?_) (fun hz => absurd hz (show ¬ _ from (by rw [z_eq (by omega)]; exact hk0)))
    refine r_goto (tgt := 2132) dL_law_463 (by decide) ?_
    exact hk _ _ _ _ _ _ _ g1.1 g1.2 ⟨hN.on g4 (fun a ha => t1 a ha) t2, ho1, by omega⟩

set_option maxHeartbeats 4000000 in
set_option maxRecDepth 100000 in
theorem ld_become (o i L : Nat) {K : (Nat → ClassId) → Prop} {xs : Nat → Int32} {kc ks : Nat} {z5 z6 : Option Value} {n : Nat} {kd : mK} {I : mI} {J : mJ} {P : mP} (hZ : ∀ cA : Nat → ClassId, K cA → cA 301 = L ∧ ∀ j, nI (cA (310 + j)) = xs j) (hi : i + 6 ≤ L) (hL : L ≤ 3072) (h : stW o n kd I J P) (hn9 : n < 900000) (hk : ∀ n' kd' I' J' P' z5 z6, n ≤ n' → n' ≤ n + 1 → stW o n' kd' I' J' P' → RuL K kc ks 2132 [some (.ref 1000200), some (.ref o), some (.ref (o + 69)), some (.ref (o + 125)), some (.int (nI i)), z5, z6] [] n' kd' I' J' P') : RuL K (kc + 1) (ks + 10240) 466 [some (.ref 1000200), some (.ref o), some (.ref (o + 69)), some (.ref (o + 125)), some (.int (nI i)), z5, z6] [] n kd I J P := by
  have hko := h.k.1
  have hout := h.2.1
  have ho9 := h.2.2
  obtain ⟨k, d2, mc, ms, d3, v, w, C, D, ⟨b1, b2, b3, b4, b5, b6⟩, hW, hR, hN⟩ := ow_become o (xs (i + 1)) (xs (i + 2)) (xs (i + 3)) h hn9
  by_cases hk0 : k = 0
  · subst hk0
    have hvw := b6 rfl
    subst hvw
    refine r_aload_n dL_law_466 rfl ?_
    refine r_aload_n dL_law_467 rfl ?_
    refine r_iload dL_law_468 rfl ?_
    refine r_iconst (v := nI 1) dL_law_470 (by decide) ?_
    refine r_iadd dL_law_471 ?_
    rw [show nI i + nI 1 = nI (i + 1) from nI_add i 1]
    refine r_sld hZ dL_law_472 (nI_in8 L (by omega) (by omega)) (nI_clamp (by omega)) ?_
    refine r_aload_n dL_law_473 rfl ?_
    refine r_iload dL_law_474 rfl ?_
    refine r_iconst (v := nI 2) dL_law_476 (by decide) ?_
    refine r_iadd dL_law_477 ?_
    rw [show nI i + nI 2 = nI (i + 2) from nI_add i 2]
    refine r_sld hZ dL_law_478 (nI_in8 L (by omega) (by omega)) (nI_clamp (by omega)) ?_
    refine r_aload_n dL_law_479 rfl ?_
    refine r_iload dL_law_480 rfl ?_
    refine r_iconst (v := nI 3) dL_law_482 (by decide) ?_
    refine r_iadd dL_law_483 ?_
    rw [show nI i + nI 3 = nI (i + 3) from nI_add i 3]
    refine r_sld hZ dL_law_484 (nI_in8 L (by omega) (by omega)) (nI_clamp (by omega)) ?_
    refine r_aload_n dL_law_485 rfl ?_
    refine r_statW (kc2 := kc) (ks2 := ks) hW lk_L_124 mw_become dL_law_486 (by omega) rfl rfl (Nat.le_of_ble_eq_true rfl) (by omega) (by omega) (fun _ _ _ _ _ _ q => nomatch q.1) ?_
    rintro y n1 kd1 I1 J1 P1 ⟨q0, g1, g2, g3, g4⟩
    cases q0
    simp only [Option.toList, List.cons_append, List.nil_append]
    have hs : sameM (o + 69) kd kd1 I I1 P P1 := fun a x1 x2 => g2 a (by omega) (by omega)
    have hM1 := h.m hs
    have ho1 : kd1 (o + 125) = some (4, 1) := by rw [(g2 (o + 125) (by omega) (by omega)).1]; exact hout
    refine r_istore dL_law_489 (by decide) ?_
    refine r_aload_n dL_law_491 rfl ?_
    refine r_aload_n dL_law_492 rfl ?_
    refine r_iload dL_law_493 rfl ?_
    refine r_iconst (v := nI 1) dL_law_495 (by decide) ?_
    refine r_iadd dL_law_496 ?_
    rw [show nI i + nI 1 = nI (i + 1) from nI_add i 1]
    refine r_sld hZ dL_law_497 (nI_in8 L (by omega) (by omega)) (nI_clamp (by omega)) ?_
    refine r_aload_n dL_law_498 rfl ?_
    refine r_iload dL_law_499 rfl ?_
    refine r_iconst (v := nI 2) dL_law_501 (by decide) ?_
    refine r_iadd dL_law_502 ?_
    rw [show nI i + nI 2 = nI (i + 2) from nI_add i 2]
    refine r_sld hZ dL_law_503 (nI_in8 L (by omega) (by omega)) (nI_clamp (by omega)) ?_
    refine r_aload_n dL_law_504 rfl ?_
    refine r_iload dL_law_505 rfl ?_
    refine r_iconst (v := nI 3) dL_law_507 (by decide) ?_
    refine r_iadd dL_law_508 ?_
    rw [show nI i + nI 3 = nI (i + 3) from nI_add i 3]
    refine r_sld hZ dL_law_509 (nI_in8 L (by omega) (by omega)) (nI_clamp (by omega)) ?_
    refine r_virt (hR n1 kd1 I1 J1 P1 hs) lk_L_127 mc_X10_become dL_law_510 hM1.1 (by omega) rfl rfl (Nat.le_of_ble_eq_true rfl) (Nat.le_of_eq (Nat.zero_add _)) (Nat.le_of_eq (Nat.zero_add _)) (fun _ _ _ _ _ _ q => nomatch q.1) ?_
    rintro y n2 kd2 I2 J2 P2 ⟨q0, rfl, rfl, rfl, t1, t0, t2⟩
    cases q0
    simp only [Option.toList, List.cons_append, List.nil_append]
    refine r_istore dL_law_513 (by decide) ?_
    refine r_aload_n dL_law_515 rfl ?_
    refine r_virtE (c_X10_thrown (o + 69) hM1) lk_L_109 mc_X10_thrown dL_law_516 hM1.1 (by decide) rfl rfl (Nat.le_of_ble_eq_true rfl) ?_
    rw [t0]
    refine r_iload dL_law_519 rfl ?_
    refine r_icmp_eq (tgt := 526) dL_law_521 (by decide) (fun _ => ?_) (fun hz => absurd (show _ from rfl) hz)
    refine r_iload dL_law_526 rfl ?_
    refine r_if_ne (tgt := 543) dL_law_528 (by decide) (fun hz => absurd (show _ from rfl) hz) (fun _ => ?_)
    refine r_aload_n dL_law_531 rfl ?_
    refine r_iconst (v := nI 0) dL_law_532 (by decide) ?_
    refine r_lald dL_law_533 ho1 (nI_in8 1 (j := 0) (by decide) (by decide)) (nI_clamp (n := 0) (by decide)) ?_
    rw [show J2 (o + 125) 0 = v.toInt64 from by rw [(t1 (o + 125) (by omega)).2]; exact g3 rfl]
    refine r_iload dL_law_534 rfl ?_
    refine r_i2l dL_law_536 ?_
    refine r_lcmp dL_law_537 ?_
    refine r_if_eq (tgt := 543) dL_law_538 (by decide) (fun _ => ?_) (fun hz => absurd (show _ from ((lg_cmp_eq _ _).mpr rfl)) hz)
    refine r_goto (tgt := 2132) dL_law_543 (by decide) ?_
    exact hk _ _ _ _ _ _ _ g1.1 g1.2 ⟨hN.on g4 (fun a ha => t1 a ha) t2, ho1, by omega⟩
  · skip
    refine r_aload_n dL_law_466 rfl ?_
    refine r_aload_n dL_law_467 rfl ?_
    refine r_iload dL_law_468 rfl ?_
    refine r_iconst (v := nI 1) dL_law_470 (by decide) ?_
    refine r_iadd dL_law_471 ?_
    rw [show nI i + nI 1 = nI (i + 1) from nI_add i 1]
    refine r_sld hZ dL_law_472 (nI_in8 L (by omega) (by omega)) (nI_clamp (by omega)) ?_
    refine r_aload_n dL_law_473 rfl ?_
    refine r_iload dL_law_474 rfl ?_
    refine r_iconst (v := nI 2) dL_law_476 (by decide) ?_
    refine r_iadd dL_law_477 ?_
    rw [show nI i + nI 2 = nI (i + 2) from nI_add i 2]
    refine r_sld hZ dL_law_478 (nI_in8 L (by omega) (by omega)) (nI_clamp (by omega)) ?_
    refine r_aload_n dL_law_479 rfl ?_
    refine r_iload dL_law_480 rfl ?_
    refine r_iconst (v := nI 3) dL_law_482 (by decide) ?_
    refine r_iadd dL_law_483 ?_
    rw [show nI i + nI 3 = nI (i + 3) from nI_add i 3]
    refine r_sld hZ dL_law_484 (nI_in8 L (by omega) (by omega)) (nI_clamp (by omega)) ?_
    refine r_aload_n dL_law_485 rfl ?_
    refine r_statW (kc2 := kc) (ks2 := ks) hW lk_L_124 mw_become dL_law_486 (by omega) rfl rfl (Nat.le_of_ble_eq_true rfl) (by omega) (by omega) (fun _ _ _ _ _ _ q => nomatch q.1) ?_
    rintro y n1 kd1 I1 J1 P1 ⟨q0, g1, g2, g3, g4⟩
    cases q0
    simp only [Option.toList, List.cons_append, List.nil_append]
    have hs : sameM (o + 69) kd kd1 I I1 P P1 := fun a x1 x2 => g2 a (by omega) (by omega)
    have hM1 := h.m hs
    have ho1 : kd1 (o + 125) = some (4, 1) := by rw [(g2 (o + 125) (by omega) (by omega)).1]; exact hout
    refine r_istore dL_law_489 (by decide) ?_
    refine r_aload_n dL_law_491 rfl ?_
    refine r_aload_n dL_law_492 rfl ?_
    refine r_iload dL_law_493 rfl ?_
    refine r_iconst (v := nI 1) dL_law_495 (by decide) ?_
    refine r_iadd dL_law_496 ?_
    rw [show nI i + nI 1 = nI (i + 1) from nI_add i 1]
    refine r_sld hZ dL_law_497 (nI_in8 L (by omega) (by omega)) (nI_clamp (by omega)) ?_
    refine r_aload_n dL_law_498 rfl ?_
    refine r_iload dL_law_499 rfl ?_
    refine r_iconst (v := nI 2) dL_law_501 (by decide) ?_
    refine r_iadd dL_law_502 ?_
    rw [show nI i + nI 2 = nI (i + 2) from nI_add i 2]
    refine r_sld hZ dL_law_503 (nI_in8 L (by omega) (by omega)) (nI_clamp (by omega)) ?_
    refine r_aload_n dL_law_504 rfl ?_
    refine r_iload dL_law_505 rfl ?_
    refine r_iconst (v := nI 3) dL_law_507 (by decide) ?_
    refine r_iadd dL_law_508 ?_
    rw [show nI i + nI 3 = nI (i + 3) from nI_add i 3]
    refine r_sld hZ dL_law_509 (nI_in8 L (by omega) (by omega)) (nI_clamp (by omega)) ?_
    refine r_virt (hR n1 kd1 I1 J1 P1 hs) lk_L_127 mc_X10_become dL_law_510 hM1.1 (by omega) rfl rfl (Nat.le_of_ble_eq_true rfl) (Nat.le_of_eq (Nat.zero_add _)) (Nat.le_of_eq (Nat.zero_add _)) (fun _ _ _ _ _ _ q => nomatch q.1) ?_
    rintro y n2 kd2 I2 J2 P2 ⟨q0, rfl, rfl, rfl, t1, t0, t2⟩
    cases q0
    simp only [Option.toList, List.cons_append, List.nil_append]
    refine r_istore dL_law_513 (by decide) ?_
    refine r_aload_n dL_law_515 rfl ?_
    refine r_virtE (c_X10_thrown (o + 69) hM1) lk_L_109 mc_X10_thrown dL_law_516 hM1.1 (by decide) rfl rfl (Nat.le_of_ble_eq_true rfl) ?_
    rw [t0]
    refine r_iload dL_law_519 rfl ?_
    refine r_icmp_eq (tgt := 526) dL_law_521 (by decide) (fun _ => ?_) (fun hz => absurd (show _ from rfl) hz)
    refine r_iload dL_law_526 rfl ?_
    refine r_if_ne (tgt := 543) dL_law_528 (by decide) (fun _ => ?_) (fun hz => absurd hz (show ¬ _ from (by rw [z_eq (by omega)]; exact hk0)))
    refine r_goto (tgt := 2132) dL_law_543 (by decide) ?_
    exact hk _ _ _ _ _ _ _ g1.1 g1.2 ⟨hN.on g4 (fun a ha => t1 a ha) t2, ho1, by omega⟩

set_option maxHeartbeats 4000000 in
set_option maxRecDepth 100000 in
theorem ld_mute (o i L : Nat) {K : (Nat → ClassId) → Prop} {xs : Nat → Int32} {kc ks : Nat} {z5 z6 : Option Value} {n : Nat} {kd : mK} {I : mI} {J : mJ} {P : mP} (hZ : ∀ cA : Nat → ClassId, K cA → cA 301 = L ∧ ∀ j, nI (cA (310 + j)) = xs j) (hi : i + 6 ≤ L) (hL : L ≤ 3072) (h : stW o n kd I J P) (hn9 : n < 900000) (hk : ∀ n' kd' I' J' P' z5 z6, n ≤ n' → n' ≤ n + 1 → stW o n' kd' I' J' P' → RuL K kc ks 2132 [some (.ref 1000200), some (.ref o), some (.ref (o + 69)), some (.ref (o + 125)), some (.int (nI i)), z5, z6] [] n' kd' I' J' P') : RuL K (kc + 1) (ks + 10240) 546 [some (.ref 1000200), some (.ref o), some (.ref (o + 69)), some (.ref (o + 125)), some (.int (nI i)), z5, z6] [] n kd I J P := by
  have hko := h.k.1
  have hout := h.2.1
  have ho9 := h.2.2
  by_cases hb : xs (i + 2) = 0
  · skip
    obtain ⟨k, d2, mc, ms, d3, v, w, C, D, ⟨b1, b2, b3, b4, b5, b6, b7⟩, hW, hR, hN⟩ := ow_mute o (xs (i + 1)) false h hn9
    by_cases hk0 : k = 0
    · subst hk0
      have hvw := b6 rfl
      subst hvw
      rcases b7 rfl with rfl | rfl
      · skip
        refine r_aload_n dL_law_546 rfl ?_
        refine r_aload_n dL_law_547 rfl ?_
        refine r_iload dL_law_548 rfl ?_
        refine r_iconst (v := nI 1) dL_law_550 (by decide) ?_
        refine r_iadd dL_law_551 ?_
        rw [show nI i + nI 1 = nI (i + 1) from nI_add i 1]
        refine r_sld hZ dL_law_552 (nI_in8 L (by omega) (by omega)) (nI_clamp (by omega)) ?_
        refine r_aload_n dL_law_553 rfl ?_
        refine r_iload dL_law_554 rfl ?_
        refine r_iconst (v := nI 2) dL_law_556 (by decide) ?_
        refine r_iadd dL_law_557 ?_
        rw [show nI i + nI 2 = nI (i + 2) from nI_add i 2]
        refine r_sld hZ dL_law_558 (nI_in8 L (by omega) (by omega)) (nI_clamp (by omega)) ?_
        refine r_if_eq (tgt := 566) dL_law_559 (by decide) (fun _ => ?_) (fun hz => absurd (show _ from hb) hz)
        refine r_iconst (v := nI 0) dL_law_566 (by decide) ?_
        refine r_aload_n dL_law_567 rfl ?_
        refine r_statW (kc2 := kc) (ks2 := ks) hW lk_L_128 mw_mute dL_law_568 (by omega) rfl rfl (Nat.le_of_ble_eq_true rfl) (by omega) (by omega) (fun _ _ _ _ _ _ q => nomatch q.1) ?_
        rintro y n1 kd1 I1 J1 P1 ⟨q0, g1, g2, g3, g4⟩
        cases q0
        simp only [Option.toList, List.cons_append, List.nil_append]
        have hs : sameM (o + 69) kd kd1 I I1 P P1 := fun a x1 x2 => g2 a (by omega) (by omega)
        have hM1 := h.m hs
        have ho1 : kd1 (o + 125) = some (4, 1) := by rw [(g2 (o + 125) (by omega) (by omega)).1]; exact hout
        refine r_istore dL_law_571 (by decide) ?_
        refine r_aload_n dL_law_573 rfl ?_
        refine r_aload_n dL_law_574 rfl ?_
        refine r_iload dL_law_575 rfl ?_
        refine r_iconst (v := nI 1) dL_law_577 (by decide) ?_
        refine r_iadd dL_law_578 ?_
        rw [show nI i + nI 1 = nI (i + 1) from nI_add i 1]
        refine r_sld hZ dL_law_579 (nI_in8 L (by omega) (by omega)) (nI_clamp (by omega)) ?_
        refine r_aload_n dL_law_580 rfl ?_
        refine r_iload dL_law_581 rfl ?_
        refine r_iconst (v := nI 2) dL_law_583 (by decide) ?_
        refine r_iadd dL_law_584 ?_
        rw [show nI i + nI 2 = nI (i + 2) from nI_add i 2]
        refine r_sld hZ dL_law_585 (nI_in8 L (by omega) (by omega)) (nI_clamp (by omega)) ?_
        refine r_if_eq (tgt := 593) dL_law_586 (by decide) (fun _ => ?_) (fun hz => absurd (show _ from hb) hz)
        refine r_iconst (v := nI 0) dL_law_593 (by decide) ?_
        refine r_virt (hR n1 kd1 I1 J1 P1 hs) lk_L_131 mc_X10_mute dL_law_594 hM1.1 (by omega) rfl rfl (Nat.le_of_ble_eq_true rfl) (Nat.le_of_eq (Nat.zero_add _)) (Nat.le_of_eq (Nat.zero_add _)) (fun _ _ _ _ _ _ q => nomatch q.1) ?_
        rintro y n2 kd2 I2 J2 P2 ⟨q0, rfl, rfl, rfl, t1, t0, t2⟩
        cases q0
        simp only [Option.toList, List.cons_append, List.nil_append]
        refine r_istore dL_law_597 (by decide) ?_
        refine r_aload_n dL_law_599 rfl ?_
        refine r_virtE (c_X10_thrown (o + 69) hM1) lk_L_109 mc_X10_thrown dL_law_600 hM1.1 (by decide) rfl rfl (Nat.le_of_ble_eq_true rfl) ?_
        rw [t0]
        refine r_iload dL_law_603 rfl ?_
        refine r_icmp_eq (tgt := 610) dL_law_605 (by decide) (fun _ => ?_) (fun hz => absurd (show _ from rfl) hz)
        refine r_iload dL_law_610 rfl ?_
        refine r_if_ne (tgt := 634) dL_law_612 (by decide) (fun hz => absurd (show _ from rfl) hz) (fun _ => ?_)
        refine r_aload_n dL_law_615 rfl ?_
        refine r_iconst (v := nI 0) dL_law_616 (by decide) ?_
        refine r_lald dL_law_617 ho1 (nI_in8 1 (j := 0) (by decide) (by decide)) (nI_clamp (n := 0) (by decide)) ?_
        rw [show J2 (o + 125) 0 = (nI 0).toInt64 from by rw [(t1 (o + 125) (by omega)).2]; exact g3 rfl]
        refine r_iload dL_law_618 rfl ?_
        refine r_if_eq (tgt := 627) dL_law_620 (by decide) (fun _ => ?_) (fun hz => absurd (show _ from (by decide)) hz)
        refine r_lconst (v := 0) dL_law_627 (by decide) ?_
        refine r_lcmp dL_law_628 ?_
        refine r_if_eq (tgt := 634) dL_law_629 (by decide) (fun _ => ?_) (fun hz => absurd (show _ from ((lg_cmp_eq _ _).mpr (by decide))) hz)
        refine r_goto (tgt := 2132) dL_law_634 (by decide) ?_
        exact hk _ _ _ _ _ _ _ g1.1 g1.2 ⟨hN.on g4 (fun a ha => t1 a ha) t2, ho1, by omega⟩
      · skip
        refine r_aload_n dL_law_546 rfl ?_
        refine r_aload_n dL_law_547 rfl ?_
        refine r_iload dL_law_548 rfl ?_
        refine r_iconst (v := nI 1) dL_law_550 (by decide) ?_
        refine r_iadd dL_law_551 ?_
        rw [show nI i + nI 1 = nI (i + 1) from nI_add i 1]
        refine r_sld hZ dL_law_552 (nI_in8 L (by omega) (by omega)) (nI_clamp (by omega)) ?_
        refine r_aload_n dL_law_553 rfl ?_
        refine r_iload dL_law_554 rfl ?_
        refine r_iconst (v := nI 2) dL_law_556 (by decide) ?_
        refine r_iadd dL_law_557 ?_
        rw [show nI i + nI 2 = nI (i + 2) from nI_add i 2]
        refine r_sld hZ dL_law_558 (nI_in8 L (by omega) (by omega)) (nI_clamp (by omega)) ?_
        refine r_if_eq (tgt := 566) dL_law_559 (by decide) (fun _ => ?_) (fun hz => absurd (show _ from hb) hz)
        refine r_iconst (v := nI 0) dL_law_566 (by decide) ?_
        refine r_aload_n dL_law_567 rfl ?_
        refine r_statW (kc2 := kc) (ks2 := ks) hW lk_L_128 mw_mute dL_law_568 (by omega) rfl rfl (Nat.le_of_ble_eq_true rfl) (by omega) (by omega) (fun _ _ _ _ _ _ q => nomatch q.1) ?_
        rintro y n1 kd1 I1 J1 P1 ⟨q0, g1, g2, g3, g4⟩
        cases q0
        simp only [Option.toList, List.cons_append, List.nil_append]
        have hs : sameM (o + 69) kd kd1 I I1 P P1 := fun a x1 x2 => g2 a (by omega) (by omega)
        have hM1 := h.m hs
        have ho1 : kd1 (o + 125) = some (4, 1) := by rw [(g2 (o + 125) (by omega) (by omega)).1]; exact hout
        refine r_istore dL_law_571 (by decide) ?_
        refine r_aload_n dL_law_573 rfl ?_
        refine r_aload_n dL_law_574 rfl ?_
        refine r_iload dL_law_575 rfl ?_
        refine r_iconst (v := nI 1) dL_law_577 (by decide) ?_
        refine r_iadd dL_law_578 ?_
        rw [show nI i + nI 1 = nI (i + 1) from nI_add i 1]
        refine r_sld hZ dL_law_579 (nI_in8 L (by omega) (by omega)) (nI_clamp (by omega)) ?_
        refine r_aload_n dL_law_580 rfl ?_
        refine r_iload dL_law_581 rfl ?_
        refine r_iconst (v := nI 2) dL_law_583 (by decide) ?_
        refine r_iadd dL_law_584 ?_
        rw [show nI i + nI 2 = nI (i + 2) from nI_add i 2]
        refine r_sld hZ dL_law_585 (nI_in8 L (by omega) (by omega)) (nI_clamp (by omega)) ?_
        refine r_if_eq (tgt := 593) dL_law_586 (by decide) (fun _ => ?_) (fun hz => absurd (show _ from hb) hz)
        refine r_iconst (v := nI 0) dL_law_593 (by decide) ?_
        refine r_virt (hR n1 kd1 I1 J1 P1 hs) lk_L_131 mc_X10_mute dL_law_594 hM1.1 (by omega) rfl rfl (Nat.le_of_ble_eq_true rfl) (Nat.le_of_eq (Nat.zero_add _)) (Nat.le_of_eq (Nat.zero_add _)) (fun _ _ _ _ _ _ q => nomatch q.1) ?_
        rintro y n2 kd2 I2 J2 P2 ⟨q0, rfl, rfl, rfl, t1, t0, t2⟩
        cases q0
        simp only [Option.toList, List.cons_append, List.nil_append]
        refine r_istore dL_law_597 (by decide) ?_
        refine r_aload_n dL_law_599 rfl ?_
        refine r_virtE (c_X10_thrown (o + 69) hM1) lk_L_109 mc_X10_thrown dL_law_600 hM1.1 (by decide) rfl rfl (Nat.le_of_ble_eq_true rfl) ?_
        rw [t0]
        refine r_iload dL_law_603 rfl ?_
        refine r_icmp_eq (tgt := 610) dL_law_605 (by decide) (fun _ => ?_) (fun hz => absurd (show _ from rfl) hz)
        refine r_iload dL_law_610 rfl ?_
        refine r_if_ne (tgt := 634) dL_law_612 (by decide) (fun hz => absurd (show _ from rfl) hz) (fun _ => ?_)
        refine r_aload_n dL_law_615 rfl ?_
        refine r_iconst (v := nI 0) dL_law_616 (by decide) ?_
        refine r_lald dL_law_617 ho1 (nI_in8 1 (j := 0) (by decide) (by decide)) (nI_clamp (n := 0) (by decide)) ?_
        rw [show J2 (o + 125) 0 = (nI 1).toInt64 from by rw [(t1 (o + 125) (by omega)).2]; exact g3 rfl]
        refine r_iload dL_law_618 rfl ?_
        refine r_if_eq (tgt := 627) dL_law_620 (by decide) (fun hz => absurd hz (show ¬ _ from (by decide))) (fun _ => ?_)
        refine r_lconst (v := 1) dL_law_623 (by decide) ?_
        refine r_goto (tgt := 628) dL_law_624 (by decide) ?_
        refine r_lcmp dL_law_628 ?_
        refine r_if_eq (tgt := 634) dL_law_629 (by decide) (fun _ => ?_) (fun hz => absurd (show _ from ((lg_cmp_eq _ _).mpr (by decide))) hz)
        refine r_goto (tgt := 2132) dL_law_634 (by decide) ?_
        exact hk _ _ _ _ _ _ _ g1.1 g1.2 ⟨hN.on g4 (fun a ha => t1 a ha) t2, ho1, by omega⟩
    · skip
      refine r_aload_n dL_law_546 rfl ?_
      refine r_aload_n dL_law_547 rfl ?_
      refine r_iload dL_law_548 rfl ?_
      refine r_iconst (v := nI 1) dL_law_550 (by decide) ?_
      refine r_iadd dL_law_551 ?_
      rw [show nI i + nI 1 = nI (i + 1) from nI_add i 1]
      refine r_sld hZ dL_law_552 (nI_in8 L (by omega) (by omega)) (nI_clamp (by omega)) ?_
      refine r_aload_n dL_law_553 rfl ?_
      refine r_iload dL_law_554 rfl ?_
      refine r_iconst (v := nI 2) dL_law_556 (by decide) ?_
      refine r_iadd dL_law_557 ?_
      rw [show nI i + nI 2 = nI (i + 2) from nI_add i 2]
      refine r_sld hZ dL_law_558 (nI_in8 L (by omega) (by omega)) (nI_clamp (by omega)) ?_
      refine r_if_eq (tgt := 566) dL_law_559 (by decide) (fun _ => ?_) (fun hz => absurd (show _ from hb) hz)
      refine r_iconst (v := nI 0) dL_law_566 (by decide) ?_
      refine r_aload_n dL_law_567 rfl ?_
      refine r_statW (kc2 := kc) (ks2 := ks) hW lk_L_128 mw_mute dL_law_568 (by omega) rfl rfl (Nat.le_of_ble_eq_true rfl) (by omega) (by omega) (fun _ _ _ _ _ _ q => nomatch q.1) ?_
      rintro y n1 kd1 I1 J1 P1 ⟨q0, g1, g2, g3, g4⟩
      cases q0
      simp only [Option.toList, List.cons_append, List.nil_append]
      have hs : sameM (o + 69) kd kd1 I I1 P P1 := fun a x1 x2 => g2 a (by omega) (by omega)
      have hM1 := h.m hs
      have ho1 : kd1 (o + 125) = some (4, 1) := by rw [(g2 (o + 125) (by omega) (by omega)).1]; exact hout
      refine r_istore dL_law_571 (by decide) ?_
      refine r_aload_n dL_law_573 rfl ?_
      refine r_aload_n dL_law_574 rfl ?_
      refine r_iload dL_law_575 rfl ?_
      refine r_iconst (v := nI 1) dL_law_577 (by decide) ?_
      refine r_iadd dL_law_578 ?_
      rw [show nI i + nI 1 = nI (i + 1) from nI_add i 1]
      refine r_sld hZ dL_law_579 (nI_in8 L (by omega) (by omega)) (nI_clamp (by omega)) ?_
      refine r_aload_n dL_law_580 rfl ?_
      refine r_iload dL_law_581 rfl ?_
      refine r_iconst (v := nI 2) dL_law_583 (by decide) ?_
      refine r_iadd dL_law_584 ?_
      rw [show nI i + nI 2 = nI (i + 2) from nI_add i 2]
      refine r_sld hZ dL_law_585 (nI_in8 L (by omega) (by omega)) (nI_clamp (by omega)) ?_
      refine r_if_eq (tgt := 593) dL_law_586 (by decide) (fun _ => ?_) (fun hz => absurd (show _ from hb) hz)
      refine r_iconst (v := nI 0) dL_law_593 (by decide) ?_
      refine r_virt (hR n1 kd1 I1 J1 P1 hs) lk_L_131 mc_X10_mute dL_law_594 hM1.1 (by omega) rfl rfl (Nat.le_of_ble_eq_true rfl) (Nat.le_of_eq (Nat.zero_add _)) (Nat.le_of_eq (Nat.zero_add _)) (fun _ _ _ _ _ _ q => nomatch q.1) ?_
      rintro y n2 kd2 I2 J2 P2 ⟨q0, rfl, rfl, rfl, t1, t0, t2⟩
      cases q0
      simp only [Option.toList, List.cons_append, List.nil_append]
      refine r_istore dL_law_597 (by decide) ?_
      refine r_aload_n dL_law_599 rfl ?_
      refine r_virtE (c_X10_thrown (o + 69) hM1) lk_L_109 mc_X10_thrown dL_law_600 hM1.1 (by decide) rfl rfl (Nat.le_of_ble_eq_true rfl) ?_
      rw [t0]
      refine r_iload dL_law_603 rfl ?_
      refine r_icmp_eq (tgt := 610) dL_law_605 (by decide) (fun _ => ?_) (fun hz => absurd (show _ from rfl) hz)
      refine r_iload dL_law_610 rfl ?_
      refine r_if_ne (tgt := 634) dL_law_612 (by decide) (fun _ => ?_) (fun hz => absurd hz (show ¬ _ from (by rw [z_eq (by omega)]; exact hk0)))
      refine r_goto (tgt := 2132) dL_law_634 (by decide) ?_
      exact hk _ _ _ _ _ _ _ g1.1 g1.2 ⟨hN.on g4 (fun a ha => t1 a ha) t2, ho1, by omega⟩
  · skip
    obtain ⟨k, d2, mc, ms, d3, v, w, C, D, ⟨b1, b2, b3, b4, b5, b6, b7⟩, hW, hR, hN⟩ := ow_mute o (xs (i + 1)) true h hn9
    by_cases hk0 : k = 0
    · subst hk0
      have hvw := b6 rfl
      subst hvw
      rcases b7 rfl with rfl | rfl
      · skip
        refine r_aload_n dL_law_546 rfl ?_
        refine r_aload_n dL_law_547 rfl ?_
        refine r_iload dL_law_548 rfl ?_
        refine r_iconst (v := nI 1) dL_law_550 (by decide) ?_
        refine r_iadd dL_law_551 ?_
        rw [show nI i + nI 1 = nI (i + 1) from nI_add i 1]
        refine r_sld hZ dL_law_552 (nI_in8 L (by omega) (by omega)) (nI_clamp (by omega)) ?_
        refine r_aload_n dL_law_553 rfl ?_
        refine r_iload dL_law_554 rfl ?_
        refine r_iconst (v := nI 2) dL_law_556 (by decide) ?_
        refine r_iadd dL_law_557 ?_
        rw [show nI i + nI 2 = nI (i + 2) from nI_add i 2]
        refine r_sld hZ dL_law_558 (nI_in8 L (by omega) (by omega)) (nI_clamp (by omega)) ?_
        refine r_if_eq (tgt := 566) dL_law_559 (by decide) (fun hz => absurd hz (show ¬ _ from hb)) (fun _ => ?_)
        refine r_iconst (v := nI 1) dL_law_562 (by decide) ?_
        refine r_goto (tgt := 567) dL_law_563 (by decide) ?_
        refine r_aload_n dL_law_567 rfl ?_
        refine r_statW (kc2 := kc) (ks2 := ks) hW lk_L_128 mw_mute dL_law_568 (by omega) rfl rfl (Nat.le_of_ble_eq_true rfl) (by omega) (by omega) (fun _ _ _ _ _ _ q => nomatch q.1) ?_
        rintro y n1 kd1 I1 J1 P1 ⟨q0, g1, g2, g3, g4⟩
        cases q0
        simp only [Option.toList, List.cons_append, List.nil_append]
        have hs : sameM (o + 69) kd kd1 I I1 P P1 := fun a x1 x2 => g2 a (by omega) (by omega)
        have hM1 := h.m hs
        have ho1 : kd1 (o + 125) = some (4, 1) := by rw [(g2 (o + 125) (by omega) (by omega)).1]; exact hout
        refine r_istore dL_law_571 (by decide) ?_
        refine r_aload_n dL_law_573 rfl ?_
        refine r_aload_n dL_law_574 rfl ?_
        refine r_iload dL_law_575 rfl ?_
        refine r_iconst (v := nI 1) dL_law_577 (by decide) ?_
        refine r_iadd dL_law_578 ?_
        rw [show nI i + nI 1 = nI (i + 1) from nI_add i 1]
        refine r_sld hZ dL_law_579 (nI_in8 L (by omega) (by omega)) (nI_clamp (by omega)) ?_
        refine r_aload_n dL_law_580 rfl ?_
        refine r_iload dL_law_581 rfl ?_
        refine r_iconst (v := nI 2) dL_law_583 (by decide) ?_
        refine r_iadd dL_law_584 ?_
        rw [show nI i + nI 2 = nI (i + 2) from nI_add i 2]
        refine r_sld hZ dL_law_585 (nI_in8 L (by omega) (by omega)) (nI_clamp (by omega)) ?_
        refine r_if_eq (tgt := 593) dL_law_586 (by decide) (fun hz => absurd hz (show ¬ _ from hb)) (fun _ => ?_)
        refine r_iconst (v := nI 1) dL_law_589 (by decide) ?_
        refine r_goto (tgt := 594) dL_law_590 (by decide) ?_
        refine r_virt (hR n1 kd1 I1 J1 P1 hs) lk_L_131 mc_X10_mute dL_law_594 hM1.1 (by omega) rfl rfl (Nat.le_of_ble_eq_true rfl) (Nat.le_of_eq (Nat.zero_add _)) (Nat.le_of_eq (Nat.zero_add _)) (fun _ _ _ _ _ _ q => nomatch q.1) ?_
        rintro y n2 kd2 I2 J2 P2 ⟨q0, rfl, rfl, rfl, t1, t0, t2⟩
        cases q0
        simp only [Option.toList, List.cons_append, List.nil_append]
        refine r_istore dL_law_597 (by decide) ?_
        refine r_aload_n dL_law_599 rfl ?_
        refine r_virtE (c_X10_thrown (o + 69) hM1) lk_L_109 mc_X10_thrown dL_law_600 hM1.1 (by decide) rfl rfl (Nat.le_of_ble_eq_true rfl) ?_
        rw [t0]
        refine r_iload dL_law_603 rfl ?_
        refine r_icmp_eq (tgt := 610) dL_law_605 (by decide) (fun _ => ?_) (fun hz => absurd (show _ from rfl) hz)
        refine r_iload dL_law_610 rfl ?_
        refine r_if_ne (tgt := 634) dL_law_612 (by decide) (fun hz => absurd (show _ from rfl) hz) (fun _ => ?_)
        refine r_aload_n dL_law_615 rfl ?_
        refine r_iconst (v := nI 0) dL_law_616 (by decide) ?_
        refine r_lald dL_law_617 ho1 (nI_in8 1 (j := 0) (by decide) (by decide)) (nI_clamp (n := 0) (by decide)) ?_
        rw [show J2 (o + 125) 0 = (nI 0).toInt64 from by rw [(t1 (o + 125) (by omega)).2]; exact g3 rfl]
        refine r_iload dL_law_618 rfl ?_
        refine r_if_eq (tgt := 627) dL_law_620 (by decide) (fun _ => ?_) (fun hz => absurd (show _ from (by decide)) hz)
        refine r_lconst (v := 0) dL_law_627 (by decide) ?_
        refine r_lcmp dL_law_628 ?_
        refine r_if_eq (tgt := 634) dL_law_629 (by decide) (fun _ => ?_) (fun hz => absurd (show _ from ((lg_cmp_eq _ _).mpr (by decide))) hz)
        refine r_goto (tgt := 2132) dL_law_634 (by decide) ?_
        exact hk _ _ _ _ _ _ _ g1.1 g1.2 ⟨hN.on g4 (fun a ha => t1 a ha) t2, ho1, by omega⟩
      · skip
        refine r_aload_n dL_law_546 rfl ?_
        refine r_aload_n dL_law_547 rfl ?_
        refine r_iload dL_law_548 rfl ?_
        refine r_iconst (v := nI 1) dL_law_550 (by decide) ?_
        refine r_iadd dL_law_551 ?_
        rw [show nI i + nI 1 = nI (i + 1) from nI_add i 1]
        refine r_sld hZ dL_law_552 (nI_in8 L (by omega) (by omega)) (nI_clamp (by omega)) ?_
        refine r_aload_n dL_law_553 rfl ?_
        refine r_iload dL_law_554 rfl ?_
        refine r_iconst (v := nI 2) dL_law_556 (by decide) ?_
        refine r_iadd dL_law_557 ?_
        rw [show nI i + nI 2 = nI (i + 2) from nI_add i 2]
        refine r_sld hZ dL_law_558 (nI_in8 L (by omega) (by omega)) (nI_clamp (by omega)) ?_
        refine r_if_eq (tgt := 566) dL_law_559 (by decide) (fun hz => absurd hz (show ¬ _ from hb)) (fun _ => ?_)
        refine r_iconst (v := nI 1) dL_law_562 (by decide) ?_
        refine r_goto (tgt := 567) dL_law_563 (by decide) ?_
        refine r_aload_n dL_law_567 rfl ?_
        refine r_statW (kc2 := kc) (ks2 := ks) hW lk_L_128 mw_mute dL_law_568 (by omega) rfl rfl (Nat.le_of_ble_eq_true rfl) (by omega) (by omega) (fun _ _ _ _ _ _ q => nomatch q.1) ?_
        rintro y n1 kd1 I1 J1 P1 ⟨q0, g1, g2, g3, g4⟩
        cases q0
        simp only [Option.toList, List.cons_append, List.nil_append]
        have hs : sameM (o + 69) kd kd1 I I1 P P1 := fun a x1 x2 => g2 a (by omega) (by omega)
        have hM1 := h.m hs
        have ho1 : kd1 (o + 125) = some (4, 1) := by rw [(g2 (o + 125) (by omega) (by omega)).1]; exact hout
        refine r_istore dL_law_571 (by decide) ?_
        refine r_aload_n dL_law_573 rfl ?_
        refine r_aload_n dL_law_574 rfl ?_
        refine r_iload dL_law_575 rfl ?_
        refine r_iconst (v := nI 1) dL_law_577 (by decide) ?_
        refine r_iadd dL_law_578 ?_
        rw [show nI i + nI 1 = nI (i + 1) from nI_add i 1]
        refine r_sld hZ dL_law_579 (nI_in8 L (by omega) (by omega)) (nI_clamp (by omega)) ?_
        refine r_aload_n dL_law_580 rfl ?_
        refine r_iload dL_law_581 rfl ?_
        refine r_iconst (v := nI 2) dL_law_583 (by decide) ?_
        refine r_iadd dL_law_584 ?_
        rw [show nI i + nI 2 = nI (i + 2) from nI_add i 2]
        refine r_sld hZ dL_law_585 (nI_in8 L (by omega) (by omega)) (nI_clamp (by omega)) ?_
        refine r_if_eq (tgt := 593) dL_law_586 (by decide) (fun hz => absurd hz (show ¬ _ from hb)) (fun _ => ?_)
        refine r_iconst (v := nI 1) dL_law_589 (by decide) ?_
        refine r_goto (tgt := 594) dL_law_590 (by decide) ?_
        refine r_virt (hR n1 kd1 I1 J1 P1 hs) lk_L_131 mc_X10_mute dL_law_594 hM1.1 (by omega) rfl rfl (Nat.le_of_ble_eq_true rfl) (Nat.le_of_eq (Nat.zero_add _)) (Nat.le_of_eq (Nat.zero_add _)) (fun _ _ _ _ _ _ q => nomatch q.1) ?_
        rintro y n2 kd2 I2 J2 P2 ⟨q0, rfl, rfl, rfl, t1, t0, t2⟩
        cases q0
        simp only [Option.toList, List.cons_append, List.nil_append]
        refine r_istore dL_law_597 (by decide) ?_
        refine r_aload_n dL_law_599 rfl ?_
        refine r_virtE (c_X10_thrown (o + 69) hM1) lk_L_109 mc_X10_thrown dL_law_600 hM1.1 (by decide) rfl rfl (Nat.le_of_ble_eq_true rfl) ?_
        rw [t0]
        refine r_iload dL_law_603 rfl ?_
        refine r_icmp_eq (tgt := 610) dL_law_605 (by decide) (fun _ => ?_) (fun hz => absurd (show _ from rfl) hz)
        refine r_iload dL_law_610 rfl ?_
        refine r_if_ne (tgt := 634) dL_law_612 (by decide) (fun hz => absurd (show _ from rfl) hz) (fun _ => ?_)
        refine r_aload_n dL_law_615 rfl ?_
        refine r_iconst (v := nI 0) dL_law_616 (by decide) ?_
        refine r_lald dL_law_617 ho1 (nI_in8 1 (j := 0) (by decide) (by decide)) (nI_clamp (n := 0) (by decide)) ?_
        rw [show J2 (o + 125) 0 = (nI 1).toInt64 from by rw [(t1 (o + 125) (by omega)).2]; exact g3 rfl]
        refine r_iload dL_law_618 rfl ?_
        refine r_if_eq (tgt := 627) dL_law_620 (by decide) (fun hz => absurd hz (show ¬ _ from (by decide))) (fun _ => ?_)
        refine r_lconst (v := 1) dL_law_623 (by decide) ?_
        refine r_goto (tgt := 628) dL_law_624 (by decide) ?_
        refine r_lcmp dL_law_628 ?_
        refine r_if_eq (tgt := 634) dL_law_629 (by decide) (fun _ => ?_) (fun hz => absurd (show _ from ((lg_cmp_eq _ _).mpr (by decide))) hz)
        refine r_goto (tgt := 2132) dL_law_634 (by decide) ?_
        exact hk _ _ _ _ _ _ _ g1.1 g1.2 ⟨hN.on g4 (fun a ha => t1 a ha) t2, ho1, by omega⟩
    · skip
      refine r_aload_n dL_law_546 rfl ?_
      refine r_aload_n dL_law_547 rfl ?_
      refine r_iload dL_law_548 rfl ?_
      refine r_iconst (v := nI 1) dL_law_550 (by decide) ?_
      refine r_iadd dL_law_551 ?_
      rw [show nI i + nI 1 = nI (i + 1) from nI_add i 1]
      refine r_sld hZ dL_law_552 (nI_in8 L (by omega) (by omega)) (nI_clamp (by omega)) ?_
      refine r_aload_n dL_law_553 rfl ?_
      refine r_iload dL_law_554 rfl ?_
      refine r_iconst (v := nI 2) dL_law_556 (by decide) ?_
      refine r_iadd dL_law_557 ?_
      rw [show nI i + nI 2 = nI (i + 2) from nI_add i 2]
      refine r_sld hZ dL_law_558 (nI_in8 L (by omega) (by omega)) (nI_clamp (by omega)) ?_
      refine r_if_eq (tgt := 566) dL_law_559 (by decide) (fun hz => absurd hz (show ¬ _ from hb)) (fun _ => ?_)
      refine r_iconst (v := nI 1) dL_law_562 (by decide) ?_
      refine r_goto (tgt := 567) dL_law_563 (by decide) ?_
      refine r_aload_n dL_law_567 rfl ?_
      refine r_statW (kc2 := kc) (ks2 := ks) hW lk_L_128 mw_mute dL_law_568 (by omega) rfl rfl (Nat.le_of_ble_eq_true rfl) (by omega) (by omega) (fun _ _ _ _ _ _ q => nomatch q.1) ?_
      rintro y n1 kd1 I1 J1 P1 ⟨q0, g1, g2, g3, g4⟩
      cases q0
      simp only [Option.toList, List.cons_append, List.nil_append]
      have hs : sameM (o + 69) kd kd1 I I1 P P1 := fun a x1 x2 => g2 a (by omega) (by omega)
      have hM1 := h.m hs
      have ho1 : kd1 (o + 125) = some (4, 1) := by rw [(g2 (o + 125) (by omega) (by omega)).1]; exact hout
      refine r_istore dL_law_571 (by decide) ?_
      refine r_aload_n dL_law_573 rfl ?_
      refine r_aload_n dL_law_574 rfl ?_
      refine r_iload dL_law_575 rfl ?_
      refine r_iconst (v := nI 1) dL_law_577 (by decide) ?_
      refine r_iadd dL_law_578 ?_
      rw [show nI i + nI 1 = nI (i + 1) from nI_add i 1]
      refine r_sld hZ dL_law_579 (nI_in8 L (by omega) (by omega)) (nI_clamp (by omega)) ?_
      refine r_aload_n dL_law_580 rfl ?_
      refine r_iload dL_law_581 rfl ?_
      refine r_iconst (v := nI 2) dL_law_583 (by decide) ?_
      refine r_iadd dL_law_584 ?_
      rw [show nI i + nI 2 = nI (i + 2) from nI_add i 2]
      refine r_sld hZ dL_law_585 (nI_in8 L (by omega) (by omega)) (nI_clamp (by omega)) ?_
      refine r_if_eq (tgt := 593) dL_law_586 (by decide) (fun hz => absurd hz (show ¬ _ from hb)) (fun _ => ?_)
      refine r_iconst (v := nI 1) dL_law_589 (by decide) ?_
      refine r_goto (tgt := 594) dL_law_590 (by decide) ?_
      refine r_virt (hR n1 kd1 I1 J1 P1 hs) lk_L_131 mc_X10_mute dL_law_594 hM1.1 (by omega) rfl rfl (Nat.le_of_ble_eq_true rfl) (Nat.le_of_eq (Nat.zero_add _)) (Nat.le_of_eq (Nat.zero_add _)) (fun _ _ _ _ _ _ q => nomatch q.1) ?_
      rintro y n2 kd2 I2 J2 P2 ⟨q0, rfl, rfl, rfl, t1, t0, t2⟩
      cases q0
      simp only [Option.toList, List.cons_append, List.nil_append]
      refine r_istore dL_law_597 (by decide) ?_
      refine r_aload_n dL_law_599 rfl ?_
      refine r_virtE (c_X10_thrown (o + 69) hM1) lk_L_109 mc_X10_thrown dL_law_600 hM1.1 (by decide) rfl rfl (Nat.le_of_ble_eq_true rfl) ?_
      rw [t0]
      refine r_iload dL_law_603 rfl ?_
      refine r_icmp_eq (tgt := 610) dL_law_605 (by decide) (fun _ => ?_) (fun hz => absurd (show _ from rfl) hz)
      refine r_iload dL_law_610 rfl ?_
      refine r_if_ne (tgt := 634) dL_law_612 (by decide) (fun _ => ?_) (fun hz => absurd hz (show ¬ _ from (by rw [z_eq (by omega)]; exact hk0)))
      refine r_goto (tgt := 2132) dL_law_634 (by decide) ?_
      exact hk _ _ _ _ _ _ _ g1.1 g1.2 ⟨hN.on g4 (fun a ha => t1 a ha) t2, ho1, by omega⟩

set_option maxHeartbeats 4000000 in
set_option maxRecDepth 100000 in
theorem ld_undo (o i L : Nat) {K : (Nat → ClassId) → Prop} {xs : Nat → Int32} {kc ks : Nat} {z5 z6 : Option Value} {n : Nat} {kd : mK} {I : mI} {J : mJ} {P : mP} (hZ : ∀ cA : Nat → ClassId, K cA → cA 301 = L ∧ ∀ j, nI (cA (310 + j)) = xs j) (hi : i + 6 ≤ L) (hL : L ≤ 3072) (h : stW o n kd I J P) (hn9 : n < 900000) (hk : ∀ n' kd' I' J' P' z5 z6, n ≤ n' → n' ≤ n + 1 → stW o n' kd' I' J' P' → RuL K kc ks 2132 [some (.ref 1000200), some (.ref o), some (.ref (o + 69)), some (.ref (o + 125)), some (.int (nI i)), z5, z6] [] n' kd' I' J' P') : RuL K (kc + 1) (ks + 10240) 637 [some (.ref 1000200), some (.ref o), some (.ref (o + 69)), some (.ref (o + 125)), some (.int (nI i)), z5, z6] [] n kd I J P := by
  have hko := h.k.1
  have hout := h.2.1
  have ho9 := h.2.2
  obtain ⟨d2, mc, ms, d3, v, w, C, D, ⟨b2, b3, b4, b5, rfl⟩, hW, hR, hN⟩ := ow_undo o  h hn9
  refine r_aload_n dL_law_637 rfl ?_
  refine r_virt (kc2 := kc) (ks2 := ks) hW lk_L_132 mc_X9_undo dL_law_638 hko (by omega) rfl rfl (Nat.le_of_ble_eq_true rfl) (by omega) (by omega) (fun _ _ _ _ _ _ q => nomatch q.1) ?_
  rintro y n1 kd1 I1 J1 P1 ⟨q0, g1, g3, g2, g4⟩
  cases q0
  simp only [Option.toList, List.cons_append, List.nil_append]
  have hs : sameM (o + 69) kd kd1 I I1 P P1 := fun a x1 x2 => ⟨(g2 a (by omega) (by omega)).1, (g2 a (by omega) (by omega)).2.1, (g2 a (by omega) (by omega)).2.2.2⟩
  have hM1 := h.m hs
  have ho1 : kd1 (o + 125) = some (4, 1) := by rw [(g2 (o + 125) (by omega) (by omega)).1]; exact hout
  refine r_aload_n dL_law_641 rfl ?_
  refine r_virt (hR n1 kd1 I1 J1 P1 hs) lk_L_135 mc_X10_undo dL_law_642 hM1.1 (by omega) rfl rfl (Nat.le_of_ble_eq_true rfl) (Nat.le_of_eq (Nat.zero_add _)) (Nat.le_of_eq (Nat.zero_add _)) (fun _ _ _ _ _ _ q => nomatch q.1) ?_
  rintro y n2 kd2 I2 J2 P2 ⟨q0, rfl, rfl, rfl, t1, t0, t2⟩
  cases q0
  simp only [Option.toList, List.cons_append, List.nil_append]
  refine r_icmp_eq (tgt := 2132) dL_law_645 (by decide) (fun _ => ?_) (fun hz => absurd (show _ from rfl) hz)
  exact hk _ _ _ _ _ _ _ g1.1 g1.2 ⟨hN.on g4 (fun a ha => t1 a ha) t2, ho1, by omega⟩

set_option maxHeartbeats 4000000 in
set_option maxRecDepth 100000 in
theorem ld_letter (o i L : Nat) {K : (Nat → ClassId) → Prop} {xs : Nat → Int32} {kc ks : Nat} {z5 z6 : Option Value} {n : Nat} {kd : mK} {I : mI} {J : mJ} {P : mP} (hZ : ∀ cA : Nat → ClassId, K cA → cA 301 = L ∧ ∀ j, nI (cA (310 + j)) = xs j) (hi : i + 6 ≤ L) (hL : L ≤ 3072) (h : stW o n kd I J P) (hn9 : n < 900000) (hk : ∀ n' kd' I' J' P' z5 z6, n ≤ n' → n' ≤ n + 1 → stW o n' kd' I' J' P' → RuL K kc ks 2132 [some (.ref 1000200), some (.ref o), some (.ref (o + 69)), some (.ref (o + 125)), some (.int (nI i)), z5, z6] [] n' kd' I' J' P') : RuL K (kc + 1) (ks + 10240) 650 [some (.ref 1000200), some (.ref o), some (.ref (o + 69)), some (.ref (o + 125)), some (.int (nI i)), z5, z6] [] n kd I J P := by
  have hko := h.k.1
  have hout := h.2.1
  have ho9 := h.2.2
  obtain ⟨k, d2, mc, ms, d3, v, w, C, D, ⟨b1, b2, b3, b4, b5, b6⟩, hW, hR, hN⟩ := ow_letter o (xs (i + 1)) (xs (i + 2)) h hn9
  by_cases hk0 : k = 0
  · subst hk0
    have hvw := b6 rfl
    subst hvw
    refine r_aload_n dL_law_650 rfl ?_
    refine r_aload_n dL_law_651 rfl ?_
    refine r_iload dL_law_652 rfl ?_
    refine r_iconst (v := nI 1) dL_law_654 (by decide) ?_
    refine r_iadd dL_law_655 ?_
    rw [show nI i + nI 1 = nI (i + 1) from nI_add i 1]
    refine r_sld hZ dL_law_656 (nI_in8 L (by omega) (by omega)) (nI_clamp (by omega)) ?_
    refine r_aload_n dL_law_657 rfl ?_
    refine r_iload dL_law_658 rfl ?_
    refine r_iconst (v := nI 2) dL_law_660 (by decide) ?_
    refine r_iadd dL_law_661 ?_
    rw [show nI i + nI 2 = nI (i + 2) from nI_add i 2]
    refine r_sld hZ dL_law_662 (nI_in8 L (by omega) (by omega)) (nI_clamp (by omega)) ?_
    refine r_aload_n dL_law_663 rfl ?_
    refine r_statW (kc2 := kc) (ks2 := ks) hW lk_L_136 mw_letter dL_law_664 (by omega) rfl rfl (Nat.le_of_ble_eq_true rfl) (by omega) (by omega) (fun _ _ _ _ _ _ q => nomatch q.1) ?_
    rintro y n1 kd1 I1 J1 P1 ⟨q0, g1, g2, g3, g4⟩
    cases q0
    simp only [Option.toList, List.cons_append, List.nil_append]
    have hs : sameM (o + 69) kd kd1 I I1 P P1 := fun a x1 x2 => g2 a (by omega) (by omega)
    have hM1 := h.m hs
    have ho1 : kd1 (o + 125) = some (4, 1) := by rw [(g2 (o + 125) (by omega) (by omega)).1]; exact hout
    refine r_istore dL_law_667 (by decide) ?_
    refine r_aload_n dL_law_669 rfl ?_
    refine r_aload_n dL_law_670 rfl ?_
    refine r_iload dL_law_671 rfl ?_
    refine r_iconst (v := nI 1) dL_law_673 (by decide) ?_
    refine r_iadd dL_law_674 ?_
    rw [show nI i + nI 1 = nI (i + 1) from nI_add i 1]
    refine r_sld hZ dL_law_675 (nI_in8 L (by omega) (by omega)) (nI_clamp (by omega)) ?_
    refine r_aload_n dL_law_676 rfl ?_
    refine r_iload dL_law_677 rfl ?_
    refine r_iconst (v := nI 2) dL_law_679 (by decide) ?_
    refine r_iadd dL_law_680 ?_
    rw [show nI i + nI 2 = nI (i + 2) from nI_add i 2]
    refine r_sld hZ dL_law_681 (nI_in8 L (by omega) (by omega)) (nI_clamp (by omega)) ?_
    refine r_virt (hR n1 kd1 I1 J1 P1 hs) lk_L_138 mc_X10_letter dL_law_682 hM1.1 (by omega) rfl rfl (Nat.le_of_ble_eq_true rfl) (Nat.le_of_eq (Nat.zero_add _)) (Nat.le_of_eq (Nat.zero_add _)) (fun _ _ _ _ _ _ q => nomatch q.1) ?_
    rintro y n2 kd2 I2 J2 P2 ⟨q0, rfl, rfl, rfl, t1, t0, t2⟩
    cases q0
    simp only [Option.toList, List.cons_append, List.nil_append]
    refine r_istore dL_law_685 (by decide) ?_
    refine r_aload_n dL_law_687 rfl ?_
    refine r_virtE (c_X10_thrown (o + 69) hM1) lk_L_109 mc_X10_thrown dL_law_688 hM1.1 (by decide) rfl rfl (Nat.le_of_ble_eq_true rfl) ?_
    rw [t0]
    refine r_iload dL_law_691 rfl ?_
    refine r_icmp_eq (tgt := 698) dL_law_693 (by decide) (fun _ => ?_) (fun hz => absurd (show _ from rfl) hz)
    refine r_iload dL_law_698 rfl ?_
    refine r_if_ne (tgt := 715) dL_law_700 (by decide) (fun hz => absurd (show _ from rfl) hz) (fun _ => ?_)
    refine r_aload_n dL_law_703 rfl ?_
    refine r_iconst (v := nI 0) dL_law_704 (by decide) ?_
    refine r_lald dL_law_705 ho1 (nI_in8 1 (j := 0) (by decide) (by decide)) (nI_clamp (n := 0) (by decide)) ?_
    rw [show J2 (o + 125) 0 = v.toInt64 from by rw [(t1 (o + 125) (by omega)).2]; exact g3 rfl]
    refine r_iload dL_law_706 rfl ?_
    refine r_i2l dL_law_708 ?_
    refine r_lcmp dL_law_709 ?_
    refine r_if_eq (tgt := 715) dL_law_710 (by decide) (fun _ => ?_) (fun hz => absurd (show _ from ((lg_cmp_eq _ _).mpr rfl)) hz)
    refine r_goto (tgt := 2132) dL_law_715 (by decide) ?_
    exact hk _ _ _ _ _ _ _ g1.1 g1.2 ⟨hN.on g4 (fun a ha => t1 a ha) t2, ho1, by omega⟩
  · skip
    refine r_aload_n dL_law_650 rfl ?_
    refine r_aload_n dL_law_651 rfl ?_
    refine r_iload dL_law_652 rfl ?_
    refine r_iconst (v := nI 1) dL_law_654 (by decide) ?_
    refine r_iadd dL_law_655 ?_
    rw [show nI i + nI 1 = nI (i + 1) from nI_add i 1]
    refine r_sld hZ dL_law_656 (nI_in8 L (by omega) (by omega)) (nI_clamp (by omega)) ?_
    refine r_aload_n dL_law_657 rfl ?_
    refine r_iload dL_law_658 rfl ?_
    refine r_iconst (v := nI 2) dL_law_660 (by decide) ?_
    refine r_iadd dL_law_661 ?_
    rw [show nI i + nI 2 = nI (i + 2) from nI_add i 2]
    refine r_sld hZ dL_law_662 (nI_in8 L (by omega) (by omega)) (nI_clamp (by omega)) ?_
    refine r_aload_n dL_law_663 rfl ?_
    refine r_statW (kc2 := kc) (ks2 := ks) hW lk_L_136 mw_letter dL_law_664 (by omega) rfl rfl (Nat.le_of_ble_eq_true rfl) (by omega) (by omega) (fun _ _ _ _ _ _ q => nomatch q.1) ?_
    rintro y n1 kd1 I1 J1 P1 ⟨q0, g1, g2, g3, g4⟩
    cases q0
    simp only [Option.toList, List.cons_append, List.nil_append]
    have hs : sameM (o + 69) kd kd1 I I1 P P1 := fun a x1 x2 => g2 a (by omega) (by omega)
    have hM1 := h.m hs
    have ho1 : kd1 (o + 125) = some (4, 1) := by rw [(g2 (o + 125) (by omega) (by omega)).1]; exact hout
    refine r_istore dL_law_667 (by decide) ?_
    refine r_aload_n dL_law_669 rfl ?_
    refine r_aload_n dL_law_670 rfl ?_
    refine r_iload dL_law_671 rfl ?_
    refine r_iconst (v := nI 1) dL_law_673 (by decide) ?_
    refine r_iadd dL_law_674 ?_
    rw [show nI i + nI 1 = nI (i + 1) from nI_add i 1]
    refine r_sld hZ dL_law_675 (nI_in8 L (by omega) (by omega)) (nI_clamp (by omega)) ?_
    refine r_aload_n dL_law_676 rfl ?_
    refine r_iload dL_law_677 rfl ?_
    refine r_iconst (v := nI 2) dL_law_679 (by decide) ?_
    refine r_iadd dL_law_680 ?_
    rw [show nI i + nI 2 = nI (i + 2) from nI_add i 2]
    refine r_sld hZ dL_law_681 (nI_in8 L (by omega) (by omega)) (nI_clamp (by omega)) ?_
    refine r_virt (hR n1 kd1 I1 J1 P1 hs) lk_L_138 mc_X10_letter dL_law_682 hM1.1 (by omega) rfl rfl (Nat.le_of_ble_eq_true rfl) (Nat.le_of_eq (Nat.zero_add _)) (Nat.le_of_eq (Nat.zero_add _)) (fun _ _ _ _ _ _ q => nomatch q.1) ?_
    rintro y n2 kd2 I2 J2 P2 ⟨q0, rfl, rfl, rfl, t1, t0, t2⟩
    cases q0
    simp only [Option.toList, List.cons_append, List.nil_append]
    refine r_istore dL_law_685 (by decide) ?_
    refine r_aload_n dL_law_687 rfl ?_
    refine r_virtE (c_X10_thrown (o + 69) hM1) lk_L_109 mc_X10_thrown dL_law_688 hM1.1 (by decide) rfl rfl (Nat.le_of_ble_eq_true rfl) ?_
    rw [t0]
    refine r_iload dL_law_691 rfl ?_
    refine r_icmp_eq (tgt := 698) dL_law_693 (by decide) (fun _ => ?_) (fun hz => absurd (show _ from rfl) hz)
    refine r_iload dL_law_698 rfl ?_
    refine r_if_ne (tgt := 715) dL_law_700 (by decide) (fun _ => ?_) (fun hz => absurd hz (show ¬ _ from (by rw [z_eq (by omega)]; exact hk0)))
    refine r_goto (tgt := 2132) dL_law_715 (by decide) ?_
    exact hk _ _ _ _ _ _ _ g1.1 g1.2 ⟨hN.on g4 (fun a ha => t1 a ha) t2, ho1, by omega⟩

set_option maxHeartbeats 4000000 in
set_option maxRecDepth 100000 in
theorem ld_unletter (o i L : Nat) {K : (Nat → ClassId) → Prop} {xs : Nat → Int32} {kc ks : Nat} {z5 z6 : Option Value} {n : Nat} {kd : mK} {I : mI} {J : mJ} {P : mP} (hZ : ∀ cA : Nat → ClassId, K cA → cA 301 = L ∧ ∀ j, nI (cA (310 + j)) = xs j) (hi : i + 6 ≤ L) (hL : L ≤ 3072) (h : stW o n kd I J P) (hn9 : n < 900000) (hk : ∀ n' kd' I' J' P' z5 z6, n ≤ n' → n' ≤ n + 1 → stW o n' kd' I' J' P' → RuL K kc ks 2132 [some (.ref 1000200), some (.ref o), some (.ref (o + 69)), some (.ref (o + 125)), some (.int (nI i)), z5, z6] [] n' kd' I' J' P') : RuL K (kc + 1) (ks + 10240) 718 [some (.ref 1000200), some (.ref o), some (.ref (o + 69)), some (.ref (o + 125)), some (.int (nI i)), z5, z6] [] n kd I J P := by
  have hko := h.k.1
  have hout := h.2.1
  have ho9 := h.2.2
  obtain ⟨d2, mc, ms, d3, v, w, C, D, ⟨b2, b3, b4, b5, rfl⟩, hW, hR, hN⟩ := ow_unletter o  h hn9
  refine r_aload_n dL_law_718 rfl ?_
  refine r_virt (kc2 := kc) (ks2 := ks) hW lk_L_139 mc_X9_unletter dL_law_719 hko (by omega) rfl rfl (Nat.le_of_ble_eq_true rfl) (by omega) (by omega) (fun _ _ _ _ _ _ q => nomatch q.1) ?_
  rintro y n1 kd1 I1 J1 P1 ⟨q0, g1, g3, g2, g4⟩
  cases q0
  simp only [Option.toList, List.cons_append, List.nil_append]
  have hs : sameM (o + 69) kd kd1 I I1 P P1 := fun a x1 x2 => ⟨(g2 a (by omega) (by omega)).1, (g2 a (by omega) (by omega)).2.1, (g2 a (by omega) (by omega)).2.2.2⟩
  have hM1 := h.m hs
  have ho1 : kd1 (o + 125) = some (4, 1) := by rw [(g2 (o + 125) (by omega) (by omega)).1]; exact hout
  refine r_aload_n dL_law_722 rfl ?_
  refine r_virt (hR n1 kd1 I1 J1 P1 hs) lk_L_142 mc_X10_unletter dL_law_723 hM1.1 (by omega) rfl rfl (Nat.le_of_ble_eq_true rfl) (Nat.le_of_eq (Nat.zero_add _)) (Nat.le_of_eq (Nat.zero_add _)) (fun _ _ _ _ _ _ q => nomatch q.1) ?_
  rintro y n2 kd2 I2 J2 P2 ⟨q0, rfl, rfl, rfl, t1, t0, t2⟩
  cases q0
  simp only [Option.toList, List.cons_append, List.nil_append]
  refine r_icmp_eq (tgt := 2132) dL_law_726 (by decide) (fun _ => ?_) (fun hz => absurd (show _ from rfl) hz)
  exact hk _ _ _ _ _ _ _ g1.1 g1.2 ⟨hN.on g4 (fun a ha => t1 a ha) t2, ho1, by omega⟩

set_option maxHeartbeats 4000000 in
set_option maxRecDepth 100000 in
theorem ld_numberings (o i L : Nat) {K : (Nat → ClassId) → Prop} {xs : Nat → Int32} {kc ks : Nat} {z5 z6 : Option Value} {n : Nat} {kd : mK} {I : mI} {J : mJ} {P : mP} (hZ : ∀ cA : Nat → ClassId, K cA → cA 301 = L ∧ ∀ j, nI (cA (310 + j)) = xs j) (hi : i + 6 ≤ L) (hL : L ≤ 3072) (h : stW o n kd I J P) (hn9 : n < 900000) (hk : ∀ n' kd' I' J' P' z5 z6, n ≤ n' → n' ≤ n + 1 → stW o n' kd' I' J' P' → RuL K kc ks 2132 [some (.ref 1000200), some (.ref o), some (.ref (o + 69)), some (.ref (o + 125)), some (.int (nI i)), z5, z6] [] n' kd' I' J' P') : RuL K (kc + 1) (ks + 10240) 731 [some (.ref 1000200), some (.ref o), some (.ref (o + 69)), some (.ref (o + 125)), some (.int (nI i)), z5, z6] [] n kd I J P := by
  have hko := h.k.1
  have hout := h.2.1
  have ho9 := h.2.2
  obtain ⟨d2, mc, ms, d3, v, w, C, D, ⟨b2, b3, b4, b5, rfl⟩, hW, hR, hN⟩ := ow_numberings o  h hn9
  refine r_aload_n dL_law_731 rfl ?_
  refine r_virt (kc2 := kc) (ks2 := ks) hW lk_L_143 mc_X9_numberings dL_law_732 hko (by omega) rfl rfl (Nat.le_of_ble_eq_true rfl) (by omega) (by omega) (fun _ _ _ _ _ _ q => nomatch q.1) ?_
  rintro y n1 kd1 I1 J1 P1 ⟨q0, g1, g3, g2, g4⟩
  cases q0
  simp only [Option.toList, List.cons_append, List.nil_append]
  have hs : sameM (o + 69) kd kd1 I I1 P P1 := fun a x1 x2 => ⟨(g2 a (by omega) (by omega)).1, (g2 a (by omega) (by omega)).2.1, (g2 a (by omega) (by omega)).2.2.2⟩
  have hM1 := h.m hs
  have ho1 : kd1 (o + 125) = some (4, 1) := by rw [(g2 (o + 125) (by omega) (by omega)).1]; exact hout
  refine r_aload_n dL_law_735 rfl ?_
  refine r_virt (hR n1 kd1 I1 J1 P1 hs) lk_L_146 mc_X10_numberings dL_law_736 hM1.1 (by omega) rfl rfl (Nat.le_of_ble_eq_true rfl) (Nat.le_of_eq (Nat.zero_add _)) (Nat.le_of_eq (Nat.zero_add _)) (fun _ _ _ _ _ _ q => nomatch q.1) ?_
  rintro y n2 kd2 I2 J2 P2 ⟨q0, rfl, rfl, rfl, t1, t0, t2⟩
  cases q0
  simp only [Option.toList, List.cons_append, List.nil_append]
  refine r_icmp_eq (tgt := 2132) dL_law_739 (by decide) (fun _ => ?_) (fun hz => absurd (show _ from rfl) hz)
  exact hk _ _ _ _ _ _ _ g1.1 g1.2 ⟨hN.on g4 (fun a ha => t1 a ha) t2, ho1, by omega⟩

set_option maxHeartbeats 4000000 in
set_option maxRecDepth 100000 in
theorem ld_tries (o i L : Nat) {K : (Nat → ClassId) → Prop} {xs : Nat → Int32} {kc ks : Nat} {z5 z6 : Option Value} {n : Nat} {kd : mK} {I : mI} {J : mJ} {P : mP} (hZ : ∀ cA : Nat → ClassId, K cA → cA 301 = L ∧ ∀ j, nI (cA (310 + j)) = xs j) (hi : i + 6 ≤ L) (hL : L ≤ 3072) (h : stW o n kd I J P) (hn9 : n < 900000) (hk : ∀ n' kd' I' J' P' z5 z6, n ≤ n' → n' ≤ n + 1 → stW o n' kd' I' J' P' → RuL K kc ks 2132 [some (.ref 1000200), some (.ref o), some (.ref (o + 69)), some (.ref (o + 125)), some (.int (nI i)), z5, z6] [] n' kd' I' J' P') : RuL K (kc + 1) (ks + 10240) 744 [some (.ref 1000200), some (.ref o), some (.ref (o + 69)), some (.ref (o + 125)), some (.int (nI i)), z5, z6] [] n kd I J P := by
  have hko := h.k.1
  have hout := h.2.1
  have ho9 := h.2.2
  obtain ⟨d2, mc, ms, d3, v, w, C, D, ⟨b2, b3, b4, b5, rfl⟩, hW, hR, hN⟩ := ow_tries o  h hn9
  refine r_aload_n dL_law_744 rfl ?_
  refine r_virt (kc2 := kc) (ks2 := ks) hW lk_L_147 mc_X9_tries dL_law_745 hko (by omega) rfl rfl (Nat.le_of_ble_eq_true rfl) (by omega) (by omega) (fun _ _ _ _ _ _ q => nomatch q.1) ?_
  rintro y n1 kd1 I1 J1 P1 ⟨q0, g1, g3, g2, g4⟩
  cases q0
  simp only [Option.toList, List.cons_append, List.nil_append]
  have hs : sameM (o + 69) kd kd1 I I1 P P1 := fun a x1 x2 => ⟨(g2 a (by omega) (by omega)).1, (g2 a (by omega) (by omega)).2.1, (g2 a (by omega) (by omega)).2.2.2⟩
  have hM1 := h.m hs
  have ho1 : kd1 (o + 125) = some (4, 1) := by rw [(g2 (o + 125) (by omega) (by omega)).1]; exact hout
  refine r_aload_n dL_law_748 rfl ?_
  refine r_virt (hR n1 kd1 I1 J1 P1 hs) lk_L_150 mc_X10_tries dL_law_749 hM1.1 (by omega) rfl rfl (Nat.le_of_ble_eq_true rfl) (Nat.le_of_eq (Nat.zero_add _)) (Nat.le_of_eq (Nat.zero_add _)) (fun _ _ _ _ _ _ q => nomatch q.1) ?_
  rintro y n2 kd2 I2 J2 P2 ⟨q0, rfl, rfl, rfl, t1, t0, t2⟩
  cases q0
  simp only [Option.toList, List.cons_append, List.nil_append]
  refine r_icmp_eq (tgt := 2132) dL_law_752 (by decide) (fun _ => ?_) (fun hz => absurd (show _ from rfl) hz)
  exact hk _ _ _ _ _ _ _ g1.1 g1.2 ⟨hN.on g4 (fun a ha => t1 a ha) t2, ho1, by omega⟩

set_option maxHeartbeats 4000000 in
set_option maxRecDepth 100000 in
theorem ld_number (o i L : Nat) {K : (Nat → ClassId) → Prop} {xs : Nat → Int32} {kc ks : Nat} {z5 z6 : Option Value} {n : Nat} {kd : mK} {I : mI} {J : mJ} {P : mP} (hZ : ∀ cA : Nat → ClassId, K cA → cA 301 = L ∧ ∀ j, nI (cA (310 + j)) = xs j) (hi : i + 6 ≤ L) (hL : L ≤ 3072) (h : stW o n kd I J P) (hn9 : n < 900000) (hk : ∀ n' kd' I' J' P' z5 z6, n ≤ n' → n' ≤ n + 1 → stW o n' kd' I' J' P' → RuL K kc ks 2132 [some (.ref 1000200), some (.ref o), some (.ref (o + 69)), some (.ref (o + 125)), some (.int (nI i)), z5, z6] [] n' kd' I' J' P') : RuL K (kc + 1) (ks + 10240) 757 [some (.ref 1000200), some (.ref o), some (.ref (o + 69)), some (.ref (o + 125)), some (.int (nI i)), z5, z6] [] n kd I J P := by
  have hko := h.k.1
  have hout := h.2.1
  have ho9 := h.2.2
  obtain ⟨k, d2, mc, ms, d3, v, w, C, D, ⟨b1, b2, b3, b4, b5, b6⟩, hW, hR, hN⟩ := ow_number o (xs (i + 1)) (xs (i + 2)) h hn9
  by_cases hk0 : k = 0
  · subst hk0
    have hvw := b6 rfl
    subst hvw
    refine r_aload_n dL_law_757 rfl ?_
    refine r_aload_n dL_law_758 rfl ?_
    refine r_iload dL_law_759 rfl ?_
    refine r_iconst (v := nI 1) dL_law_761 (by decide) ?_
    refine r_iadd dL_law_762 ?_
    rw [show nI i + nI 1 = nI (i + 1) from nI_add i 1]
    refine r_sld hZ dL_law_763 (nI_in8 L (by omega) (by omega)) (nI_clamp (by omega)) ?_
    refine r_aload_n dL_law_764 rfl ?_
    refine r_iload dL_law_765 rfl ?_
    refine r_iconst (v := nI 2) dL_law_767 (by decide) ?_
    refine r_iadd dL_law_768 ?_
    rw [show nI i + nI 2 = nI (i + 2) from nI_add i 2]
    refine r_sld hZ dL_law_769 (nI_in8 L (by omega) (by omega)) (nI_clamp (by omega)) ?_
    refine r_aload_n dL_law_770 rfl ?_
    refine r_statW (kc2 := kc) (ks2 := ks) hW lk_L_151 mw_number dL_law_771 (by omega) rfl rfl (Nat.le_of_ble_eq_true rfl) (by omega) (by omega) (fun _ _ _ _ _ _ q => nomatch q.1) ?_
    rintro y n1 kd1 I1 J1 P1 ⟨q0, g1, g2, g3, g4⟩
    cases q0
    simp only [Option.toList, List.cons_append, List.nil_append]
    have hs : sameM (o + 69) kd kd1 I I1 P P1 := fun a x1 x2 => g2 a (by omega) (by omega)
    have hM1 := h.m hs
    have ho1 : kd1 (o + 125) = some (4, 1) := by rw [(g2 (o + 125) (by omega) (by omega)).1]; exact hout
    refine r_istore dL_law_774 (by decide) ?_
    refine r_aload_n dL_law_776 rfl ?_
    refine r_aload_n dL_law_777 rfl ?_
    refine r_iload dL_law_778 rfl ?_
    refine r_iconst (v := nI 1) dL_law_780 (by decide) ?_
    refine r_iadd dL_law_781 ?_
    rw [show nI i + nI 1 = nI (i + 1) from nI_add i 1]
    refine r_sld hZ dL_law_782 (nI_in8 L (by omega) (by omega)) (nI_clamp (by omega)) ?_
    refine r_aload_n dL_law_783 rfl ?_
    refine r_iload dL_law_784 rfl ?_
    refine r_iconst (v := nI 2) dL_law_786 (by decide) ?_
    refine r_iadd dL_law_787 ?_
    rw [show nI i + nI 2 = nI (i + 2) from nI_add i 2]
    refine r_sld hZ dL_law_788 (nI_in8 L (by omega) (by omega)) (nI_clamp (by omega)) ?_
    refine r_virt (hR n1 kd1 I1 J1 P1 hs) lk_L_153 mc_X10_number dL_law_789 hM1.1 (by omega) rfl rfl (Nat.le_of_ble_eq_true rfl) (Nat.le_of_eq (Nat.zero_add _)) (Nat.le_of_eq (Nat.zero_add _)) (fun _ _ _ _ _ _ q => nomatch q.1) ?_
    rintro y n2 kd2 I2 J2 P2 ⟨q0, rfl, rfl, rfl, t1, t0, t2⟩
    cases q0
    simp only [Option.toList, List.cons_append, List.nil_append]
    refine r_istore dL_law_792 (by decide) ?_
    refine r_aload_n dL_law_794 rfl ?_
    refine r_virtE (c_X10_thrown (o + 69) hM1) lk_L_109 mc_X10_thrown dL_law_795 hM1.1 (by decide) rfl rfl (Nat.le_of_ble_eq_true rfl) ?_
    rw [t0]
    refine r_iload dL_law_798 rfl ?_
    refine r_icmp_eq (tgt := 805) dL_law_800 (by decide) (fun _ => ?_) (fun hz => absurd (show _ from rfl) hz)
    refine r_iload dL_law_805 rfl ?_
    refine r_if_ne (tgt := 822) dL_law_807 (by decide) (fun hz => absurd (show _ from rfl) hz) (fun _ => ?_)
    refine r_aload_n dL_law_810 rfl ?_
    refine r_iconst (v := nI 0) dL_law_811 (by decide) ?_
    refine r_lald dL_law_812 ho1 (nI_in8 1 (j := 0) (by decide) (by decide)) (nI_clamp (n := 0) (by decide)) ?_
    rw [show J2 (o + 125) 0 = v.toInt64 from by rw [(t1 (o + 125) (by omega)).2]; exact g3 rfl]
    refine r_iload dL_law_813 rfl ?_
    refine r_i2l dL_law_815 ?_
    refine r_lcmp dL_law_816 ?_
    refine r_if_eq (tgt := 822) dL_law_817 (by decide) (fun _ => ?_) (fun hz => absurd (show _ from ((lg_cmp_eq _ _).mpr rfl)) hz)
    refine r_goto (tgt := 2132) dL_law_822 (by decide) ?_
    exact hk _ _ _ _ _ _ _ g1.1 g1.2 ⟨hN.on g4 (fun a ha => t1 a ha) t2, ho1, by omega⟩
  · skip
    refine r_aload_n dL_law_757 rfl ?_
    refine r_aload_n dL_law_758 rfl ?_
    refine r_iload dL_law_759 rfl ?_
    refine r_iconst (v := nI 1) dL_law_761 (by decide) ?_
    refine r_iadd dL_law_762 ?_
    rw [show nI i + nI 1 = nI (i + 1) from nI_add i 1]
    refine r_sld hZ dL_law_763 (nI_in8 L (by omega) (by omega)) (nI_clamp (by omega)) ?_
    refine r_aload_n dL_law_764 rfl ?_
    refine r_iload dL_law_765 rfl ?_
    refine r_iconst (v := nI 2) dL_law_767 (by decide) ?_
    refine r_iadd dL_law_768 ?_
    rw [show nI i + nI 2 = nI (i + 2) from nI_add i 2]
    refine r_sld hZ dL_law_769 (nI_in8 L (by omega) (by omega)) (nI_clamp (by omega)) ?_
    refine r_aload_n dL_law_770 rfl ?_
    refine r_statW (kc2 := kc) (ks2 := ks) hW lk_L_151 mw_number dL_law_771 (by omega) rfl rfl (Nat.le_of_ble_eq_true rfl) (by omega) (by omega) (fun _ _ _ _ _ _ q => nomatch q.1) ?_
    rintro y n1 kd1 I1 J1 P1 ⟨q0, g1, g2, g3, g4⟩
    cases q0
    simp only [Option.toList, List.cons_append, List.nil_append]
    have hs : sameM (o + 69) kd kd1 I I1 P P1 := fun a x1 x2 => g2 a (by omega) (by omega)
    have hM1 := h.m hs
    have ho1 : kd1 (o + 125) = some (4, 1) := by rw [(g2 (o + 125) (by omega) (by omega)).1]; exact hout
    refine r_istore dL_law_774 (by decide) ?_
    refine r_aload_n dL_law_776 rfl ?_
    refine r_aload_n dL_law_777 rfl ?_
    refine r_iload dL_law_778 rfl ?_
    refine r_iconst (v := nI 1) dL_law_780 (by decide) ?_
    refine r_iadd dL_law_781 ?_
    rw [show nI i + nI 1 = nI (i + 1) from nI_add i 1]
    refine r_sld hZ dL_law_782 (nI_in8 L (by omega) (by omega)) (nI_clamp (by omega)) ?_
    refine r_aload_n dL_law_783 rfl ?_
    refine r_iload dL_law_784 rfl ?_
    refine r_iconst (v := nI 2) dL_law_786 (by decide) ?_
    refine r_iadd dL_law_787 ?_
    rw [show nI i + nI 2 = nI (i + 2) from nI_add i 2]
    refine r_sld hZ dL_law_788 (nI_in8 L (by omega) (by omega)) (nI_clamp (by omega)) ?_
    refine r_virt (hR n1 kd1 I1 J1 P1 hs) lk_L_153 mc_X10_number dL_law_789 hM1.1 (by omega) rfl rfl (Nat.le_of_ble_eq_true rfl) (Nat.le_of_eq (Nat.zero_add _)) (Nat.le_of_eq (Nat.zero_add _)) (fun _ _ _ _ _ _ q => nomatch q.1) ?_
    rintro y n2 kd2 I2 J2 P2 ⟨q0, rfl, rfl, rfl, t1, t0, t2⟩
    cases q0
    simp only [Option.toList, List.cons_append, List.nil_append]
    refine r_istore dL_law_792 (by decide) ?_
    refine r_aload_n dL_law_794 rfl ?_
    refine r_virtE (c_X10_thrown (o + 69) hM1) lk_L_109 mc_X10_thrown dL_law_795 hM1.1 (by decide) rfl rfl (Nat.le_of_ble_eq_true rfl) ?_
    rw [t0]
    refine r_iload dL_law_798 rfl ?_
    refine r_icmp_eq (tgt := 805) dL_law_800 (by decide) (fun _ => ?_) (fun hz => absurd (show _ from rfl) hz)
    refine r_iload dL_law_805 rfl ?_
    refine r_if_ne (tgt := 822) dL_law_807 (by decide) (fun _ => ?_) (fun hz => absurd hz (show ¬ _ from (by rw [z_eq (by omega)]; exact hk0)))
    refine r_goto (tgt := 2132) dL_law_822 (by decide) ?_
    exact hk _ _ _ _ _ _ _ g1.1 g1.2 ⟨hN.on g4 (fun a ha => t1 a ha) t2, ho1, by omega⟩

set_option maxHeartbeats 4000000 in
set_option maxRecDepth 100000 in
theorem ld_may (o i L : Nat) {K : (Nat → ClassId) → Prop} {xs : Nat → Int32} {kc ks : Nat} {z5 z6 : Option Value} {n : Nat} {kd : mK} {I : mI} {J : mJ} {P : mP} (hZ : ∀ cA : Nat → ClassId, K cA → cA 301 = L ∧ ∀ j, nI (cA (310 + j)) = xs j) (hi : i + 6 ≤ L) (hL : L ≤ 3072) (h : stW o n kd I J P) (hn9 : n < 900000) (hk : ∀ n' kd' I' J' P' z5 z6, n ≤ n' → n' ≤ n + 1 → stW o n' kd' I' J' P' → RuL K kc ks 2132 [some (.ref 1000200), some (.ref o), some (.ref (o + 69)), some (.ref (o + 125)), some (.int (nI i)), z5, z6] [] n' kd' I' J' P') : RuL K (kc + 1) (ks + 10240) 825 [some (.ref 1000200), some (.ref o), some (.ref (o + 69)), some (.ref (o + 125)), some (.int (nI i)), z5, z6] [] n kd I J P := by
  have hko := h.k.1
  have hout := h.2.1
  have ho9 := h.2.2
  obtain ⟨k, d2, mc, ms, d3, v, w, C, D, ⟨b1, b2, b3, b4, b5, b6⟩, hW, hR, hN⟩ := ow_may o (xs (i + 1)) h hn9
  by_cases hk0 : k = 0
  · subst hk0
    have hvw := b6 rfl
    subst hvw
    refine r_aload_n dL_law_825 rfl ?_
    refine r_aload_n dL_law_826 rfl ?_
    refine r_iload dL_law_827 rfl ?_
    refine r_iconst (v := nI 1) dL_law_829 (by decide) ?_
    refine r_iadd dL_law_830 ?_
    rw [show nI i + nI 1 = nI (i + 1) from nI_add i 1]
    refine r_sld hZ dL_law_831 (nI_in8 L (by omega) (by omega)) (nI_clamp (by omega)) ?_
    refine r_aload_n dL_law_832 rfl ?_
    refine r_statW (kc2 := kc) (ks2 := ks) hW lk_L_154 mw_may dL_law_833 (by omega) rfl rfl (Nat.le_of_ble_eq_true rfl) (by omega) (by omega) (fun _ _ _ _ _ _ q => nomatch q.1) ?_
    rintro y n1 kd1 I1 J1 P1 ⟨q0, g1, g2, g3, g4⟩
    cases q0
    simp only [Option.toList, List.cons_append, List.nil_append]
    have hs : sameM (o + 69) kd kd1 I I1 P P1 := fun a x1 x2 => g2 a (by omega) (by omega)
    have hM1 := h.m hs
    have ho1 : kd1 (o + 125) = some (4, 1) := by rw [(g2 (o + 125) (by omega) (by omega)).1]; exact hout
    refine r_istore dL_law_836 (by decide) ?_
    refine r_aload_n dL_law_838 rfl ?_
    refine r_aload_n dL_law_839 rfl ?_
    refine r_iload dL_law_840 rfl ?_
    refine r_iconst (v := nI 1) dL_law_842 (by decide) ?_
    refine r_iadd dL_law_843 ?_
    rw [show nI i + nI 1 = nI (i + 1) from nI_add i 1]
    refine r_sld hZ dL_law_844 (nI_in8 L (by omega) (by omega)) (nI_clamp (by omega)) ?_
    refine r_virt (hR n1 kd1 I1 J1 P1 hs) lk_L_156 mc_X10_may dL_law_845 hM1.1 (by omega) rfl rfl (Nat.le_of_ble_eq_true rfl) (Nat.le_of_eq (Nat.zero_add _)) (Nat.le_of_eq (Nat.zero_add _)) (fun _ _ _ _ _ _ q => nomatch q.1) ?_
    rintro y n2 kd2 I2 J2 P2 ⟨q0, rfl, rfl, rfl, t1, t0, t2⟩
    cases q0
    simp only [Option.toList, List.cons_append, List.nil_append]
    refine r_istore dL_law_848 (by decide) ?_
    refine r_aload_n dL_law_850 rfl ?_
    refine r_virtE (c_X10_thrown (o + 69) hM1) lk_L_109 mc_X10_thrown dL_law_851 hM1.1 (by decide) rfl rfl (Nat.le_of_ble_eq_true rfl) ?_
    rw [t0]
    refine r_iload dL_law_854 rfl ?_
    refine r_icmp_eq (tgt := 861) dL_law_856 (by decide) (fun _ => ?_) (fun hz => absurd (show _ from rfl) hz)
    refine r_iload dL_law_861 rfl ?_
    refine r_if_ne (tgt := 878) dL_law_863 (by decide) (fun hz => absurd (show _ from rfl) hz) (fun _ => ?_)
    refine r_aload_n dL_law_866 rfl ?_
    refine r_iconst (v := nI 0) dL_law_867 (by decide) ?_
    refine r_lald dL_law_868 ho1 (nI_in8 1 (j := 0) (by decide) (by decide)) (nI_clamp (n := 0) (by decide)) ?_
    rw [show J2 (o + 125) 0 = v.toInt64 from by rw [(t1 (o + 125) (by omega)).2]; exact g3 rfl]
    refine r_iload dL_law_869 rfl ?_
    refine r_i2l dL_law_871 ?_
    refine r_lcmp dL_law_872 ?_
    refine r_if_eq (tgt := 878) dL_law_873 (by decide) (fun _ => ?_) (fun hz => absurd (show _ from ((lg_cmp_eq _ _).mpr rfl)) hz)
    refine r_goto (tgt := 2132) dL_law_878 (by decide) ?_
    exact hk _ _ _ _ _ _ _ g1.1 g1.2 ⟨hN.on g4 (fun a ha => t1 a ha) t2, ho1, by omega⟩
  · skip
    refine r_aload_n dL_law_825 rfl ?_
    refine r_aload_n dL_law_826 rfl ?_
    refine r_iload dL_law_827 rfl ?_
    refine r_iconst (v := nI 1) dL_law_829 (by decide) ?_
    refine r_iadd dL_law_830 ?_
    rw [show nI i + nI 1 = nI (i + 1) from nI_add i 1]
    refine r_sld hZ dL_law_831 (nI_in8 L (by omega) (by omega)) (nI_clamp (by omega)) ?_
    refine r_aload_n dL_law_832 rfl ?_
    refine r_statW (kc2 := kc) (ks2 := ks) hW lk_L_154 mw_may dL_law_833 (by omega) rfl rfl (Nat.le_of_ble_eq_true rfl) (by omega) (by omega) (fun _ _ _ _ _ _ q => nomatch q.1) ?_
    rintro y n1 kd1 I1 J1 P1 ⟨q0, g1, g2, g3, g4⟩
    cases q0
    simp only [Option.toList, List.cons_append, List.nil_append]
    have hs : sameM (o + 69) kd kd1 I I1 P P1 := fun a x1 x2 => g2 a (by omega) (by omega)
    have hM1 := h.m hs
    have ho1 : kd1 (o + 125) = some (4, 1) := by rw [(g2 (o + 125) (by omega) (by omega)).1]; exact hout
    refine r_istore dL_law_836 (by decide) ?_
    refine r_aload_n dL_law_838 rfl ?_
    refine r_aload_n dL_law_839 rfl ?_
    refine r_iload dL_law_840 rfl ?_
    refine r_iconst (v := nI 1) dL_law_842 (by decide) ?_
    refine r_iadd dL_law_843 ?_
    rw [show nI i + nI 1 = nI (i + 1) from nI_add i 1]
    refine r_sld hZ dL_law_844 (nI_in8 L (by omega) (by omega)) (nI_clamp (by omega)) ?_
    refine r_virt (hR n1 kd1 I1 J1 P1 hs) lk_L_156 mc_X10_may dL_law_845 hM1.1 (by omega) rfl rfl (Nat.le_of_ble_eq_true rfl) (Nat.le_of_eq (Nat.zero_add _)) (Nat.le_of_eq (Nat.zero_add _)) (fun _ _ _ _ _ _ q => nomatch q.1) ?_
    rintro y n2 kd2 I2 J2 P2 ⟨q0, rfl, rfl, rfl, t1, t0, t2⟩
    cases q0
    simp only [Option.toList, List.cons_append, List.nil_append]
    refine r_istore dL_law_848 (by decide) ?_
    refine r_aload_n dL_law_850 rfl ?_
    refine r_virtE (c_X10_thrown (o + 69) hM1) lk_L_109 mc_X10_thrown dL_law_851 hM1.1 (by decide) rfl rfl (Nat.le_of_ble_eq_true rfl) ?_
    rw [t0]
    refine r_iload dL_law_854 rfl ?_
    refine r_icmp_eq (tgt := 861) dL_law_856 (by decide) (fun _ => ?_) (fun hz => absurd (show _ from rfl) hz)
    refine r_iload dL_law_861 rfl ?_
    refine r_if_ne (tgt := 878) dL_law_863 (by decide) (fun _ => ?_) (fun hz => absurd hz (show ¬ _ from (by rw [z_eq (by omega)]; exact hk0)))
    refine r_goto (tgt := 2132) dL_law_878 (by decide) ?_
    exact hk _ _ _ _ _ _ _ g1.1 g1.2 ⟨hN.on g4 (fun a ha => t1 a ha) t2, ho1, by omega⟩

set_option maxHeartbeats 4000000 in
set_option maxRecDepth 100000 in
theorem ld_holds (o i L : Nat) {K : (Nat → ClassId) → Prop} {xs : Nat → Int32} {kc ks : Nat} {z5 z6 : Option Value} {n : Nat} {kd : mK} {I : mI} {J : mJ} {P : mP} (hZ : ∀ cA : Nat → ClassId, K cA → cA 301 = L ∧ ∀ j, nI (cA (310 + j)) = xs j) (hi : i + 6 ≤ L) (hL : L ≤ 3072) (h : stW o n kd I J P) (hn9 : n < 900000) (hk : ∀ n' kd' I' J' P' z5 z6, n ≤ n' → n' ≤ n + 1 → stW o n' kd' I' J' P' → RuL K kc ks 2132 [some (.ref 1000200), some (.ref o), some (.ref (o + 69)), some (.ref (o + 125)), some (.int (nI i)), z5, z6] [] n' kd' I' J' P') : RuL K (kc + 1) (ks + 10240) 881 [some (.ref 1000200), some (.ref o), some (.ref (o + 69)), some (.ref (o + 125)), some (.int (nI i)), z5, z6] [] n kd I J P := by
  have hko := h.k.1
  have hout := h.2.1
  have ho9 := h.2.2
  obtain ⟨k, d2, mc, ms, d3, v, w, C, D, ⟨b1, b2, b3, b4, b5, b6⟩, hW, hR, hN⟩ := ow_holds o (xs (i + 1)) (((xs (i + 2)).toInt64 <<< ((nI 32).toInt64 &&& 63)) ||| ((xs (i + 3)).toInt64 &&& 4294967295)) h hn9
  by_cases hk0 : k = 0
  · subst hk0
    have hvw := b6 rfl
    subst hvw
    refine r_aload_n dL_law_881 rfl ?_
    refine r_aload_n dL_law_882 rfl ?_
    refine r_iload dL_law_883 rfl ?_
    refine r_iconst (v := nI 1) dL_law_885 (by decide) ?_
    refine r_iadd dL_law_886 ?_
    rw [show nI i + nI 1 = nI (i + 1) from nI_add i 1]
    refine r_sld hZ dL_law_887 (nI_in8 L (by omega) (by omega)) (nI_clamp (by omega)) ?_
    refine r_aload_n dL_law_888 rfl ?_
    refine r_iload dL_law_889 rfl ?_
    refine r_iconst (v := nI 2) dL_law_891 (by decide) ?_
    refine r_iadd dL_law_892 ?_
    rw [show nI i + nI 2 = nI (i + 2) from nI_add i 2]
    refine r_sld hZ dL_law_893 (nI_in8 L (by omega) (by omega)) (nI_clamp (by omega)) ?_
    refine r_i2l dL_law_894 ?_
    refine r_bipush (v := nI 32) dL_law_895 (by decide) ?_
    refine r_lshl dL_law_897 ?_
    refine r_aload_n dL_law_898 rfl ?_
    refine r_iload dL_law_899 rfl ?_
    refine r_iconst (v := nI 3) dL_law_901 (by decide) ?_
    refine r_iadd dL_law_902 ?_
    rw [show nI i + nI 3 = nI (i + 3) from nI_add i 3]
    refine r_sld hZ dL_law_903 (nI_in8 L (by omega) (by omega)) (nI_clamp (by omega)) ?_
    refine r_i2l dL_law_904 ?_
    refine r_ldc2 dL_law_905 lc_L_157 ?_
    refine r_land dL_law_908 ?_
    refine r_lor dL_law_909 ?_
    refine r_aload_n dL_law_910 rfl ?_
    refine r_statW (kc2 := kc) (ks2 := ks) hW lk_L_159 mw_holds dL_law_911 (by omega) rfl rfl (Nat.le_of_ble_eq_true rfl) (by omega) (by omega) (fun _ _ _ _ _ _ q => nomatch q.1) ?_
    rintro y n1 kd1 I1 J1 P1 ⟨q0, g1, g2, g3, g4⟩
    cases q0
    simp only [Option.toList, List.cons_append, List.nil_append]
    have hs : sameM (o + 69) kd kd1 I I1 P P1 := fun a x1 x2 => g2 a (by omega) (by omega)
    have hM1 := h.m hs
    have ho1 : kd1 (o + 125) = some (4, 1) := by rw [(g2 (o + 125) (by omega) (by omega)).1]; exact hout
    refine r_istore dL_law_914 (by decide) ?_
    refine r_aload_n dL_law_916 rfl ?_
    refine r_aload_n dL_law_917 rfl ?_
    refine r_iload dL_law_918 rfl ?_
    refine r_iconst (v := nI 1) dL_law_920 (by decide) ?_
    refine r_iadd dL_law_921 ?_
    rw [show nI i + nI 1 = nI (i + 1) from nI_add i 1]
    refine r_sld hZ dL_law_922 (nI_in8 L (by omega) (by omega)) (nI_clamp (by omega)) ?_
    refine r_aload_n dL_law_923 rfl ?_
    refine r_iload dL_law_924 rfl ?_
    refine r_iconst (v := nI 2) dL_law_926 (by decide) ?_
    refine r_iadd dL_law_927 ?_
    rw [show nI i + nI 2 = nI (i + 2) from nI_add i 2]
    refine r_sld hZ dL_law_928 (nI_in8 L (by omega) (by omega)) (nI_clamp (by omega)) ?_
    refine r_i2l dL_law_929 ?_
    refine r_bipush (v := nI 32) dL_law_930 (by decide) ?_
    refine r_lshl dL_law_932 ?_
    refine r_aload_n dL_law_933 rfl ?_
    refine r_iload dL_law_934 rfl ?_
    refine r_iconst (v := nI 3) dL_law_936 (by decide) ?_
    refine r_iadd dL_law_937 ?_
    rw [show nI i + nI 3 = nI (i + 3) from nI_add i 3]
    refine r_sld hZ dL_law_938 (nI_in8 L (by omega) (by omega)) (nI_clamp (by omega)) ?_
    refine r_i2l dL_law_939 ?_
    refine r_ldc2 dL_law_940 lc_L_157 ?_
    refine r_land dL_law_943 ?_
    refine r_lor dL_law_944 ?_
    refine r_virt (hR n1 kd1 I1 J1 P1 hs) lk_L_162 mc_X10_holds dL_law_945 hM1.1 (by omega) rfl rfl (Nat.le_of_ble_eq_true rfl) (Nat.le_of_eq (Nat.zero_add _)) (Nat.le_of_eq (Nat.zero_add _)) (fun _ _ _ _ _ _ q => nomatch q.1) ?_
    rintro y n2 kd2 I2 J2 P2 ⟨q0, rfl, rfl, rfl, t1, t0, t2⟩
    cases q0
    simp only [Option.toList, List.cons_append, List.nil_append]
    refine r_istore dL_law_948 (by decide) ?_
    refine r_aload_n dL_law_950 rfl ?_
    refine r_virtE (c_X10_thrown (o + 69) hM1) lk_L_109 mc_X10_thrown dL_law_951 hM1.1 (by decide) rfl rfl (Nat.le_of_ble_eq_true rfl) ?_
    rw [t0]
    refine r_iload dL_law_954 rfl ?_
    refine r_icmp_eq (tgt := 961) dL_law_956 (by decide) (fun _ => ?_) (fun hz => absurd (show _ from rfl) hz)
    refine r_iload dL_law_961 rfl ?_
    refine r_if_ne (tgt := 978) dL_law_963 (by decide) (fun hz => absurd (show _ from rfl) hz) (fun _ => ?_)
    refine r_aload_n dL_law_966 rfl ?_
    refine r_iconst (v := nI 0) dL_law_967 (by decide) ?_
    refine r_lald dL_law_968 ho1 (nI_in8 1 (j := 0) (by decide) (by decide)) (nI_clamp (n := 0) (by decide)) ?_
    rw [show J2 (o + 125) 0 = v.toInt64 from by rw [(t1 (o + 125) (by omega)).2]; exact g3 rfl]
    refine r_iload dL_law_969 rfl ?_
    refine r_i2l dL_law_971 ?_
    refine r_lcmp dL_law_972 ?_
    refine r_if_eq (tgt := 978) dL_law_973 (by decide) (fun _ => ?_) (fun hz => absurd (show _ from ((lg_cmp_eq _ _).mpr rfl)) hz)
    refine r_goto (tgt := 2132) dL_law_978 (by decide) ?_
    exact hk _ _ _ _ _ _ _ g1.1 g1.2 ⟨hN.on g4 (fun a ha => t1 a ha) t2, ho1, by omega⟩
  · skip
    refine r_aload_n dL_law_881 rfl ?_
    refine r_aload_n dL_law_882 rfl ?_
    refine r_iload dL_law_883 rfl ?_
    refine r_iconst (v := nI 1) dL_law_885 (by decide) ?_
    refine r_iadd dL_law_886 ?_
    rw [show nI i + nI 1 = nI (i + 1) from nI_add i 1]
    refine r_sld hZ dL_law_887 (nI_in8 L (by omega) (by omega)) (nI_clamp (by omega)) ?_
    refine r_aload_n dL_law_888 rfl ?_
    refine r_iload dL_law_889 rfl ?_
    refine r_iconst (v := nI 2) dL_law_891 (by decide) ?_
    refine r_iadd dL_law_892 ?_
    rw [show nI i + nI 2 = nI (i + 2) from nI_add i 2]
    refine r_sld hZ dL_law_893 (nI_in8 L (by omega) (by omega)) (nI_clamp (by omega)) ?_
    refine r_i2l dL_law_894 ?_
    refine r_bipush (v := nI 32) dL_law_895 (by decide) ?_
    refine r_lshl dL_law_897 ?_
    refine r_aload_n dL_law_898 rfl ?_
    refine r_iload dL_law_899 rfl ?_
    refine r_iconst (v := nI 3) dL_law_901 (by decide) ?_
    refine r_iadd dL_law_902 ?_
    rw [show nI i + nI 3 = nI (i + 3) from nI_add i 3]
    refine r_sld hZ dL_law_903 (nI_in8 L (by omega) (by omega)) (nI_clamp (by omega)) ?_
    refine r_i2l dL_law_904 ?_
    refine r_ldc2 dL_law_905 lc_L_157 ?_
    refine r_land dL_law_908 ?_
    refine r_lor dL_law_909 ?_
    refine r_aload_n dL_law_910 rfl ?_
    refine r_statW (kc2 := kc) (ks2 := ks) hW lk_L_159 mw_holds dL_law_911 (by omega) rfl rfl (Nat.le_of_ble_eq_true rfl) (by omega) (by omega) (fun _ _ _ _ _ _ q => nomatch q.1) ?_
    rintro y n1 kd1 I1 J1 P1 ⟨q0, g1, g2, g3, g4⟩
    cases q0
    simp only [Option.toList, List.cons_append, List.nil_append]
    have hs : sameM (o + 69) kd kd1 I I1 P P1 := fun a x1 x2 => g2 a (by omega) (by omega)
    have hM1 := h.m hs
    have ho1 : kd1 (o + 125) = some (4, 1) := by rw [(g2 (o + 125) (by omega) (by omega)).1]; exact hout
    refine r_istore dL_law_914 (by decide) ?_
    refine r_aload_n dL_law_916 rfl ?_
    refine r_aload_n dL_law_917 rfl ?_
    refine r_iload dL_law_918 rfl ?_
    refine r_iconst (v := nI 1) dL_law_920 (by decide) ?_
    refine r_iadd dL_law_921 ?_
    rw [show nI i + nI 1 = nI (i + 1) from nI_add i 1]
    refine r_sld hZ dL_law_922 (nI_in8 L (by omega) (by omega)) (nI_clamp (by omega)) ?_
    refine r_aload_n dL_law_923 rfl ?_
    refine r_iload dL_law_924 rfl ?_
    refine r_iconst (v := nI 2) dL_law_926 (by decide) ?_
    refine r_iadd dL_law_927 ?_
    rw [show nI i + nI 2 = nI (i + 2) from nI_add i 2]
    refine r_sld hZ dL_law_928 (nI_in8 L (by omega) (by omega)) (nI_clamp (by omega)) ?_
    refine r_i2l dL_law_929 ?_
    refine r_bipush (v := nI 32) dL_law_930 (by decide) ?_
    refine r_lshl dL_law_932 ?_
    refine r_aload_n dL_law_933 rfl ?_
    refine r_iload dL_law_934 rfl ?_
    refine r_iconst (v := nI 3) dL_law_936 (by decide) ?_
    refine r_iadd dL_law_937 ?_
    rw [show nI i + nI 3 = nI (i + 3) from nI_add i 3]
    refine r_sld hZ dL_law_938 (nI_in8 L (by omega) (by omega)) (nI_clamp (by omega)) ?_
    refine r_i2l dL_law_939 ?_
    refine r_ldc2 dL_law_940 lc_L_157 ?_
    refine r_land dL_law_943 ?_
    refine r_lor dL_law_944 ?_
    refine r_virt (hR n1 kd1 I1 J1 P1 hs) lk_L_162 mc_X10_holds dL_law_945 hM1.1 (by omega) rfl rfl (Nat.le_of_ble_eq_true rfl) (Nat.le_of_eq (Nat.zero_add _)) (Nat.le_of_eq (Nat.zero_add _)) (fun _ _ _ _ _ _ q => nomatch q.1) ?_
    rintro y n2 kd2 I2 J2 P2 ⟨q0, rfl, rfl, rfl, t1, t0, t2⟩
    cases q0
    simp only [Option.toList, List.cons_append, List.nil_append]
    refine r_istore dL_law_948 (by decide) ?_
    refine r_aload_n dL_law_950 rfl ?_
    refine r_virtE (c_X10_thrown (o + 69) hM1) lk_L_109 mc_X10_thrown dL_law_951 hM1.1 (by decide) rfl rfl (Nat.le_of_ble_eq_true rfl) ?_
    rw [t0]
    refine r_iload dL_law_954 rfl ?_
    refine r_icmp_eq (tgt := 961) dL_law_956 (by decide) (fun _ => ?_) (fun hz => absurd (show _ from rfl) hz)
    refine r_iload dL_law_961 rfl ?_
    refine r_if_ne (tgt := 978) dL_law_963 (by decide) (fun _ => ?_) (fun hz => absurd hz (show ¬ _ from (by rw [z_eq (by omega)]; exact hk0)))
    refine r_goto (tgt := 2132) dL_law_978 (by decide) ?_
    exact hk _ _ _ _ _ _ _ g1.1 g1.2 ⟨hN.on g4 (fun a ha => t1 a ha) t2, ho1, by omega⟩

set_option maxHeartbeats 4000000 in
set_option maxRecDepth 100000 in
theorem ld_knot (o i L : Nat) {K : (Nat → ClassId) → Prop} {xs : Nat → Int32} {kc ks : Nat} {z5 z6 : Option Value} {n : Nat} {kd : mK} {I : mI} {J : mJ} {P : mP} (hZ : ∀ cA : Nat → ClassId, K cA → cA 301 = L ∧ ∀ j, nI (cA (310 + j)) = xs j) (hi : i + 6 ≤ L) (hL : L ≤ 3072) (h : stW o n kd I J P) (hn9 : n < 900000) (hk : ∀ n' kd' I' J' P' z5 z6, n ≤ n' → n' ≤ n + 1 → stW o n' kd' I' J' P' → RuL K kc ks 2132 [some (.ref 1000200), some (.ref o), some (.ref (o + 69)), some (.ref (o + 125)), some (.int (nI i)), z5, z6] [] n' kd' I' J' P') : RuL K (kc + 1) (ks + 10240) 981 [some (.ref 1000200), some (.ref o), some (.ref (o + 69)), some (.ref (o + 125)), some (.int (nI i)), z5, z6] [] n kd I J P := by
  have hko := h.k.1
  have hout := h.2.1
  have ho9 := h.2.2
  obtain ⟨d2, mc, ms, d3, v, w, C, D, ⟨b2, b3, b4, b5, rfl⟩, hW, hR, hN⟩ := ow_knot o  h hn9
  refine r_aload_n dL_law_981 rfl ?_
  refine r_virt (kc2 := kc) (ks2 := ks) hW lk_L_163 mc_X9_knot dL_law_982 hko (by omega) rfl rfl (Nat.le_of_ble_eq_true rfl) (by omega) (by omega) (fun _ _ _ _ _ _ q => nomatch q.1) ?_
  rintro y n1 kd1 I1 J1 P1 ⟨q0, g1, g3, g2, g4⟩
  cases q0
  simp only [Option.toList, List.cons_append, List.nil_append]
  have hs : sameM (o + 69) kd kd1 I I1 P P1 := fun a x1 x2 => ⟨(g2 a (by omega) (by omega)).1, (g2 a (by omega) (by omega)).2.1, (g2 a (by omega) (by omega)).2.2.2⟩
  have hM1 := h.m hs
  have ho1 : kd1 (o + 125) = some (4, 1) := by rw [(g2 (o + 125) (by omega) (by omega)).1]; exact hout
  refine r_aload_n dL_law_985 rfl ?_
  refine r_virt (hR n1 kd1 I1 J1 P1 hs) lk_L_166 mc_X10_knot dL_law_986 hM1.1 (by omega) rfl rfl (Nat.le_of_ble_eq_true rfl) (Nat.le_of_eq (Nat.zero_add _)) (Nat.le_of_eq (Nat.zero_add _)) (fun _ _ _ _ _ _ q => nomatch q.1) ?_
  rintro y n2 kd2 I2 J2 P2 ⟨q0, rfl, rfl, rfl, t1, t0, t2⟩
  cases q0
  simp only [Option.toList, List.cons_append, List.nil_append]
  refine r_icmp_eq (tgt := 2132) dL_law_989 (by decide) (fun _ => ?_) (fun hz => absurd (show _ from rfl) hz)
  exact hk _ _ _ _ _ _ _ g1.1 g1.2 ⟨hN.on g4 (fun a ha => t1 a ha) t2, ho1, by omega⟩

set_option maxHeartbeats 4000000 in
set_option maxRecDepth 100000 in
theorem ld_liars (o i L : Nat) {K : (Nat → ClassId) → Prop} {xs : Nat → Int32} {kc ks : Nat} {z5 z6 : Option Value} {n : Nat} {kd : mK} {I : mI} {J : mJ} {P : mP} (hZ : ∀ cA : Nat → ClassId, K cA → cA 301 = L ∧ ∀ j, nI (cA (310 + j)) = xs j) (hi : i + 6 ≤ L) (hL : L ≤ 3072) (h : stW o n kd I J P) (hn9 : n < 900000) (hk : ∀ n' kd' I' J' P' z5 z6, n ≤ n' → n' ≤ n + 1 → stW o n' kd' I' J' P' → RuL K kc ks 2132 [some (.ref 1000200), some (.ref o), some (.ref (o + 69)), some (.ref (o + 125)), some (.int (nI i)), z5, z6] [] n' kd' I' J' P') : RuL K (kc + 1) (ks + 10240) 994 [some (.ref 1000200), some (.ref o), some (.ref (o + 69)), some (.ref (o + 125)), some (.int (nI i)), z5, z6] [] n kd I J P := by
  have hko := h.k.1
  have hout := h.2.1
  have ho9 := h.2.2
  obtain ⟨d2, mc, ms, d3, v, w, C, D, ⟨b2, b3, b4, b5, rfl⟩, hW, hR, hN⟩ := ow_liars o  h hn9
  refine r_aload_n dL_law_994 rfl ?_
  refine r_virt (kc2 := kc) (ks2 := ks) hW lk_L_167 mc_X9_liars dL_law_995 hko (by omega) rfl rfl (Nat.le_of_ble_eq_true rfl) (by omega) (by omega) (fun _ _ _ _ _ _ q => nomatch q.1) ?_
  rintro y n1 kd1 I1 J1 P1 ⟨q0, g1, g3, g2, g4⟩
  cases q0
  simp only [Option.toList, List.cons_append, List.nil_append]
  have hs : sameM (o + 69) kd kd1 I I1 P P1 := fun a x1 x2 => ⟨(g2 a (by omega) (by omega)).1, (g2 a (by omega) (by omega)).2.1, (g2 a (by omega) (by omega)).2.2.2⟩
  have hM1 := h.m hs
  have ho1 : kd1 (o + 125) = some (4, 1) := by rw [(g2 (o + 125) (by omega) (by omega)).1]; exact hout
  refine r_aload_n dL_law_998 rfl ?_
  refine r_virt (hR n1 kd1 I1 J1 P1 hs) lk_L_170 mc_X10_liars dL_law_999 hM1.1 (by omega) rfl rfl (Nat.le_of_ble_eq_true rfl) (Nat.le_of_eq (Nat.zero_add _)) (Nat.le_of_eq (Nat.zero_add _)) (fun _ _ _ _ _ _ q => nomatch q.1) ?_
  rintro y n2 kd2 I2 J2 P2 ⟨q0, rfl, rfl, rfl, t1, t0, t2⟩
  cases q0
  simp only [Option.toList, List.cons_append, List.nil_append]
  refine r_icmp_eq (tgt := 2132) dL_law_1002 (by decide) (fun _ => ?_) (fun hz => absurd (show _ from rfl) hz)
  exact hk _ _ _ _ _ _ _ g1.1 g1.2 ⟨hN.on g4 (fun a ha => t1 a ha) t2, ho1, by omega⟩

set_option maxHeartbeats 4000000 in
set_option maxRecDepth 100000 in
theorem ld_looks (o i L : Nat) {K : (Nat → ClassId) → Prop} {xs : Nat → Int32} {kc ks : Nat} {z5 z6 : Option Value} {n : Nat} {kd : mK} {I : mI} {J : mJ} {P : mP} (hZ : ∀ cA : Nat → ClassId, K cA → cA 301 = L ∧ ∀ j, nI (cA (310 + j)) = xs j) (hi : i + 6 ≤ L) (hL : L ≤ 3072) (h : stW o n kd I J P) (hn9 : n < 900000) (hk : ∀ n' kd' I' J' P' z5 z6, n ≤ n' → n' ≤ n + 1 → stW o n' kd' I' J' P' → RuL K kc ks 2132 [some (.ref 1000200), some (.ref o), some (.ref (o + 69)), some (.ref (o + 125)), some (.int (nI i)), z5, z6] [] n' kd' I' J' P') : RuL K (kc + 1) (ks + 10240) 1007 [some (.ref 1000200), some (.ref o), some (.ref (o + 69)), some (.ref (o + 125)), some (.int (nI i)), z5, z6] [] n kd I J P := by
  have hko := h.k.1
  have hout := h.2.1
  have ho9 := h.2.2
  obtain ⟨k, d2, mc, ms, d3, v, w, C, D, ⟨b1, b2, b3, b4, b5, b6⟩, hW, hR, hN⟩ := ow_looks o (xs (i + 1)) h hn9
  by_cases hk0 : k = 0
  · subst hk0
    have hvw := b6 rfl
    subst hvw
    refine r_aload_n dL_law_1007 rfl ?_
    refine r_aload_n dL_law_1008 rfl ?_
    refine r_iload dL_law_1009 rfl ?_
    refine r_iconst (v := nI 1) dL_law_1011 (by decide) ?_
    refine r_iadd dL_law_1012 ?_
    rw [show nI i + nI 1 = nI (i + 1) from nI_add i 1]
    refine r_sld hZ dL_law_1013 (nI_in8 L (by omega) (by omega)) (nI_clamp (by omega)) ?_
    refine r_aload_n dL_law_1014 rfl ?_
    refine r_statW (kc2 := kc) (ks2 := ks) hW lk_L_171 mw_looks dL_law_1015 (by omega) rfl rfl (Nat.le_of_ble_eq_true rfl) (by omega) (by omega) (fun _ _ _ _ _ _ q => nomatch q.1) ?_
    rintro y n1 kd1 I1 J1 P1 ⟨q0, g1, g2, g3, g4⟩
    cases q0
    simp only [Option.toList, List.cons_append, List.nil_append]
    have hs : sameM (o + 69) kd kd1 I I1 P P1 := fun a x1 x2 => g2 a (by omega) (by omega)
    have hM1 := h.m hs
    have ho1 : kd1 (o + 125) = some (4, 1) := by rw [(g2 (o + 125) (by omega) (by omega)).1]; exact hout
    refine r_istore dL_law_1018 (by decide) ?_
    refine r_aload_n dL_law_1020 rfl ?_
    refine r_aload_n dL_law_1021 rfl ?_
    refine r_iload dL_law_1022 rfl ?_
    refine r_iconst (v := nI 1) dL_law_1024 (by decide) ?_
    refine r_iadd dL_law_1025 ?_
    rw [show nI i + nI 1 = nI (i + 1) from nI_add i 1]
    refine r_sld hZ dL_law_1026 (nI_in8 L (by omega) (by omega)) (nI_clamp (by omega)) ?_
    refine r_virt (hR n1 kd1 I1 J1 P1 hs) lk_L_173 mc_X10_looks dL_law_1027 hM1.1 (by omega) rfl rfl (Nat.le_of_ble_eq_true rfl) (Nat.le_of_eq (Nat.zero_add _)) (Nat.le_of_eq (Nat.zero_add _)) (fun _ _ _ _ _ _ q => nomatch q.1) ?_
    rintro y n2 kd2 I2 J2 P2 ⟨q0, rfl, rfl, rfl, t1, t0, t2⟩
    cases q0
    simp only [Option.toList, List.cons_append, List.nil_append]
    refine r_istore dL_law_1030 (by decide) ?_
    refine r_aload_n dL_law_1032 rfl ?_
    refine r_virtE (c_X10_thrown (o + 69) hM1) lk_L_109 mc_X10_thrown dL_law_1033 hM1.1 (by decide) rfl rfl (Nat.le_of_ble_eq_true rfl) ?_
    rw [t0]
    refine r_iload dL_law_1036 rfl ?_
    refine r_icmp_eq (tgt := 1043) dL_law_1038 (by decide) (fun _ => ?_) (fun hz => absurd (show _ from rfl) hz)
    refine r_iload dL_law_1043 rfl ?_
    refine r_if_ne (tgt := 1060) dL_law_1045 (by decide) (fun hz => absurd (show _ from rfl) hz) (fun _ => ?_)
    refine r_aload_n dL_law_1048 rfl ?_
    refine r_iconst (v := nI 0) dL_law_1049 (by decide) ?_
    refine r_lald dL_law_1050 ho1 (nI_in8 1 (j := 0) (by decide) (by decide)) (nI_clamp (n := 0) (by decide)) ?_
    rw [show J2 (o + 125) 0 = v.toInt64 from by rw [(t1 (o + 125) (by omega)).2]; exact g3 rfl]
    refine r_iload dL_law_1051 rfl ?_
    refine r_i2l dL_law_1053 ?_
    refine r_lcmp dL_law_1054 ?_
    refine r_if_eq (tgt := 1060) dL_law_1055 (by decide) (fun _ => ?_) (fun hz => absurd (show _ from ((lg_cmp_eq _ _).mpr rfl)) hz)
    refine r_goto (tgt := 2132) dL_law_1060 (by decide) ?_
    exact hk _ _ _ _ _ _ _ g1.1 g1.2 ⟨hN.on g4 (fun a ha => t1 a ha) t2, ho1, by omega⟩
  · skip
    refine r_aload_n dL_law_1007 rfl ?_
    refine r_aload_n dL_law_1008 rfl ?_
    refine r_iload dL_law_1009 rfl ?_
    refine r_iconst (v := nI 1) dL_law_1011 (by decide) ?_
    refine r_iadd dL_law_1012 ?_
    rw [show nI i + nI 1 = nI (i + 1) from nI_add i 1]
    refine r_sld hZ dL_law_1013 (nI_in8 L (by omega) (by omega)) (nI_clamp (by omega)) ?_
    refine r_aload_n dL_law_1014 rfl ?_
    refine r_statW (kc2 := kc) (ks2 := ks) hW lk_L_171 mw_looks dL_law_1015 (by omega) rfl rfl (Nat.le_of_ble_eq_true rfl) (by omega) (by omega) (fun _ _ _ _ _ _ q => nomatch q.1) ?_
    rintro y n1 kd1 I1 J1 P1 ⟨q0, g1, g2, g3, g4⟩
    cases q0
    simp only [Option.toList, List.cons_append, List.nil_append]
    have hs : sameM (o + 69) kd kd1 I I1 P P1 := fun a x1 x2 => g2 a (by omega) (by omega)
    have hM1 := h.m hs
    have ho1 : kd1 (o + 125) = some (4, 1) := by rw [(g2 (o + 125) (by omega) (by omega)).1]; exact hout
    refine r_istore dL_law_1018 (by decide) ?_
    refine r_aload_n dL_law_1020 rfl ?_
    refine r_aload_n dL_law_1021 rfl ?_
    refine r_iload dL_law_1022 rfl ?_
    refine r_iconst (v := nI 1) dL_law_1024 (by decide) ?_
    refine r_iadd dL_law_1025 ?_
    rw [show nI i + nI 1 = nI (i + 1) from nI_add i 1]
    refine r_sld hZ dL_law_1026 (nI_in8 L (by omega) (by omega)) (nI_clamp (by omega)) ?_
    refine r_virt (hR n1 kd1 I1 J1 P1 hs) lk_L_173 mc_X10_looks dL_law_1027 hM1.1 (by omega) rfl rfl (Nat.le_of_ble_eq_true rfl) (Nat.le_of_eq (Nat.zero_add _)) (Nat.le_of_eq (Nat.zero_add _)) (fun _ _ _ _ _ _ q => nomatch q.1) ?_
    rintro y n2 kd2 I2 J2 P2 ⟨q0, rfl, rfl, rfl, t1, t0, t2⟩
    cases q0
    simp only [Option.toList, List.cons_append, List.nil_append]
    refine r_istore dL_law_1030 (by decide) ?_
    refine r_aload_n dL_law_1032 rfl ?_
    refine r_virtE (c_X10_thrown (o + 69) hM1) lk_L_109 mc_X10_thrown dL_law_1033 hM1.1 (by decide) rfl rfl (Nat.le_of_ble_eq_true rfl) ?_
    rw [t0]
    refine r_iload dL_law_1036 rfl ?_
    refine r_icmp_eq (tgt := 1043) dL_law_1038 (by decide) (fun _ => ?_) (fun hz => absurd (show _ from rfl) hz)
    refine r_iload dL_law_1043 rfl ?_
    refine r_if_ne (tgt := 1060) dL_law_1045 (by decide) (fun _ => ?_) (fun hz => absurd hz (show ¬ _ from (by rw [z_eq (by omega)]; exact hk0)))
    refine r_goto (tgt := 2132) dL_law_1060 (by decide) ?_
    exact hk _ _ _ _ _ _ _ g1.1 g1.2 ⟨hN.on g4 (fun a ha => t1 a ha) t2, ho1, by omega⟩

set_option maxHeartbeats 4000000 in
set_option maxRecDepth 100000 in
theorem ld_doors (o i L : Nat) {K : (Nat → ClassId) → Prop} {xs : Nat → Int32} {kc ks : Nat} {z5 z6 : Option Value} {n : Nat} {kd : mK} {I : mI} {J : mJ} {P : mP} (hZ : ∀ cA : Nat → ClassId, K cA → cA 301 = L ∧ ∀ j, nI (cA (310 + j)) = xs j) (hi : i + 6 ≤ L) (hL : L ≤ 3072) (h : stW o n kd I J P) (hn9 : n < 900000) (hk : ∀ n' kd' I' J' P' z5 z6, n ≤ n' → n' ≤ n + 1 → stW o n' kd' I' J' P' → RuL K kc ks 2132 [some (.ref 1000200), some (.ref o), some (.ref (o + 69)), some (.ref (o + 125)), some (.int (nI i)), z5, z6] [] n' kd' I' J' P') : RuL K (kc + 1) (ks + 10240) 1063 [some (.ref 1000200), some (.ref o), some (.ref (o + 69)), some (.ref (o + 125)), some (.int (nI i)), z5, z6] [] n kd I J P := by
  have hko := h.k.1
  have hout := h.2.1
  have ho9 := h.2.2
  obtain ⟨d2, mc, ms, d3, v, w, C, D, ⟨b2, b3, b4, b5, rfl⟩, hW, hR, hN⟩ := ow_doors o  h hn9
  refine r_aload_n dL_law_1063 rfl ?_
  refine r_virt (kc2 := kc) (ks2 := ks) hW lk_L_174 mc_X9_doors dL_law_1064 hko (by omega) rfl rfl (Nat.le_of_ble_eq_true rfl) (by omega) (by omega) (fun _ _ _ _ _ _ q => nomatch q.1) ?_
  rintro y n1 kd1 I1 J1 P1 ⟨q0, g1, g3, g2, g4⟩
  cases q0
  simp only [Option.toList, List.cons_append, List.nil_append]
  have hs : sameM (o + 69) kd kd1 I I1 P P1 := fun a x1 x2 => ⟨(g2 a (by omega) (by omega)).1, (g2 a (by omega) (by omega)).2.1, (g2 a (by omega) (by omega)).2.2.2⟩
  have hM1 := h.m hs
  have ho1 : kd1 (o + 125) = some (4, 1) := by rw [(g2 (o + 125) (by omega) (by omega)).1]; exact hout
  refine r_aload_n dL_law_1067 rfl ?_
  refine r_virt (hR n1 kd1 I1 J1 P1 hs) lk_L_177 mc_X10_doors dL_law_1068 hM1.1 (by omega) rfl rfl (Nat.le_of_ble_eq_true rfl) (Nat.le_of_eq (Nat.zero_add _)) (Nat.le_of_eq (Nat.zero_add _)) (fun _ _ _ _ _ _ q => nomatch q.1) ?_
  rintro y n2 kd2 I2 J2 P2 ⟨q0, rfl, rfl, rfl, t1, t0, t2⟩
  cases q0
  simp only [Option.toList, List.cons_append, List.nil_append]
  refine r_icmp_eq (tgt := 2132) dL_law_1071 (by decide) (fun _ => ?_) (fun hz => absurd (show _ from rfl) hz)
  exact hk _ _ _ _ _ _ _ g1.1 g1.2 ⟨hN.on g4 (fun a ha => t1 a ha) t2, ho1, by omega⟩

set_option maxHeartbeats 4000000 in
set_option maxRecDepth 100000 in
theorem ld_hints (o i L : Nat) {K : (Nat → ClassId) → Prop} {xs : Nat → Int32} {kc ks : Nat} {z5 z6 : Option Value} {n : Nat} {kd : mK} {I : mI} {J : mJ} {P : mP} (hZ : ∀ cA : Nat → ClassId, K cA → cA 301 = L ∧ ∀ j, nI (cA (310 + j)) = xs j) (hi : i + 6 ≤ L) (hL : L ≤ 3072) (h : stW o n kd I J P) (hn9 : n < 900000) (hk : ∀ n' kd' I' J' P' z5 z6, n ≤ n' → n' ≤ n + 1 → stW o n' kd' I' J' P' → RuL K kc ks 2132 [some (.ref 1000200), some (.ref o), some (.ref (o + 69)), some (.ref (o + 125)), some (.int (nI i)), z5, z6] [] n' kd' I' J' P') : RuL K (kc + 1) (ks + 10240) 1076 [some (.ref 1000200), some (.ref o), some (.ref (o + 69)), some (.ref (o + 125)), some (.int (nI i)), z5, z6] [] n kd I J P := by
  have hko := h.k.1
  have hout := h.2.1
  have ho9 := h.2.2
  obtain ⟨k, d2, mc, ms, d3, v, w, C, D, ⟨b1, b2, b3, b4, b5, b6⟩, hW, hR, hN⟩ := ow_hints o (xs (i + 1)) h hn9
  by_cases hk0 : k = 0
  · subst hk0
    have hvw := b6 rfl
    subst hvw
    refine r_aload_n dL_law_1076 rfl ?_
    refine r_aload_n dL_law_1077 rfl ?_
    refine r_iload dL_law_1078 rfl ?_
    refine r_iconst (v := nI 1) dL_law_1080 (by decide) ?_
    refine r_iadd dL_law_1081 ?_
    rw [show nI i + nI 1 = nI (i + 1) from nI_add i 1]
    refine r_sld hZ dL_law_1082 (nI_in8 L (by omega) (by omega)) (nI_clamp (by omega)) ?_
    refine r_aload_n dL_law_1083 rfl ?_
    refine r_statW (kc2 := kc) (ks2 := ks) hW lk_L_178 mw_hints dL_law_1084 (by omega) rfl rfl (Nat.le_of_ble_eq_true rfl) (by omega) (by omega) (fun _ _ _ _ _ _ q => nomatch q.1) ?_
    rintro y n1 kd1 I1 J1 P1 ⟨q0, g1, g2, g3, g4⟩
    cases q0
    simp only [Option.toList, List.cons_append, List.nil_append]
    have hs : sameM (o + 69) kd kd1 I I1 P P1 := fun a x1 x2 => g2 a (by omega) (by omega)
    have hM1 := h.m hs
    have ho1 : kd1 (o + 125) = some (4, 1) := by rw [(g2 (o + 125) (by omega) (by omega)).1]; exact hout
    refine r_istore dL_law_1087 (by decide) ?_
    refine r_aload_n dL_law_1089 rfl ?_
    refine r_aload_n dL_law_1090 rfl ?_
    refine r_iload dL_law_1091 rfl ?_
    refine r_iconst (v := nI 1) dL_law_1093 (by decide) ?_
    refine r_iadd dL_law_1094 ?_
    rw [show nI i + nI 1 = nI (i + 1) from nI_add i 1]
    refine r_sld hZ dL_law_1095 (nI_in8 L (by omega) (by omega)) (nI_clamp (by omega)) ?_
    refine r_virt (hR n1 kd1 I1 J1 P1 hs) lk_L_180 mc_X10_hints dL_law_1096 hM1.1 (by omega) rfl rfl (Nat.le_of_ble_eq_true rfl) (Nat.le_of_eq (Nat.zero_add _)) (Nat.le_of_eq (Nat.zero_add _)) (fun _ _ _ _ _ _ q => nomatch q.1) ?_
    rintro y n2 kd2 I2 J2 P2 ⟨q0, rfl, rfl, rfl, t1, t0, t2⟩
    cases q0
    simp only [Option.toList, List.cons_append, List.nil_append]
    refine r_istore dL_law_1099 (by decide) ?_
    refine r_aload_n dL_law_1101 rfl ?_
    refine r_virtE (c_X10_thrown (o + 69) hM1) lk_L_109 mc_X10_thrown dL_law_1102 hM1.1 (by decide) rfl rfl (Nat.le_of_ble_eq_true rfl) ?_
    rw [t0]
    refine r_iload dL_law_1105 rfl ?_
    refine r_icmp_eq (tgt := 1112) dL_law_1107 (by decide) (fun _ => ?_) (fun hz => absurd (show _ from rfl) hz)
    refine r_iload dL_law_1112 rfl ?_
    refine r_if_ne (tgt := 1129) dL_law_1114 (by decide) (fun hz => absurd (show _ from rfl) hz) (fun _ => ?_)
    refine r_aload_n dL_law_1117 rfl ?_
    refine r_iconst (v := nI 0) dL_law_1118 (by decide) ?_
    refine r_lald dL_law_1119 ho1 (nI_in8 1 (j := 0) (by decide) (by decide)) (nI_clamp (n := 0) (by decide)) ?_
    rw [show J2 (o + 125) 0 = v.toInt64 from by rw [(t1 (o + 125) (by omega)).2]; exact g3 rfl]
    refine r_iload dL_law_1120 rfl ?_
    refine r_i2l dL_law_1122 ?_
    refine r_lcmp dL_law_1123 ?_
    refine r_if_eq (tgt := 1129) dL_law_1124 (by decide) (fun _ => ?_) (fun hz => absurd (show _ from ((lg_cmp_eq _ _).mpr rfl)) hz)
    refine r_goto (tgt := 2132) dL_law_1129 (by decide) ?_
    exact hk _ _ _ _ _ _ _ g1.1 g1.2 ⟨hN.on g4 (fun a ha => t1 a ha) t2, ho1, by omega⟩
  · skip
    refine r_aload_n dL_law_1076 rfl ?_
    refine r_aload_n dL_law_1077 rfl ?_
    refine r_iload dL_law_1078 rfl ?_
    refine r_iconst (v := nI 1) dL_law_1080 (by decide) ?_
    refine r_iadd dL_law_1081 ?_
    rw [show nI i + nI 1 = nI (i + 1) from nI_add i 1]
    refine r_sld hZ dL_law_1082 (nI_in8 L (by omega) (by omega)) (nI_clamp (by omega)) ?_
    refine r_aload_n dL_law_1083 rfl ?_
    refine r_statW (kc2 := kc) (ks2 := ks) hW lk_L_178 mw_hints dL_law_1084 (by omega) rfl rfl (Nat.le_of_ble_eq_true rfl) (by omega) (by omega) (fun _ _ _ _ _ _ q => nomatch q.1) ?_
    rintro y n1 kd1 I1 J1 P1 ⟨q0, g1, g2, g3, g4⟩
    cases q0
    simp only [Option.toList, List.cons_append, List.nil_append]
    have hs : sameM (o + 69) kd kd1 I I1 P P1 := fun a x1 x2 => g2 a (by omega) (by omega)
    have hM1 := h.m hs
    have ho1 : kd1 (o + 125) = some (4, 1) := by rw [(g2 (o + 125) (by omega) (by omega)).1]; exact hout
    refine r_istore dL_law_1087 (by decide) ?_
    refine r_aload_n dL_law_1089 rfl ?_
    refine r_aload_n dL_law_1090 rfl ?_
    refine r_iload dL_law_1091 rfl ?_
    refine r_iconst (v := nI 1) dL_law_1093 (by decide) ?_
    refine r_iadd dL_law_1094 ?_
    rw [show nI i + nI 1 = nI (i + 1) from nI_add i 1]
    refine r_sld hZ dL_law_1095 (nI_in8 L (by omega) (by omega)) (nI_clamp (by omega)) ?_
    refine r_virt (hR n1 kd1 I1 J1 P1 hs) lk_L_180 mc_X10_hints dL_law_1096 hM1.1 (by omega) rfl rfl (Nat.le_of_ble_eq_true rfl) (Nat.le_of_eq (Nat.zero_add _)) (Nat.le_of_eq (Nat.zero_add _)) (fun _ _ _ _ _ _ q => nomatch q.1) ?_
    rintro y n2 kd2 I2 J2 P2 ⟨q0, rfl, rfl, rfl, t1, t0, t2⟩
    cases q0
    simp only [Option.toList, List.cons_append, List.nil_append]
    refine r_istore dL_law_1099 (by decide) ?_
    refine r_aload_n dL_law_1101 rfl ?_
    refine r_virtE (c_X10_thrown (o + 69) hM1) lk_L_109 mc_X10_thrown dL_law_1102 hM1.1 (by decide) rfl rfl (Nat.le_of_ble_eq_true rfl) ?_
    rw [t0]
    refine r_iload dL_law_1105 rfl ?_
    refine r_icmp_eq (tgt := 1112) dL_law_1107 (by decide) (fun _ => ?_) (fun hz => absurd (show _ from rfl) hz)
    refine r_iload dL_law_1112 rfl ?_
    refine r_if_ne (tgt := 1129) dL_law_1114 (by decide) (fun _ => ?_) (fun hz => absurd hz (show ¬ _ from (by rw [z_eq (by omega)]; exact hk0)))
    refine r_goto (tgt := 2132) dL_law_1129 (by decide) ?_
    exact hk _ _ _ _ _ _ _ g1.1 g1.2 ⟨hN.on g4 (fun a ha => t1 a ha) t2, ho1, by omega⟩

set_option maxHeartbeats 4000000 in
set_option maxRecDepth 100000 in
theorem ld_post (o i L : Nat) {K : (Nat → ClassId) → Prop} {xs : Nat → Int32} {kc ks : Nat} {z5 z6 : Option Value} {n : Nat} {kd : mK} {I : mI} {J : mJ} {P : mP} (hZ : ∀ cA : Nat → ClassId, K cA → cA 301 = L ∧ ∀ j, nI (cA (310 + j)) = xs j) (hi : i + 6 ≤ L) (hL : L ≤ 3072) (h : stW o n kd I J P) (hn9 : n < 900000) (hk : ∀ n' kd' I' J' P' z5 z6, n ≤ n' → n' ≤ n + 1 → stW o n' kd' I' J' P' → RuL K kc ks 2132 [some (.ref 1000200), some (.ref o), some (.ref (o + 69)), some (.ref (o + 125)), some (.int (nI i)), z5, z6] [] n' kd' I' J' P') : RuL K (kc + 1) (ks + 10240) 1132 [some (.ref 1000200), some (.ref o), some (.ref (o + 69)), some (.ref (o + 125)), some (.int (nI i)), z5, z6] [] n kd I J P := by
  have hko := h.k.1
  have hout := h.2.1
  have ho9 := h.2.2
  obtain ⟨k, d2, mc, ms, d3, v, w, C, D, ⟨b1, b2, b3, b4, b5, b6⟩, hW, hR, hN⟩ := ow_post o (xs (i + 1)) (xs (i + 2)) h hn9
  by_cases hk0 : k = 0
  · subst hk0
    have hvw := b6 rfl
    subst hvw
    refine r_aload_n dL_law_1132 rfl ?_
    refine r_aload_n dL_law_1133 rfl ?_
    refine r_iload dL_law_1134 rfl ?_
    refine r_iconst (v := nI 1) dL_law_1136 (by decide) ?_
    refine r_iadd dL_law_1137 ?_
    rw [show nI i + nI 1 = nI (i + 1) from nI_add i 1]
    refine r_sld hZ dL_law_1138 (nI_in8 L (by omega) (by omega)) (nI_clamp (by omega)) ?_
    refine r_aload_n dL_law_1139 rfl ?_
    refine r_iload dL_law_1140 rfl ?_
    refine r_iconst (v := nI 2) dL_law_1142 (by decide) ?_
    refine r_iadd dL_law_1143 ?_
    rw [show nI i + nI 2 = nI (i + 2) from nI_add i 2]
    refine r_sld hZ dL_law_1144 (nI_in8 L (by omega) (by omega)) (nI_clamp (by omega)) ?_
    refine r_aload_n dL_law_1145 rfl ?_
    refine r_statW (kc2 := kc) (ks2 := ks) hW lk_L_181 mw_post dL_law_1146 (by omega) rfl rfl (Nat.le_of_ble_eq_true rfl) (by omega) (by omega) (fun _ _ _ _ _ _ q => nomatch q.1) ?_
    rintro y n1 kd1 I1 J1 P1 ⟨q0, g1, g2, g3, g4⟩
    cases q0
    simp only [Option.toList, List.cons_append, List.nil_append]
    have hs : sameM (o + 69) kd kd1 I I1 P P1 := fun a x1 x2 => g2 a (by omega) (by omega)
    have hM1 := h.m hs
    have ho1 : kd1 (o + 125) = some (4, 1) := by rw [(g2 (o + 125) (by omega) (by omega)).1]; exact hout
    refine r_istore dL_law_1149 (by decide) ?_
    refine r_aload_n dL_law_1151 rfl ?_
    refine r_aload_n dL_law_1152 rfl ?_
    refine r_iload dL_law_1153 rfl ?_
    refine r_iconst (v := nI 1) dL_law_1155 (by decide) ?_
    refine r_iadd dL_law_1156 ?_
    rw [show nI i + nI 1 = nI (i + 1) from nI_add i 1]
    refine r_sld hZ dL_law_1157 (nI_in8 L (by omega) (by omega)) (nI_clamp (by omega)) ?_
    refine r_aload_n dL_law_1158 rfl ?_
    refine r_iload dL_law_1159 rfl ?_
    refine r_iconst (v := nI 2) dL_law_1161 (by decide) ?_
    refine r_iadd dL_law_1162 ?_
    rw [show nI i + nI 2 = nI (i + 2) from nI_add i 2]
    refine r_sld hZ dL_law_1163 (nI_in8 L (by omega) (by omega)) (nI_clamp (by omega)) ?_
    refine r_virt (hR n1 kd1 I1 J1 P1 hs) lk_L_183 mc_X10_post dL_law_1164 hM1.1 (by omega) rfl rfl (Nat.le_of_ble_eq_true rfl) (Nat.le_of_eq (Nat.zero_add _)) (Nat.le_of_eq (Nat.zero_add _)) (fun _ _ _ _ _ _ q => nomatch q.1) ?_
    rintro y n2 kd2 I2 J2 P2 ⟨q0, rfl, rfl, rfl, t1, t0, t2⟩
    cases q0
    simp only [Option.toList, List.cons_append, List.nil_append]
    refine r_istore dL_law_1167 (by decide) ?_
    refine r_aload_n dL_law_1169 rfl ?_
    refine r_virtE (c_X10_thrown (o + 69) hM1) lk_L_109 mc_X10_thrown dL_law_1170 hM1.1 (by decide) rfl rfl (Nat.le_of_ble_eq_true rfl) ?_
    rw [t0]
    refine r_iload dL_law_1173 rfl ?_
    refine r_icmp_eq (tgt := 1180) dL_law_1175 (by decide) (fun _ => ?_) (fun hz => absurd (show _ from rfl) hz)
    refine r_iload dL_law_1180 rfl ?_
    refine r_if_ne (tgt := 1197) dL_law_1182 (by decide) (fun hz => absurd (show _ from rfl) hz) (fun _ => ?_)
    refine r_aload_n dL_law_1185 rfl ?_
    refine r_iconst (v := nI 0) dL_law_1186 (by decide) ?_
    refine r_lald dL_law_1187 ho1 (nI_in8 1 (j := 0) (by decide) (by decide)) (nI_clamp (n := 0) (by decide)) ?_
    rw [show J2 (o + 125) 0 = v.toInt64 from by rw [(t1 (o + 125) (by omega)).2]; exact g3 rfl]
    refine r_iload dL_law_1188 rfl ?_
    refine r_i2l dL_law_1190 ?_
    refine r_lcmp dL_law_1191 ?_
    refine r_if_eq (tgt := 1197) dL_law_1192 (by decide) (fun _ => ?_) (fun hz => absurd (show _ from ((lg_cmp_eq _ _).mpr rfl)) hz)
    refine r_goto (tgt := 2132) dL_law_1197 (by decide) ?_
    exact hk _ _ _ _ _ _ _ g1.1 g1.2 ⟨hN.on g4 (fun a ha => t1 a ha) t2, ho1, by omega⟩
  · skip
    refine r_aload_n dL_law_1132 rfl ?_
    refine r_aload_n dL_law_1133 rfl ?_
    refine r_iload dL_law_1134 rfl ?_
    refine r_iconst (v := nI 1) dL_law_1136 (by decide) ?_
    refine r_iadd dL_law_1137 ?_
    rw [show nI i + nI 1 = nI (i + 1) from nI_add i 1]
    refine r_sld hZ dL_law_1138 (nI_in8 L (by omega) (by omega)) (nI_clamp (by omega)) ?_
    refine r_aload_n dL_law_1139 rfl ?_
    refine r_iload dL_law_1140 rfl ?_
    refine r_iconst (v := nI 2) dL_law_1142 (by decide) ?_
    refine r_iadd dL_law_1143 ?_
    rw [show nI i + nI 2 = nI (i + 2) from nI_add i 2]
    refine r_sld hZ dL_law_1144 (nI_in8 L (by omega) (by omega)) (nI_clamp (by omega)) ?_
    refine r_aload_n dL_law_1145 rfl ?_
    refine r_statW (kc2 := kc) (ks2 := ks) hW lk_L_181 mw_post dL_law_1146 (by omega) rfl rfl (Nat.le_of_ble_eq_true rfl) (by omega) (by omega) (fun _ _ _ _ _ _ q => nomatch q.1) ?_
    rintro y n1 kd1 I1 J1 P1 ⟨q0, g1, g2, g3, g4⟩
    cases q0
    simp only [Option.toList, List.cons_append, List.nil_append]
    have hs : sameM (o + 69) kd kd1 I I1 P P1 := fun a x1 x2 => g2 a (by omega) (by omega)
    have hM1 := h.m hs
    have ho1 : kd1 (o + 125) = some (4, 1) := by rw [(g2 (o + 125) (by omega) (by omega)).1]; exact hout
    refine r_istore dL_law_1149 (by decide) ?_
    refine r_aload_n dL_law_1151 rfl ?_
    refine r_aload_n dL_law_1152 rfl ?_
    refine r_iload dL_law_1153 rfl ?_
    refine r_iconst (v := nI 1) dL_law_1155 (by decide) ?_
    refine r_iadd dL_law_1156 ?_
    rw [show nI i + nI 1 = nI (i + 1) from nI_add i 1]
    refine r_sld hZ dL_law_1157 (nI_in8 L (by omega) (by omega)) (nI_clamp (by omega)) ?_
    refine r_aload_n dL_law_1158 rfl ?_
    refine r_iload dL_law_1159 rfl ?_
    refine r_iconst (v := nI 2) dL_law_1161 (by decide) ?_
    refine r_iadd dL_law_1162 ?_
    rw [show nI i + nI 2 = nI (i + 2) from nI_add i 2]
    refine r_sld hZ dL_law_1163 (nI_in8 L (by omega) (by omega)) (nI_clamp (by omega)) ?_
    refine r_virt (hR n1 kd1 I1 J1 P1 hs) lk_L_183 mc_X10_post dL_law_1164 hM1.1 (by omega) rfl rfl (Nat.le_of_ble_eq_true rfl) (Nat.le_of_eq (Nat.zero_add _)) (Nat.le_of_eq (Nat.zero_add _)) (fun _ _ _ _ _ _ q => nomatch q.1) ?_
    rintro y n2 kd2 I2 J2 P2 ⟨q0, rfl, rfl, rfl, t1, t0, t2⟩
    cases q0
    simp only [Option.toList, List.cons_append, List.nil_append]
    refine r_istore dL_law_1167 (by decide) ?_
    refine r_aload_n dL_law_1169 rfl ?_
    refine r_virtE (c_X10_thrown (o + 69) hM1) lk_L_109 mc_X10_thrown dL_law_1170 hM1.1 (by decide) rfl rfl (Nat.le_of_ble_eq_true rfl) ?_
    rw [t0]
    refine r_iload dL_law_1173 rfl ?_
    refine r_icmp_eq (tgt := 1180) dL_law_1175 (by decide) (fun _ => ?_) (fun hz => absurd (show _ from rfl) hz)
    refine r_iload dL_law_1180 rfl ?_
    refine r_if_ne (tgt := 1197) dL_law_1182 (by decide) (fun _ => ?_) (fun hz => absurd hz (show ¬ _ from (by rw [z_eq (by omega)]; exact hk0)))
    refine r_goto (tgt := 2132) dL_law_1197 (by decide) ?_
    exact hk _ _ _ _ _ _ _ g1.1 g1.2 ⟨hN.on g4 (fun a ha => t1 a ha) t2, ho1, by omega⟩

set_option maxHeartbeats 4000000 in
set_option maxRecDepth 100000 in
theorem ld_feud (o i L : Nat) {K : (Nat → ClassId) → Prop} {xs : Nat → Int32} {kc ks : Nat} {z5 z6 : Option Value} {n : Nat} {kd : mK} {I : mI} {J : mJ} {P : mP} (hZ : ∀ cA : Nat → ClassId, K cA → cA 301 = L ∧ ∀ j, nI (cA (310 + j)) = xs j) (hi : i + 6 ≤ L) (hL : L ≤ 3072) (h : stW o n kd I J P) (hn9 : n < 900000) (hk : ∀ n' kd' I' J' P' z5 z6, n ≤ n' → n' ≤ n + 1 → stW o n' kd' I' J' P' → RuL K kc ks 2132 [some (.ref 1000200), some (.ref o), some (.ref (o + 69)), some (.ref (o + 125)), some (.int (nI i)), z5, z6] [] n' kd' I' J' P') : RuL K (kc + 1) (ks + 10240) 1200 [some (.ref 1000200), some (.ref o), some (.ref (o + 69)), some (.ref (o + 125)), some (.int (nI i)), z5, z6] [] n kd I J P := by
  have hko := h.k.1
  have hout := h.2.1
  have ho9 := h.2.2
  obtain ⟨k, d2, mc, ms, d3, v, w, C, D, ⟨b1, b2, b3, b4, b5, b6⟩, hW, hR, hN⟩ := ow_feud o (xs (i + 1)) (xs (i + 2)) (xs (i + 3)) h hn9
  by_cases hk0 : k = 0
  · subst hk0
    have hvw := b6 rfl
    subst hvw
    refine r_aload_n dL_law_1200 rfl ?_
    refine r_aload_n dL_law_1201 rfl ?_
    refine r_iload dL_law_1202 rfl ?_
    refine r_iconst (v := nI 1) dL_law_1204 (by decide) ?_
    refine r_iadd dL_law_1205 ?_
    rw [show nI i + nI 1 = nI (i + 1) from nI_add i 1]
    refine r_sld hZ dL_law_1206 (nI_in8 L (by omega) (by omega)) (nI_clamp (by omega)) ?_
    refine r_aload_n dL_law_1207 rfl ?_
    refine r_iload dL_law_1208 rfl ?_
    refine r_iconst (v := nI 2) dL_law_1210 (by decide) ?_
    refine r_iadd dL_law_1211 ?_
    rw [show nI i + nI 2 = nI (i + 2) from nI_add i 2]
    refine r_sld hZ dL_law_1212 (nI_in8 L (by omega) (by omega)) (nI_clamp (by omega)) ?_
    refine r_aload_n dL_law_1213 rfl ?_
    refine r_iload dL_law_1214 rfl ?_
    refine r_iconst (v := nI 3) dL_law_1216 (by decide) ?_
    refine r_iadd dL_law_1217 ?_
    rw [show nI i + nI 3 = nI (i + 3) from nI_add i 3]
    refine r_sld hZ dL_law_1218 (nI_in8 L (by omega) (by omega)) (nI_clamp (by omega)) ?_
    refine r_aload_n dL_law_1219 rfl ?_
    refine r_statW (kc2 := kc) (ks2 := ks) hW lk_L_184 mw_feud dL_law_1220 (by omega) rfl rfl (Nat.le_of_ble_eq_true rfl) (by omega) (by omega) (fun _ _ _ _ _ _ q => nomatch q.1) ?_
    rintro y n1 kd1 I1 J1 P1 ⟨q0, g1, g2, g3, g4⟩
    cases q0
    simp only [Option.toList, List.cons_append, List.nil_append]
    have hs : sameM (o + 69) kd kd1 I I1 P P1 := fun a x1 x2 => g2 a (by omega) (by omega)
    have hM1 := h.m hs
    have ho1 : kd1 (o + 125) = some (4, 1) := by rw [(g2 (o + 125) (by omega) (by omega)).1]; exact hout
    refine r_istore dL_law_1223 (by decide) ?_
    refine r_aload_n dL_law_1225 rfl ?_
    refine r_aload_n dL_law_1226 rfl ?_
    refine r_iload dL_law_1227 rfl ?_
    refine r_iconst (v := nI 1) dL_law_1229 (by decide) ?_
    refine r_iadd dL_law_1230 ?_
    rw [show nI i + nI 1 = nI (i + 1) from nI_add i 1]
    refine r_sld hZ dL_law_1231 (nI_in8 L (by omega) (by omega)) (nI_clamp (by omega)) ?_
    refine r_aload_n dL_law_1232 rfl ?_
    refine r_iload dL_law_1233 rfl ?_
    refine r_iconst (v := nI 2) dL_law_1235 (by decide) ?_
    refine r_iadd dL_law_1236 ?_
    rw [show nI i + nI 2 = nI (i + 2) from nI_add i 2]
    refine r_sld hZ dL_law_1237 (nI_in8 L (by omega) (by omega)) (nI_clamp (by omega)) ?_
    refine r_aload_n dL_law_1238 rfl ?_
    refine r_iload dL_law_1239 rfl ?_
    refine r_iconst (v := nI 3) dL_law_1241 (by decide) ?_
    refine r_iadd dL_law_1242 ?_
    rw [show nI i + nI 3 = nI (i + 3) from nI_add i 3]
    refine r_sld hZ dL_law_1243 (nI_in8 L (by omega) (by omega)) (nI_clamp (by omega)) ?_
    refine r_virt (hR n1 kd1 I1 J1 P1 hs) lk_L_186 mc_X10_feud dL_law_1244 hM1.1 (by omega) rfl rfl (Nat.le_of_ble_eq_true rfl) (Nat.le_of_eq (Nat.zero_add _)) (Nat.le_of_eq (Nat.zero_add _)) (fun _ _ _ _ _ _ q => nomatch q.1) ?_
    rintro y n2 kd2 I2 J2 P2 ⟨q0, rfl, rfl, rfl, t1, t0, t2⟩
    cases q0
    simp only [Option.toList, List.cons_append, List.nil_append]
    refine r_istore dL_law_1247 (by decide) ?_
    refine r_aload_n dL_law_1249 rfl ?_
    refine r_virtE (c_X10_thrown (o + 69) hM1) lk_L_109 mc_X10_thrown dL_law_1250 hM1.1 (by decide) rfl rfl (Nat.le_of_ble_eq_true rfl) ?_
    rw [t0]
    refine r_iload dL_law_1253 rfl ?_
    refine r_icmp_eq (tgt := 1260) dL_law_1255 (by decide) (fun _ => ?_) (fun hz => absurd (show _ from rfl) hz)
    refine r_iload dL_law_1260 rfl ?_
    refine r_if_ne (tgt := 1277) dL_law_1262 (by decide) (fun hz => absurd (show _ from rfl) hz) (fun _ => ?_)
    refine r_aload_n dL_law_1265 rfl ?_
    refine r_iconst (v := nI 0) dL_law_1266 (by decide) ?_
    refine r_lald dL_law_1267 ho1 (nI_in8 1 (j := 0) (by decide) (by decide)) (nI_clamp (n := 0) (by decide)) ?_
    rw [show J2 (o + 125) 0 = v.toInt64 from by rw [(t1 (o + 125) (by omega)).2]; exact g3 rfl]
    refine r_iload dL_law_1268 rfl ?_
    refine r_i2l dL_law_1270 ?_
    refine r_lcmp dL_law_1271 ?_
    refine r_if_eq (tgt := 1277) dL_law_1272 (by decide) (fun _ => ?_) (fun hz => absurd (show _ from ((lg_cmp_eq _ _).mpr rfl)) hz)
    refine r_goto (tgt := 2132) dL_law_1277 (by decide) ?_
    exact hk _ _ _ _ _ _ _ g1.1 g1.2 ⟨hN.on g4 (fun a ha => t1 a ha) t2, ho1, by omega⟩
  · skip
    refine r_aload_n dL_law_1200 rfl ?_
    refine r_aload_n dL_law_1201 rfl ?_
    refine r_iload dL_law_1202 rfl ?_
    refine r_iconst (v := nI 1) dL_law_1204 (by decide) ?_
    refine r_iadd dL_law_1205 ?_
    rw [show nI i + nI 1 = nI (i + 1) from nI_add i 1]
    refine r_sld hZ dL_law_1206 (nI_in8 L (by omega) (by omega)) (nI_clamp (by omega)) ?_
    refine r_aload_n dL_law_1207 rfl ?_
    refine r_iload dL_law_1208 rfl ?_
    refine r_iconst (v := nI 2) dL_law_1210 (by decide) ?_
    refine r_iadd dL_law_1211 ?_
    rw [show nI i + nI 2 = nI (i + 2) from nI_add i 2]
    refine r_sld hZ dL_law_1212 (nI_in8 L (by omega) (by omega)) (nI_clamp (by omega)) ?_
    refine r_aload_n dL_law_1213 rfl ?_
    refine r_iload dL_law_1214 rfl ?_
    refine r_iconst (v := nI 3) dL_law_1216 (by decide) ?_
    refine r_iadd dL_law_1217 ?_
    rw [show nI i + nI 3 = nI (i + 3) from nI_add i 3]
    refine r_sld hZ dL_law_1218 (nI_in8 L (by omega) (by omega)) (nI_clamp (by omega)) ?_
    refine r_aload_n dL_law_1219 rfl ?_
    refine r_statW (kc2 := kc) (ks2 := ks) hW lk_L_184 mw_feud dL_law_1220 (by omega) rfl rfl (Nat.le_of_ble_eq_true rfl) (by omega) (by omega) (fun _ _ _ _ _ _ q => nomatch q.1) ?_
    rintro y n1 kd1 I1 J1 P1 ⟨q0, g1, g2, g3, g4⟩
    cases q0
    simp only [Option.toList, List.cons_append, List.nil_append]
    have hs : sameM (o + 69) kd kd1 I I1 P P1 := fun a x1 x2 => g2 a (by omega) (by omega)
    have hM1 := h.m hs
    have ho1 : kd1 (o + 125) = some (4, 1) := by rw [(g2 (o + 125) (by omega) (by omega)).1]; exact hout
    refine r_istore dL_law_1223 (by decide) ?_
    refine r_aload_n dL_law_1225 rfl ?_
    refine r_aload_n dL_law_1226 rfl ?_
    refine r_iload dL_law_1227 rfl ?_
    refine r_iconst (v := nI 1) dL_law_1229 (by decide) ?_
    refine r_iadd dL_law_1230 ?_
    rw [show nI i + nI 1 = nI (i + 1) from nI_add i 1]
    refine r_sld hZ dL_law_1231 (nI_in8 L (by omega) (by omega)) (nI_clamp (by omega)) ?_
    refine r_aload_n dL_law_1232 rfl ?_
    refine r_iload dL_law_1233 rfl ?_
    refine r_iconst (v := nI 2) dL_law_1235 (by decide) ?_
    refine r_iadd dL_law_1236 ?_
    rw [show nI i + nI 2 = nI (i + 2) from nI_add i 2]
    refine r_sld hZ dL_law_1237 (nI_in8 L (by omega) (by omega)) (nI_clamp (by omega)) ?_
    refine r_aload_n dL_law_1238 rfl ?_
    refine r_iload dL_law_1239 rfl ?_
    refine r_iconst (v := nI 3) dL_law_1241 (by decide) ?_
    refine r_iadd dL_law_1242 ?_
    rw [show nI i + nI 3 = nI (i + 3) from nI_add i 3]
    refine r_sld hZ dL_law_1243 (nI_in8 L (by omega) (by omega)) (nI_clamp (by omega)) ?_
    refine r_virt (hR n1 kd1 I1 J1 P1 hs) lk_L_186 mc_X10_feud dL_law_1244 hM1.1 (by omega) rfl rfl (Nat.le_of_ble_eq_true rfl) (Nat.le_of_eq (Nat.zero_add _)) (Nat.le_of_eq (Nat.zero_add _)) (fun _ _ _ _ _ _ q => nomatch q.1) ?_
    rintro y n2 kd2 I2 J2 P2 ⟨q0, rfl, rfl, rfl, t1, t0, t2⟩
    cases q0
    simp only [Option.toList, List.cons_append, List.nil_append]
    refine r_istore dL_law_1247 (by decide) ?_
    refine r_aload_n dL_law_1249 rfl ?_
    refine r_virtE (c_X10_thrown (o + 69) hM1) lk_L_109 mc_X10_thrown dL_law_1250 hM1.1 (by decide) rfl rfl (Nat.le_of_ble_eq_true rfl) ?_
    rw [t0]
    refine r_iload dL_law_1253 rfl ?_
    refine r_icmp_eq (tgt := 1260) dL_law_1255 (by decide) (fun _ => ?_) (fun hz => absurd (show _ from rfl) hz)
    refine r_iload dL_law_1260 rfl ?_
    refine r_if_ne (tgt := 1277) dL_law_1262 (by decide) (fun _ => ?_) (fun hz => absurd hz (show ¬ _ from (by rw [z_eq (by omega)]; exact hk0)))
    refine r_goto (tgt := 2132) dL_law_1277 (by decide) ?_
    exact hk _ _ _ _ _ _ _ g1.1 g1.2 ⟨hN.on g4 (fun a ha => t1 a ha) t2, ho1, by omega⟩

set_option maxHeartbeats 4000000 in
set_option maxRecDepth 100000 in
theorem ld_years (o i L : Nat) {K : (Nat → ClassId) → Prop} {xs : Nat → Int32} {kc ks : Nat} {z5 z6 : Option Value} {n : Nat} {kd : mK} {I : mI} {J : mJ} {P : mP} (hZ : ∀ cA : Nat → ClassId, K cA → cA 301 = L ∧ ∀ j, nI (cA (310 + j)) = xs j) (hi : i + 6 ≤ L) (hL : L ≤ 3072) (h : stW o n kd I J P) (hn9 : n < 900000) (hk : ∀ n' kd' I' J' P' z5 z6, n ≤ n' → n' ≤ n + 1 → stW o n' kd' I' J' P' → RuL K kc ks 2132 [some (.ref 1000200), some (.ref o), some (.ref (o + 69)), some (.ref (o + 125)), some (.int (nI i)), z5, z6] [] n' kd' I' J' P') : RuL K (kc + 1) (ks + 10240) 1280 [some (.ref 1000200), some (.ref o), some (.ref (o + 69)), some (.ref (o + 125)), some (.int (nI i)), z5, z6] [] n kd I J P := by
  have hko := h.k.1
  have hout := h.2.1
  have ho9 := h.2.2
  obtain ⟨k, d2, mc, ms, d3, v, w, C, D, ⟨b1, b2, b3, b4, b5, b6⟩, hW, hR, hN⟩ := ow_years o (xs (i + 1)) (xs (i + 2)) h hn9
  by_cases hk0 : k = 0
  · subst hk0
    have hvw := b6 rfl
    subst hvw
    refine r_aload_n dL_law_1280 rfl ?_
    refine r_aload_n dL_law_1281 rfl ?_
    refine r_iload dL_law_1282 rfl ?_
    refine r_iconst (v := nI 1) dL_law_1284 (by decide) ?_
    refine r_iadd dL_law_1285 ?_
    rw [show nI i + nI 1 = nI (i + 1) from nI_add i 1]
    refine r_sld hZ dL_law_1286 (nI_in8 L (by omega) (by omega)) (nI_clamp (by omega)) ?_
    refine r_aload_n dL_law_1287 rfl ?_
    refine r_iload dL_law_1288 rfl ?_
    refine r_iconst (v := nI 2) dL_law_1290 (by decide) ?_
    refine r_iadd dL_law_1291 ?_
    rw [show nI i + nI 2 = nI (i + 2) from nI_add i 2]
    refine r_sld hZ dL_law_1292 (nI_in8 L (by omega) (by omega)) (nI_clamp (by omega)) ?_
    refine r_aload_n dL_law_1293 rfl ?_
    refine r_statW (kc2 := kc) (ks2 := ks) hW lk_L_187 mw_years dL_law_1294 (by omega) rfl rfl (Nat.le_of_ble_eq_true rfl) (by omega) (by omega) (fun _ _ _ _ _ _ q => nomatch q.1) ?_
    rintro y n1 kd1 I1 J1 P1 ⟨q0, g1, g2, g3, g4⟩
    cases q0
    simp only [Option.toList, List.cons_append, List.nil_append]
    have hs : sameM (o + 69) kd kd1 I I1 P P1 := fun a x1 x2 => g2 a (by omega) (by omega)
    have hM1 := h.m hs
    have ho1 : kd1 (o + 125) = some (4, 1) := by rw [(g2 (o + 125) (by omega) (by omega)).1]; exact hout
    refine r_istore dL_law_1297 (by decide) ?_
    refine r_aload_n dL_law_1299 rfl ?_
    refine r_aload_n dL_law_1300 rfl ?_
    refine r_iload dL_law_1301 rfl ?_
    refine r_iconst (v := nI 1) dL_law_1303 (by decide) ?_
    refine r_iadd dL_law_1304 ?_
    rw [show nI i + nI 1 = nI (i + 1) from nI_add i 1]
    refine r_sld hZ dL_law_1305 (nI_in8 L (by omega) (by omega)) (nI_clamp (by omega)) ?_
    refine r_aload_n dL_law_1306 rfl ?_
    refine r_iload dL_law_1307 rfl ?_
    refine r_iconst (v := nI 2) dL_law_1309 (by decide) ?_
    refine r_iadd dL_law_1310 ?_
    rw [show nI i + nI 2 = nI (i + 2) from nI_add i 2]
    refine r_sld hZ dL_law_1311 (nI_in8 L (by omega) (by omega)) (nI_clamp (by omega)) ?_
    refine r_virt (hR n1 kd1 I1 J1 P1 hs) lk_L_189 mc_X10_years dL_law_1312 hM1.1 (by omega) rfl rfl (Nat.le_of_ble_eq_true rfl) (Nat.le_of_eq (Nat.zero_add _)) (Nat.le_of_eq (Nat.zero_add _)) (fun _ _ _ _ _ _ q => nomatch q.1) ?_
    rintro y n2 kd2 I2 J2 P2 ⟨q0, rfl, rfl, rfl, t1, t0, t2⟩
    cases q0
    simp only [Option.toList, List.cons_append, List.nil_append]
    refine r_istore dL_law_1315 (by decide) ?_
    refine r_aload_n dL_law_1317 rfl ?_
    refine r_virtE (c_X10_thrown (o + 69) hM1) lk_L_109 mc_X10_thrown dL_law_1318 hM1.1 (by decide) rfl rfl (Nat.le_of_ble_eq_true rfl) ?_
    rw [t0]
    refine r_iload dL_law_1321 rfl ?_
    refine r_icmp_eq (tgt := 1328) dL_law_1323 (by decide) (fun _ => ?_) (fun hz => absurd (show _ from rfl) hz)
    refine r_iload dL_law_1328 rfl ?_
    refine r_if_ne (tgt := 1345) dL_law_1330 (by decide) (fun hz => absurd (show _ from rfl) hz) (fun _ => ?_)
    refine r_aload_n dL_law_1333 rfl ?_
    refine r_iconst (v := nI 0) dL_law_1334 (by decide) ?_
    refine r_lald dL_law_1335 ho1 (nI_in8 1 (j := 0) (by decide) (by decide)) (nI_clamp (n := 0) (by decide)) ?_
    rw [show J2 (o + 125) 0 = v.toInt64 from by rw [(t1 (o + 125) (by omega)).2]; exact g3 rfl]
    refine r_iload dL_law_1336 rfl ?_
    refine r_i2l dL_law_1338 ?_
    refine r_lcmp dL_law_1339 ?_
    refine r_if_eq (tgt := 1345) dL_law_1340 (by decide) (fun _ => ?_) (fun hz => absurd (show _ from ((lg_cmp_eq _ _).mpr rfl)) hz)
    refine r_goto (tgt := 2132) dL_law_1345 (by decide) ?_
    exact hk _ _ _ _ _ _ _ g1.1 g1.2 ⟨hN.on g4 (fun a ha => t1 a ha) t2, ho1, by omega⟩
  · skip
    refine r_aload_n dL_law_1280 rfl ?_
    refine r_aload_n dL_law_1281 rfl ?_
    refine r_iload dL_law_1282 rfl ?_
    refine r_iconst (v := nI 1) dL_law_1284 (by decide) ?_
    refine r_iadd dL_law_1285 ?_
    rw [show nI i + nI 1 = nI (i + 1) from nI_add i 1]
    refine r_sld hZ dL_law_1286 (nI_in8 L (by omega) (by omega)) (nI_clamp (by omega)) ?_
    refine r_aload_n dL_law_1287 rfl ?_
    refine r_iload dL_law_1288 rfl ?_
    refine r_iconst (v := nI 2) dL_law_1290 (by decide) ?_
    refine r_iadd dL_law_1291 ?_
    rw [show nI i + nI 2 = nI (i + 2) from nI_add i 2]
    refine r_sld hZ dL_law_1292 (nI_in8 L (by omega) (by omega)) (nI_clamp (by omega)) ?_
    refine r_aload_n dL_law_1293 rfl ?_
    refine r_statW (kc2 := kc) (ks2 := ks) hW lk_L_187 mw_years dL_law_1294 (by omega) rfl rfl (Nat.le_of_ble_eq_true rfl) (by omega) (by omega) (fun _ _ _ _ _ _ q => nomatch q.1) ?_
    rintro y n1 kd1 I1 J1 P1 ⟨q0, g1, g2, g3, g4⟩
    cases q0
    simp only [Option.toList, List.cons_append, List.nil_append]
    have hs : sameM (o + 69) kd kd1 I I1 P P1 := fun a x1 x2 => g2 a (by omega) (by omega)
    have hM1 := h.m hs
    have ho1 : kd1 (o + 125) = some (4, 1) := by rw [(g2 (o + 125) (by omega) (by omega)).1]; exact hout
    refine r_istore dL_law_1297 (by decide) ?_
    refine r_aload_n dL_law_1299 rfl ?_
    refine r_aload_n dL_law_1300 rfl ?_
    refine r_iload dL_law_1301 rfl ?_
    refine r_iconst (v := nI 1) dL_law_1303 (by decide) ?_
    refine r_iadd dL_law_1304 ?_
    rw [show nI i + nI 1 = nI (i + 1) from nI_add i 1]
    refine r_sld hZ dL_law_1305 (nI_in8 L (by omega) (by omega)) (nI_clamp (by omega)) ?_
    refine r_aload_n dL_law_1306 rfl ?_
    refine r_iload dL_law_1307 rfl ?_
    refine r_iconst (v := nI 2) dL_law_1309 (by decide) ?_
    refine r_iadd dL_law_1310 ?_
    rw [show nI i + nI 2 = nI (i + 2) from nI_add i 2]
    refine r_sld hZ dL_law_1311 (nI_in8 L (by omega) (by omega)) (nI_clamp (by omega)) ?_
    refine r_virt (hR n1 kd1 I1 J1 P1 hs) lk_L_189 mc_X10_years dL_law_1312 hM1.1 (by omega) rfl rfl (Nat.le_of_ble_eq_true rfl) (Nat.le_of_eq (Nat.zero_add _)) (Nat.le_of_eq (Nat.zero_add _)) (fun _ _ _ _ _ _ q => nomatch q.1) ?_
    rintro y n2 kd2 I2 J2 P2 ⟨q0, rfl, rfl, rfl, t1, t0, t2⟩
    cases q0
    simp only [Option.toList, List.cons_append, List.nil_append]
    refine r_istore dL_law_1315 (by decide) ?_
    refine r_aload_n dL_law_1317 rfl ?_
    refine r_virtE (c_X10_thrown (o + 69) hM1) lk_L_109 mc_X10_thrown dL_law_1318 hM1.1 (by decide) rfl rfl (Nat.le_of_ble_eq_true rfl) ?_
    rw [t0]
    refine r_iload dL_law_1321 rfl ?_
    refine r_icmp_eq (tgt := 1328) dL_law_1323 (by decide) (fun _ => ?_) (fun hz => absurd (show _ from rfl) hz)
    refine r_iload dL_law_1328 rfl ?_
    refine r_if_ne (tgt := 1345) dL_law_1330 (by decide) (fun _ => ?_) (fun hz => absurd hz (show ¬ _ from (by rw [z_eq (by omega)]; exact hk0)))
    refine r_goto (tgt := 2132) dL_law_1345 (by decide) ?_
    exact hk _ _ _ _ _ _ _ g1.1 g1.2 ⟨hN.on g4 (fun a ha => t1 a ha) t2, ho1, by omega⟩

set_option maxHeartbeats 4000000 in
set_option maxRecDepth 100000 in
theorem ld_proof (o i L : Nat) {K : (Nat → ClassId) → Prop} {xs : Nat → Int32} {kc ks : Nat} {z5 z6 : Option Value} {n : Nat} {kd : mK} {I : mI} {J : mJ} {P : mP} (hZ : ∀ cA : Nat → ClassId, K cA → cA 301 = L ∧ ∀ j, nI (cA (310 + j)) = xs j) (hi : i + 6 ≤ L) (hL : L ≤ 3072) (h : stW o n kd I J P) (hn9 : n < 900000) (hk : ∀ n' kd' I' J' P' z5 z6, n ≤ n' → n' ≤ n + 1 → stW o n' kd' I' J' P' → RuL K kc ks 2132 [some (.ref 1000200), some (.ref o), some (.ref (o + 69)), some (.ref (o + 125)), some (.int (nI i)), z5, z6] [] n' kd' I' J' P') : RuL K (kc + 1) (ks + 10240) 1348 [some (.ref 1000200), some (.ref o), some (.ref (o + 69)), some (.ref (o + 125)), some (.int (nI i)), z5, z6] [] n kd I J P := by
  have hko := h.k.1
  have hout := h.2.1
  have ho9 := h.2.2
  obtain ⟨k, d2, mc, ms, d3, v, w, C, D, ⟨b1, b2, b3, b4, b5, b6⟩, hW, hR, hN⟩ := ow_proof o (xs (i + 1)) h hn9
  by_cases hk0 : k = 0
  · subst hk0
    have hvw := b6 rfl
    subst hvw
    refine r_aload_n dL_law_1348 rfl ?_
    refine r_aload_n dL_law_1349 rfl ?_
    refine r_iload dL_law_1350 rfl ?_
    refine r_iconst (v := nI 1) dL_law_1352 (by decide) ?_
    refine r_iadd dL_law_1353 ?_
    rw [show nI i + nI 1 = nI (i + 1) from nI_add i 1]
    refine r_sld hZ dL_law_1354 (nI_in8 L (by omega) (by omega)) (nI_clamp (by omega)) ?_
    refine r_aload_n dL_law_1355 rfl ?_
    refine r_statW (kc2 := kc) (ks2 := ks) hW lk_L_190 mw_proof dL_law_1356 (by omega) rfl rfl (Nat.le_of_ble_eq_true rfl) (by omega) (by omega) (fun _ _ _ _ _ _ q => nomatch q.1) ?_
    rintro y n1 kd1 I1 J1 P1 ⟨q0, g1, g2, g3, g4⟩
    cases q0
    simp only [Option.toList, List.cons_append, List.nil_append]
    have hs : sameM (o + 69) kd kd1 I I1 P P1 := fun a x1 x2 => g2 a (by omega) (by omega)
    have hM1 := h.m hs
    have ho1 : kd1 (o + 125) = some (4, 1) := by rw [(g2 (o + 125) (by omega) (by omega)).1]; exact hout
    refine r_istore dL_law_1359 (by decide) ?_
    refine r_aload_n dL_law_1361 rfl ?_
    refine r_aload_n dL_law_1362 rfl ?_
    refine r_iload dL_law_1363 rfl ?_
    refine r_iconst (v := nI 1) dL_law_1365 (by decide) ?_
    refine r_iadd dL_law_1366 ?_
    rw [show nI i + nI 1 = nI (i + 1) from nI_add i 1]
    refine r_sld hZ dL_law_1367 (nI_in8 L (by omega) (by omega)) (nI_clamp (by omega)) ?_
    refine r_virt (hR n1 kd1 I1 J1 P1 hs) lk_L_192 mc_X10_proof dL_law_1368 hM1.1 (by omega) rfl rfl (Nat.le_of_ble_eq_true rfl) (Nat.le_of_eq (Nat.zero_add _)) (Nat.le_of_eq (Nat.zero_add _)) (fun _ _ _ _ _ _ q => nomatch q.1) ?_
    rintro y n2 kd2 I2 J2 P2 ⟨q0, rfl, rfl, rfl, t1, t0, t2⟩
    cases q0
    simp only [Option.toList, List.cons_append, List.nil_append]
    refine r_istore dL_law_1371 (by decide) ?_
    refine r_aload_n dL_law_1373 rfl ?_
    refine r_virtE (c_X10_thrown (o + 69) hM1) lk_L_109 mc_X10_thrown dL_law_1374 hM1.1 (by decide) rfl rfl (Nat.le_of_ble_eq_true rfl) ?_
    rw [t0]
    refine r_iload dL_law_1377 rfl ?_
    refine r_icmp_eq (tgt := 1384) dL_law_1379 (by decide) (fun _ => ?_) (fun hz => absurd (show _ from rfl) hz)
    refine r_iload dL_law_1384 rfl ?_
    refine r_if_ne (tgt := 1401) dL_law_1386 (by decide) (fun hz => absurd (show _ from rfl) hz) (fun _ => ?_)
    refine r_aload_n dL_law_1389 rfl ?_
    refine r_iconst (v := nI 0) dL_law_1390 (by decide) ?_
    refine r_lald dL_law_1391 ho1 (nI_in8 1 (j := 0) (by decide) (by decide)) (nI_clamp (n := 0) (by decide)) ?_
    rw [show J2 (o + 125) 0 = v.toInt64 from by rw [(t1 (o + 125) (by omega)).2]; exact g3 rfl]
    refine r_iload dL_law_1392 rfl ?_
    refine r_i2l dL_law_1394 ?_
    refine r_lcmp dL_law_1395 ?_
    refine r_if_eq (tgt := 1401) dL_law_1396 (by decide) (fun _ => ?_) (fun hz => absurd (show _ from ((lg_cmp_eq _ _).mpr rfl)) hz)
    refine r_goto (tgt := 2132) dL_law_1401 (by decide) ?_
    exact hk _ _ _ _ _ _ _ g1.1 g1.2 ⟨hN.on g4 (fun a ha => t1 a ha) t2, ho1, by omega⟩
  · skip
    refine r_aload_n dL_law_1348 rfl ?_
    refine r_aload_n dL_law_1349 rfl ?_
    refine r_iload dL_law_1350 rfl ?_
    refine r_iconst (v := nI 1) dL_law_1352 (by decide) ?_
    refine r_iadd dL_law_1353 ?_
    rw [show nI i + nI 1 = nI (i + 1) from nI_add i 1]
    refine r_sld hZ dL_law_1354 (nI_in8 L (by omega) (by omega)) (nI_clamp (by omega)) ?_
    refine r_aload_n dL_law_1355 rfl ?_
    refine r_statW (kc2 := kc) (ks2 := ks) hW lk_L_190 mw_proof dL_law_1356 (by omega) rfl rfl (Nat.le_of_ble_eq_true rfl) (by omega) (by omega) (fun _ _ _ _ _ _ q => nomatch q.1) ?_
    rintro y n1 kd1 I1 J1 P1 ⟨q0, g1, g2, g3, g4⟩
    cases q0
    simp only [Option.toList, List.cons_append, List.nil_append]
    have hs : sameM (o + 69) kd kd1 I I1 P P1 := fun a x1 x2 => g2 a (by omega) (by omega)
    have hM1 := h.m hs
    have ho1 : kd1 (o + 125) = some (4, 1) := by rw [(g2 (o + 125) (by omega) (by omega)).1]; exact hout
    refine r_istore dL_law_1359 (by decide) ?_
    refine r_aload_n dL_law_1361 rfl ?_
    refine r_aload_n dL_law_1362 rfl ?_
    refine r_iload dL_law_1363 rfl ?_
    refine r_iconst (v := nI 1) dL_law_1365 (by decide) ?_
    refine r_iadd dL_law_1366 ?_
    rw [show nI i + nI 1 = nI (i + 1) from nI_add i 1]
    refine r_sld hZ dL_law_1367 (nI_in8 L (by omega) (by omega)) (nI_clamp (by omega)) ?_
    refine r_virt (hR n1 kd1 I1 J1 P1 hs) lk_L_192 mc_X10_proof dL_law_1368 hM1.1 (by omega) rfl rfl (Nat.le_of_ble_eq_true rfl) (Nat.le_of_eq (Nat.zero_add _)) (Nat.le_of_eq (Nat.zero_add _)) (fun _ _ _ _ _ _ q => nomatch q.1) ?_
    rintro y n2 kd2 I2 J2 P2 ⟨q0, rfl, rfl, rfl, t1, t0, t2⟩
    cases q0
    simp only [Option.toList, List.cons_append, List.nil_append]
    refine r_istore dL_law_1371 (by decide) ?_
    refine r_aload_n dL_law_1373 rfl ?_
    refine r_virtE (c_X10_thrown (o + 69) hM1) lk_L_109 mc_X10_thrown dL_law_1374 hM1.1 (by decide) rfl rfl (Nat.le_of_ble_eq_true rfl) ?_
    rw [t0]
    refine r_iload dL_law_1377 rfl ?_
    refine r_icmp_eq (tgt := 1384) dL_law_1379 (by decide) (fun _ => ?_) (fun hz => absurd (show _ from rfl) hz)
    refine r_iload dL_law_1384 rfl ?_
    refine r_if_ne (tgt := 1401) dL_law_1386 (by decide) (fun _ => ?_) (fun hz => absurd hz (show ¬ _ from (by rw [z_eq (by omega)]; exact hk0)))
    refine r_goto (tgt := 2132) dL_law_1401 (by decide) ?_
    exact hk _ _ _ _ _ _ _ g1.1 g1.2 ⟨hN.on g4 (fun a ha => t1 a ha) t2, ho1, by omega⟩

set_option maxHeartbeats 4000000 in
set_option maxRecDepth 100000 in
theorem ld_build (o i L : Nat) {K : (Nat → ClassId) → Prop} {xs : Nat → Int32} {kc ks : Nat} {z5 z6 : Option Value} {n : Nat} {kd : mK} {I : mI} {J : mJ} {P : mP} (hZ : ∀ cA : Nat → ClassId, K cA → cA 301 = L ∧ ∀ j, nI (cA (310 + j)) = xs j) (hi : i + 6 ≤ L) (hL : L ≤ 3072) (h : stW o n kd I J P) (hn9 : n < 900000) (hk : ∀ n' kd' I' J' P' z5 z6, n ≤ n' → n' ≤ n + 1 → stW o n' kd' I' J' P' → RuL K kc ks 2132 [some (.ref 1000200), some (.ref o), some (.ref (o + 69)), some (.ref (o + 125)), some (.int (nI i)), z5, z6] [] n' kd' I' J' P') : RuL K (kc + 1) (ks + 10240) 1404 [some (.ref 1000200), some (.ref o), some (.ref (o + 69)), some (.ref (o + 125)), some (.int (nI i)), z5, z6] [] n kd I J P := by
  have hko := h.k.1
  have hout := h.2.1
  have ho9 := h.2.2
  obtain ⟨k, d2, mc, ms, d3, v, w, C, D, ⟨b1, b2, b3, b4, b5, b6⟩, hW, hR, hN⟩ := ow_build o (xs (i + 1)) h hn9
  by_cases hk0 : k = 0
  · subst hk0
    have hvw := b6 rfl
    subst hvw
    refine r_aload_n dL_law_1404 rfl ?_
    refine r_aload_n dL_law_1405 rfl ?_
    refine r_iload dL_law_1406 rfl ?_
    refine r_iconst (v := nI 1) dL_law_1408 (by decide) ?_
    refine r_iadd dL_law_1409 ?_
    rw [show nI i + nI 1 = nI (i + 1) from nI_add i 1]
    refine r_sld hZ dL_law_1410 (nI_in8 L (by omega) (by omega)) (nI_clamp (by omega)) ?_
    refine r_aload_n dL_law_1411 rfl ?_
    refine r_statW (kc2 := kc) (ks2 := ks) hW lk_L_193 mw_build dL_law_1412 (by omega) rfl rfl (Nat.le_of_ble_eq_true rfl) (by omega) (by omega) (fun _ _ _ _ _ _ q => nomatch q.1) ?_
    rintro y n1 kd1 I1 J1 P1 ⟨q0, g1, g2, g3, g4⟩
    cases q0
    simp only [Option.toList, List.cons_append, List.nil_append]
    have hs : sameM (o + 69) kd kd1 I I1 P P1 := fun a x1 x2 => g2 a (by omega) (by omega)
    have hM1 := h.m hs
    have ho1 : kd1 (o + 125) = some (4, 1) := by rw [(g2 (o + 125) (by omega) (by omega)).1]; exact hout
    refine r_istore dL_law_1415 (by decide) ?_
    refine r_aload_n dL_law_1417 rfl ?_
    refine r_aload_n dL_law_1418 rfl ?_
    refine r_iload dL_law_1419 rfl ?_
    refine r_iconst (v := nI 1) dL_law_1421 (by decide) ?_
    refine r_iadd dL_law_1422 ?_
    rw [show nI i + nI 1 = nI (i + 1) from nI_add i 1]
    refine r_sld hZ dL_law_1423 (nI_in8 L (by omega) (by omega)) (nI_clamp (by omega)) ?_
    refine r_virt (hR n1 kd1 I1 J1 P1 hs) lk_L_195 mc_X10_build dL_law_1424 hM1.1 (by omega) rfl rfl (Nat.le_of_ble_eq_true rfl) (Nat.le_of_eq (Nat.zero_add _)) (Nat.le_of_eq (Nat.zero_add _)) (fun _ _ _ _ _ _ q => nomatch q.1) ?_
    rintro y n2 kd2 I2 J2 P2 ⟨q0, rfl, rfl, rfl, t1, t0, t2⟩
    cases q0
    simp only [Option.toList, List.cons_append, List.nil_append]
    refine r_istore dL_law_1427 (by decide) ?_
    refine r_aload_n dL_law_1429 rfl ?_
    refine r_virtE (c_X10_thrown (o + 69) hM1) lk_L_109 mc_X10_thrown dL_law_1430 hM1.1 (by decide) rfl rfl (Nat.le_of_ble_eq_true rfl) ?_
    rw [t0]
    refine r_iload dL_law_1433 rfl ?_
    refine r_icmp_eq (tgt := 1440) dL_law_1435 (by decide) (fun _ => ?_) (fun hz => absurd (show _ from rfl) hz)
    refine r_iload dL_law_1440 rfl ?_
    refine r_if_ne (tgt := 1457) dL_law_1442 (by decide) (fun hz => absurd (show _ from rfl) hz) (fun _ => ?_)
    refine r_aload_n dL_law_1445 rfl ?_
    refine r_iconst (v := nI 0) dL_law_1446 (by decide) ?_
    refine r_lald dL_law_1447 ho1 (nI_in8 1 (j := 0) (by decide) (by decide)) (nI_clamp (n := 0) (by decide)) ?_
    rw [show J2 (o + 125) 0 = v.toInt64 from by rw [(t1 (o + 125) (by omega)).2]; exact g3 rfl]
    refine r_iload dL_law_1448 rfl ?_
    refine r_i2l dL_law_1450 ?_
    refine r_lcmp dL_law_1451 ?_
    refine r_if_eq (tgt := 1457) dL_law_1452 (by decide) (fun _ => ?_) (fun hz => absurd (show _ from ((lg_cmp_eq _ _).mpr rfl)) hz)
    refine r_goto (tgt := 2132) dL_law_1457 (by decide) ?_
    exact hk _ _ _ _ _ _ _ g1.1 g1.2 ⟨hN.on g4 (fun a ha => t1 a ha) t2, ho1, by omega⟩
  · skip
    refine r_aload_n dL_law_1404 rfl ?_
    refine r_aload_n dL_law_1405 rfl ?_
    refine r_iload dL_law_1406 rfl ?_
    refine r_iconst (v := nI 1) dL_law_1408 (by decide) ?_
    refine r_iadd dL_law_1409 ?_
    rw [show nI i + nI 1 = nI (i + 1) from nI_add i 1]
    refine r_sld hZ dL_law_1410 (nI_in8 L (by omega) (by omega)) (nI_clamp (by omega)) ?_
    refine r_aload_n dL_law_1411 rfl ?_
    refine r_statW (kc2 := kc) (ks2 := ks) hW lk_L_193 mw_build dL_law_1412 (by omega) rfl rfl (Nat.le_of_ble_eq_true rfl) (by omega) (by omega) (fun _ _ _ _ _ _ q => nomatch q.1) ?_
    rintro y n1 kd1 I1 J1 P1 ⟨q0, g1, g2, g3, g4⟩
    cases q0
    simp only [Option.toList, List.cons_append, List.nil_append]
    have hs : sameM (o + 69) kd kd1 I I1 P P1 := fun a x1 x2 => g2 a (by omega) (by omega)
    have hM1 := h.m hs
    have ho1 : kd1 (o + 125) = some (4, 1) := by rw [(g2 (o + 125) (by omega) (by omega)).1]; exact hout
    refine r_istore dL_law_1415 (by decide) ?_
    refine r_aload_n dL_law_1417 rfl ?_
    refine r_aload_n dL_law_1418 rfl ?_
    refine r_iload dL_law_1419 rfl ?_
    refine r_iconst (v := nI 1) dL_law_1421 (by decide) ?_
    refine r_iadd dL_law_1422 ?_
    rw [show nI i + nI 1 = nI (i + 1) from nI_add i 1]
    refine r_sld hZ dL_law_1423 (nI_in8 L (by omega) (by omega)) (nI_clamp (by omega)) ?_
    refine r_virt (hR n1 kd1 I1 J1 P1 hs) lk_L_195 mc_X10_build dL_law_1424 hM1.1 (by omega) rfl rfl (Nat.le_of_ble_eq_true rfl) (Nat.le_of_eq (Nat.zero_add _)) (Nat.le_of_eq (Nat.zero_add _)) (fun _ _ _ _ _ _ q => nomatch q.1) ?_
    rintro y n2 kd2 I2 J2 P2 ⟨q0, rfl, rfl, rfl, t1, t0, t2⟩
    cases q0
    simp only [Option.toList, List.cons_append, List.nil_append]
    refine r_istore dL_law_1427 (by decide) ?_
    refine r_aload_n dL_law_1429 rfl ?_
    refine r_virtE (c_X10_thrown (o + 69) hM1) lk_L_109 mc_X10_thrown dL_law_1430 hM1.1 (by decide) rfl rfl (Nat.le_of_ble_eq_true rfl) ?_
    rw [t0]
    refine r_iload dL_law_1433 rfl ?_
    refine r_icmp_eq (tgt := 1440) dL_law_1435 (by decide) (fun _ => ?_) (fun hz => absurd (show _ from rfl) hz)
    refine r_iload dL_law_1440 rfl ?_
    refine r_if_ne (tgt := 1457) dL_law_1442 (by decide) (fun _ => ?_) (fun hz => absurd hz (show ¬ _ from (by rw [z_eq (by omega)]; exact hk0)))
    refine r_goto (tgt := 2132) dL_law_1457 (by decide) ?_
    exact hk _ _ _ _ _ _ _ g1.1 g1.2 ⟨hN.on g4 (fun a ha => t1 a ha) t2, ho1, by omega⟩

set_option maxHeartbeats 4000000 in
set_option maxRecDepth 100000 in
theorem ld_changed (o i L : Nat) {K : (Nat → ClassId) → Prop} {xs : Nat → Int32} {kc ks : Nat} {z5 z6 : Option Value} {n : Nat} {kd : mK} {I : mI} {J : mJ} {P : mP} (hZ : ∀ cA : Nat → ClassId, K cA → cA 301 = L ∧ ∀ j, nI (cA (310 + j)) = xs j) (hi : i + 6 ≤ L) (hL : L ≤ 3072) (h : stW o n kd I J P) (hn9 : n < 900000) (hk : ∀ n' kd' I' J' P' z5 z6, n ≤ n' → n' ≤ n + 1 → stW o n' kd' I' J' P' → RuL K kc ks 2132 [some (.ref 1000200), some (.ref o), some (.ref (o + 69)), some (.ref (o + 125)), some (.int (nI i)), z5, z6] [] n' kd' I' J' P') : RuL K (kc + 1) (ks + 10240) 1460 [some (.ref 1000200), some (.ref o), some (.ref (o + 69)), some (.ref (o + 125)), some (.int (nI i)), z5, z6] [] n kd I J P := by
  have hko := h.k.1
  have hout := h.2.1
  have ho9 := h.2.2
  obtain ⟨k, d2, mc, ms, d3, v, w, C, D, ⟨b1, b2, b3, b4, b5, b6⟩, hW, hR, hN⟩ := ow_changed o (xs (i + 1)) (xs (i + 2)) (xs (i + 3)) (xs (i + 4)) h hn9
  by_cases hk0 : k = 0
  · subst hk0
    have hvw := b6 rfl
    subst hvw
    refine r_aload_n dL_law_1460 rfl ?_
    refine r_aload_n dL_law_1461 rfl ?_
    refine r_iload dL_law_1462 rfl ?_
    refine r_iconst (v := nI 1) dL_law_1464 (by decide) ?_
    refine r_iadd dL_law_1465 ?_
    rw [show nI i + nI 1 = nI (i + 1) from nI_add i 1]
    refine r_sld hZ dL_law_1466 (nI_in8 L (by omega) (by omega)) (nI_clamp (by omega)) ?_
    refine r_aload_n dL_law_1467 rfl ?_
    refine r_iload dL_law_1468 rfl ?_
    refine r_iconst (v := nI 2) dL_law_1470 (by decide) ?_
    refine r_iadd dL_law_1471 ?_
    rw [show nI i + nI 2 = nI (i + 2) from nI_add i 2]
    refine r_sld hZ dL_law_1472 (nI_in8 L (by omega) (by omega)) (nI_clamp (by omega)) ?_
    refine r_aload_n dL_law_1473 rfl ?_
    refine r_iload dL_law_1474 rfl ?_
    refine r_iconst (v := nI 3) dL_law_1476 (by decide) ?_
    refine r_iadd dL_law_1477 ?_
    rw [show nI i + nI 3 = nI (i + 3) from nI_add i 3]
    refine r_sld hZ dL_law_1478 (nI_in8 L (by omega) (by omega)) (nI_clamp (by omega)) ?_
    refine r_aload_n dL_law_1479 rfl ?_
    refine r_iload dL_law_1480 rfl ?_
    refine r_iconst (v := nI 4) dL_law_1482 (by decide) ?_
    refine r_iadd dL_law_1483 ?_
    rw [show nI i + nI 4 = nI (i + 4) from nI_add i 4]
    refine r_sld hZ dL_law_1484 (nI_in8 L (by omega) (by omega)) (nI_clamp (by omega)) ?_
    refine r_aload_n dL_law_1485 rfl ?_
    refine r_statW (kc2 := kc) (ks2 := ks) hW lk_L_196 mw_changed dL_law_1486 (by omega) rfl rfl (Nat.le_of_ble_eq_true rfl) (by omega) (by omega) (fun _ _ _ _ _ _ q => nomatch q.1) ?_
    rintro y n1 kd1 I1 J1 P1 ⟨q0, g1, g2, g3, g4⟩
    cases q0
    simp only [Option.toList, List.cons_append, List.nil_append]
    have hs : sameM (o + 69) kd kd1 I I1 P P1 := fun a x1 x2 => g2 a (by omega) (by omega)
    have hM1 := h.m hs
    have ho1 : kd1 (o + 125) = some (4, 1) := by rw [(g2 (o + 125) (by omega) (by omega)).1]; exact hout
    refine r_istore dL_law_1489 (by decide) ?_
    refine r_aload_n dL_law_1491 rfl ?_
    refine r_aload_n dL_law_1492 rfl ?_
    refine r_iload dL_law_1493 rfl ?_
    refine r_iconst (v := nI 1) dL_law_1495 (by decide) ?_
    refine r_iadd dL_law_1496 ?_
    rw [show nI i + nI 1 = nI (i + 1) from nI_add i 1]
    refine r_sld hZ dL_law_1497 (nI_in8 L (by omega) (by omega)) (nI_clamp (by omega)) ?_
    refine r_aload_n dL_law_1498 rfl ?_
    refine r_iload dL_law_1499 rfl ?_
    refine r_iconst (v := nI 2) dL_law_1501 (by decide) ?_
    refine r_iadd dL_law_1502 ?_
    rw [show nI i + nI 2 = nI (i + 2) from nI_add i 2]
    refine r_sld hZ dL_law_1503 (nI_in8 L (by omega) (by omega)) (nI_clamp (by omega)) ?_
    refine r_aload_n dL_law_1504 rfl ?_
    refine r_iload dL_law_1505 rfl ?_
    refine r_iconst (v := nI 3) dL_law_1507 (by decide) ?_
    refine r_iadd dL_law_1508 ?_
    rw [show nI i + nI 3 = nI (i + 3) from nI_add i 3]
    refine r_sld hZ dL_law_1509 (nI_in8 L (by omega) (by omega)) (nI_clamp (by omega)) ?_
    refine r_aload_n dL_law_1510 rfl ?_
    refine r_iload dL_law_1511 rfl ?_
    refine r_iconst (v := nI 4) dL_law_1513 (by decide) ?_
    refine r_iadd dL_law_1514 ?_
    rw [show nI i + nI 4 = nI (i + 4) from nI_add i 4]
    refine r_sld hZ dL_law_1515 (nI_in8 L (by omega) (by omega)) (nI_clamp (by omega)) ?_
    refine r_virt (hR n1 kd1 I1 J1 P1 hs) lk_L_199 mc_X10_changed dL_law_1516 hM1.1 (by omega) rfl rfl (Nat.le_of_ble_eq_true rfl) (Nat.le_of_eq (Nat.zero_add _)) (Nat.le_of_eq (Nat.zero_add _)) (fun _ _ _ _ _ _ q => nomatch q.1) ?_
    rintro y n2 kd2 I2 J2 P2 ⟨q0, rfl, rfl, rfl, t1, t0, t2⟩
    cases q0
    simp only [Option.toList, List.cons_append, List.nil_append]
    refine r_istore dL_law_1519 (by decide) ?_
    refine r_aload_n dL_law_1521 rfl ?_
    refine r_virtE (c_X10_thrown (o + 69) hM1) lk_L_109 mc_X10_thrown dL_law_1522 hM1.1 (by decide) rfl rfl (Nat.le_of_ble_eq_true rfl) ?_
    rw [t0]
    refine r_iload dL_law_1525 rfl ?_
    refine r_icmp_eq (tgt := 1532) dL_law_1527 (by decide) (fun _ => ?_) (fun hz => absurd (show _ from rfl) hz)
    refine r_iload dL_law_1532 rfl ?_
    refine r_if_ne (tgt := 1549) dL_law_1534 (by decide) (fun hz => absurd (show _ from rfl) hz) (fun _ => ?_)
    refine r_aload_n dL_law_1537 rfl ?_
    refine r_iconst (v := nI 0) dL_law_1538 (by decide) ?_
    refine r_lald dL_law_1539 ho1 (nI_in8 1 (j := 0) (by decide) (by decide)) (nI_clamp (n := 0) (by decide)) ?_
    rw [show J2 (o + 125) 0 = v.toInt64 from by rw [(t1 (o + 125) (by omega)).2]; exact g3 rfl]
    refine r_iload dL_law_1540 rfl ?_
    refine r_i2l dL_law_1542 ?_
    refine r_lcmp dL_law_1543 ?_
    refine r_if_eq (tgt := 1549) dL_law_1544 (by decide) (fun _ => ?_) (fun hz => absurd (show _ from ((lg_cmp_eq _ _).mpr rfl)) hz)
    refine r_goto (tgt := 2132) dL_law_1549 (by decide) ?_
    exact hk _ _ _ _ _ _ _ g1.1 g1.2 ⟨hN.on g4 (fun a ha => t1 a ha) t2, ho1, by omega⟩
  · skip
    refine r_aload_n dL_law_1460 rfl ?_
    refine r_aload_n dL_law_1461 rfl ?_
    refine r_iload dL_law_1462 rfl ?_
    refine r_iconst (v := nI 1) dL_law_1464 (by decide) ?_
    refine r_iadd dL_law_1465 ?_
    rw [show nI i + nI 1 = nI (i + 1) from nI_add i 1]
    refine r_sld hZ dL_law_1466 (nI_in8 L (by omega) (by omega)) (nI_clamp (by omega)) ?_
    refine r_aload_n dL_law_1467 rfl ?_
    refine r_iload dL_law_1468 rfl ?_
    refine r_iconst (v := nI 2) dL_law_1470 (by decide) ?_
    refine r_iadd dL_law_1471 ?_
    rw [show nI i + nI 2 = nI (i + 2) from nI_add i 2]
    refine r_sld hZ dL_law_1472 (nI_in8 L (by omega) (by omega)) (nI_clamp (by omega)) ?_
    refine r_aload_n dL_law_1473 rfl ?_
    refine r_iload dL_law_1474 rfl ?_
    refine r_iconst (v := nI 3) dL_law_1476 (by decide) ?_
    refine r_iadd dL_law_1477 ?_
    rw [show nI i + nI 3 = nI (i + 3) from nI_add i 3]
    refine r_sld hZ dL_law_1478 (nI_in8 L (by omega) (by omega)) (nI_clamp (by omega)) ?_
    refine r_aload_n dL_law_1479 rfl ?_
    refine r_iload dL_law_1480 rfl ?_
    refine r_iconst (v := nI 4) dL_law_1482 (by decide) ?_
    refine r_iadd dL_law_1483 ?_
    rw [show nI i + nI 4 = nI (i + 4) from nI_add i 4]
    refine r_sld hZ dL_law_1484 (nI_in8 L (by omega) (by omega)) (nI_clamp (by omega)) ?_
    refine r_aload_n dL_law_1485 rfl ?_
    refine r_statW (kc2 := kc) (ks2 := ks) hW lk_L_196 mw_changed dL_law_1486 (by omega) rfl rfl (Nat.le_of_ble_eq_true rfl) (by omega) (by omega) (fun _ _ _ _ _ _ q => nomatch q.1) ?_
    rintro y n1 kd1 I1 J1 P1 ⟨q0, g1, g2, g3, g4⟩
    cases q0
    simp only [Option.toList, List.cons_append, List.nil_append]
    have hs : sameM (o + 69) kd kd1 I I1 P P1 := fun a x1 x2 => g2 a (by omega) (by omega)
    have hM1 := h.m hs
    have ho1 : kd1 (o + 125) = some (4, 1) := by rw [(g2 (o + 125) (by omega) (by omega)).1]; exact hout
    refine r_istore dL_law_1489 (by decide) ?_
    refine r_aload_n dL_law_1491 rfl ?_
    refine r_aload_n dL_law_1492 rfl ?_
    refine r_iload dL_law_1493 rfl ?_
    refine r_iconst (v := nI 1) dL_law_1495 (by decide) ?_
    refine r_iadd dL_law_1496 ?_
    rw [show nI i + nI 1 = nI (i + 1) from nI_add i 1]
    refine r_sld hZ dL_law_1497 (nI_in8 L (by omega) (by omega)) (nI_clamp (by omega)) ?_
    refine r_aload_n dL_law_1498 rfl ?_
    refine r_iload dL_law_1499 rfl ?_
    refine r_iconst (v := nI 2) dL_law_1501 (by decide) ?_
    refine r_iadd dL_law_1502 ?_
    rw [show nI i + nI 2 = nI (i + 2) from nI_add i 2]
    refine r_sld hZ dL_law_1503 (nI_in8 L (by omega) (by omega)) (nI_clamp (by omega)) ?_
    refine r_aload_n dL_law_1504 rfl ?_
    refine r_iload dL_law_1505 rfl ?_
    refine r_iconst (v := nI 3) dL_law_1507 (by decide) ?_
    refine r_iadd dL_law_1508 ?_
    rw [show nI i + nI 3 = nI (i + 3) from nI_add i 3]
    refine r_sld hZ dL_law_1509 (nI_in8 L (by omega) (by omega)) (nI_clamp (by omega)) ?_
    refine r_aload_n dL_law_1510 rfl ?_
    refine r_iload dL_law_1511 rfl ?_
    refine r_iconst (v := nI 4) dL_law_1513 (by decide) ?_
    refine r_iadd dL_law_1514 ?_
    rw [show nI i + nI 4 = nI (i + 4) from nI_add i 4]
    refine r_sld hZ dL_law_1515 (nI_in8 L (by omega) (by omega)) (nI_clamp (by omega)) ?_
    refine r_virt (hR n1 kd1 I1 J1 P1 hs) lk_L_199 mc_X10_changed dL_law_1516 hM1.1 (by omega) rfl rfl (Nat.le_of_ble_eq_true rfl) (Nat.le_of_eq (Nat.zero_add _)) (Nat.le_of_eq (Nat.zero_add _)) (fun _ _ _ _ _ _ q => nomatch q.1) ?_
    rintro y n2 kd2 I2 J2 P2 ⟨q0, rfl, rfl, rfl, t1, t0, t2⟩
    cases q0
    simp only [Option.toList, List.cons_append, List.nil_append]
    refine r_istore dL_law_1519 (by decide) ?_
    refine r_aload_n dL_law_1521 rfl ?_
    refine r_virtE (c_X10_thrown (o + 69) hM1) lk_L_109 mc_X10_thrown dL_law_1522 hM1.1 (by decide) rfl rfl (Nat.le_of_ble_eq_true rfl) ?_
    rw [t0]
    refine r_iload dL_law_1525 rfl ?_
    refine r_icmp_eq (tgt := 1532) dL_law_1527 (by decide) (fun _ => ?_) (fun hz => absurd (show _ from rfl) hz)
    refine r_iload dL_law_1532 rfl ?_
    refine r_if_ne (tgt := 1549) dL_law_1534 (by decide) (fun _ => ?_) (fun hz => absurd hz (show ¬ _ from (by rw [z_eq (by omega)]; exact hk0)))
    refine r_goto (tgt := 2132) dL_law_1549 (by decide) ?_
    exact hk _ _ _ _ _ _ _ g1.1 g1.2 ⟨hN.on g4 (fun a ha => t1 a ha) t2, ho1, by omega⟩

set_option maxHeartbeats 4000000 in
set_option maxRecDepth 100000 in
theorem ld_walk (o i L : Nat) {K : (Nat → ClassId) → Prop} {xs : Nat → Int32} {kc ks : Nat} {z5 z6 : Option Value} {n : Nat} {kd : mK} {I : mI} {J : mJ} {P : mP} (hZ : ∀ cA : Nat → ClassId, K cA → cA 301 = L ∧ ∀ j, nI (cA (310 + j)) = xs j) (hi : i + 6 ≤ L) (hL : L ≤ 3072) (h : stW o n kd I J P) (hn9 : n < 900000) (hk : ∀ n' kd' I' J' P' z5 z6, n ≤ n' → n' ≤ n + 1 → stW o n' kd' I' J' P' → RuL K kc ks 2132 [some (.ref 1000200), some (.ref o), some (.ref (o + 69)), some (.ref (o + 125)), some (.int (nI i)), z5, z6] [] n' kd' I' J' P') : RuL K (kc + 1) (ks + 10240) 1552 [some (.ref 1000200), some (.ref o), some (.ref (o + 69)), some (.ref (o + 125)), some (.int (nI i)), z5, z6] [] n kd I J P := by
  have hko := h.k.1
  have hout := h.2.1
  have ho9 := h.2.2
  obtain ⟨k, d2, mc, ms, d3, v, w, C, D, ⟨b1, b2, b3, b4, b5, b6⟩, hW, hR, hN⟩ := ow_walk o (xs (i + 1)) (xs (i + 2)) (xs (i + 3)) h hn9
  by_cases hk0 : k = 0
  · subst hk0
    have hvw := b6 rfl
    subst hvw
    refine r_aload_n dL_law_1552 rfl ?_
    refine r_aload_n dL_law_1553 rfl ?_
    refine r_iload dL_law_1554 rfl ?_
    refine r_iconst (v := nI 1) dL_law_1556 (by decide) ?_
    refine r_iadd dL_law_1557 ?_
    rw [show nI i + nI 1 = nI (i + 1) from nI_add i 1]
    refine r_sld hZ dL_law_1558 (nI_in8 L (by omega) (by omega)) (nI_clamp (by omega)) ?_
    refine r_aload_n dL_law_1559 rfl ?_
    refine r_iload dL_law_1560 rfl ?_
    refine r_iconst (v := nI 2) dL_law_1562 (by decide) ?_
    refine r_iadd dL_law_1563 ?_
    rw [show nI i + nI 2 = nI (i + 2) from nI_add i 2]
    refine r_sld hZ dL_law_1564 (nI_in8 L (by omega) (by omega)) (nI_clamp (by omega)) ?_
    refine r_aload_n dL_law_1565 rfl ?_
    refine r_iload dL_law_1566 rfl ?_
    refine r_iconst (v := nI 3) dL_law_1568 (by decide) ?_
    refine r_iadd dL_law_1569 ?_
    rw [show nI i + nI 3 = nI (i + 3) from nI_add i 3]
    refine r_sld hZ dL_law_1570 (nI_in8 L (by omega) (by omega)) (nI_clamp (by omega)) ?_
    refine r_aload_n dL_law_1571 rfl ?_
    refine r_statW (kc2 := kc) (ks2 := ks) hW lk_L_200 mw_walk dL_law_1572 (by omega) rfl rfl (Nat.le_of_ble_eq_true rfl) (by omega) (by omega) (fun _ _ _ _ _ _ q => nomatch q.1) ?_
    rintro y n1 kd1 I1 J1 P1 ⟨q0, g1, g2, g3, g4⟩
    cases q0
    simp only [Option.toList, List.cons_append, List.nil_append]
    have hs : sameM (o + 69) kd kd1 I I1 P P1 := fun a x1 x2 => g2 a (by omega) (by omega)
    have hM1 := h.m hs
    have ho1 : kd1 (o + 125) = some (4, 1) := by rw [(g2 (o + 125) (by omega) (by omega)).1]; exact hout
    refine r_istore dL_law_1575 (by decide) ?_
    refine r_aload_n dL_law_1577 rfl ?_
    refine r_aload_n dL_law_1578 rfl ?_
    refine r_iload dL_law_1579 rfl ?_
    refine r_iconst (v := nI 1) dL_law_1581 (by decide) ?_
    refine r_iadd dL_law_1582 ?_
    rw [show nI i + nI 1 = nI (i + 1) from nI_add i 1]
    refine r_sld hZ dL_law_1583 (nI_in8 L (by omega) (by omega)) (nI_clamp (by omega)) ?_
    refine r_aload_n dL_law_1584 rfl ?_
    refine r_iload dL_law_1585 rfl ?_
    refine r_iconst (v := nI 2) dL_law_1587 (by decide) ?_
    refine r_iadd dL_law_1588 ?_
    rw [show nI i + nI 2 = nI (i + 2) from nI_add i 2]
    refine r_sld hZ dL_law_1589 (nI_in8 L (by omega) (by omega)) (nI_clamp (by omega)) ?_
    refine r_aload_n dL_law_1590 rfl ?_
    refine r_iload dL_law_1591 rfl ?_
    refine r_iconst (v := nI 3) dL_law_1593 (by decide) ?_
    refine r_iadd dL_law_1594 ?_
    rw [show nI i + nI 3 = nI (i + 3) from nI_add i 3]
    refine r_sld hZ dL_law_1595 (nI_in8 L (by omega) (by omega)) (nI_clamp (by omega)) ?_
    refine r_virt (hR n1 kd1 I1 J1 P1 hs) lk_L_202 mc_X10_walk dL_law_1596 hM1.1 (by omega) rfl rfl (Nat.le_of_ble_eq_true rfl) (Nat.le_of_eq (Nat.zero_add _)) (Nat.le_of_eq (Nat.zero_add _)) (fun _ _ _ _ _ _ q => nomatch q.1) ?_
    rintro y n2 kd2 I2 J2 P2 ⟨q0, rfl, rfl, rfl, t1, t0, t2⟩
    cases q0
    simp only [Option.toList, List.cons_append, List.nil_append]
    refine r_istore dL_law_1599 (by decide) ?_
    refine r_aload_n dL_law_1601 rfl ?_
    refine r_virtE (c_X10_thrown (o + 69) hM1) lk_L_109 mc_X10_thrown dL_law_1602 hM1.1 (by decide) rfl rfl (Nat.le_of_ble_eq_true rfl) ?_
    rw [t0]
    refine r_iload dL_law_1605 rfl ?_
    refine r_icmp_eq (tgt := 1612) dL_law_1607 (by decide) (fun _ => ?_) (fun hz => absurd (show _ from rfl) hz)
    refine r_iload dL_law_1612 rfl ?_
    refine r_if_ne (tgt := 1629) dL_law_1614 (by decide) (fun hz => absurd (show _ from rfl) hz) (fun _ => ?_)
    refine r_aload_n dL_law_1617 rfl ?_
    refine r_iconst (v := nI 0) dL_law_1618 (by decide) ?_
    refine r_lald dL_law_1619 ho1 (nI_in8 1 (j := 0) (by decide) (by decide)) (nI_clamp (n := 0) (by decide)) ?_
    rw [show J2 (o + 125) 0 = v.toInt64 from by rw [(t1 (o + 125) (by omega)).2]; exact g3 rfl]
    refine r_iload dL_law_1620 rfl ?_
    refine r_i2l dL_law_1622 ?_
    refine r_lcmp dL_law_1623 ?_
    refine r_if_eq (tgt := 1629) dL_law_1624 (by decide) (fun _ => ?_) (fun hz => absurd (show _ from ((lg_cmp_eq _ _).mpr rfl)) hz)
    refine r_goto (tgt := 2132) dL_law_1629 (by decide) ?_
    exact hk _ _ _ _ _ _ _ g1.1 g1.2 ⟨hN.on g4 (fun a ha => t1 a ha) t2, ho1, by omega⟩
  · skip
    refine r_aload_n dL_law_1552 rfl ?_
    refine r_aload_n dL_law_1553 rfl ?_
    refine r_iload dL_law_1554 rfl ?_
    refine r_iconst (v := nI 1) dL_law_1556 (by decide) ?_
    refine r_iadd dL_law_1557 ?_
    rw [show nI i + nI 1 = nI (i + 1) from nI_add i 1]
    refine r_sld hZ dL_law_1558 (nI_in8 L (by omega) (by omega)) (nI_clamp (by omega)) ?_
    refine r_aload_n dL_law_1559 rfl ?_
    refine r_iload dL_law_1560 rfl ?_
    refine r_iconst (v := nI 2) dL_law_1562 (by decide) ?_
    refine r_iadd dL_law_1563 ?_
    rw [show nI i + nI 2 = nI (i + 2) from nI_add i 2]
    refine r_sld hZ dL_law_1564 (nI_in8 L (by omega) (by omega)) (nI_clamp (by omega)) ?_
    refine r_aload_n dL_law_1565 rfl ?_
    refine r_iload dL_law_1566 rfl ?_
    refine r_iconst (v := nI 3) dL_law_1568 (by decide) ?_
    refine r_iadd dL_law_1569 ?_
    rw [show nI i + nI 3 = nI (i + 3) from nI_add i 3]
    refine r_sld hZ dL_law_1570 (nI_in8 L (by omega) (by omega)) (nI_clamp (by omega)) ?_
    refine r_aload_n dL_law_1571 rfl ?_
    refine r_statW (kc2 := kc) (ks2 := ks) hW lk_L_200 mw_walk dL_law_1572 (by omega) rfl rfl (Nat.le_of_ble_eq_true rfl) (by omega) (by omega) (fun _ _ _ _ _ _ q => nomatch q.1) ?_
    rintro y n1 kd1 I1 J1 P1 ⟨q0, g1, g2, g3, g4⟩
    cases q0
    simp only [Option.toList, List.cons_append, List.nil_append]
    have hs : sameM (o + 69) kd kd1 I I1 P P1 := fun a x1 x2 => g2 a (by omega) (by omega)
    have hM1 := h.m hs
    have ho1 : kd1 (o + 125) = some (4, 1) := by rw [(g2 (o + 125) (by omega) (by omega)).1]; exact hout
    refine r_istore dL_law_1575 (by decide) ?_
    refine r_aload_n dL_law_1577 rfl ?_
    refine r_aload_n dL_law_1578 rfl ?_
    refine r_iload dL_law_1579 rfl ?_
    refine r_iconst (v := nI 1) dL_law_1581 (by decide) ?_
    refine r_iadd dL_law_1582 ?_
    rw [show nI i + nI 1 = nI (i + 1) from nI_add i 1]
    refine r_sld hZ dL_law_1583 (nI_in8 L (by omega) (by omega)) (nI_clamp (by omega)) ?_
    refine r_aload_n dL_law_1584 rfl ?_
    refine r_iload dL_law_1585 rfl ?_
    refine r_iconst (v := nI 2) dL_law_1587 (by decide) ?_
    refine r_iadd dL_law_1588 ?_
    rw [show nI i + nI 2 = nI (i + 2) from nI_add i 2]
    refine r_sld hZ dL_law_1589 (nI_in8 L (by omega) (by omega)) (nI_clamp (by omega)) ?_
    refine r_aload_n dL_law_1590 rfl ?_
    refine r_iload dL_law_1591 rfl ?_
    refine r_iconst (v := nI 3) dL_law_1593 (by decide) ?_
    refine r_iadd dL_law_1594 ?_
    rw [show nI i + nI 3 = nI (i + 3) from nI_add i 3]
    refine r_sld hZ dL_law_1595 (nI_in8 L (by omega) (by omega)) (nI_clamp (by omega)) ?_
    refine r_virt (hR n1 kd1 I1 J1 P1 hs) lk_L_202 mc_X10_walk dL_law_1596 hM1.1 (by omega) rfl rfl (Nat.le_of_ble_eq_true rfl) (Nat.le_of_eq (Nat.zero_add _)) (Nat.le_of_eq (Nat.zero_add _)) (fun _ _ _ _ _ _ q => nomatch q.1) ?_
    rintro y n2 kd2 I2 J2 P2 ⟨q0, rfl, rfl, rfl, t1, t0, t2⟩
    cases q0
    simp only [Option.toList, List.cons_append, List.nil_append]
    refine r_istore dL_law_1599 (by decide) ?_
    refine r_aload_n dL_law_1601 rfl ?_
    refine r_virtE (c_X10_thrown (o + 69) hM1) lk_L_109 mc_X10_thrown dL_law_1602 hM1.1 (by decide) rfl rfl (Nat.le_of_ble_eq_true rfl) ?_
    rw [t0]
    refine r_iload dL_law_1605 rfl ?_
    refine r_icmp_eq (tgt := 1612) dL_law_1607 (by decide) (fun _ => ?_) (fun hz => absurd (show _ from rfl) hz)
    refine r_iload dL_law_1612 rfl ?_
    refine r_if_ne (tgt := 1629) dL_law_1614 (by decide) (fun _ => ?_) (fun hz => absurd hz (show ¬ _ from (by rw [z_eq (by omega)]; exact hk0)))
    refine r_goto (tgt := 2132) dL_law_1629 (by decide) ?_
    exact hk _ _ _ _ _ _ _ g1.1 g1.2 ⟨hN.on g4 (fun a ha => t1 a ha) t2, ho1, by omega⟩

set_option maxHeartbeats 4000000 in
set_option maxRecDepth 100000 in
theorem ld_door (o i L : Nat) {K : (Nat → ClassId) → Prop} {xs : Nat → Int32} {kc ks : Nat} {z5 z6 : Option Value} {n : Nat} {kd : mK} {I : mI} {J : mJ} {P : mP} (hZ : ∀ cA : Nat → ClassId, K cA → cA 301 = L ∧ ∀ j, nI (cA (310 + j)) = xs j) (hi : i + 6 ≤ L) (hL : L ≤ 3072) (h : stW o n kd I J P) (hn9 : n < 900000) (hk : ∀ n' kd' I' J' P' z5 z6, n ≤ n' → n' ≤ n + 1 → stW o n' kd' I' J' P' → RuL K kc ks 2132 [some (.ref 1000200), some (.ref o), some (.ref (o + 69)), some (.ref (o + 125)), some (.int (nI i)), z5, z6] [] n' kd' I' J' P') : RuL K (kc + 1) (ks + 10240) 1632 [some (.ref 1000200), some (.ref o), some (.ref (o + 69)), some (.ref (o + 125)), some (.int (nI i)), z5, z6] [] n kd I J P := by
  have hko := h.k.1
  have hout := h.2.1
  have ho9 := h.2.2
  obtain ⟨k, d2, mc, ms, d3, v, w, C, D, ⟨b1, b2, b3, b4, b5, b6⟩, hW, hR, hN⟩ := ow_door o (xs (i + 1)) h hn9
  by_cases hk0 : k = 0
  · subst hk0
    have hvw := b6 rfl
    subst hvw
    refine r_aload_n dL_law_1632 rfl ?_
    refine r_aload_n dL_law_1633 rfl ?_
    refine r_iload dL_law_1634 rfl ?_
    refine r_iconst (v := nI 1) dL_law_1636 (by decide) ?_
    refine r_iadd dL_law_1637 ?_
    rw [show nI i + nI 1 = nI (i + 1) from nI_add i 1]
    refine r_sld hZ dL_law_1638 (nI_in8 L (by omega) (by omega)) (nI_clamp (by omega)) ?_
    refine r_aload_n dL_law_1639 rfl ?_
    refine r_statW (kc2 := kc) (ks2 := ks) hW lk_L_203 mw_door dL_law_1640 (by omega) rfl rfl (Nat.le_of_ble_eq_true rfl) (by omega) (by omega) (fun _ _ _ _ _ _ q => nomatch q.1) ?_
    rintro y n1 kd1 I1 J1 P1 ⟨q0, g1, g2, g3, g4⟩
    cases q0
    simp only [Option.toList, List.cons_append, List.nil_append]
    have hs : sameM (o + 69) kd kd1 I I1 P P1 := fun a x1 x2 => g2 a (by omega) (by omega)
    have hM1 := h.m hs
    have ho1 : kd1 (o + 125) = some (4, 1) := by rw [(g2 (o + 125) (by omega) (by omega)).1]; exact hout
    refine r_istore dL_law_1643 (by decide) ?_
    refine r_aload_n dL_law_1645 rfl ?_
    refine r_aload_n dL_law_1646 rfl ?_
    refine r_iload dL_law_1647 rfl ?_
    refine r_iconst (v := nI 1) dL_law_1649 (by decide) ?_
    refine r_iadd dL_law_1650 ?_
    rw [show nI i + nI 1 = nI (i + 1) from nI_add i 1]
    refine r_sld hZ dL_law_1651 (nI_in8 L (by omega) (by omega)) (nI_clamp (by omega)) ?_
    refine r_virt (hR n1 kd1 I1 J1 P1 hs) lk_L_205 mc_X10_door dL_law_1652 hM1.1 (by omega) rfl rfl (Nat.le_of_ble_eq_true rfl) (Nat.le_of_eq (Nat.zero_add _)) (Nat.le_of_eq (Nat.zero_add _)) (fun _ _ _ _ _ _ q => nomatch q.1) ?_
    rintro y n2 kd2 I2 J2 P2 ⟨q0, rfl, rfl, rfl, t1, t0, t2⟩
    cases q0
    simp only [Option.toList, List.cons_append, List.nil_append]
    refine r_istore dL_law_1655 (by decide) ?_
    refine r_aload_n dL_law_1657 rfl ?_
    refine r_virtE (c_X10_thrown (o + 69) hM1) lk_L_109 mc_X10_thrown dL_law_1658 hM1.1 (by decide) rfl rfl (Nat.le_of_ble_eq_true rfl) ?_
    rw [t0]
    refine r_iload dL_law_1661 rfl ?_
    refine r_icmp_eq (tgt := 1668) dL_law_1663 (by decide) (fun _ => ?_) (fun hz => absurd (show _ from rfl) hz)
    refine r_iload dL_law_1668 rfl ?_
    refine r_if_ne (tgt := 1685) dL_law_1670 (by decide) (fun hz => absurd (show _ from rfl) hz) (fun _ => ?_)
    refine r_aload_n dL_law_1673 rfl ?_
    refine r_iconst (v := nI 0) dL_law_1674 (by decide) ?_
    refine r_lald dL_law_1675 ho1 (nI_in8 1 (j := 0) (by decide) (by decide)) (nI_clamp (n := 0) (by decide)) ?_
    rw [show J2 (o + 125) 0 = v.toInt64 from by rw [(t1 (o + 125) (by omega)).2]; exact g3 rfl]
    refine r_iload dL_law_1676 rfl ?_
    refine r_i2l dL_law_1678 ?_
    refine r_lcmp dL_law_1679 ?_
    refine r_if_eq (tgt := 1685) dL_law_1680 (by decide) (fun _ => ?_) (fun hz => absurd (show _ from ((lg_cmp_eq _ _).mpr rfl)) hz)
    refine r_goto (tgt := 2132) dL_law_1685 (by decide) ?_
    exact hk _ _ _ _ _ _ _ g1.1 g1.2 ⟨hN.on g4 (fun a ha => t1 a ha) t2, ho1, by omega⟩
  · skip
    refine r_aload_n dL_law_1632 rfl ?_
    refine r_aload_n dL_law_1633 rfl ?_
    refine r_iload dL_law_1634 rfl ?_
    refine r_iconst (v := nI 1) dL_law_1636 (by decide) ?_
    refine r_iadd dL_law_1637 ?_
    rw [show nI i + nI 1 = nI (i + 1) from nI_add i 1]
    refine r_sld hZ dL_law_1638 (nI_in8 L (by omega) (by omega)) (nI_clamp (by omega)) ?_
    refine r_aload_n dL_law_1639 rfl ?_
    refine r_statW (kc2 := kc) (ks2 := ks) hW lk_L_203 mw_door dL_law_1640 (by omega) rfl rfl (Nat.le_of_ble_eq_true rfl) (by omega) (by omega) (fun _ _ _ _ _ _ q => nomatch q.1) ?_
    rintro y n1 kd1 I1 J1 P1 ⟨q0, g1, g2, g3, g4⟩
    cases q0
    simp only [Option.toList, List.cons_append, List.nil_append]
    have hs : sameM (o + 69) kd kd1 I I1 P P1 := fun a x1 x2 => g2 a (by omega) (by omega)
    have hM1 := h.m hs
    have ho1 : kd1 (o + 125) = some (4, 1) := by rw [(g2 (o + 125) (by omega) (by omega)).1]; exact hout
    refine r_istore dL_law_1643 (by decide) ?_
    refine r_aload_n dL_law_1645 rfl ?_
    refine r_aload_n dL_law_1646 rfl ?_
    refine r_iload dL_law_1647 rfl ?_
    refine r_iconst (v := nI 1) dL_law_1649 (by decide) ?_
    refine r_iadd dL_law_1650 ?_
    rw [show nI i + nI 1 = nI (i + 1) from nI_add i 1]
    refine r_sld hZ dL_law_1651 (nI_in8 L (by omega) (by omega)) (nI_clamp (by omega)) ?_
    refine r_virt (hR n1 kd1 I1 J1 P1 hs) lk_L_205 mc_X10_door dL_law_1652 hM1.1 (by omega) rfl rfl (Nat.le_of_ble_eq_true rfl) (Nat.le_of_eq (Nat.zero_add _)) (Nat.le_of_eq (Nat.zero_add _)) (fun _ _ _ _ _ _ q => nomatch q.1) ?_
    rintro y n2 kd2 I2 J2 P2 ⟨q0, rfl, rfl, rfl, t1, t0, t2⟩
    cases q0
    simp only [Option.toList, List.cons_append, List.nil_append]
    refine r_istore dL_law_1655 (by decide) ?_
    refine r_aload_n dL_law_1657 rfl ?_
    refine r_virtE (c_X10_thrown (o + 69) hM1) lk_L_109 mc_X10_thrown dL_law_1658 hM1.1 (by decide) rfl rfl (Nat.le_of_ble_eq_true rfl) ?_
    rw [t0]
    refine r_iload dL_law_1661 rfl ?_
    refine r_icmp_eq (tgt := 1668) dL_law_1663 (by decide) (fun _ => ?_) (fun hz => absurd (show _ from rfl) hz)
    refine r_iload dL_law_1668 rfl ?_
    refine r_if_ne (tgt := 1685) dL_law_1670 (by decide) (fun _ => ?_) (fun hz => absurd hz (show ¬ _ from (by rw [z_eq (by omega)]; exact hk0)))
    refine r_goto (tgt := 2132) dL_law_1685 (by decide) ?_
    exact hk _ _ _ _ _ _ _ g1.1 g1.2 ⟨hN.on g4 (fun a ha => t1 a ha) t2, ho1, by omega⟩

set_option maxHeartbeats 4000000 in
set_option maxRecDepth 100000 in
theorem ld_ring (o i L : Nat) {K : (Nat → ClassId) → Prop} {xs : Nat → Int32} {kc ks : Nat} {z5 z6 : Option Value} {n : Nat} {kd : mK} {I : mI} {J : mJ} {P : mP} (hZ : ∀ cA : Nat → ClassId, K cA → cA 301 = L ∧ ∀ j, nI (cA (310 + j)) = xs j) (hi : i + 6 ≤ L) (hL : L ≤ 3072) (h : stW o n kd I J P) (hn9 : n < 900000) (hk : ∀ n' kd' I' J' P' z5 z6, n ≤ n' → n' ≤ n + 1 → stW o n' kd' I' J' P' → RuL K kc ks 2132 [some (.ref 1000200), some (.ref o), some (.ref (o + 69)), some (.ref (o + 125)), some (.int (nI i)), z5, z6] [] n' kd' I' J' P') : RuL K (kc + 1) (ks + 10240) 1688 [some (.ref 1000200), some (.ref o), some (.ref (o + 69)), some (.ref (o + 125)), some (.int (nI i)), z5, z6] [] n kd I J P := by
  have hko := h.k.1
  have hout := h.2.1
  have ho9 := h.2.2
  obtain ⟨k, d2, mc, ms, d3, v, w, C, D, ⟨b1, b2, b3, b4, b5, b6⟩, hW, hR, hN⟩ := ow_ring o (xs (i + 1)) (xs (i + 2)) h hn9
  by_cases hk0 : k = 0
  · subst hk0
    have hvw := b6 rfl
    subst hvw
    refine r_aload_n dL_law_1688 rfl ?_
    refine r_aload_n dL_law_1689 rfl ?_
    refine r_iload dL_law_1690 rfl ?_
    refine r_iconst (v := nI 1) dL_law_1692 (by decide) ?_
    refine r_iadd dL_law_1693 ?_
    rw [show nI i + nI 1 = nI (i + 1) from nI_add i 1]
    refine r_sld hZ dL_law_1694 (nI_in8 L (by omega) (by omega)) (nI_clamp (by omega)) ?_
    refine r_aload_n dL_law_1695 rfl ?_
    refine r_iload dL_law_1696 rfl ?_
    refine r_iconst (v := nI 2) dL_law_1698 (by decide) ?_
    refine r_iadd dL_law_1699 ?_
    rw [show nI i + nI 2 = nI (i + 2) from nI_add i 2]
    refine r_sld hZ dL_law_1700 (nI_in8 L (by omega) (by omega)) (nI_clamp (by omega)) ?_
    refine r_aload_n dL_law_1701 rfl ?_
    refine r_statW (kc2 := kc) (ks2 := ks) hW lk_L_206 mw_ring dL_law_1702 (by omega) rfl rfl (Nat.le_of_ble_eq_true rfl) (by omega) (by omega) (fun _ _ _ _ _ _ q => nomatch q.1) ?_
    rintro y n1 kd1 I1 J1 P1 ⟨q0, g1, g2, g3, g4⟩
    cases q0
    simp only [Option.toList, List.cons_append, List.nil_append]
    have hs : sameM (o + 69) kd kd1 I I1 P P1 := fun a x1 x2 => g2 a (by omega) (by omega)
    have hM1 := h.m hs
    have ho1 : kd1 (o + 125) = some (4, 1) := by rw [(g2 (o + 125) (by omega) (by omega)).1]; exact hout
    refine r_istore dL_law_1705 (by decide) ?_
    refine r_aload_n dL_law_1707 rfl ?_
    refine r_aload_n dL_law_1708 rfl ?_
    refine r_iload dL_law_1709 rfl ?_
    refine r_iconst (v := nI 1) dL_law_1711 (by decide) ?_
    refine r_iadd dL_law_1712 ?_
    rw [show nI i + nI 1 = nI (i + 1) from nI_add i 1]
    refine r_sld hZ dL_law_1713 (nI_in8 L (by omega) (by omega)) (nI_clamp (by omega)) ?_
    refine r_aload_n dL_law_1714 rfl ?_
    refine r_iload dL_law_1715 rfl ?_
    refine r_iconst (v := nI 2) dL_law_1717 (by decide) ?_
    refine r_iadd dL_law_1718 ?_
    rw [show nI i + nI 2 = nI (i + 2) from nI_add i 2]
    refine r_sld hZ dL_law_1719 (nI_in8 L (by omega) (by omega)) (nI_clamp (by omega)) ?_
    refine r_virt (hR n1 kd1 I1 J1 P1 hs) lk_L_208 mc_X10_ring dL_law_1720 hM1.1 (by omega) rfl rfl (Nat.le_of_ble_eq_true rfl) (Nat.le_of_eq (Nat.zero_add _)) (Nat.le_of_eq (Nat.zero_add _)) (fun _ _ _ _ _ _ q => nomatch q.1) ?_
    rintro y n2 kd2 I2 J2 P2 ⟨q0, rfl, rfl, rfl, t1, t0, t2⟩
    cases q0
    simp only [Option.toList, List.cons_append, List.nil_append]
    refine r_istore dL_law_1723 (by decide) ?_
    refine r_aload_n dL_law_1725 rfl ?_
    refine r_virtE (c_X10_thrown (o + 69) hM1) lk_L_109 mc_X10_thrown dL_law_1726 hM1.1 (by decide) rfl rfl (Nat.le_of_ble_eq_true rfl) ?_
    rw [t0]
    refine r_iload dL_law_1729 rfl ?_
    refine r_icmp_eq (tgt := 1736) dL_law_1731 (by decide) (fun _ => ?_) (fun hz => absurd (show _ from rfl) hz)
    refine r_iload dL_law_1736 rfl ?_
    refine r_if_ne (tgt := 1753) dL_law_1738 (by decide) (fun hz => absurd (show _ from rfl) hz) (fun _ => ?_)
    refine r_aload_n dL_law_1741 rfl ?_
    refine r_iconst (v := nI 0) dL_law_1742 (by decide) ?_
    refine r_lald dL_law_1743 ho1 (nI_in8 1 (j := 0) (by decide) (by decide)) (nI_clamp (n := 0) (by decide)) ?_
    rw [show J2 (o + 125) 0 = v.toInt64 from by rw [(t1 (o + 125) (by omega)).2]; exact g3 rfl]
    refine r_iload dL_law_1744 rfl ?_
    refine r_i2l dL_law_1746 ?_
    refine r_lcmp dL_law_1747 ?_
    refine r_if_eq (tgt := 1753) dL_law_1748 (by decide) (fun _ => ?_) (fun hz => absurd (show _ from ((lg_cmp_eq _ _).mpr rfl)) hz)
    refine r_goto (tgt := 2132) dL_law_1753 (by decide) ?_
    exact hk _ _ _ _ _ _ _ g1.1 g1.2 ⟨hN.on g4 (fun a ha => t1 a ha) t2, ho1, by omega⟩
  · skip
    refine r_aload_n dL_law_1688 rfl ?_
    refine r_aload_n dL_law_1689 rfl ?_
    refine r_iload dL_law_1690 rfl ?_
    refine r_iconst (v := nI 1) dL_law_1692 (by decide) ?_
    refine r_iadd dL_law_1693 ?_
    rw [show nI i + nI 1 = nI (i + 1) from nI_add i 1]
    refine r_sld hZ dL_law_1694 (nI_in8 L (by omega) (by omega)) (nI_clamp (by omega)) ?_
    refine r_aload_n dL_law_1695 rfl ?_
    refine r_iload dL_law_1696 rfl ?_
    refine r_iconst (v := nI 2) dL_law_1698 (by decide) ?_
    refine r_iadd dL_law_1699 ?_
    rw [show nI i + nI 2 = nI (i + 2) from nI_add i 2]
    refine r_sld hZ dL_law_1700 (nI_in8 L (by omega) (by omega)) (nI_clamp (by omega)) ?_
    refine r_aload_n dL_law_1701 rfl ?_
    refine r_statW (kc2 := kc) (ks2 := ks) hW lk_L_206 mw_ring dL_law_1702 (by omega) rfl rfl (Nat.le_of_ble_eq_true rfl) (by omega) (by omega) (fun _ _ _ _ _ _ q => nomatch q.1) ?_
    rintro y n1 kd1 I1 J1 P1 ⟨q0, g1, g2, g3, g4⟩
    cases q0
    simp only [Option.toList, List.cons_append, List.nil_append]
    have hs : sameM (o + 69) kd kd1 I I1 P P1 := fun a x1 x2 => g2 a (by omega) (by omega)
    have hM1 := h.m hs
    have ho1 : kd1 (o + 125) = some (4, 1) := by rw [(g2 (o + 125) (by omega) (by omega)).1]; exact hout
    refine r_istore dL_law_1705 (by decide) ?_
    refine r_aload_n dL_law_1707 rfl ?_
    refine r_aload_n dL_law_1708 rfl ?_
    refine r_iload dL_law_1709 rfl ?_
    refine r_iconst (v := nI 1) dL_law_1711 (by decide) ?_
    refine r_iadd dL_law_1712 ?_
    rw [show nI i + nI 1 = nI (i + 1) from nI_add i 1]
    refine r_sld hZ dL_law_1713 (nI_in8 L (by omega) (by omega)) (nI_clamp (by omega)) ?_
    refine r_aload_n dL_law_1714 rfl ?_
    refine r_iload dL_law_1715 rfl ?_
    refine r_iconst (v := nI 2) dL_law_1717 (by decide) ?_
    refine r_iadd dL_law_1718 ?_
    rw [show nI i + nI 2 = nI (i + 2) from nI_add i 2]
    refine r_sld hZ dL_law_1719 (nI_in8 L (by omega) (by omega)) (nI_clamp (by omega)) ?_
    refine r_virt (hR n1 kd1 I1 J1 P1 hs) lk_L_208 mc_X10_ring dL_law_1720 hM1.1 (by omega) rfl rfl (Nat.le_of_ble_eq_true rfl) (Nat.le_of_eq (Nat.zero_add _)) (Nat.le_of_eq (Nat.zero_add _)) (fun _ _ _ _ _ _ q => nomatch q.1) ?_
    rintro y n2 kd2 I2 J2 P2 ⟨q0, rfl, rfl, rfl, t1, t0, t2⟩
    cases q0
    simp only [Option.toList, List.cons_append, List.nil_append]
    refine r_istore dL_law_1723 (by decide) ?_
    refine r_aload_n dL_law_1725 rfl ?_
    refine r_virtE (c_X10_thrown (o + 69) hM1) lk_L_109 mc_X10_thrown dL_law_1726 hM1.1 (by decide) rfl rfl (Nat.le_of_ble_eq_true rfl) ?_
    rw [t0]
    refine r_iload dL_law_1729 rfl ?_
    refine r_icmp_eq (tgt := 1736) dL_law_1731 (by decide) (fun _ => ?_) (fun hz => absurd (show _ from rfl) hz)
    refine r_iload dL_law_1736 rfl ?_
    refine r_if_ne (tgt := 1753) dL_law_1738 (by decide) (fun _ => ?_) (fun hz => absurd hz (show ¬ _ from (by rw [z_eq (by omega)]; exact hk0)))
    refine r_goto (tgt := 2132) dL_law_1753 (by decide) ?_
    exact hk _ _ _ _ _ _ _ g1.1 g1.2 ⟨hN.on g4 (fun a ha => t1 a ha) t2, ho1, by omega⟩

set_option maxHeartbeats 4000000 in
set_option maxRecDepth 100000 in
theorem ld_written (o i L : Nat) {K : (Nat → ClassId) → Prop} {xs : Nat → Int32} {kc ks : Nat} {z5 z6 : Option Value} {n : Nat} {kd : mK} {I : mI} {J : mJ} {P : mP} (hZ : ∀ cA : Nat → ClassId, K cA → cA 301 = L ∧ ∀ j, nI (cA (310 + j)) = xs j) (hi : i + 6 ≤ L) (hL : L ≤ 3072) (h : stW o n kd I J P) (hn9 : n < 900000) (hk : ∀ n' kd' I' J' P' z5 z6, n ≤ n' → n' ≤ n + 1 → stW o n' kd' I' J' P' → RuL K kc ks 2132 [some (.ref 1000200), some (.ref o), some (.ref (o + 69)), some (.ref (o + 125)), some (.int (nI i)), z5, z6] [] n' kd' I' J' P') : RuL K (kc + 1) (ks + 10240) 1756 [some (.ref 1000200), some (.ref o), some (.ref (o + 69)), some (.ref (o + 125)), some (.int (nI i)), z5, z6] [] n kd I J P := by
  have hko := h.k.1
  have hout := h.2.1
  have ho9 := h.2.2
  obtain ⟨k, d2, mc, ms, d3, v, w, C, D, ⟨b1, b2, b3, b4, b5, b6⟩, hW, hR, hN⟩ := ow_written o (xs (i + 1)) h hn9
  by_cases hk0 : k = 0
  · subst hk0
    have hvw := b6 rfl
    subst hvw
    refine r_aload_n dL_law_1756 rfl ?_
    refine r_aload_n dL_law_1757 rfl ?_
    refine r_iload dL_law_1758 rfl ?_
    refine r_iconst (v := nI 1) dL_law_1760 (by decide) ?_
    refine r_iadd dL_law_1761 ?_
    rw [show nI i + nI 1 = nI (i + 1) from nI_add i 1]
    refine r_sld hZ dL_law_1762 (nI_in8 L (by omega) (by omega)) (nI_clamp (by omega)) ?_
    refine r_aload_n dL_law_1763 rfl ?_
    refine r_statW (kc2 := kc) (ks2 := ks) hW lk_L_209 mw_written dL_law_1764 (by omega) rfl rfl (Nat.le_of_ble_eq_true rfl) (by omega) (by omega) (fun _ _ _ _ _ _ q => nomatch q.1) ?_
    rintro y n1 kd1 I1 J1 P1 ⟨q0, g1, g2, g3, g4⟩
    cases q0
    simp only [Option.toList, List.cons_append, List.nil_append]
    have hs : sameM (o + 69) kd kd1 I I1 P P1 := fun a x1 x2 => g2 a (by omega) (by omega)
    have hM1 := h.m hs
    have ho1 : kd1 (o + 125) = some (4, 1) := by rw [(g2 (o + 125) (by omega) (by omega)).1]; exact hout
    refine r_istore dL_law_1767 (by decide) ?_
    refine r_aload_n dL_law_1769 rfl ?_
    refine r_aload_n dL_law_1770 rfl ?_
    refine r_iload dL_law_1771 rfl ?_
    refine r_iconst (v := nI 1) dL_law_1773 (by decide) ?_
    refine r_iadd dL_law_1774 ?_
    rw [show nI i + nI 1 = nI (i + 1) from nI_add i 1]
    refine r_sld hZ dL_law_1775 (nI_in8 L (by omega) (by omega)) (nI_clamp (by omega)) ?_
    refine r_virt (hR n1 kd1 I1 J1 P1 hs) lk_L_211 mc_X10_written dL_law_1776 hM1.1 (by omega) rfl rfl (Nat.le_of_ble_eq_true rfl) (Nat.le_of_eq (Nat.zero_add _)) (Nat.le_of_eq (Nat.zero_add _)) (fun _ _ _ _ _ _ q => nomatch q.1) ?_
    rintro y n2 kd2 I2 J2 P2 ⟨q0, rfl, rfl, rfl, t1, t0, t2⟩
    cases q0
    simp only [Option.toList, List.cons_append, List.nil_append]
    refine r_istore dL_law_1779 (by decide) ?_
    refine r_aload_n dL_law_1781 rfl ?_
    refine r_virtE (c_X10_thrown (o + 69) hM1) lk_L_109 mc_X10_thrown dL_law_1782 hM1.1 (by decide) rfl rfl (Nat.le_of_ble_eq_true rfl) ?_
    rw [t0]
    refine r_iload dL_law_1785 rfl ?_
    refine r_icmp_eq (tgt := 1792) dL_law_1787 (by decide) (fun _ => ?_) (fun hz => absurd (show _ from rfl) hz)
    refine r_iload dL_law_1792 rfl ?_
    refine r_if_ne (tgt := 1809) dL_law_1794 (by decide) (fun hz => absurd (show _ from rfl) hz) (fun _ => ?_)
    refine r_aload_n dL_law_1797 rfl ?_
    refine r_iconst (v := nI 0) dL_law_1798 (by decide) ?_
    refine r_lald dL_law_1799 ho1 (nI_in8 1 (j := 0) (by decide) (by decide)) (nI_clamp (n := 0) (by decide)) ?_
    rw [show J2 (o + 125) 0 = v.toInt64 from by rw [(t1 (o + 125) (by omega)).2]; exact g3 rfl]
    refine r_iload dL_law_1800 rfl ?_
    refine r_i2l dL_law_1802 ?_
    refine r_lcmp dL_law_1803 ?_
    refine r_if_eq (tgt := 1809) dL_law_1804 (by decide) (fun _ => ?_) (fun hz => absurd (show _ from ((lg_cmp_eq _ _).mpr rfl)) hz)
    refine r_goto (tgt := 2132) dL_law_1809 (by decide) ?_
    exact hk _ _ _ _ _ _ _ g1.1 g1.2 ⟨hN.on g4 (fun a ha => t1 a ha) t2, ho1, by omega⟩
  · skip
    refine r_aload_n dL_law_1756 rfl ?_
    refine r_aload_n dL_law_1757 rfl ?_
    refine r_iload dL_law_1758 rfl ?_
    refine r_iconst (v := nI 1) dL_law_1760 (by decide) ?_
    refine r_iadd dL_law_1761 ?_
    rw [show nI i + nI 1 = nI (i + 1) from nI_add i 1]
    refine r_sld hZ dL_law_1762 (nI_in8 L (by omega) (by omega)) (nI_clamp (by omega)) ?_
    refine r_aload_n dL_law_1763 rfl ?_
    refine r_statW (kc2 := kc) (ks2 := ks) hW lk_L_209 mw_written dL_law_1764 (by omega) rfl rfl (Nat.le_of_ble_eq_true rfl) (by omega) (by omega) (fun _ _ _ _ _ _ q => nomatch q.1) ?_
    rintro y n1 kd1 I1 J1 P1 ⟨q0, g1, g2, g3, g4⟩
    cases q0
    simp only [Option.toList, List.cons_append, List.nil_append]
    have hs : sameM (o + 69) kd kd1 I I1 P P1 := fun a x1 x2 => g2 a (by omega) (by omega)
    have hM1 := h.m hs
    have ho1 : kd1 (o + 125) = some (4, 1) := by rw [(g2 (o + 125) (by omega) (by omega)).1]; exact hout
    refine r_istore dL_law_1767 (by decide) ?_
    refine r_aload_n dL_law_1769 rfl ?_
    refine r_aload_n dL_law_1770 rfl ?_
    refine r_iload dL_law_1771 rfl ?_
    refine r_iconst (v := nI 1) dL_law_1773 (by decide) ?_
    refine r_iadd dL_law_1774 ?_
    rw [show nI i + nI 1 = nI (i + 1) from nI_add i 1]
    refine r_sld hZ dL_law_1775 (nI_in8 L (by omega) (by omega)) (nI_clamp (by omega)) ?_
    refine r_virt (hR n1 kd1 I1 J1 P1 hs) lk_L_211 mc_X10_written dL_law_1776 hM1.1 (by omega) rfl rfl (Nat.le_of_ble_eq_true rfl) (Nat.le_of_eq (Nat.zero_add _)) (Nat.le_of_eq (Nat.zero_add _)) (fun _ _ _ _ _ _ q => nomatch q.1) ?_
    rintro y n2 kd2 I2 J2 P2 ⟨q0, rfl, rfl, rfl, t1, t0, t2⟩
    cases q0
    simp only [Option.toList, List.cons_append, List.nil_append]
    refine r_istore dL_law_1779 (by decide) ?_
    refine r_aload_n dL_law_1781 rfl ?_
    refine r_virtE (c_X10_thrown (o + 69) hM1) lk_L_109 mc_X10_thrown dL_law_1782 hM1.1 (by decide) rfl rfl (Nat.le_of_ble_eq_true rfl) ?_
    rw [t0]
    refine r_iload dL_law_1785 rfl ?_
    refine r_icmp_eq (tgt := 1792) dL_law_1787 (by decide) (fun _ => ?_) (fun hz => absurd (show _ from rfl) hz)
    refine r_iload dL_law_1792 rfl ?_
    refine r_if_ne (tgt := 1809) dL_law_1794 (by decide) (fun _ => ?_) (fun hz => absurd hz (show ¬ _ from (by rw [z_eq (by omega)]; exact hk0)))
    refine r_goto (tgt := 2132) dL_law_1809 (by decide) ?_
    exact hk _ _ _ _ _ _ _ g1.1 g1.2 ⟨hN.on g4 (fun a ha => t1 a ha) t2, ho1, by omega⟩

set_option maxHeartbeats 4000000 in
set_option maxRecDepth 100000 in
theorem ld_left (o i L : Nat) {K : (Nat → ClassId) → Prop} {xs : Nat → Int32} {kc ks : Nat} {z5 z6 : Option Value} {n : Nat} {kd : mK} {I : mI} {J : mJ} {P : mP} (hZ : ∀ cA : Nat → ClassId, K cA → cA 301 = L ∧ ∀ j, nI (cA (310 + j)) = xs j) (hi : i + 6 ≤ L) (hL : L ≤ 3072) (h : stW o n kd I J P) (hn9 : n < 900000) (hk : ∀ n' kd' I' J' P' z5 z6, n ≤ n' → n' ≤ n + 1 → stW o n' kd' I' J' P' → RuL K kc ks 2132 [some (.ref 1000200), some (.ref o), some (.ref (o + 69)), some (.ref (o + 125)), some (.int (nI i)), z5, z6] [] n' kd' I' J' P') : RuL K (kc + 1) (ks + 10240) 1812 [some (.ref 1000200), some (.ref o), some (.ref (o + 69)), some (.ref (o + 125)), some (.int (nI i)), z5, z6] [] n kd I J P := by
  have hko := h.k.1
  have hout := h.2.1
  have ho9 := h.2.2
  obtain ⟨k, d2, mc, ms, d3, v, w, C, D, ⟨b1, b2, b3, b4, b5, b6⟩, hW, hR, hN⟩ := ow_left o (xs (i + 1)) (xs (i + 2)) h hn9
  by_cases hk0 : k = 0
  · subst hk0
    have hvw := b6 rfl
    subst hvw
    refine r_aload_n dL_law_1812 rfl ?_
    refine r_aload_n dL_law_1813 rfl ?_
    refine r_iload dL_law_1814 rfl ?_
    refine r_iconst (v := nI 1) dL_law_1816 (by decide) ?_
    refine r_iadd dL_law_1817 ?_
    rw [show nI i + nI 1 = nI (i + 1) from nI_add i 1]
    refine r_sld hZ dL_law_1818 (nI_in8 L (by omega) (by omega)) (nI_clamp (by omega)) ?_
    refine r_aload_n dL_law_1819 rfl ?_
    refine r_iload dL_law_1820 rfl ?_
    refine r_iconst (v := nI 2) dL_law_1822 (by decide) ?_
    refine r_iadd dL_law_1823 ?_
    rw [show nI i + nI 2 = nI (i + 2) from nI_add i 2]
    refine r_sld hZ dL_law_1824 (nI_in8 L (by omega) (by omega)) (nI_clamp (by omega)) ?_
    refine r_aload_n dL_law_1825 rfl ?_
    refine r_statW (kc2 := kc) (ks2 := ks) hW lk_L_212 mw_left dL_law_1826 (by omega) rfl rfl (Nat.le_of_ble_eq_true rfl) (by omega) (by omega) (fun _ _ _ _ _ _ q => nomatch q.1) ?_
    rintro y n1 kd1 I1 J1 P1 ⟨q0, g1, g2, g3, g4⟩
    cases q0
    simp only [Option.toList, List.cons_append, List.nil_append]
    have hs : sameM (o + 69) kd kd1 I I1 P P1 := fun a x1 x2 => g2 a (by omega) (by omega)
    have hM1 := h.m hs
    have ho1 : kd1 (o + 125) = some (4, 1) := by rw [(g2 (o + 125) (by omega) (by omega)).1]; exact hout
    refine r_istore dL_law_1829 (by decide) ?_
    refine r_aload_n dL_law_1831 rfl ?_
    refine r_aload_n dL_law_1832 rfl ?_
    refine r_iload dL_law_1833 rfl ?_
    refine r_iconst (v := nI 1) dL_law_1835 (by decide) ?_
    refine r_iadd dL_law_1836 ?_
    rw [show nI i + nI 1 = nI (i + 1) from nI_add i 1]
    refine r_sld hZ dL_law_1837 (nI_in8 L (by omega) (by omega)) (nI_clamp (by omega)) ?_
    refine r_aload_n dL_law_1838 rfl ?_
    refine r_iload dL_law_1839 rfl ?_
    refine r_iconst (v := nI 2) dL_law_1841 (by decide) ?_
    refine r_iadd dL_law_1842 ?_
    rw [show nI i + nI 2 = nI (i + 2) from nI_add i 2]
    refine r_sld hZ dL_law_1843 (nI_in8 L (by omega) (by omega)) (nI_clamp (by omega)) ?_
    refine r_virt (hR n1 kd1 I1 J1 P1 hs) lk_L_214 mc_X10_left dL_law_1844 hM1.1 (by omega) rfl rfl (Nat.le_of_ble_eq_true rfl) (Nat.le_of_eq (Nat.zero_add _)) (Nat.le_of_eq (Nat.zero_add _)) (fun _ _ _ _ _ _ q => nomatch q.1) ?_
    rintro y n2 kd2 I2 J2 P2 ⟨q0, rfl, rfl, rfl, t1, t0, t2⟩
    cases q0
    simp only [Option.toList, List.cons_append, List.nil_append]
    refine r_istore dL_law_1847 (by decide) ?_
    refine r_aload_n dL_law_1849 rfl ?_
    refine r_virtE (c_X10_thrown (o + 69) hM1) lk_L_109 mc_X10_thrown dL_law_1850 hM1.1 (by decide) rfl rfl (Nat.le_of_ble_eq_true rfl) ?_
    rw [t0]
    refine r_iload dL_law_1853 rfl ?_
    refine r_icmp_eq (tgt := 1860) dL_law_1855 (by decide) (fun _ => ?_) (fun hz => absurd (show _ from rfl) hz)
    refine r_iload dL_law_1860 rfl ?_
    refine r_if_ne (tgt := 1877) dL_law_1862 (by decide) (fun hz => absurd (show _ from rfl) hz) (fun _ => ?_)
    refine r_aload_n dL_law_1865 rfl ?_
    refine r_iconst (v := nI 0) dL_law_1866 (by decide) ?_
    refine r_lald dL_law_1867 ho1 (nI_in8 1 (j := 0) (by decide) (by decide)) (nI_clamp (n := 0) (by decide)) ?_
    rw [show J2 (o + 125) 0 = v.toInt64 from by rw [(t1 (o + 125) (by omega)).2]; exact g3 rfl]
    refine r_iload dL_law_1868 rfl ?_
    refine r_i2l dL_law_1870 ?_
    refine r_lcmp dL_law_1871 ?_
    refine r_if_eq (tgt := 1877) dL_law_1872 (by decide) (fun _ => ?_) (fun hz => absurd (show _ from ((lg_cmp_eq _ _).mpr rfl)) hz)
    refine r_goto (tgt := 2132) dL_law_1877 (by decide) ?_
    exact hk _ _ _ _ _ _ _ g1.1 g1.2 ⟨hN.on g4 (fun a ha => t1 a ha) t2, ho1, by omega⟩
  · skip
    refine r_aload_n dL_law_1812 rfl ?_
    refine r_aload_n dL_law_1813 rfl ?_
    refine r_iload dL_law_1814 rfl ?_
    refine r_iconst (v := nI 1) dL_law_1816 (by decide) ?_
    refine r_iadd dL_law_1817 ?_
    rw [show nI i + nI 1 = nI (i + 1) from nI_add i 1]
    refine r_sld hZ dL_law_1818 (nI_in8 L (by omega) (by omega)) (nI_clamp (by omega)) ?_
    refine r_aload_n dL_law_1819 rfl ?_
    refine r_iload dL_law_1820 rfl ?_
    refine r_iconst (v := nI 2) dL_law_1822 (by decide) ?_
    refine r_iadd dL_law_1823 ?_
    rw [show nI i + nI 2 = nI (i + 2) from nI_add i 2]
    refine r_sld hZ dL_law_1824 (nI_in8 L (by omega) (by omega)) (nI_clamp (by omega)) ?_
    refine r_aload_n dL_law_1825 rfl ?_
    refine r_statW (kc2 := kc) (ks2 := ks) hW lk_L_212 mw_left dL_law_1826 (by omega) rfl rfl (Nat.le_of_ble_eq_true rfl) (by omega) (by omega) (fun _ _ _ _ _ _ q => nomatch q.1) ?_
    rintro y n1 kd1 I1 J1 P1 ⟨q0, g1, g2, g3, g4⟩
    cases q0
    simp only [Option.toList, List.cons_append, List.nil_append]
    have hs : sameM (o + 69) kd kd1 I I1 P P1 := fun a x1 x2 => g2 a (by omega) (by omega)
    have hM1 := h.m hs
    have ho1 : kd1 (o + 125) = some (4, 1) := by rw [(g2 (o + 125) (by omega) (by omega)).1]; exact hout
    refine r_istore dL_law_1829 (by decide) ?_
    refine r_aload_n dL_law_1831 rfl ?_
    refine r_aload_n dL_law_1832 rfl ?_
    refine r_iload dL_law_1833 rfl ?_
    refine r_iconst (v := nI 1) dL_law_1835 (by decide) ?_
    refine r_iadd dL_law_1836 ?_
    rw [show nI i + nI 1 = nI (i + 1) from nI_add i 1]
    refine r_sld hZ dL_law_1837 (nI_in8 L (by omega) (by omega)) (nI_clamp (by omega)) ?_
    refine r_aload_n dL_law_1838 rfl ?_
    refine r_iload dL_law_1839 rfl ?_
    refine r_iconst (v := nI 2) dL_law_1841 (by decide) ?_
    refine r_iadd dL_law_1842 ?_
    rw [show nI i + nI 2 = nI (i + 2) from nI_add i 2]
    refine r_sld hZ dL_law_1843 (nI_in8 L (by omega) (by omega)) (nI_clamp (by omega)) ?_
    refine r_virt (hR n1 kd1 I1 J1 P1 hs) lk_L_214 mc_X10_left dL_law_1844 hM1.1 (by omega) rfl rfl (Nat.le_of_ble_eq_true rfl) (Nat.le_of_eq (Nat.zero_add _)) (Nat.le_of_eq (Nat.zero_add _)) (fun _ _ _ _ _ _ q => nomatch q.1) ?_
    rintro y n2 kd2 I2 J2 P2 ⟨q0, rfl, rfl, rfl, t1, t0, t2⟩
    cases q0
    simp only [Option.toList, List.cons_append, List.nil_append]
    refine r_istore dL_law_1847 (by decide) ?_
    refine r_aload_n dL_law_1849 rfl ?_
    refine r_virtE (c_X10_thrown (o + 69) hM1) lk_L_109 mc_X10_thrown dL_law_1850 hM1.1 (by decide) rfl rfl (Nat.le_of_ble_eq_true rfl) ?_
    rw [t0]
    refine r_iload dL_law_1853 rfl ?_
    refine r_icmp_eq (tgt := 1860) dL_law_1855 (by decide) (fun _ => ?_) (fun hz => absurd (show _ from rfl) hz)
    refine r_iload dL_law_1860 rfl ?_
    refine r_if_ne (tgt := 1877) dL_law_1862 (by decide) (fun _ => ?_) (fun hz => absurd hz (show ¬ _ from (by rw [z_eq (by omega)]; exact hk0)))
    refine r_goto (tgt := 2132) dL_law_1877 (by decide) ?_
    exact hk _ _ _ _ _ _ _ g1.1 g1.2 ⟨hN.on g4 (fun a ha => t1 a ha) t2, ho1, by omega⟩

set_option maxHeartbeats 4000000 in
set_option maxRecDepth 100000 in
theorem ld_look (o i L : Nat) {K : (Nat → ClassId) → Prop} {xs : Nat → Int32} {kc ks : Nat} {z5 z6 : Option Value} {n : Nat} {kd : mK} {I : mI} {J : mJ} {P : mP} (hZ : ∀ cA : Nat → ClassId, K cA → cA 301 = L ∧ ∀ j, nI (cA (310 + j)) = xs j) (hi : i + 6 ≤ L) (hL : L ≤ 3072) (h : stW o n kd I J P) (hn9 : n < 900000) (hk : ∀ n' kd' I' J' P' z5 z6, n ≤ n' → n' ≤ n + 1 → stW o n' kd' I' J' P' → RuL K kc ks 2132 [some (.ref 1000200), some (.ref o), some (.ref (o + 69)), some (.ref (o + 125)), some (.int (nI i)), z5, z6] [] n' kd' I' J' P') : RuL K (kc + 1) (ks + 10240) 1880 [some (.ref 1000200), some (.ref o), some (.ref (o + 69)), some (.ref (o + 125)), some (.int (nI i)), z5, z6] [] n kd I J P := by
  have hko := h.k.1
  have hout := h.2.1
  have ho9 := h.2.2
  obtain ⟨k, d2, mc, ms, d3, v, w, C, D, ⟨b1, b2, b3, b4, b5, b6⟩, hW, hR, hN⟩ := ow_look o (xs (i + 1)) (xs (i + 2)) h hn9
  by_cases hk0 : k = 0
  · subst hk0
    have hvw := b6 rfl
    subst hvw
    refine r_aload_n dL_law_1880 rfl ?_
    refine r_aload_n dL_law_1881 rfl ?_
    refine r_iload dL_law_1882 rfl ?_
    refine r_iconst (v := nI 1) dL_law_1884 (by decide) ?_
    refine r_iadd dL_law_1885 ?_
    rw [show nI i + nI 1 = nI (i + 1) from nI_add i 1]
    refine r_sld hZ dL_law_1886 (nI_in8 L (by omega) (by omega)) (nI_clamp (by omega)) ?_
    refine r_aload_n dL_law_1887 rfl ?_
    refine r_iload dL_law_1888 rfl ?_
    refine r_iconst (v := nI 2) dL_law_1890 (by decide) ?_
    refine r_iadd dL_law_1891 ?_
    rw [show nI i + nI 2 = nI (i + 2) from nI_add i 2]
    refine r_sld hZ dL_law_1892 (nI_in8 L (by omega) (by omega)) (nI_clamp (by omega)) ?_
    refine r_aload_n dL_law_1893 rfl ?_
    refine r_statW (kc2 := kc) (ks2 := ks) hW lk_L_215 mw_look dL_law_1894 (by omega) rfl rfl (Nat.le_of_ble_eq_true rfl) (by omega) (by omega) (fun _ _ _ _ _ _ q => nomatch q.1) ?_
    rintro y n1 kd1 I1 J1 P1 ⟨q0, g1, g2, g3, g4⟩
    cases q0
    simp only [Option.toList, List.cons_append, List.nil_append]
    have hs : sameM (o + 69) kd kd1 I I1 P P1 := fun a x1 x2 => g2 a (by omega) (by omega)
    have hM1 := h.m hs
    have ho1 : kd1 (o + 125) = some (4, 1) := by rw [(g2 (o + 125) (by omega) (by omega)).1]; exact hout
    refine r_istore dL_law_1897 (by decide) ?_
    refine r_aload_n dL_law_1899 rfl ?_
    refine r_aload_n dL_law_1900 rfl ?_
    refine r_iload dL_law_1901 rfl ?_
    refine r_iconst (v := nI 1) dL_law_1903 (by decide) ?_
    refine r_iadd dL_law_1904 ?_
    rw [show nI i + nI 1 = nI (i + 1) from nI_add i 1]
    refine r_sld hZ dL_law_1905 (nI_in8 L (by omega) (by omega)) (nI_clamp (by omega)) ?_
    refine r_aload_n dL_law_1906 rfl ?_
    refine r_iload dL_law_1907 rfl ?_
    refine r_iconst (v := nI 2) dL_law_1909 (by decide) ?_
    refine r_iadd dL_law_1910 ?_
    rw [show nI i + nI 2 = nI (i + 2) from nI_add i 2]
    refine r_sld hZ dL_law_1911 (nI_in8 L (by omega) (by omega)) (nI_clamp (by omega)) ?_
    refine r_virt (hR n1 kd1 I1 J1 P1 hs) lk_L_217 mc_X10_look dL_law_1912 hM1.1 (by omega) rfl rfl (Nat.le_of_ble_eq_true rfl) (Nat.le_of_eq (Nat.zero_add _)) (Nat.le_of_eq (Nat.zero_add _)) (fun _ _ _ _ _ _ q => nomatch q.1) ?_
    rintro y n2 kd2 I2 J2 P2 ⟨q0, rfl, rfl, rfl, t1, t0, t2⟩
    cases q0
    simp only [Option.toList, List.cons_append, List.nil_append]
    refine r_istore dL_law_1915 (by decide) ?_
    refine r_aload_n dL_law_1917 rfl ?_
    refine r_virtE (c_X10_thrown (o + 69) hM1) lk_L_109 mc_X10_thrown dL_law_1918 hM1.1 (by decide) rfl rfl (Nat.le_of_ble_eq_true rfl) ?_
    rw [t0]
    refine r_iload dL_law_1921 rfl ?_
    refine r_icmp_eq (tgt := 1928) dL_law_1923 (by decide) (fun _ => ?_) (fun hz => absurd (show _ from rfl) hz)
    refine r_iload dL_law_1928 rfl ?_
    refine r_if_ne (tgt := 1945) dL_law_1930 (by decide) (fun hz => absurd (show _ from rfl) hz) (fun _ => ?_)
    refine r_aload_n dL_law_1933 rfl ?_
    refine r_iconst (v := nI 0) dL_law_1934 (by decide) ?_
    refine r_lald dL_law_1935 ho1 (nI_in8 1 (j := 0) (by decide) (by decide)) (nI_clamp (n := 0) (by decide)) ?_
    rw [show J2 (o + 125) 0 = v.toInt64 from by rw [(t1 (o + 125) (by omega)).2]; exact g3 rfl]
    refine r_iload dL_law_1936 rfl ?_
    refine r_i2l dL_law_1938 ?_
    refine r_lcmp dL_law_1939 ?_
    refine r_if_eq (tgt := 1945) dL_law_1940 (by decide) (fun _ => ?_) (fun hz => absurd (show _ from ((lg_cmp_eq _ _).mpr rfl)) hz)
    refine r_goto (tgt := 2132) dL_law_1945 (by decide) ?_
    exact hk _ _ _ _ _ _ _ g1.1 g1.2 ⟨hN.on g4 (fun a ha => t1 a ha) t2, ho1, by omega⟩
  · skip
    refine r_aload_n dL_law_1880 rfl ?_
    refine r_aload_n dL_law_1881 rfl ?_
    refine r_iload dL_law_1882 rfl ?_
    refine r_iconst (v := nI 1) dL_law_1884 (by decide) ?_
    refine r_iadd dL_law_1885 ?_
    rw [show nI i + nI 1 = nI (i + 1) from nI_add i 1]
    refine r_sld hZ dL_law_1886 (nI_in8 L (by omega) (by omega)) (nI_clamp (by omega)) ?_
    refine r_aload_n dL_law_1887 rfl ?_
    refine r_iload dL_law_1888 rfl ?_
    refine r_iconst (v := nI 2) dL_law_1890 (by decide) ?_
    refine r_iadd dL_law_1891 ?_
    rw [show nI i + nI 2 = nI (i + 2) from nI_add i 2]
    refine r_sld hZ dL_law_1892 (nI_in8 L (by omega) (by omega)) (nI_clamp (by omega)) ?_
    refine r_aload_n dL_law_1893 rfl ?_
    refine r_statW (kc2 := kc) (ks2 := ks) hW lk_L_215 mw_look dL_law_1894 (by omega) rfl rfl (Nat.le_of_ble_eq_true rfl) (by omega) (by omega) (fun _ _ _ _ _ _ q => nomatch q.1) ?_
    rintro y n1 kd1 I1 J1 P1 ⟨q0, g1, g2, g3, g4⟩
    cases q0
    simp only [Option.toList, List.cons_append, List.nil_append]
    have hs : sameM (o + 69) kd kd1 I I1 P P1 := fun a x1 x2 => g2 a (by omega) (by omega)
    have hM1 := h.m hs
    have ho1 : kd1 (o + 125) = some (4, 1) := by rw [(g2 (o + 125) (by omega) (by omega)).1]; exact hout
    refine r_istore dL_law_1897 (by decide) ?_
    refine r_aload_n dL_law_1899 rfl ?_
    refine r_aload_n dL_law_1900 rfl ?_
    refine r_iload dL_law_1901 rfl ?_
    refine r_iconst (v := nI 1) dL_law_1903 (by decide) ?_
    refine r_iadd dL_law_1904 ?_
    rw [show nI i + nI 1 = nI (i + 1) from nI_add i 1]
    refine r_sld hZ dL_law_1905 (nI_in8 L (by omega) (by omega)) (nI_clamp (by omega)) ?_
    refine r_aload_n dL_law_1906 rfl ?_
    refine r_iload dL_law_1907 rfl ?_
    refine r_iconst (v := nI 2) dL_law_1909 (by decide) ?_
    refine r_iadd dL_law_1910 ?_
    rw [show nI i + nI 2 = nI (i + 2) from nI_add i 2]
    refine r_sld hZ dL_law_1911 (nI_in8 L (by omega) (by omega)) (nI_clamp (by omega)) ?_
    refine r_virt (hR n1 kd1 I1 J1 P1 hs) lk_L_217 mc_X10_look dL_law_1912 hM1.1 (by omega) rfl rfl (Nat.le_of_ble_eq_true rfl) (Nat.le_of_eq (Nat.zero_add _)) (Nat.le_of_eq (Nat.zero_add _)) (fun _ _ _ _ _ _ q => nomatch q.1) ?_
    rintro y n2 kd2 I2 J2 P2 ⟨q0, rfl, rfl, rfl, t1, t0, t2⟩
    cases q0
    simp only [Option.toList, List.cons_append, List.nil_append]
    refine r_istore dL_law_1915 (by decide) ?_
    refine r_aload_n dL_law_1917 rfl ?_
    refine r_virtE (c_X10_thrown (o + 69) hM1) lk_L_109 mc_X10_thrown dL_law_1918 hM1.1 (by decide) rfl rfl (Nat.le_of_ble_eq_true rfl) ?_
    rw [t0]
    refine r_iload dL_law_1921 rfl ?_
    refine r_icmp_eq (tgt := 1928) dL_law_1923 (by decide) (fun _ => ?_) (fun hz => absurd (show _ from rfl) hz)
    refine r_iload dL_law_1928 rfl ?_
    refine r_if_ne (tgt := 1945) dL_law_1930 (by decide) (fun _ => ?_) (fun hz => absurd hz (show ¬ _ from (by rw [z_eq (by omega)]; exact hk0)))
    refine r_goto (tgt := 2132) dL_law_1945 (by decide) ?_
    exact hk _ _ _ _ _ _ _ g1.1 g1.2 ⟨hN.on g4 (fun a ha => t1 a ha) t2, ho1, by omega⟩

set_option maxHeartbeats 4000000 in
set_option maxRecDepth 100000 in
theorem ld_plant (o i L : Nat) {K : (Nat → ClassId) → Prop} {xs : Nat → Int32} {kc ks : Nat} {z5 z6 : Option Value} {n : Nat} {kd : mK} {I : mI} {J : mJ} {P : mP} (hZ : ∀ cA : Nat → ClassId, K cA → cA 301 = L ∧ ∀ j, nI (cA (310 + j)) = xs j) (hi : i + 6 ≤ L) (hL : L ≤ 3072) (h : stW o n kd I J P) (hn9 : n < 900000) (hk : ∀ n' kd' I' J' P' z5 z6, n ≤ n' → n' ≤ n + 1 → stW o n' kd' I' J' P' → RuL K kc ks 2132 [some (.ref 1000200), some (.ref o), some (.ref (o + 69)), some (.ref (o + 125)), some (.int (nI i)), z5, z6] [] n' kd' I' J' P') : RuL K (kc + 1) (ks + 10240) 1948 [some (.ref 1000200), some (.ref o), some (.ref (o + 69)), some (.ref (o + 125)), some (.int (nI i)), z5, z6] [] n kd I J P := by
  have hko := h.k.1
  have hout := h.2.1
  have ho9 := h.2.2
  obtain ⟨k, d2, mc, ms, d3, v, w, C, D, ⟨b1, b2, b3, b4, b5, b6⟩, hW, hR, hN⟩ := ow_plant o (xs (i + 1)) (xs (i + 2)) h hn9
  by_cases hk0 : k = 0
  · subst hk0
    have hvw := b6 rfl
    subst hvw
    refine r_aload_n dL_law_1948 rfl ?_
    refine r_aload_n dL_law_1949 rfl ?_
    refine r_iload dL_law_1950 rfl ?_
    refine r_iconst (v := nI 1) dL_law_1952 (by decide) ?_
    refine r_iadd dL_law_1953 ?_
    rw [show nI i + nI 1 = nI (i + 1) from nI_add i 1]
    refine r_sld hZ dL_law_1954 (nI_in8 L (by omega) (by omega)) (nI_clamp (by omega)) ?_
    refine r_aload_n dL_law_1955 rfl ?_
    refine r_iload dL_law_1956 rfl ?_
    refine r_iconst (v := nI 2) dL_law_1958 (by decide) ?_
    refine r_iadd dL_law_1959 ?_
    rw [show nI i + nI 2 = nI (i + 2) from nI_add i 2]
    refine r_sld hZ dL_law_1960 (nI_in8 L (by omega) (by omega)) (nI_clamp (by omega)) ?_
    refine r_aload_n dL_law_1961 rfl ?_
    refine r_statW (kc2 := kc) (ks2 := ks) hW lk_L_218 mw_plant dL_law_1962 (by omega) rfl rfl (Nat.le_of_ble_eq_true rfl) (by omega) (by omega) (fun _ _ _ _ _ _ q => nomatch q.1) ?_
    rintro y n1 kd1 I1 J1 P1 ⟨q0, g1, g2, g3, g4⟩
    cases q0
    simp only [Option.toList, List.cons_append, List.nil_append]
    have hs : sameM (o + 69) kd kd1 I I1 P P1 := fun a x1 x2 => g2 a (by omega) (by omega)
    have hM1 := h.m hs
    have ho1 : kd1 (o + 125) = some (4, 1) := by rw [(g2 (o + 125) (by omega) (by omega)).1]; exact hout
    refine r_istore dL_law_1965 (by decide) ?_
    refine r_aload_n dL_law_1967 rfl ?_
    refine r_aload_n dL_law_1968 rfl ?_
    refine r_iload dL_law_1969 rfl ?_
    refine r_iconst (v := nI 1) dL_law_1971 (by decide) ?_
    refine r_iadd dL_law_1972 ?_
    rw [show nI i + nI 1 = nI (i + 1) from nI_add i 1]
    refine r_sld hZ dL_law_1973 (nI_in8 L (by omega) (by omega)) (nI_clamp (by omega)) ?_
    refine r_aload_n dL_law_1974 rfl ?_
    refine r_iload dL_law_1975 rfl ?_
    refine r_iconst (v := nI 2) dL_law_1977 (by decide) ?_
    refine r_iadd dL_law_1978 ?_
    rw [show nI i + nI 2 = nI (i + 2) from nI_add i 2]
    refine r_sld hZ dL_law_1979 (nI_in8 L (by omega) (by omega)) (nI_clamp (by omega)) ?_
    refine r_virt (hR n1 kd1 I1 J1 P1 hs) lk_L_220 mc_X10_plant dL_law_1980 hM1.1 (by omega) rfl rfl (Nat.le_of_ble_eq_true rfl) (Nat.le_of_eq (Nat.zero_add _)) (Nat.le_of_eq (Nat.zero_add _)) (fun _ _ _ _ _ _ q => nomatch q.1) ?_
    rintro y n2 kd2 I2 J2 P2 ⟨q0, rfl, rfl, rfl, t1, t0, t2⟩
    cases q0
    simp only [Option.toList, List.cons_append, List.nil_append]
    refine r_istore dL_law_1983 (by decide) ?_
    refine r_aload_n dL_law_1985 rfl ?_
    refine r_virtE (c_X10_thrown (o + 69) hM1) lk_L_109 mc_X10_thrown dL_law_1986 hM1.1 (by decide) rfl rfl (Nat.le_of_ble_eq_true rfl) ?_
    rw [t0]
    refine r_iload dL_law_1989 rfl ?_
    refine r_icmp_eq (tgt := 1996) dL_law_1991 (by decide) (fun _ => ?_) (fun hz => absurd (show _ from rfl) hz)
    refine r_iload dL_law_1996 rfl ?_
    refine r_if_ne (tgt := 2013) dL_law_1998 (by decide) (fun hz => absurd (show _ from rfl) hz) (fun _ => ?_)
    refine r_aload_n dL_law_2001 rfl ?_
    refine r_iconst (v := nI 0) dL_law_2002 (by decide) ?_
    refine r_lald dL_law_2003 ho1 (nI_in8 1 (j := 0) (by decide) (by decide)) (nI_clamp (n := 0) (by decide)) ?_
    rw [show J2 (o + 125) 0 = v.toInt64 from by rw [(t1 (o + 125) (by omega)).2]; exact g3 rfl]
    refine r_iload dL_law_2004 rfl ?_
    refine r_i2l dL_law_2006 ?_
    refine r_lcmp dL_law_2007 ?_
    refine r_if_eq (tgt := 2013) dL_law_2008 (by decide) (fun _ => ?_) (fun hz => absurd (show _ from ((lg_cmp_eq _ _).mpr rfl)) hz)
    refine r_goto (tgt := 2132) dL_law_2013 (by decide) ?_
    exact hk _ _ _ _ _ _ _ g1.1 g1.2 ⟨hN.on g4 (fun a ha => t1 a ha) t2, ho1, by omega⟩
  · skip
    refine r_aload_n dL_law_1948 rfl ?_
    refine r_aload_n dL_law_1949 rfl ?_
    refine r_iload dL_law_1950 rfl ?_
    refine r_iconst (v := nI 1) dL_law_1952 (by decide) ?_
    refine r_iadd dL_law_1953 ?_
    rw [show nI i + nI 1 = nI (i + 1) from nI_add i 1]
    refine r_sld hZ dL_law_1954 (nI_in8 L (by omega) (by omega)) (nI_clamp (by omega)) ?_
    refine r_aload_n dL_law_1955 rfl ?_
    refine r_iload dL_law_1956 rfl ?_
    refine r_iconst (v := nI 2) dL_law_1958 (by decide) ?_
    refine r_iadd dL_law_1959 ?_
    rw [show nI i + nI 2 = nI (i + 2) from nI_add i 2]
    refine r_sld hZ dL_law_1960 (nI_in8 L (by omega) (by omega)) (nI_clamp (by omega)) ?_
    refine r_aload_n dL_law_1961 rfl ?_
    refine r_statW (kc2 := kc) (ks2 := ks) hW lk_L_218 mw_plant dL_law_1962 (by omega) rfl rfl (Nat.le_of_ble_eq_true rfl) (by omega) (by omega) (fun _ _ _ _ _ _ q => nomatch q.1) ?_
    rintro y n1 kd1 I1 J1 P1 ⟨q0, g1, g2, g3, g4⟩
    cases q0
    simp only [Option.toList, List.cons_append, List.nil_append]
    have hs : sameM (o + 69) kd kd1 I I1 P P1 := fun a x1 x2 => g2 a (by omega) (by omega)
    have hM1 := h.m hs
    have ho1 : kd1 (o + 125) = some (4, 1) := by rw [(g2 (o + 125) (by omega) (by omega)).1]; exact hout
    refine r_istore dL_law_1965 (by decide) ?_
    refine r_aload_n dL_law_1967 rfl ?_
    refine r_aload_n dL_law_1968 rfl ?_
    refine r_iload dL_law_1969 rfl ?_
    refine r_iconst (v := nI 1) dL_law_1971 (by decide) ?_
    refine r_iadd dL_law_1972 ?_
    rw [show nI i + nI 1 = nI (i + 1) from nI_add i 1]
    refine r_sld hZ dL_law_1973 (nI_in8 L (by omega) (by omega)) (nI_clamp (by omega)) ?_
    refine r_aload_n dL_law_1974 rfl ?_
    refine r_iload dL_law_1975 rfl ?_
    refine r_iconst (v := nI 2) dL_law_1977 (by decide) ?_
    refine r_iadd dL_law_1978 ?_
    rw [show nI i + nI 2 = nI (i + 2) from nI_add i 2]
    refine r_sld hZ dL_law_1979 (nI_in8 L (by omega) (by omega)) (nI_clamp (by omega)) ?_
    refine r_virt (hR n1 kd1 I1 J1 P1 hs) lk_L_220 mc_X10_plant dL_law_1980 hM1.1 (by omega) rfl rfl (Nat.le_of_ble_eq_true rfl) (Nat.le_of_eq (Nat.zero_add _)) (Nat.le_of_eq (Nat.zero_add _)) (fun _ _ _ _ _ _ q => nomatch q.1) ?_
    rintro y n2 kd2 I2 J2 P2 ⟨q0, rfl, rfl, rfl, t1, t0, t2⟩
    cases q0
    simp only [Option.toList, List.cons_append, List.nil_append]
    refine r_istore dL_law_1983 (by decide) ?_
    refine r_aload_n dL_law_1985 rfl ?_
    refine r_virtE (c_X10_thrown (o + 69) hM1) lk_L_109 mc_X10_thrown dL_law_1986 hM1.1 (by decide) rfl rfl (Nat.le_of_ble_eq_true rfl) ?_
    rw [t0]
    refine r_iload dL_law_1989 rfl ?_
    refine r_icmp_eq (tgt := 1996) dL_law_1991 (by decide) (fun _ => ?_) (fun hz => absurd (show _ from rfl) hz)
    refine r_iload dL_law_1996 rfl ?_
    refine r_if_ne (tgt := 2013) dL_law_1998 (by decide) (fun _ => ?_) (fun hz => absurd hz (show ¬ _ from (by rw [z_eq (by omega)]; exact hk0)))
    refine r_goto (tgt := 2132) dL_law_2013 (by decide) ?_
    exact hk _ _ _ _ _ _ _ g1.1 g1.2 ⟨hN.on g4 (fun a ha => t1 a ha) t2, ho1, by omega⟩

set_option maxHeartbeats 4000000 in
set_option maxRecDepth 100000 in
theorem ld_tried (o i L : Nat) {K : (Nat → ClassId) → Prop} {xs : Nat → Int32} {kc ks : Nat} {z5 z6 : Option Value} {n : Nat} {kd : mK} {I : mI} {J : mJ} {P : mP} (hZ : ∀ cA : Nat → ClassId, K cA → cA 301 = L ∧ ∀ j, nI (cA (310 + j)) = xs j) (hi : i + 6 ≤ L) (hL : L ≤ 3072) (h : stW o n kd I J P) (hn9 : n < 900000) (hk : ∀ n' kd' I' J' P' z5 z6, n ≤ n' → n' ≤ n + 1 → stW o n' kd' I' J' P' → RuL K kc ks 2132 [some (.ref 1000200), some (.ref o), some (.ref (o + 69)), some (.ref (o + 125)), some (.int (nI i)), z5, z6] [] n' kd' I' J' P') : RuL K (kc + 1) (ks + 10240) 2016 [some (.ref 1000200), some (.ref o), some (.ref (o + 69)), some (.ref (o + 125)), some (.int (nI i)), z5, z6] [] n kd I J P := by
  have hko := h.k.1
  have hout := h.2.1
  have ho9 := h.2.2
  obtain ⟨k, d2, mc, ms, d3, v, w, C, D, ⟨b1, b2, b3, b4, b5, b6⟩, hW, hR, hN⟩ := ow_tried o (xs (i + 1)) (xs (i + 2)) (xs (i + 3)) (xs (i + 4)) h hn9
  by_cases hk0 : k = 0
  · subst hk0
    have hvw := b6 rfl
    subst hvw
    refine r_aload_n dL_law_2016 rfl ?_
    refine r_aload_n dL_law_2017 rfl ?_
    refine r_iload dL_law_2018 rfl ?_
    refine r_iconst (v := nI 1) dL_law_2020 (by decide) ?_
    refine r_iadd dL_law_2021 ?_
    rw [show nI i + nI 1 = nI (i + 1) from nI_add i 1]
    refine r_sld hZ dL_law_2022 (nI_in8 L (by omega) (by omega)) (nI_clamp (by omega)) ?_
    refine r_aload_n dL_law_2023 rfl ?_
    refine r_iload dL_law_2024 rfl ?_
    refine r_iconst (v := nI 2) dL_law_2026 (by decide) ?_
    refine r_iadd dL_law_2027 ?_
    rw [show nI i + nI 2 = nI (i + 2) from nI_add i 2]
    refine r_sld hZ dL_law_2028 (nI_in8 L (by omega) (by omega)) (nI_clamp (by omega)) ?_
    refine r_aload_n dL_law_2029 rfl ?_
    refine r_iload dL_law_2030 rfl ?_
    refine r_iconst (v := nI 3) dL_law_2032 (by decide) ?_
    refine r_iadd dL_law_2033 ?_
    rw [show nI i + nI 3 = nI (i + 3) from nI_add i 3]
    refine r_sld hZ dL_law_2034 (nI_in8 L (by omega) (by omega)) (nI_clamp (by omega)) ?_
    refine r_aload_n dL_law_2035 rfl ?_
    refine r_iload dL_law_2036 rfl ?_
    refine r_iconst (v := nI 4) dL_law_2038 (by decide) ?_
    refine r_iadd dL_law_2039 ?_
    rw [show nI i + nI 4 = nI (i + 4) from nI_add i 4]
    refine r_sld hZ dL_law_2040 (nI_in8 L (by omega) (by omega)) (nI_clamp (by omega)) ?_
    refine r_aload_n dL_law_2041 rfl ?_
    refine r_statW (kc2 := kc) (ks2 := ks) hW lk_L_221 mw_tried dL_law_2042 (by omega) rfl rfl (Nat.le_of_ble_eq_true rfl) (by omega) (by omega) (fun _ _ _ _ _ _ q => nomatch q.1) ?_
    rintro y n1 kd1 I1 J1 P1 ⟨q0, g1, g2, g3, g4⟩
    cases q0
    simp only [Option.toList, List.cons_append, List.nil_append]
    have hs : sameM (o + 69) kd kd1 I I1 P P1 := fun a x1 x2 => g2 a (by omega) (by omega)
    have hM1 := h.m hs
    have ho1 : kd1 (o + 125) = some (4, 1) := by rw [(g2 (o + 125) (by omega) (by omega)).1]; exact hout
    refine r_istore dL_law_2045 (by decide) ?_
    refine r_aload_n dL_law_2047 rfl ?_
    refine r_aload_n dL_law_2048 rfl ?_
    refine r_iload dL_law_2049 rfl ?_
    refine r_iconst (v := nI 1) dL_law_2051 (by decide) ?_
    refine r_iadd dL_law_2052 ?_
    rw [show nI i + nI 1 = nI (i + 1) from nI_add i 1]
    refine r_sld hZ dL_law_2053 (nI_in8 L (by omega) (by omega)) (nI_clamp (by omega)) ?_
    refine r_aload_n dL_law_2054 rfl ?_
    refine r_iload dL_law_2055 rfl ?_
    refine r_iconst (v := nI 2) dL_law_2057 (by decide) ?_
    refine r_iadd dL_law_2058 ?_
    rw [show nI i + nI 2 = nI (i + 2) from nI_add i 2]
    refine r_sld hZ dL_law_2059 (nI_in8 L (by omega) (by omega)) (nI_clamp (by omega)) ?_
    refine r_aload_n dL_law_2060 rfl ?_
    refine r_iload dL_law_2061 rfl ?_
    refine r_iconst (v := nI 3) dL_law_2063 (by decide) ?_
    refine r_iadd dL_law_2064 ?_
    rw [show nI i + nI 3 = nI (i + 3) from nI_add i 3]
    refine r_sld hZ dL_law_2065 (nI_in8 L (by omega) (by omega)) (nI_clamp (by omega)) ?_
    refine r_aload_n dL_law_2066 rfl ?_
    refine r_iload dL_law_2067 rfl ?_
    refine r_iconst (v := nI 4) dL_law_2069 (by decide) ?_
    refine r_iadd dL_law_2070 ?_
    rw [show nI i + nI 4 = nI (i + 4) from nI_add i 4]
    refine r_sld hZ dL_law_2071 (nI_in8 L (by omega) (by omega)) (nI_clamp (by omega)) ?_
    refine r_virt (hR n1 kd1 I1 J1 P1 hs) lk_L_223 mc_X10_tried dL_law_2072 hM1.1 (by omega) rfl rfl (Nat.le_of_ble_eq_true rfl) (Nat.le_of_eq (Nat.zero_add _)) (Nat.le_of_eq (Nat.zero_add _)) (fun _ _ _ _ _ _ q => nomatch q.1) ?_
    rintro y n2 kd2 I2 J2 P2 ⟨q0, rfl, rfl, rfl, t1, t0, t2⟩
    cases q0
    simp only [Option.toList, List.cons_append, List.nil_append]
    refine r_istore dL_law_2075 (by decide) ?_
    refine r_aload_n dL_law_2077 rfl ?_
    refine r_virtE (c_X10_thrown (o + 69) hM1) lk_L_109 mc_X10_thrown dL_law_2078 hM1.1 (by decide) rfl rfl (Nat.le_of_ble_eq_true rfl) ?_
    rw [t0]
    refine r_iload dL_law_2081 rfl ?_
    refine r_icmp_eq (tgt := 2088) dL_law_2083 (by decide) (fun _ => ?_) (fun hz => absurd (show _ from rfl) hz)
    refine r_iload dL_law_2088 rfl ?_
    refine r_if_ne (tgt := 2105) dL_law_2090 (by decide) (fun hz => absurd (show _ from rfl) hz) (fun _ => ?_)
    refine r_aload_n dL_law_2093 rfl ?_
    refine r_iconst (v := nI 0) dL_law_2094 (by decide) ?_
    refine r_lald dL_law_2095 ho1 (nI_in8 1 (j := 0) (by decide) (by decide)) (nI_clamp (n := 0) (by decide)) ?_
    rw [show J2 (o + 125) 0 = v.toInt64 from by rw [(t1 (o + 125) (by omega)).2]; exact g3 rfl]
    refine r_iload dL_law_2096 rfl ?_
    refine r_i2l dL_law_2098 ?_
    refine r_lcmp dL_law_2099 ?_
    refine r_if_eq (tgt := 2105) dL_law_2100 (by decide) (fun _ => ?_) (fun hz => absurd (show _ from ((lg_cmp_eq _ _).mpr rfl)) hz)
    refine r_goto (tgt := 2132) dL_law_2105 (by decide) ?_
    exact hk _ _ _ _ _ _ _ g1.1 g1.2 ⟨hN.on g4 (fun a ha => t1 a ha) t2, ho1, by omega⟩
  · skip
    refine r_aload_n dL_law_2016 rfl ?_
    refine r_aload_n dL_law_2017 rfl ?_
    refine r_iload dL_law_2018 rfl ?_
    refine r_iconst (v := nI 1) dL_law_2020 (by decide) ?_
    refine r_iadd dL_law_2021 ?_
    rw [show nI i + nI 1 = nI (i + 1) from nI_add i 1]
    refine r_sld hZ dL_law_2022 (nI_in8 L (by omega) (by omega)) (nI_clamp (by omega)) ?_
    refine r_aload_n dL_law_2023 rfl ?_
    refine r_iload dL_law_2024 rfl ?_
    refine r_iconst (v := nI 2) dL_law_2026 (by decide) ?_
    refine r_iadd dL_law_2027 ?_
    rw [show nI i + nI 2 = nI (i + 2) from nI_add i 2]
    refine r_sld hZ dL_law_2028 (nI_in8 L (by omega) (by omega)) (nI_clamp (by omega)) ?_
    refine r_aload_n dL_law_2029 rfl ?_
    refine r_iload dL_law_2030 rfl ?_
    refine r_iconst (v := nI 3) dL_law_2032 (by decide) ?_
    refine r_iadd dL_law_2033 ?_
    rw [show nI i + nI 3 = nI (i + 3) from nI_add i 3]
    refine r_sld hZ dL_law_2034 (nI_in8 L (by omega) (by omega)) (nI_clamp (by omega)) ?_
    refine r_aload_n dL_law_2035 rfl ?_
    refine r_iload dL_law_2036 rfl ?_
    refine r_iconst (v := nI 4) dL_law_2038 (by decide) ?_
    refine r_iadd dL_law_2039 ?_
    rw [show nI i + nI 4 = nI (i + 4) from nI_add i 4]
    refine r_sld hZ dL_law_2040 (nI_in8 L (by omega) (by omega)) (nI_clamp (by omega)) ?_
    refine r_aload_n dL_law_2041 rfl ?_
    refine r_statW (kc2 := kc) (ks2 := ks) hW lk_L_221 mw_tried dL_law_2042 (by omega) rfl rfl (Nat.le_of_ble_eq_true rfl) (by omega) (by omega) (fun _ _ _ _ _ _ q => nomatch q.1) ?_
    rintro y n1 kd1 I1 J1 P1 ⟨q0, g1, g2, g3, g4⟩
    cases q0
    simp only [Option.toList, List.cons_append, List.nil_append]
    have hs : sameM (o + 69) kd kd1 I I1 P P1 := fun a x1 x2 => g2 a (by omega) (by omega)
    have hM1 := h.m hs
    have ho1 : kd1 (o + 125) = some (4, 1) := by rw [(g2 (o + 125) (by omega) (by omega)).1]; exact hout
    refine r_istore dL_law_2045 (by decide) ?_
    refine r_aload_n dL_law_2047 rfl ?_
    refine r_aload_n dL_law_2048 rfl ?_
    refine r_iload dL_law_2049 rfl ?_
    refine r_iconst (v := nI 1) dL_law_2051 (by decide) ?_
    refine r_iadd dL_law_2052 ?_
    rw [show nI i + nI 1 = nI (i + 1) from nI_add i 1]
    refine r_sld hZ dL_law_2053 (nI_in8 L (by omega) (by omega)) (nI_clamp (by omega)) ?_
    refine r_aload_n dL_law_2054 rfl ?_
    refine r_iload dL_law_2055 rfl ?_
    refine r_iconst (v := nI 2) dL_law_2057 (by decide) ?_
    refine r_iadd dL_law_2058 ?_
    rw [show nI i + nI 2 = nI (i + 2) from nI_add i 2]
    refine r_sld hZ dL_law_2059 (nI_in8 L (by omega) (by omega)) (nI_clamp (by omega)) ?_
    refine r_aload_n dL_law_2060 rfl ?_
    refine r_iload dL_law_2061 rfl ?_
    refine r_iconst (v := nI 3) dL_law_2063 (by decide) ?_
    refine r_iadd dL_law_2064 ?_
    rw [show nI i + nI 3 = nI (i + 3) from nI_add i 3]
    refine r_sld hZ dL_law_2065 (nI_in8 L (by omega) (by omega)) (nI_clamp (by omega)) ?_
    refine r_aload_n dL_law_2066 rfl ?_
    refine r_iload dL_law_2067 rfl ?_
    refine r_iconst (v := nI 4) dL_law_2069 (by decide) ?_
    refine r_iadd dL_law_2070 ?_
    rw [show nI i + nI 4 = nI (i + 4) from nI_add i 4]
    refine r_sld hZ dL_law_2071 (nI_in8 L (by omega) (by omega)) (nI_clamp (by omega)) ?_
    refine r_virt (hR n1 kd1 I1 J1 P1 hs) lk_L_223 mc_X10_tried dL_law_2072 hM1.1 (by omega) rfl rfl (Nat.le_of_ble_eq_true rfl) (Nat.le_of_eq (Nat.zero_add _)) (Nat.le_of_eq (Nat.zero_add _)) (fun _ _ _ _ _ _ q => nomatch q.1) ?_
    rintro y n2 kd2 I2 J2 P2 ⟨q0, rfl, rfl, rfl, t1, t0, t2⟩
    cases q0
    simp only [Option.toList, List.cons_append, List.nil_append]
    refine r_istore dL_law_2075 (by decide) ?_
    refine r_aload_n dL_law_2077 rfl ?_
    refine r_virtE (c_X10_thrown (o + 69) hM1) lk_L_109 mc_X10_thrown dL_law_2078 hM1.1 (by decide) rfl rfl (Nat.le_of_ble_eq_true rfl) ?_
    rw [t0]
    refine r_iload dL_law_2081 rfl ?_
    refine r_icmp_eq (tgt := 2088) dL_law_2083 (by decide) (fun _ => ?_) (fun hz => absurd (show _ from rfl) hz)
    refine r_iload dL_law_2088 rfl ?_
    refine r_if_ne (tgt := 2105) dL_law_2090 (by decide) (fun _ => ?_) (fun hz => absurd hz (show ¬ _ from (by rw [z_eq (by omega)]; exact hk0)))
    refine r_goto (tgt := 2132) dL_law_2105 (by decide) ?_
    exact hk _ _ _ _ _ _ _ g1.1 g1.2 ⟨hN.on g4 (fun a ha => t1 a ha) t2, ho1, by omega⟩

set_option maxHeartbeats 4000000 in
set_option maxRecDepth 100000 in
theorem ld_image (o i L : Nat) {K : (Nat → ClassId) → Prop} {xs : Nat → Int32} {kc ks : Nat} {z5 z6 : Option Value} {n : Nat} {kd : mK} {I : mI} {J : mJ} {P : mP} (hZ : ∀ cA : Nat → ClassId, K cA → cA 301 = L ∧ ∀ j, nI (cA (310 + j)) = xs j) (hi : i + 6 ≤ L) (hL : L ≤ 3072) (h : stW o n kd I J P) (hn9 : n < 900000) (hk : ∀ n' kd' I' J' P' z5 z6, n ≤ n' → n' ≤ n + 1 → stW o n' kd' I' J' P' → RuL K kc ks 2132 [some (.ref 1000200), some (.ref o), some (.ref (o + 69)), some (.ref (o + 125)), some (.int (nI i)), z5, z6] [] n' kd' I' J' P') : RuL K (kc + 1) (ks + 10240) 2108 [some (.ref 1000200), some (.ref o), some (.ref (o + 69)), some (.ref (o + 125)), some (.int (nI i)), z5, z6] [] n kd I J P := by
  have hko := h.k.1
  have hout := h.2.1
  have ho9 := h.2.2
  obtain ⟨t, T, fp, rr, H, M, un, cs, tx, e, im, wk, hok, ⟨b, s, f, l, hC⟩, hR9⟩ := id h.1
  refine r_aload_n dL_law_2108 rfl ?_
  refine r_virt (kc2 := kc) (ks2 := ks) (k_image o b s f l hC hok.1) lk_L_224 mc_X9_image dL_law_2109 hko (by decide) rfl rfl (Nat.le_of_ble_eq_true rfl) (by omega) (by omega) (fun _ _ _ _ _ _ q => nomatch q.1) ?_
  rintro y n1 kd1 I1 J1 P1 ⟨q0, g1, g3, g2, g4⟩
  cases q0
  simp only [Option.toList, List.nil_append]
  have hs : sameM (o + 69) kd kd1 I I1 P P1 := fun a x1 x2 => ⟨(g2 a (by omega) (by omega)).1, (g2 a (by omega) (by omega)).2.1, (g2 a (by omega) (by omega)).2.2.2⟩
  have hM1 := h.m hs
  have ho1 : kd1 (o + 125) = some (4, 1) := by rw [(g2 (o + 125) (by omega) (by omega)).1]; exact hout
  refine r_aload_n dL_law_2112 rfl ?_
  refine r_virt (q_image (o + 69) (hR9.fr hs) hok.1) lk_L_227 mc_X10_image dL_law_2113 hM1.1 (by decide) rfl rfl (Nat.le_of_ble_eq_true rfl) (Nat.le_of_eq (Nat.zero_add _)) (Nat.le_of_eq (Nat.zero_add _)) (fun _ _ _ _ _ _ q => nomatch q.1) ?_
  rintro y n2 kd2 I2 J2 P2 ⟨q0, rfl, rfl, rfl, t1, t0, t2⟩
  cases q0
  simp only [Option.toList, List.nil_append]
  refine r_goto (tgt := 2132) dL_law_2116 (by decide) ?_
  exact hk _ _ _ _ _ _ _ g1.1 g1.2 ⟨⟨t, T, fp, rr, H, M, un, cs, tx, e, some e, wk, hok, Tr.cx _ _ _ _ _ _ _ (fun a ha => t1 a (Or.inl ha)) g4, t2⟩, ho1, by omega⟩

set_option maxHeartbeats 4000000 in
set_option maxRecDepth 100000 in
theorem ld_restore (o i L : Nat) {K : (Nat → ClassId) → Prop} {xs : Nat → Int32} {kc ks : Nat} {z5 z6 : Option Value} {n : Nat} {kd : mK} {I : mI} {J : mJ} {P : mP} (hZ : ∀ cA : Nat → ClassId, K cA → cA 301 = L ∧ ∀ j, nI (cA (310 + j)) = xs j) (hi : i + 6 ≤ L) (hL : L ≤ 3072) (h : stW o n kd I J P) (hn9 : n < 900000) (hk : ∀ n' kd' I' J' P' z5 z6, n ≤ n' → n' ≤ n + 1 → stW o n' kd' I' J' P' → RuL K kc ks 2132 [some (.ref 1000200), some (.ref o), some (.ref (o + 69)), some (.ref (o + 125)), some (.int (nI i)), z5, z6] [] n' kd' I' J' P') : RuL K (kc + 1) (ks + 10240) 2119 [some (.ref 1000200), some (.ref o), some (.ref (o + 69)), some (.ref (o + 125)), some (.int (nI i)), z5, z6] [] n kd I J P := by
  have hko := h.k.1
  have hout := h.2.1
  have ho9 := h.2.2
  obtain ⟨d2, mc, ms, d3, v, w, C, D, ⟨b2, b3, b4, b5, rfl⟩, hW, hR, hN⟩ := ow_restore o  h hn9
  refine r_aload_n dL_law_2119 rfl ?_
  refine r_virt (kc2 := kc) (ks2 := ks) hW lk_L_228 mc_X9_restore dL_law_2120 hko (by omega) rfl rfl (Nat.le_of_ble_eq_true rfl) (by omega) (by omega) (fun _ _ _ _ _ _ q => nomatch q.1) ?_
  rintro y n1 kd1 I1 J1 P1 ⟨q0, g1, g3, g2, g4⟩
  cases q0
  simp only [Option.toList, List.cons_append, List.nil_append]
  have hs : sameM (o + 69) kd kd1 I I1 P P1 := fun a x1 x2 => ⟨(g2 a (by omega) (by omega)).1, (g2 a (by omega) (by omega)).2.1, (g2 a (by omega) (by omega)).2.2.2⟩
  have hM1 := h.m hs
  have ho1 : kd1 (o + 125) = some (4, 1) := by rw [(g2 (o + 125) (by omega) (by omega)).1]; exact hout
  refine r_aload_n dL_law_2123 rfl ?_
  refine r_virt (hR n1 kd1 I1 J1 P1 hs) lk_L_232 mc_X10_restore dL_law_2124 hM1.1 (by omega) rfl rfl (Nat.le_of_ble_eq_true rfl) (Nat.le_of_eq (Nat.zero_add _)) (Nat.le_of_eq (Nat.zero_add _)) (fun _ _ _ _ _ _ q => nomatch q.1) ?_
  rintro y n2 kd2 I2 J2 P2 ⟨q0, rfl, rfl, rfl, t1, t0, t2⟩
  cases q0
  simp only [Option.toList, List.cons_append, List.nil_append]
  refine r_icmp_eq (tgt := 2132) dL_law_2127 (by decide) (fun _ => ?_) (fun hz => absurd (show _ from rfl) hz)
  exact hk _ _ _ _ _ _ _ g1.1 g1.2 ⟨hN.on g4 (fun a ha => t1 a ha) t2, ho1, by omega⟩

