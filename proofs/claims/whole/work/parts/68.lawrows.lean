-- ===== decode rows of the law (as printed of the program) =====
theorem dL_law_0 : decode (mC M_L_law) 0 = .ok (.new 8, 3) := by decide +kernel
theorem dL_law_3 : decode (mC M_L_law) 3 = .ok (.dup, 1) := by decide +kernel
theorem dL_law_4 : decode (mC M_L_law) 4 = .ok (.invokespecial 117, 3) := by decide +kernel
theorem dL_law_7 : decode (mC M_L_law) 7 = .ok (.astore_n 1, 1) := by decide +kernel
theorem dL_law_8 : decode (mC M_L_law) 8 = .ok (.new 118, 3) := by decide +kernel
theorem dL_law_11 : decode (mC M_L_law) 11 = .ok (.dup, 1) := by decide +kernel
theorem dL_law_12 : decode (mC M_L_law) 12 = .ok (.invokespecial 120, 3) := by decide +kernel
theorem dL_law_15 : decode (mC M_L_law) 15 = .ok (.astore_n 2, 1) := by decide +kernel
theorem dL_law_16 : decode (mC M_L_law) 16 = .ok (.iconst 1, 1) := by decide +kernel
theorem dL_law_17 : decode (mC M_L_law) 17 = .ok (.newarray .long, 2) := by decide +kernel
theorem dL_law_19 : decode (mC M_L_law) 19 = .ok (.astore_n 3, 1) := by decide +kernel
theorem dL_law_20 : decode (mC M_L_law) 20 = .ok (.iconst 0, 1) := by decide +kernel
theorem dL_law_21 : decode (mC M_L_law) 21 = .ok (.istore 4, 2) := by decide +kernel
theorem dL_law_23 : decode (mC M_L_law) 23 = .ok (.iload 4, 2) := by decide +kernel
theorem dL_law_25 : decode (mC M_L_law) 25 = .ok (.aload_n 0, 1) := by decide +kernel
theorem dL_law_26 : decode (mC M_L_law) 26 = .ok (.arraylength, 1) := by decide +kernel
theorem dL_law_27 : decode (mC M_L_law) 27 = .ok (.iconst 5, 1) := by decide +kernel
theorem dL_law_28 : decode (mC M_L_law) 28 = .ok (.isub, 1) := by decide +kernel
theorem dL_law_29 : decode (mC M_L_law) 29 = .ok (.if_icmp .gt 2209, 3) := by decide +kernel
theorem dL_law_32 : decode (mC M_L_law) 32 = .ok (.aload_n 0, 1) := by decide +kernel
theorem dL_law_33 : decode (mC M_L_law) 33 = .ok (.iload 4, 2) := by decide +kernel
theorem dL_law_35 : decode (mC M_L_law) 35 = .ok (.iaload, 1) := by decide +kernel
theorem dL_law_36 : decode (mC M_L_law) 36 = .ok (.bipush 63, 2) := by decide +kernel
theorem dL_law_38 : decode (mC M_L_law) 38 = .ok (.iand, 1) := by decide +kernel
theorem dL_law_39 : decode (mC M_L_law) 39 = .ok (.tableswitch 2193 0 33 #[149, 205, 273, 329, 385, 441, 497, 605, 673, 753, 821, 877, 933, 946, 1009, 1065, 1121, 1177, 1233, 1289, 1302, 1358, 1426, 1482, 1545, 1601, 1685, 1741, 1821, 1901, 1957, 2013, 2069, 2125], 149) := by decide +kernel
theorem dL_law_188 : decode (mC M_L_law) 188 = .ok (.aload_n 1, 1) := by decide +kernel
theorem dL_law_189 : decode (mC M_L_law) 189 = .ok (.aload_n 0, 1) := by decide +kernel
theorem dL_law_190 : decode (mC M_L_law) 190 = .ok (.iload 4, 2) := by decide +kernel
theorem dL_law_192 : decode (mC M_L_law) 192 = .ok (.iconst 1, 1) := by decide +kernel
theorem dL_law_193 : decode (mC M_L_law) 193 = .ok (.iadd, 1) := by decide +kernel
theorem dL_law_194 : decode (mC M_L_law) 194 = .ok (.iaload, 1) := by decide +kernel
theorem dL_law_195 : decode (mC M_L_law) 195 = .ok (.aload_n 3, 1) := by decide +kernel
theorem dL_law_196 : decode (mC M_L_law) 196 = .ok (.invokestatic 121, 3) := by decide +kernel
theorem dL_law_199 : decode (mC M_L_law) 199 = .ok (.istore 5, 2) := by decide +kernel
theorem dL_law_201 : decode (mC M_L_law) 201 = .ok (.aload_n 2, 1) := by decide +kernel
theorem dL_law_202 : decode (mC M_L_law) 202 = .ok (.aload_n 0, 1) := by decide +kernel
theorem dL_law_203 : decode (mC M_L_law) 203 = .ok (.iload 4, 2) := by decide +kernel
theorem dL_law_205 : decode (mC M_L_law) 205 = .ok (.iconst 1, 1) := by decide +kernel
theorem dL_law_206 : decode (mC M_L_law) 206 = .ok (.iadd, 1) := by decide +kernel
theorem dL_law_207 : decode (mC M_L_law) 207 = .ok (.iaload, 1) := by decide +kernel
theorem dL_law_208 : decode (mC M_L_law) 208 = .ok (.invokevirtual 126, 3) := by decide +kernel
theorem dL_law_211 : decode (mC M_L_law) 211 = .ok (.istore 6, 2) := by decide +kernel
theorem dL_law_213 : decode (mC M_L_law) 213 = .ok (.aload_n 2, 1) := by decide +kernel
theorem dL_law_214 : decode (mC M_L_law) 214 = .ok (.invokevirtual 127, 3) := by decide +kernel
theorem dL_law_217 : decode (mC M_L_law) 217 = .ok (.iload 5, 2) := by decide +kernel
theorem dL_law_219 : decode (mC M_L_law) 219 = .ok (.if_icmp .eq 5, 3) := by decide +kernel
theorem dL_law_222 : decode (mC M_L_law) 222 = .ok (.iconst 0, 1) := by decide +kernel
theorem dL_law_223 : decode (mC M_L_law) 223 = .ok (.ireturn, 1) := by decide +kernel
theorem dL_law_224 : decode (mC M_L_law) 224 = .ok (.iload 5, 2) := by decide +kernel
theorem dL_law_226 : decode (mC M_L_law) 226 = .ok (.ifCond .ne 15, 3) := by decide +kernel
theorem dL_law_229 : decode (mC M_L_law) 229 = .ok (.aload_n 3, 1) := by decide +kernel
theorem dL_law_230 : decode (mC M_L_law) 230 = .ok (.iconst 0, 1) := by decide +kernel
theorem dL_law_231 : decode (mC M_L_law) 231 = .ok (.laload, 1) := by decide +kernel
theorem dL_law_232 : decode (mC M_L_law) 232 = .ok (.iload 6, 2) := by decide +kernel
theorem dL_law_234 : decode (mC M_L_law) 234 = .ok (.i2l, 1) := by decide +kernel
theorem dL_law_235 : decode (mC M_L_law) 235 = .ok (.lcmp, 1) := by decide +kernel
theorem dL_law_236 : decode (mC M_L_law) 236 = .ok (.ifCond .eq 5, 3) := by decide +kernel
theorem dL_law_239 : decode (mC M_L_law) 239 = .ok (.iconst 0, 1) := by decide +kernel
theorem dL_law_240 : decode (mC M_L_law) 240 = .ok (.ireturn, 1) := by decide +kernel
theorem dL_law_241 : decode (mC M_L_law) 241 = .ok (.goto 1991, 3) := by decide +kernel
theorem dL_law_244 : decode (mC M_L_law) 244 = .ok (.aload_n 1, 1) := by decide +kernel
theorem dL_law_245 : decode (mC M_L_law) 245 = .ok (.aload_n 0, 1) := by decide +kernel
theorem dL_law_246 : decode (mC M_L_law) 246 = .ok (.iload 4, 2) := by decide +kernel
theorem dL_law_248 : decode (mC M_L_law) 248 = .ok (.iconst 1, 1) := by decide +kernel
theorem dL_law_249 : decode (mC M_L_law) 249 = .ok (.iadd, 1) := by decide +kernel
theorem dL_law_250 : decode (mC M_L_law) 250 = .ok (.iaload, 1) := by decide +kernel
theorem dL_law_251 : decode (mC M_L_law) 251 = .ok (.aload_n 0, 1) := by decide +kernel
theorem dL_law_252 : decode (mC M_L_law) 252 = .ok (.iload 4, 2) := by decide +kernel
theorem dL_law_254 : decode (mC M_L_law) 254 = .ok (.iconst 2, 1) := by decide +kernel
theorem dL_law_255 : decode (mC M_L_law) 255 = .ok (.iadd, 1) := by decide +kernel
theorem dL_law_256 : decode (mC M_L_law) 256 = .ok (.iaload, 1) := by decide +kernel
theorem dL_law_257 : decode (mC M_L_law) 257 = .ok (.aload_n 3, 1) := by decide +kernel
theorem dL_law_258 : decode (mC M_L_law) 258 = .ok (.invokestatic 131, 3) := by decide +kernel
theorem dL_law_261 : decode (mC M_L_law) 261 = .ok (.istore 5, 2) := by decide +kernel
theorem dL_law_263 : decode (mC M_L_law) 263 = .ok (.aload_n 2, 1) := by decide +kernel
theorem dL_law_264 : decode (mC M_L_law) 264 = .ok (.aload_n 0, 1) := by decide +kernel
theorem dL_law_265 : decode (mC M_L_law) 265 = .ok (.iload 4, 2) := by decide +kernel
theorem dL_law_267 : decode (mC M_L_law) 267 = .ok (.iconst 1, 1) := by decide +kernel
theorem dL_law_268 : decode (mC M_L_law) 268 = .ok (.iadd, 1) := by decide +kernel
theorem dL_law_269 : decode (mC M_L_law) 269 = .ok (.iaload, 1) := by decide +kernel
theorem dL_law_270 : decode (mC M_L_law) 270 = .ok (.aload_n 0, 1) := by decide +kernel
theorem dL_law_271 : decode (mC M_L_law) 271 = .ok (.iload 4, 2) := by decide +kernel
theorem dL_law_273 : decode (mC M_L_law) 273 = .ok (.iconst 2, 1) := by decide +kernel
theorem dL_law_274 : decode (mC M_L_law) 274 = .ok (.iadd, 1) := by decide +kernel
theorem dL_law_275 : decode (mC M_L_law) 275 = .ok (.iaload, 1) := by decide +kernel
theorem dL_law_276 : decode (mC M_L_law) 276 = .ok (.invokevirtual 134, 3) := by decide +kernel
theorem dL_law_279 : decode (mC M_L_law) 279 = .ok (.istore 6, 2) := by decide +kernel
theorem dL_law_281 : decode (mC M_L_law) 281 = .ok (.aload_n 2, 1) := by decide +kernel
theorem dL_law_282 : decode (mC M_L_law) 282 = .ok (.invokevirtual 127, 3) := by decide +kernel
theorem dL_law_285 : decode (mC M_L_law) 285 = .ok (.iload 5, 2) := by decide +kernel
theorem dL_law_287 : decode (mC M_L_law) 287 = .ok (.if_icmp .eq 5, 3) := by decide +kernel
theorem dL_law_290 : decode (mC M_L_law) 290 = .ok (.iconst 0, 1) := by decide +kernel
theorem dL_law_291 : decode (mC M_L_law) 291 = .ok (.ireturn, 1) := by decide +kernel
theorem dL_law_292 : decode (mC M_L_law) 292 = .ok (.iload 5, 2) := by decide +kernel
theorem dL_law_294 : decode (mC M_L_law) 294 = .ok (.ifCond .ne 15, 3) := by decide +kernel
theorem dL_law_297 : decode (mC M_L_law) 297 = .ok (.aload_n 3, 1) := by decide +kernel
theorem dL_law_298 : decode (mC M_L_law) 298 = .ok (.iconst 0, 1) := by decide +kernel
theorem dL_law_299 : decode (mC M_L_law) 299 = .ok (.laload, 1) := by decide +kernel
theorem dL_law_300 : decode (mC M_L_law) 300 = .ok (.iload 6, 2) := by decide +kernel
theorem dL_law_302 : decode (mC M_L_law) 302 = .ok (.i2l, 1) := by decide +kernel
theorem dL_law_303 : decode (mC M_L_law) 303 = .ok (.lcmp, 1) := by decide +kernel
theorem dL_law_304 : decode (mC M_L_law) 304 = .ok (.ifCond .eq 5, 3) := by decide +kernel
theorem dL_law_307 : decode (mC M_L_law) 307 = .ok (.iconst 0, 1) := by decide +kernel
theorem dL_law_308 : decode (mC M_L_law) 308 = .ok (.ireturn, 1) := by decide +kernel
theorem dL_law_309 : decode (mC M_L_law) 309 = .ok (.goto 1923, 3) := by decide +kernel
theorem dL_law_312 : decode (mC M_L_law) 312 = .ok (.aload_n 1, 1) := by decide +kernel
theorem dL_law_313 : decode (mC M_L_law) 313 = .ok (.aload_n 0, 1) := by decide +kernel
theorem dL_law_314 : decode (mC M_L_law) 314 = .ok (.iload 4, 2) := by decide +kernel
theorem dL_law_316 : decode (mC M_L_law) 316 = .ok (.iconst 1, 1) := by decide +kernel
theorem dL_law_317 : decode (mC M_L_law) 317 = .ok (.iadd, 1) := by decide +kernel
theorem dL_law_318 : decode (mC M_L_law) 318 = .ok (.iaload, 1) := by decide +kernel
theorem dL_law_319 : decode (mC M_L_law) 319 = .ok (.aload_n 3, 1) := by decide +kernel
theorem dL_law_320 : decode (mC M_L_law) 320 = .ok (.invokestatic 135, 3) := by decide +kernel
theorem dL_law_323 : decode (mC M_L_law) 323 = .ok (.istore 5, 2) := by decide +kernel
theorem dL_law_325 : decode (mC M_L_law) 325 = .ok (.aload_n 2, 1) := by decide +kernel
theorem dL_law_326 : decode (mC M_L_law) 326 = .ok (.aload_n 0, 1) := by decide +kernel
theorem dL_law_327 : decode (mC M_L_law) 327 = .ok (.iload 4, 2) := by decide +kernel
theorem dL_law_329 : decode (mC M_L_law) 329 = .ok (.iconst 1, 1) := by decide +kernel
theorem dL_law_330 : decode (mC M_L_law) 330 = .ok (.iadd, 1) := by decide +kernel
theorem dL_law_331 : decode (mC M_L_law) 331 = .ok (.iaload, 1) := by decide +kernel
theorem dL_law_332 : decode (mC M_L_law) 332 = .ok (.invokevirtual 137, 3) := by decide +kernel
theorem dL_law_335 : decode (mC M_L_law) 335 = .ok (.istore 6, 2) := by decide +kernel
theorem dL_law_337 : decode (mC M_L_law) 337 = .ok (.aload_n 2, 1) := by decide +kernel
theorem dL_law_338 : decode (mC M_L_law) 338 = .ok (.invokevirtual 127, 3) := by decide +kernel
theorem dL_law_341 : decode (mC M_L_law) 341 = .ok (.iload 5, 2) := by decide +kernel
theorem dL_law_343 : decode (mC M_L_law) 343 = .ok (.if_icmp .eq 5, 3) := by decide +kernel
theorem dL_law_346 : decode (mC M_L_law) 346 = .ok (.iconst 0, 1) := by decide +kernel
theorem dL_law_347 : decode (mC M_L_law) 347 = .ok (.ireturn, 1) := by decide +kernel
theorem dL_law_348 : decode (mC M_L_law) 348 = .ok (.iload 5, 2) := by decide +kernel
theorem dL_law_350 : decode (mC M_L_law) 350 = .ok (.ifCond .ne 15, 3) := by decide +kernel
theorem dL_law_353 : decode (mC M_L_law) 353 = .ok (.aload_n 3, 1) := by decide +kernel
theorem dL_law_354 : decode (mC M_L_law) 354 = .ok (.iconst 0, 1) := by decide +kernel
theorem dL_law_355 : decode (mC M_L_law) 355 = .ok (.laload, 1) := by decide +kernel
theorem dL_law_356 : decode (mC M_L_law) 356 = .ok (.iload 6, 2) := by decide +kernel
theorem dL_law_358 : decode (mC M_L_law) 358 = .ok (.i2l, 1) := by decide +kernel
theorem dL_law_359 : decode (mC M_L_law) 359 = .ok (.lcmp, 1) := by decide +kernel
theorem dL_law_360 : decode (mC M_L_law) 360 = .ok (.ifCond .eq 5, 3) := by decide +kernel
theorem dL_law_363 : decode (mC M_L_law) 363 = .ok (.iconst 0, 1) := by decide +kernel
theorem dL_law_364 : decode (mC M_L_law) 364 = .ok (.ireturn, 1) := by decide +kernel
theorem dL_law_365 : decode (mC M_L_law) 365 = .ok (.goto 1867, 3) := by decide +kernel
theorem dL_law_368 : decode (mC M_L_law) 368 = .ok (.aload_n 1, 1) := by decide +kernel
theorem dL_law_369 : decode (mC M_L_law) 369 = .ok (.aload_n 0, 1) := by decide +kernel
theorem dL_law_370 : decode (mC M_L_law) 370 = .ok (.iload 4, 2) := by decide +kernel
theorem dL_law_372 : decode (mC M_L_law) 372 = .ok (.iconst 1, 1) := by decide +kernel
theorem dL_law_373 : decode (mC M_L_law) 373 = .ok (.iadd, 1) := by decide +kernel
theorem dL_law_374 : decode (mC M_L_law) 374 = .ok (.iaload, 1) := by decide +kernel
theorem dL_law_375 : decode (mC M_L_law) 375 = .ok (.aload_n 3, 1) := by decide +kernel
theorem dL_law_376 : decode (mC M_L_law) 376 = .ok (.invokestatic 138, 3) := by decide +kernel
theorem dL_law_379 : decode (mC M_L_law) 379 = .ok (.istore 5, 2) := by decide +kernel
theorem dL_law_381 : decode (mC M_L_law) 381 = .ok (.aload_n 2, 1) := by decide +kernel
theorem dL_law_382 : decode (mC M_L_law) 382 = .ok (.aload_n 0, 1) := by decide +kernel
theorem dL_law_383 : decode (mC M_L_law) 383 = .ok (.iload 4, 2) := by decide +kernel
theorem dL_law_385 : decode (mC M_L_law) 385 = .ok (.iconst 1, 1) := by decide +kernel
theorem dL_law_386 : decode (mC M_L_law) 386 = .ok (.iadd, 1) := by decide +kernel
theorem dL_law_387 : decode (mC M_L_law) 387 = .ok (.iaload, 1) := by decide +kernel
theorem dL_law_388 : decode (mC M_L_law) 388 = .ok (.invokevirtual 140, 3) := by decide +kernel
theorem dL_law_391 : decode (mC M_L_law) 391 = .ok (.istore 6, 2) := by decide +kernel
theorem dL_law_393 : decode (mC M_L_law) 393 = .ok (.aload_n 2, 1) := by decide +kernel
theorem dL_law_394 : decode (mC M_L_law) 394 = .ok (.invokevirtual 127, 3) := by decide +kernel
theorem dL_law_397 : decode (mC M_L_law) 397 = .ok (.iload 5, 2) := by decide +kernel
theorem dL_law_399 : decode (mC M_L_law) 399 = .ok (.if_icmp .eq 5, 3) := by decide +kernel
theorem dL_law_402 : decode (mC M_L_law) 402 = .ok (.iconst 0, 1) := by decide +kernel
theorem dL_law_403 : decode (mC M_L_law) 403 = .ok (.ireturn, 1) := by decide +kernel
theorem dL_law_404 : decode (mC M_L_law) 404 = .ok (.iload 5, 2) := by decide +kernel
theorem dL_law_406 : decode (mC M_L_law) 406 = .ok (.ifCond .ne 15, 3) := by decide +kernel
theorem dL_law_409 : decode (mC M_L_law) 409 = .ok (.aload_n 3, 1) := by decide +kernel
theorem dL_law_410 : decode (mC M_L_law) 410 = .ok (.iconst 0, 1) := by decide +kernel
theorem dL_law_411 : decode (mC M_L_law) 411 = .ok (.laload, 1) := by decide +kernel
theorem dL_law_412 : decode (mC M_L_law) 412 = .ok (.iload 6, 2) := by decide +kernel
theorem dL_law_414 : decode (mC M_L_law) 414 = .ok (.i2l, 1) := by decide +kernel
theorem dL_law_415 : decode (mC M_L_law) 415 = .ok (.lcmp, 1) := by decide +kernel
theorem dL_law_416 : decode (mC M_L_law) 416 = .ok (.ifCond .eq 5, 3) := by decide +kernel
theorem dL_law_419 : decode (mC M_L_law) 419 = .ok (.iconst 0, 1) := by decide +kernel
theorem dL_law_420 : decode (mC M_L_law) 420 = .ok (.ireturn, 1) := by decide +kernel
theorem dL_law_421 : decode (mC M_L_law) 421 = .ok (.goto 1811, 3) := by decide +kernel
theorem dL_law_424 : decode (mC M_L_law) 424 = .ok (.aload_n 1, 1) := by decide +kernel
theorem dL_law_425 : decode (mC M_L_law) 425 = .ok (.aload_n 0, 1) := by decide +kernel
theorem dL_law_426 : decode (mC M_L_law) 426 = .ok (.iload 4, 2) := by decide +kernel
theorem dL_law_428 : decode (mC M_L_law) 428 = .ok (.iconst 1, 1) := by decide +kernel
theorem dL_law_429 : decode (mC M_L_law) 429 = .ok (.iadd, 1) := by decide +kernel
theorem dL_law_430 : decode (mC M_L_law) 430 = .ok (.iaload, 1) := by decide +kernel
theorem dL_law_431 : decode (mC M_L_law) 431 = .ok (.aload_n 3, 1) := by decide +kernel
theorem dL_law_432 : decode (mC M_L_law) 432 = .ok (.invokestatic 141, 3) := by decide +kernel
theorem dL_law_435 : decode (mC M_L_law) 435 = .ok (.istore 5, 2) := by decide +kernel
theorem dL_law_437 : decode (mC M_L_law) 437 = .ok (.aload_n 2, 1) := by decide +kernel
theorem dL_law_438 : decode (mC M_L_law) 438 = .ok (.aload_n 0, 1) := by decide +kernel
theorem dL_law_439 : decode (mC M_L_law) 439 = .ok (.iload 4, 2) := by decide +kernel
theorem dL_law_441 : decode (mC M_L_law) 441 = .ok (.iconst 1, 1) := by decide +kernel
theorem dL_law_442 : decode (mC M_L_law) 442 = .ok (.iadd, 1) := by decide +kernel
theorem dL_law_443 : decode (mC M_L_law) 443 = .ok (.iaload, 1) := by decide +kernel
theorem dL_law_444 : decode (mC M_L_law) 444 = .ok (.invokevirtual 143, 3) := by decide +kernel
theorem dL_law_447 : decode (mC M_L_law) 447 = .ok (.istore 6, 2) := by decide +kernel
theorem dL_law_449 : decode (mC M_L_law) 449 = .ok (.aload_n 2, 1) := by decide +kernel
theorem dL_law_450 : decode (mC M_L_law) 450 = .ok (.invokevirtual 127, 3) := by decide +kernel
theorem dL_law_453 : decode (mC M_L_law) 453 = .ok (.iload 5, 2) := by decide +kernel
theorem dL_law_455 : decode (mC M_L_law) 455 = .ok (.if_icmp .eq 5, 3) := by decide +kernel
theorem dL_law_458 : decode (mC M_L_law) 458 = .ok (.iconst 0, 1) := by decide +kernel
theorem dL_law_459 : decode (mC M_L_law) 459 = .ok (.ireturn, 1) := by decide +kernel
theorem dL_law_460 : decode (mC M_L_law) 460 = .ok (.iload 5, 2) := by decide +kernel
theorem dL_law_462 : decode (mC M_L_law) 462 = .ok (.ifCond .ne 15, 3) := by decide +kernel
theorem dL_law_465 : decode (mC M_L_law) 465 = .ok (.aload_n 3, 1) := by decide +kernel
theorem dL_law_466 : decode (mC M_L_law) 466 = .ok (.iconst 0, 1) := by decide +kernel
theorem dL_law_467 : decode (mC M_L_law) 467 = .ok (.laload, 1) := by decide +kernel
theorem dL_law_468 : decode (mC M_L_law) 468 = .ok (.iload 6, 2) := by decide +kernel
theorem dL_law_470 : decode (mC M_L_law) 470 = .ok (.i2l, 1) := by decide +kernel
theorem dL_law_471 : decode (mC M_L_law) 471 = .ok (.lcmp, 1) := by decide +kernel
theorem dL_law_472 : decode (mC M_L_law) 472 = .ok (.ifCond .eq 5, 3) := by decide +kernel
theorem dL_law_475 : decode (mC M_L_law) 475 = .ok (.iconst 0, 1) := by decide +kernel
theorem dL_law_476 : decode (mC M_L_law) 476 = .ok (.ireturn, 1) := by decide +kernel
theorem dL_law_477 : decode (mC M_L_law) 477 = .ok (.goto 1755, 3) := by decide +kernel
theorem dL_law_480 : decode (mC M_L_law) 480 = .ok (.aload_n 1, 1) := by decide +kernel
theorem dL_law_481 : decode (mC M_L_law) 481 = .ok (.aload_n 0, 1) := by decide +kernel
theorem dL_law_482 : decode (mC M_L_law) 482 = .ok (.iload 4, 2) := by decide +kernel
theorem dL_law_484 : decode (mC M_L_law) 484 = .ok (.iconst 1, 1) := by decide +kernel
theorem dL_law_485 : decode (mC M_L_law) 485 = .ok (.iadd, 1) := by decide +kernel
theorem dL_law_486 : decode (mC M_L_law) 486 = .ok (.iaload, 1) := by decide +kernel
theorem dL_law_487 : decode (mC M_L_law) 487 = .ok (.aload_n 3, 1) := by decide +kernel
theorem dL_law_488 : decode (mC M_L_law) 488 = .ok (.invokestatic 144, 3) := by decide +kernel
theorem dL_law_491 : decode (mC M_L_law) 491 = .ok (.istore 5, 2) := by decide +kernel
theorem dL_law_493 : decode (mC M_L_law) 493 = .ok (.aload_n 2, 1) := by decide +kernel
theorem dL_law_494 : decode (mC M_L_law) 494 = .ok (.aload_n 0, 1) := by decide +kernel
theorem dL_law_495 : decode (mC M_L_law) 495 = .ok (.iload 4, 2) := by decide +kernel
theorem dL_law_497 : decode (mC M_L_law) 497 = .ok (.iconst 1, 1) := by decide +kernel
theorem dL_law_498 : decode (mC M_L_law) 498 = .ok (.iadd, 1) := by decide +kernel
theorem dL_law_499 : decode (mC M_L_law) 499 = .ok (.iaload, 1) := by decide +kernel
theorem dL_law_500 : decode (mC M_L_law) 500 = .ok (.invokevirtual 146, 3) := by decide +kernel
theorem dL_law_503 : decode (mC M_L_law) 503 = .ok (.istore 6, 2) := by decide +kernel
theorem dL_law_505 : decode (mC M_L_law) 505 = .ok (.aload_n 2, 1) := by decide +kernel
theorem dL_law_506 : decode (mC M_L_law) 506 = .ok (.invokevirtual 127, 3) := by decide +kernel
theorem dL_law_509 : decode (mC M_L_law) 509 = .ok (.iload 5, 2) := by decide +kernel
theorem dL_law_511 : decode (mC M_L_law) 511 = .ok (.if_icmp .eq 5, 3) := by decide +kernel
theorem dL_law_514 : decode (mC M_L_law) 514 = .ok (.iconst 0, 1) := by decide +kernel
theorem dL_law_515 : decode (mC M_L_law) 515 = .ok (.ireturn, 1) := by decide +kernel
theorem dL_law_516 : decode (mC M_L_law) 516 = .ok (.iload 5, 2) := by decide +kernel
theorem dL_law_518 : decode (mC M_L_law) 518 = .ok (.ifCond .ne 15, 3) := by decide +kernel
theorem dL_law_521 : decode (mC M_L_law) 521 = .ok (.aload_n 3, 1) := by decide +kernel
theorem dL_law_522 : decode (mC M_L_law) 522 = .ok (.iconst 0, 1) := by decide +kernel
theorem dL_law_523 : decode (mC M_L_law) 523 = .ok (.laload, 1) := by decide +kernel
theorem dL_law_524 : decode (mC M_L_law) 524 = .ok (.iload 6, 2) := by decide +kernel
theorem dL_law_526 : decode (mC M_L_law) 526 = .ok (.i2l, 1) := by decide +kernel
theorem dL_law_527 : decode (mC M_L_law) 527 = .ok (.lcmp, 1) := by decide +kernel
theorem dL_law_528 : decode (mC M_L_law) 528 = .ok (.ifCond .eq 5, 3) := by decide +kernel
theorem dL_law_531 : decode (mC M_L_law) 531 = .ok (.iconst 0, 1) := by decide +kernel
theorem dL_law_532 : decode (mC M_L_law) 532 = .ok (.ireturn, 1) := by decide +kernel
theorem dL_law_533 : decode (mC M_L_law) 533 = .ok (.goto 1699, 3) := by decide +kernel
theorem dL_law_536 : decode (mC M_L_law) 536 = .ok (.aload_n 1, 1) := by decide +kernel
theorem dL_law_537 : decode (mC M_L_law) 537 = .ok (.aload_n 0, 1) := by decide +kernel
theorem dL_law_538 : decode (mC M_L_law) 538 = .ok (.iload 4, 2) := by decide +kernel
theorem dL_law_540 : decode (mC M_L_law) 540 = .ok (.iconst 1, 1) := by decide +kernel
theorem dL_law_541 : decode (mC M_L_law) 541 = .ok (.iadd, 1) := by decide +kernel
theorem dL_law_542 : decode (mC M_L_law) 542 = .ok (.iaload, 1) := by decide +kernel
theorem dL_law_543 : decode (mC M_L_law) 543 = .ok (.aload_n 0, 1) := by decide +kernel
theorem dL_law_544 : decode (mC M_L_law) 544 = .ok (.iload 4, 2) := by decide +kernel
theorem dL_law_546 : decode (mC M_L_law) 546 = .ok (.iconst 2, 1) := by decide +kernel
theorem dL_law_547 : decode (mC M_L_law) 547 = .ok (.iadd, 1) := by decide +kernel
theorem dL_law_548 : decode (mC M_L_law) 548 = .ok (.iaload, 1) := by decide +kernel
theorem dL_law_549 : decode (mC M_L_law) 549 = .ok (.aload_n 0, 1) := by decide +kernel
theorem dL_law_550 : decode (mC M_L_law) 550 = .ok (.iload 4, 2) := by decide +kernel
theorem dL_law_552 : decode (mC M_L_law) 552 = .ok (.iconst 3, 1) := by decide +kernel
theorem dL_law_553 : decode (mC M_L_law) 553 = .ok (.iadd, 1) := by decide +kernel
theorem dL_law_554 : decode (mC M_L_law) 554 = .ok (.iaload, 1) := by decide +kernel
theorem dL_law_555 : decode (mC M_L_law) 555 = .ok (.aload_n 0, 1) := by decide +kernel
theorem dL_law_556 : decode (mC M_L_law) 556 = .ok (.iload 4, 2) := by decide +kernel
theorem dL_law_558 : decode (mC M_L_law) 558 = .ok (.iconst 4, 1) := by decide +kernel
theorem dL_law_559 : decode (mC M_L_law) 559 = .ok (.iadd, 1) := by decide +kernel
theorem dL_law_560 : decode (mC M_L_law) 560 = .ok (.iaload, 1) := by decide +kernel
theorem dL_law_561 : decode (mC M_L_law) 561 = .ok (.ifCond .eq 7, 3) := by decide +kernel
theorem dL_law_564 : decode (mC M_L_law) 564 = .ok (.iconst 1, 1) := by decide +kernel
theorem dL_law_565 : decode (mC M_L_law) 565 = .ok (.goto 4, 3) := by decide +kernel
theorem dL_law_568 : decode (mC M_L_law) 568 = .ok (.iconst 0, 1) := by decide +kernel
theorem dL_law_569 : decode (mC M_L_law) 569 = .ok (.aload_n 3, 1) := by decide +kernel
theorem dL_law_570 : decode (mC M_L_law) 570 = .ok (.invokestatic 147, 3) := by decide +kernel
theorem dL_law_573 : decode (mC M_L_law) 573 = .ok (.istore 5, 2) := by decide +kernel
theorem dL_law_575 : decode (mC M_L_law) 575 = .ok (.aload_n 2, 1) := by decide +kernel
theorem dL_law_576 : decode (mC M_L_law) 576 = .ok (.aload_n 0, 1) := by decide +kernel
theorem dL_law_577 : decode (mC M_L_law) 577 = .ok (.iload 4, 2) := by decide +kernel
theorem dL_law_579 : decode (mC M_L_law) 579 = .ok (.iconst 1, 1) := by decide +kernel
theorem dL_law_580 : decode (mC M_L_law) 580 = .ok (.iadd, 1) := by decide +kernel
theorem dL_law_581 : decode (mC M_L_law) 581 = .ok (.iaload, 1) := by decide +kernel
theorem dL_law_582 : decode (mC M_L_law) 582 = .ok (.aload_n 0, 1) := by decide +kernel
theorem dL_law_583 : decode (mC M_L_law) 583 = .ok (.iload 4, 2) := by decide +kernel
theorem dL_law_585 : decode (mC M_L_law) 585 = .ok (.iconst 2, 1) := by decide +kernel
theorem dL_law_586 : decode (mC M_L_law) 586 = .ok (.iadd, 1) := by decide +kernel
theorem dL_law_587 : decode (mC M_L_law) 587 = .ok (.iaload, 1) := by decide +kernel
theorem dL_law_588 : decode (mC M_L_law) 588 = .ok (.aload_n 0, 1) := by decide +kernel
theorem dL_law_589 : decode (mC M_L_law) 589 = .ok (.iload 4, 2) := by decide +kernel
theorem dL_law_591 : decode (mC M_L_law) 591 = .ok (.iconst 3, 1) := by decide +kernel
theorem dL_law_592 : decode (mC M_L_law) 592 = .ok (.iadd, 1) := by decide +kernel
theorem dL_law_593 : decode (mC M_L_law) 593 = .ok (.iaload, 1) := by decide +kernel
theorem dL_law_594 : decode (mC M_L_law) 594 = .ok (.aload_n 0, 1) := by decide +kernel
theorem dL_law_595 : decode (mC M_L_law) 595 = .ok (.iload 4, 2) := by decide +kernel
theorem dL_law_597 : decode (mC M_L_law) 597 = .ok (.iconst 4, 1) := by decide +kernel
theorem dL_law_598 : decode (mC M_L_law) 598 = .ok (.iadd, 1) := by decide +kernel
theorem dL_law_599 : decode (mC M_L_law) 599 = .ok (.iaload, 1) := by decide +kernel
theorem dL_law_600 : decode (mC M_L_law) 600 = .ok (.ifCond .eq 7, 3) := by decide +kernel
theorem dL_law_603 : decode (mC M_L_law) 603 = .ok (.iconst 1, 1) := by decide +kernel
theorem dL_law_604 : decode (mC M_L_law) 604 = .ok (.goto 4, 3) := by decide +kernel
theorem dL_law_607 : decode (mC M_L_law) 607 = .ok (.iconst 0, 1) := by decide +kernel
theorem dL_law_608 : decode (mC M_L_law) 608 = .ok (.invokevirtual 150, 3) := by decide +kernel
theorem dL_law_611 : decode (mC M_L_law) 611 = .ok (.istore 6, 2) := by decide +kernel
theorem dL_law_613 : decode (mC M_L_law) 613 = .ok (.aload_n 2, 1) := by decide +kernel
theorem dL_law_614 : decode (mC M_L_law) 614 = .ok (.invokevirtual 127, 3) := by decide +kernel
theorem dL_law_617 : decode (mC M_L_law) 617 = .ok (.iload 5, 2) := by decide +kernel
theorem dL_law_619 : decode (mC M_L_law) 619 = .ok (.if_icmp .eq 5, 3) := by decide +kernel
theorem dL_law_622 : decode (mC M_L_law) 622 = .ok (.iconst 0, 1) := by decide +kernel
theorem dL_law_623 : decode (mC M_L_law) 623 = .ok (.ireturn, 1) := by decide +kernel
theorem dL_law_624 : decode (mC M_L_law) 624 = .ok (.iload 5, 2) := by decide +kernel
theorem dL_law_626 : decode (mC M_L_law) 626 = .ok (.ifCond .ne 15, 3) := by decide +kernel
theorem dL_law_629 : decode (mC M_L_law) 629 = .ok (.aload_n 3, 1) := by decide +kernel
theorem dL_law_630 : decode (mC M_L_law) 630 = .ok (.iconst 0, 1) := by decide +kernel
theorem dL_law_631 : decode (mC M_L_law) 631 = .ok (.laload, 1) := by decide +kernel
theorem dL_law_632 : decode (mC M_L_law) 632 = .ok (.iload 6, 2) := by decide +kernel
theorem dL_law_634 : decode (mC M_L_law) 634 = .ok (.i2l, 1) := by decide +kernel
theorem dL_law_635 : decode (mC M_L_law) 635 = .ok (.lcmp, 1) := by decide +kernel
theorem dL_law_636 : decode (mC M_L_law) 636 = .ok (.ifCond .eq 5, 3) := by decide +kernel
theorem dL_law_639 : decode (mC M_L_law) 639 = .ok (.iconst 0, 1) := by decide +kernel
theorem dL_law_640 : decode (mC M_L_law) 640 = .ok (.ireturn, 1) := by decide +kernel
theorem dL_law_641 : decode (mC M_L_law) 641 = .ok (.goto 1591, 3) := by decide +kernel
theorem dL_law_644 : decode (mC M_L_law) 644 = .ok (.aload_n 1, 1) := by decide +kernel
theorem dL_law_645 : decode (mC M_L_law) 645 = .ok (.aload_n 0, 1) := by decide +kernel
theorem dL_law_646 : decode (mC M_L_law) 646 = .ok (.iload 4, 2) := by decide +kernel
theorem dL_law_648 : decode (mC M_L_law) 648 = .ok (.iconst 1, 1) := by decide +kernel
theorem dL_law_649 : decode (mC M_L_law) 649 = .ok (.iadd, 1) := by decide +kernel
theorem dL_law_650 : decode (mC M_L_law) 650 = .ok (.iaload, 1) := by decide +kernel
theorem dL_law_651 : decode (mC M_L_law) 651 = .ok (.aload_n 0, 1) := by decide +kernel
theorem dL_law_652 : decode (mC M_L_law) 652 = .ok (.iload 4, 2) := by decide +kernel
theorem dL_law_654 : decode (mC M_L_law) 654 = .ok (.iconst 2, 1) := by decide +kernel
theorem dL_law_655 : decode (mC M_L_law) 655 = .ok (.iadd, 1) := by decide +kernel
theorem dL_law_656 : decode (mC M_L_law) 656 = .ok (.iaload, 1) := by decide +kernel
theorem dL_law_657 : decode (mC M_L_law) 657 = .ok (.aload_n 3, 1) := by decide +kernel
theorem dL_law_658 : decode (mC M_L_law) 658 = .ok (.invokestatic 151, 3) := by decide +kernel
theorem dL_law_661 : decode (mC M_L_law) 661 = .ok (.istore 5, 2) := by decide +kernel
theorem dL_law_663 : decode (mC M_L_law) 663 = .ok (.aload_n 2, 1) := by decide +kernel
theorem dL_law_664 : decode (mC M_L_law) 664 = .ok (.aload_n 0, 1) := by decide +kernel
theorem dL_law_665 : decode (mC M_L_law) 665 = .ok (.iload 4, 2) := by decide +kernel
theorem dL_law_667 : decode (mC M_L_law) 667 = .ok (.iconst 1, 1) := by decide +kernel
theorem dL_law_668 : decode (mC M_L_law) 668 = .ok (.iadd, 1) := by decide +kernel
theorem dL_law_669 : decode (mC M_L_law) 669 = .ok (.iaload, 1) := by decide +kernel
theorem dL_law_670 : decode (mC M_L_law) 670 = .ok (.aload_n 0, 1) := by decide +kernel
theorem dL_law_671 : decode (mC M_L_law) 671 = .ok (.iload 4, 2) := by decide +kernel
theorem dL_law_673 : decode (mC M_L_law) 673 = .ok (.iconst 2, 1) := by decide +kernel
theorem dL_law_674 : decode (mC M_L_law) 674 = .ok (.iadd, 1) := by decide +kernel
theorem dL_law_675 : decode (mC M_L_law) 675 = .ok (.iaload, 1) := by decide +kernel
theorem dL_law_676 : decode (mC M_L_law) 676 = .ok (.invokevirtual 153, 3) := by decide +kernel
theorem dL_law_679 : decode (mC M_L_law) 679 = .ok (.istore 6, 2) := by decide +kernel
theorem dL_law_681 : decode (mC M_L_law) 681 = .ok (.aload_n 2, 1) := by decide +kernel
theorem dL_law_682 : decode (mC M_L_law) 682 = .ok (.invokevirtual 127, 3) := by decide +kernel
theorem dL_law_685 : decode (mC M_L_law) 685 = .ok (.iload 5, 2) := by decide +kernel
theorem dL_law_687 : decode (mC M_L_law) 687 = .ok (.if_icmp .eq 5, 3) := by decide +kernel
theorem dL_law_690 : decode (mC M_L_law) 690 = .ok (.iconst 0, 1) := by decide +kernel
theorem dL_law_691 : decode (mC M_L_law) 691 = .ok (.ireturn, 1) := by decide +kernel
theorem dL_law_692 : decode (mC M_L_law) 692 = .ok (.iload 5, 2) := by decide +kernel
theorem dL_law_694 : decode (mC M_L_law) 694 = .ok (.ifCond .ne 15, 3) := by decide +kernel
theorem dL_law_697 : decode (mC M_L_law) 697 = .ok (.aload_n 3, 1) := by decide +kernel
theorem dL_law_698 : decode (mC M_L_law) 698 = .ok (.iconst 0, 1) := by decide +kernel
theorem dL_law_699 : decode (mC M_L_law) 699 = .ok (.laload, 1) := by decide +kernel
theorem dL_law_700 : decode (mC M_L_law) 700 = .ok (.iload 6, 2) := by decide +kernel
theorem dL_law_702 : decode (mC M_L_law) 702 = .ok (.i2l, 1) := by decide +kernel
theorem dL_law_703 : decode (mC M_L_law) 703 = .ok (.lcmp, 1) := by decide +kernel
theorem dL_law_704 : decode (mC M_L_law) 704 = .ok (.ifCond .eq 5, 3) := by decide +kernel
theorem dL_law_707 : decode (mC M_L_law) 707 = .ok (.iconst 0, 1) := by decide +kernel
theorem dL_law_708 : decode (mC M_L_law) 708 = .ok (.ireturn, 1) := by decide +kernel
theorem dL_law_709 : decode (mC M_L_law) 709 = .ok (.goto 1523, 3) := by decide +kernel
theorem dL_law_712 : decode (mC M_L_law) 712 = .ok (.aload_n 1, 1) := by decide +kernel
theorem dL_law_713 : decode (mC M_L_law) 713 = .ok (.aload_n 0, 1) := by decide +kernel
theorem dL_law_714 : decode (mC M_L_law) 714 = .ok (.iload 4, 2) := by decide +kernel
theorem dL_law_716 : decode (mC M_L_law) 716 = .ok (.iconst 1, 1) := by decide +kernel
theorem dL_law_717 : decode (mC M_L_law) 717 = .ok (.iadd, 1) := by decide +kernel
theorem dL_law_718 : decode (mC M_L_law) 718 = .ok (.iaload, 1) := by decide +kernel
theorem dL_law_719 : decode (mC M_L_law) 719 = .ok (.aload_n 0, 1) := by decide +kernel
theorem dL_law_720 : decode (mC M_L_law) 720 = .ok (.iload 4, 2) := by decide +kernel
theorem dL_law_722 : decode (mC M_L_law) 722 = .ok (.iconst 2, 1) := by decide +kernel
theorem dL_law_723 : decode (mC M_L_law) 723 = .ok (.iadd, 1) := by decide +kernel
theorem dL_law_724 : decode (mC M_L_law) 724 = .ok (.iaload, 1) := by decide +kernel
theorem dL_law_725 : decode (mC M_L_law) 725 = .ok (.aload_n 0, 1) := by decide +kernel
theorem dL_law_726 : decode (mC M_L_law) 726 = .ok (.iload 4, 2) := by decide +kernel
theorem dL_law_728 : decode (mC M_L_law) 728 = .ok (.iconst 3, 1) := by decide +kernel
theorem dL_law_729 : decode (mC M_L_law) 729 = .ok (.iadd, 1) := by decide +kernel
theorem dL_law_730 : decode (mC M_L_law) 730 = .ok (.iaload, 1) := by decide +kernel
theorem dL_law_731 : decode (mC M_L_law) 731 = .ok (.aload_n 3, 1) := by decide +kernel
theorem dL_law_732 : decode (mC M_L_law) 732 = .ok (.invokestatic 154, 3) := by decide +kernel
theorem dL_law_735 : decode (mC M_L_law) 735 = .ok (.istore 5, 2) := by decide +kernel
theorem dL_law_737 : decode (mC M_L_law) 737 = .ok (.aload_n 2, 1) := by decide +kernel
theorem dL_law_738 : decode (mC M_L_law) 738 = .ok (.aload_n 0, 1) := by decide +kernel
theorem dL_law_739 : decode (mC M_L_law) 739 = .ok (.iload 4, 2) := by decide +kernel
theorem dL_law_741 : decode (mC M_L_law) 741 = .ok (.iconst 1, 1) := by decide +kernel
theorem dL_law_742 : decode (mC M_L_law) 742 = .ok (.iadd, 1) := by decide +kernel
theorem dL_law_743 : decode (mC M_L_law) 743 = .ok (.iaload, 1) := by decide +kernel
theorem dL_law_744 : decode (mC M_L_law) 744 = .ok (.aload_n 0, 1) := by decide +kernel
theorem dL_law_745 : decode (mC M_L_law) 745 = .ok (.iload 4, 2) := by decide +kernel
theorem dL_law_747 : decode (mC M_L_law) 747 = .ok (.iconst 2, 1) := by decide +kernel
theorem dL_law_748 : decode (mC M_L_law) 748 = .ok (.iadd, 1) := by decide +kernel
theorem dL_law_749 : decode (mC M_L_law) 749 = .ok (.iaload, 1) := by decide +kernel
theorem dL_law_750 : decode (mC M_L_law) 750 = .ok (.aload_n 0, 1) := by decide +kernel
theorem dL_law_751 : decode (mC M_L_law) 751 = .ok (.iload 4, 2) := by decide +kernel
theorem dL_law_753 : decode (mC M_L_law) 753 = .ok (.iconst 3, 1) := by decide +kernel
theorem dL_law_754 : decode (mC M_L_law) 754 = .ok (.iadd, 1) := by decide +kernel
theorem dL_law_755 : decode (mC M_L_law) 755 = .ok (.iaload, 1) := by decide +kernel
theorem dL_law_756 : decode (mC M_L_law) 756 = .ok (.invokevirtual 157, 3) := by decide +kernel
theorem dL_law_759 : decode (mC M_L_law) 759 = .ok (.istore 6, 2) := by decide +kernel
theorem dL_law_761 : decode (mC M_L_law) 761 = .ok (.aload_n 2, 1) := by decide +kernel
theorem dL_law_762 : decode (mC M_L_law) 762 = .ok (.invokevirtual 127, 3) := by decide +kernel
theorem dL_law_765 : decode (mC M_L_law) 765 = .ok (.iload 5, 2) := by decide +kernel
theorem dL_law_767 : decode (mC M_L_law) 767 = .ok (.if_icmp .eq 5, 3) := by decide +kernel
theorem dL_law_770 : decode (mC M_L_law) 770 = .ok (.iconst 0, 1) := by decide +kernel
theorem dL_law_771 : decode (mC M_L_law) 771 = .ok (.ireturn, 1) := by decide +kernel
theorem dL_law_772 : decode (mC M_L_law) 772 = .ok (.iload 5, 2) := by decide +kernel
theorem dL_law_774 : decode (mC M_L_law) 774 = .ok (.ifCond .ne 15, 3) := by decide +kernel
theorem dL_law_777 : decode (mC M_L_law) 777 = .ok (.aload_n 3, 1) := by decide +kernel
theorem dL_law_778 : decode (mC M_L_law) 778 = .ok (.iconst 0, 1) := by decide +kernel
theorem dL_law_779 : decode (mC M_L_law) 779 = .ok (.laload, 1) := by decide +kernel
theorem dL_law_780 : decode (mC M_L_law) 780 = .ok (.iload 6, 2) := by decide +kernel
theorem dL_law_782 : decode (mC M_L_law) 782 = .ok (.i2l, 1) := by decide +kernel
theorem dL_law_783 : decode (mC M_L_law) 783 = .ok (.lcmp, 1) := by decide +kernel
theorem dL_law_784 : decode (mC M_L_law) 784 = .ok (.ifCond .eq 5, 3) := by decide +kernel
theorem dL_law_787 : decode (mC M_L_law) 787 = .ok (.iconst 0, 1) := by decide +kernel
theorem dL_law_788 : decode (mC M_L_law) 788 = .ok (.ireturn, 1) := by decide +kernel
theorem dL_law_789 : decode (mC M_L_law) 789 = .ok (.goto 1443, 3) := by decide +kernel
theorem dL_law_792 : decode (mC M_L_law) 792 = .ok (.aload_n 1, 1) := by decide +kernel
theorem dL_law_793 : decode (mC M_L_law) 793 = .ok (.aload_n 0, 1) := by decide +kernel
theorem dL_law_794 : decode (mC M_L_law) 794 = .ok (.iload 4, 2) := by decide +kernel
theorem dL_law_796 : decode (mC M_L_law) 796 = .ok (.iconst 1, 1) := by decide +kernel
theorem dL_law_797 : decode (mC M_L_law) 797 = .ok (.iadd, 1) := by decide +kernel
theorem dL_law_798 : decode (mC M_L_law) 798 = .ok (.iaload, 1) := by decide +kernel
theorem dL_law_799 : decode (mC M_L_law) 799 = .ok (.aload_n 0, 1) := by decide +kernel
theorem dL_law_800 : decode (mC M_L_law) 800 = .ok (.iload 4, 2) := by decide +kernel
theorem dL_law_802 : decode (mC M_L_law) 802 = .ok (.iconst 2, 1) := by decide +kernel
theorem dL_law_803 : decode (mC M_L_law) 803 = .ok (.iadd, 1) := by decide +kernel
theorem dL_law_804 : decode (mC M_L_law) 804 = .ok (.iaload, 1) := by decide +kernel
theorem dL_law_805 : decode (mC M_L_law) 805 = .ok (.aload_n 3, 1) := by decide +kernel
theorem dL_law_806 : decode (mC M_L_law) 806 = .ok (.invokestatic 158, 3) := by decide +kernel
theorem dL_law_809 : decode (mC M_L_law) 809 = .ok (.istore 5, 2) := by decide +kernel
theorem dL_law_811 : decode (mC M_L_law) 811 = .ok (.aload_n 2, 1) := by decide +kernel
theorem dL_law_812 : decode (mC M_L_law) 812 = .ok (.aload_n 0, 1) := by decide +kernel
theorem dL_law_813 : decode (mC M_L_law) 813 = .ok (.iload 4, 2) := by decide +kernel
theorem dL_law_815 : decode (mC M_L_law) 815 = .ok (.iconst 1, 1) := by decide +kernel
theorem dL_law_816 : decode (mC M_L_law) 816 = .ok (.iadd, 1) := by decide +kernel
theorem dL_law_817 : decode (mC M_L_law) 817 = .ok (.iaload, 1) := by decide +kernel
theorem dL_law_818 : decode (mC M_L_law) 818 = .ok (.aload_n 0, 1) := by decide +kernel
theorem dL_law_819 : decode (mC M_L_law) 819 = .ok (.iload 4, 2) := by decide +kernel
theorem dL_law_821 : decode (mC M_L_law) 821 = .ok (.iconst 2, 1) := by decide +kernel
theorem dL_law_822 : decode (mC M_L_law) 822 = .ok (.iadd, 1) := by decide +kernel
theorem dL_law_823 : decode (mC M_L_law) 823 = .ok (.iaload, 1) := by decide +kernel
theorem dL_law_824 : decode (mC M_L_law) 824 = .ok (.invokevirtual 160, 3) := by decide +kernel
theorem dL_law_827 : decode (mC M_L_law) 827 = .ok (.istore 6, 2) := by decide +kernel
theorem dL_law_829 : decode (mC M_L_law) 829 = .ok (.aload_n 2, 1) := by decide +kernel
theorem dL_law_830 : decode (mC M_L_law) 830 = .ok (.invokevirtual 127, 3) := by decide +kernel
theorem dL_law_833 : decode (mC M_L_law) 833 = .ok (.iload 5, 2) := by decide +kernel
theorem dL_law_835 : decode (mC M_L_law) 835 = .ok (.if_icmp .eq 5, 3) := by decide +kernel
theorem dL_law_838 : decode (mC M_L_law) 838 = .ok (.iconst 0, 1) := by decide +kernel
theorem dL_law_839 : decode (mC M_L_law) 839 = .ok (.ireturn, 1) := by decide +kernel
theorem dL_law_840 : decode (mC M_L_law) 840 = .ok (.iload 5, 2) := by decide +kernel
theorem dL_law_842 : decode (mC M_L_law) 842 = .ok (.ifCond .ne 15, 3) := by decide +kernel
theorem dL_law_845 : decode (mC M_L_law) 845 = .ok (.aload_n 3, 1) := by decide +kernel
theorem dL_law_846 : decode (mC M_L_law) 846 = .ok (.iconst 0, 1) := by decide +kernel
theorem dL_law_847 : decode (mC M_L_law) 847 = .ok (.laload, 1) := by decide +kernel
theorem dL_law_848 : decode (mC M_L_law) 848 = .ok (.iload 6, 2) := by decide +kernel
theorem dL_law_850 : decode (mC M_L_law) 850 = .ok (.i2l, 1) := by decide +kernel
theorem dL_law_851 : decode (mC M_L_law) 851 = .ok (.lcmp, 1) := by decide +kernel
theorem dL_law_852 : decode (mC M_L_law) 852 = .ok (.ifCond .eq 5, 3) := by decide +kernel
theorem dL_law_855 : decode (mC M_L_law) 855 = .ok (.iconst 0, 1) := by decide +kernel
theorem dL_law_856 : decode (mC M_L_law) 856 = .ok (.ireturn, 1) := by decide +kernel
theorem dL_law_857 : decode (mC M_L_law) 857 = .ok (.goto 1375, 3) := by decide +kernel
theorem dL_law_860 : decode (mC M_L_law) 860 = .ok (.aload_n 1, 1) := by decide +kernel
theorem dL_law_861 : decode (mC M_L_law) 861 = .ok (.aload_n 0, 1) := by decide +kernel
theorem dL_law_862 : decode (mC M_L_law) 862 = .ok (.iload 4, 2) := by decide +kernel
theorem dL_law_864 : decode (mC M_L_law) 864 = .ok (.iconst 1, 1) := by decide +kernel
theorem dL_law_865 : decode (mC M_L_law) 865 = .ok (.iadd, 1) := by decide +kernel
theorem dL_law_866 : decode (mC M_L_law) 866 = .ok (.iaload, 1) := by decide +kernel
theorem dL_law_867 : decode (mC M_L_law) 867 = .ok (.aload_n 3, 1) := by decide +kernel
theorem dL_law_868 : decode (mC M_L_law) 868 = .ok (.invokestatic 161, 3) := by decide +kernel
theorem dL_law_871 : decode (mC M_L_law) 871 = .ok (.istore 5, 2) := by decide +kernel
theorem dL_law_873 : decode (mC M_L_law) 873 = .ok (.aload_n 2, 1) := by decide +kernel
theorem dL_law_874 : decode (mC M_L_law) 874 = .ok (.aload_n 0, 1) := by decide +kernel
theorem dL_law_875 : decode (mC M_L_law) 875 = .ok (.iload 4, 2) := by decide +kernel
theorem dL_law_877 : decode (mC M_L_law) 877 = .ok (.iconst 1, 1) := by decide +kernel
theorem dL_law_878 : decode (mC M_L_law) 878 = .ok (.iadd, 1) := by decide +kernel
theorem dL_law_879 : decode (mC M_L_law) 879 = .ok (.iaload, 1) := by decide +kernel
theorem dL_law_880 : decode (mC M_L_law) 880 = .ok (.invokevirtual 163, 3) := by decide +kernel
theorem dL_law_883 : decode (mC M_L_law) 883 = .ok (.istore 6, 2) := by decide +kernel
theorem dL_law_885 : decode (mC M_L_law) 885 = .ok (.aload_n 2, 1) := by decide +kernel
theorem dL_law_886 : decode (mC M_L_law) 886 = .ok (.invokevirtual 127, 3) := by decide +kernel
theorem dL_law_889 : decode (mC M_L_law) 889 = .ok (.iload 5, 2) := by decide +kernel
theorem dL_law_891 : decode (mC M_L_law) 891 = .ok (.if_icmp .eq 5, 3) := by decide +kernel
theorem dL_law_894 : decode (mC M_L_law) 894 = .ok (.iconst 0, 1) := by decide +kernel
theorem dL_law_895 : decode (mC M_L_law) 895 = .ok (.ireturn, 1) := by decide +kernel
theorem dL_law_896 : decode (mC M_L_law) 896 = .ok (.iload 5, 2) := by decide +kernel
theorem dL_law_898 : decode (mC M_L_law) 898 = .ok (.ifCond .ne 15, 3) := by decide +kernel
theorem dL_law_901 : decode (mC M_L_law) 901 = .ok (.aload_n 3, 1) := by decide +kernel
theorem dL_law_902 : decode (mC M_L_law) 902 = .ok (.iconst 0, 1) := by decide +kernel
theorem dL_law_903 : decode (mC M_L_law) 903 = .ok (.laload, 1) := by decide +kernel
theorem dL_law_904 : decode (mC M_L_law) 904 = .ok (.iload 6, 2) := by decide +kernel
theorem dL_law_906 : decode (mC M_L_law) 906 = .ok (.i2l, 1) := by decide +kernel
theorem dL_law_907 : decode (mC M_L_law) 907 = .ok (.lcmp, 1) := by decide +kernel
theorem dL_law_908 : decode (mC M_L_law) 908 = .ok (.ifCond .eq 5, 3) := by decide +kernel
theorem dL_law_911 : decode (mC M_L_law) 911 = .ok (.iconst 0, 1) := by decide +kernel
theorem dL_law_912 : decode (mC M_L_law) 912 = .ok (.ireturn, 1) := by decide +kernel
theorem dL_law_913 : decode (mC M_L_law) 913 = .ok (.goto 1319, 3) := by decide +kernel
theorem dL_law_916 : decode (mC M_L_law) 916 = .ok (.aload_n 1, 1) := by decide +kernel
theorem dL_law_917 : decode (mC M_L_law) 917 = .ok (.aload_n 0, 1) := by decide +kernel
theorem dL_law_918 : decode (mC M_L_law) 918 = .ok (.iload 4, 2) := by decide +kernel
theorem dL_law_920 : decode (mC M_L_law) 920 = .ok (.iconst 1, 1) := by decide +kernel
theorem dL_law_921 : decode (mC M_L_law) 921 = .ok (.iadd, 1) := by decide +kernel
theorem dL_law_922 : decode (mC M_L_law) 922 = .ok (.iaload, 1) := by decide +kernel
theorem dL_law_923 : decode (mC M_L_law) 923 = .ok (.aload_n 3, 1) := by decide +kernel
theorem dL_law_924 : decode (mC M_L_law) 924 = .ok (.invokestatic 164, 3) := by decide +kernel
theorem dL_law_927 : decode (mC M_L_law) 927 = .ok (.istore 5, 2) := by decide +kernel
theorem dL_law_929 : decode (mC M_L_law) 929 = .ok (.aload_n 2, 1) := by decide +kernel
theorem dL_law_930 : decode (mC M_L_law) 930 = .ok (.aload_n 0, 1) := by decide +kernel
theorem dL_law_931 : decode (mC M_L_law) 931 = .ok (.iload 4, 2) := by decide +kernel
theorem dL_law_933 : decode (mC M_L_law) 933 = .ok (.iconst 1, 1) := by decide +kernel
theorem dL_law_934 : decode (mC M_L_law) 934 = .ok (.iadd, 1) := by decide +kernel
theorem dL_law_935 : decode (mC M_L_law) 935 = .ok (.iaload, 1) := by decide +kernel
theorem dL_law_936 : decode (mC M_L_law) 936 = .ok (.invokevirtual 166, 3) := by decide +kernel
theorem dL_law_939 : decode (mC M_L_law) 939 = .ok (.istore 6, 2) := by decide +kernel
theorem dL_law_941 : decode (mC M_L_law) 941 = .ok (.aload_n 2, 1) := by decide +kernel
theorem dL_law_942 : decode (mC M_L_law) 942 = .ok (.invokevirtual 127, 3) := by decide +kernel
theorem dL_law_945 : decode (mC M_L_law) 945 = .ok (.iload 5, 2) := by decide +kernel
theorem dL_law_947 : decode (mC M_L_law) 947 = .ok (.if_icmp .eq 5, 3) := by decide +kernel
theorem dL_law_950 : decode (mC M_L_law) 950 = .ok (.iconst 0, 1) := by decide +kernel
theorem dL_law_951 : decode (mC M_L_law) 951 = .ok (.ireturn, 1) := by decide +kernel
theorem dL_law_952 : decode (mC M_L_law) 952 = .ok (.iload 5, 2) := by decide +kernel
theorem dL_law_954 : decode (mC M_L_law) 954 = .ok (.ifCond .ne 15, 3) := by decide +kernel
theorem dL_law_957 : decode (mC M_L_law) 957 = .ok (.aload_n 3, 1) := by decide +kernel
theorem dL_law_958 : decode (mC M_L_law) 958 = .ok (.iconst 0, 1) := by decide +kernel
theorem dL_law_959 : decode (mC M_L_law) 959 = .ok (.laload, 1) := by decide +kernel
theorem dL_law_960 : decode (mC M_L_law) 960 = .ok (.iload 6, 2) := by decide +kernel
theorem dL_law_962 : decode (mC M_L_law) 962 = .ok (.i2l, 1) := by decide +kernel
theorem dL_law_963 : decode (mC M_L_law) 963 = .ok (.lcmp, 1) := by decide +kernel
theorem dL_law_964 : decode (mC M_L_law) 964 = .ok (.ifCond .eq 5, 3) := by decide +kernel
theorem dL_law_967 : decode (mC M_L_law) 967 = .ok (.iconst 0, 1) := by decide +kernel
theorem dL_law_968 : decode (mC M_L_law) 968 = .ok (.ireturn, 1) := by decide +kernel
theorem dL_law_969 : decode (mC M_L_law) 969 = .ok (.goto 1263, 3) := by decide +kernel
theorem dL_law_972 : decode (mC M_L_law) 972 = .ok (.aload_n 1, 1) := by decide +kernel
theorem dL_law_973 : decode (mC M_L_law) 973 = .ok (.invokevirtual 167, 3) := by decide +kernel
theorem dL_law_976 : decode (mC M_L_law) 976 = .ok (.aload_n 2, 1) := by decide +kernel
theorem dL_law_977 : decode (mC M_L_law) 977 = .ok (.invokevirtual 170, 3) := by decide +kernel
theorem dL_law_980 : decode (mC M_L_law) 980 = .ok (.if_icmp .eq 1252, 3) := by decide +kernel
theorem dL_law_983 : decode (mC M_L_law) 983 = .ok (.iconst 0, 1) := by decide +kernel
theorem dL_law_984 : decode (mC M_L_law) 984 = .ok (.ireturn, 1) := by decide +kernel
theorem dL_law_985 : decode (mC M_L_law) 985 = .ok (.aload_n 1, 1) := by decide +kernel
theorem dL_law_986 : decode (mC M_L_law) 986 = .ok (.aload_n 0, 1) := by decide +kernel
theorem dL_law_987 : decode (mC M_L_law) 987 = .ok (.iload 4, 2) := by decide +kernel
theorem dL_law_989 : decode (mC M_L_law) 989 = .ok (.iconst 1, 1) := by decide +kernel
theorem dL_law_990 : decode (mC M_L_law) 990 = .ok (.iadd, 1) := by decide +kernel
theorem dL_law_991 : decode (mC M_L_law) 991 = .ok (.iaload, 1) := by decide +kernel
theorem dL_law_992 : decode (mC M_L_law) 992 = .ok (.aload_n 3, 1) := by decide +kernel
theorem dL_law_993 : decode (mC M_L_law) 993 = .ok (.invokestatic 171, 3) := by decide +kernel
theorem dL_law_996 : decode (mC M_L_law) 996 = .ok (.istore 5, 2) := by decide +kernel
theorem dL_law_998 : decode (mC M_L_law) 998 = .ok (.aload_n 2, 1) := by decide +kernel
theorem dL_law_999 : decode (mC M_L_law) 999 = .ok (.aload_n 0, 1) := by decide +kernel
theorem dL_law_1000 : decode (mC M_L_law) 1000 = .ok (.iload 4, 2) := by decide +kernel
theorem dL_law_1002 : decode (mC M_L_law) 1002 = .ok (.iconst 1, 1) := by decide +kernel
theorem dL_law_1003 : decode (mC M_L_law) 1003 = .ok (.iadd, 1) := by decide +kernel
theorem dL_law_1004 : decode (mC M_L_law) 1004 = .ok (.iaload, 1) := by decide +kernel
theorem dL_law_1005 : decode (mC M_L_law) 1005 = .ok (.invokevirtual 173, 3) := by decide +kernel
theorem dL_law_1008 : decode (mC M_L_law) 1008 = .ok (.istore 6, 2) := by decide +kernel
theorem dL_law_1010 : decode (mC M_L_law) 1010 = .ok (.aload_n 2, 1) := by decide +kernel
theorem dL_law_1011 : decode (mC M_L_law) 1011 = .ok (.invokevirtual 127, 3) := by decide +kernel
theorem dL_law_1014 : decode (mC M_L_law) 1014 = .ok (.iload 5, 2) := by decide +kernel
theorem dL_law_1016 : decode (mC M_L_law) 1016 = .ok (.if_icmp .eq 5, 3) := by decide +kernel
theorem dL_law_1019 : decode (mC M_L_law) 1019 = .ok (.iconst 0, 1) := by decide +kernel
theorem dL_law_1020 : decode (mC M_L_law) 1020 = .ok (.ireturn, 1) := by decide +kernel
theorem dL_law_1021 : decode (mC M_L_law) 1021 = .ok (.iload 5, 2) := by decide +kernel
theorem dL_law_1023 : decode (mC M_L_law) 1023 = .ok (.ifCond .ne 22, 3) := by decide +kernel
theorem dL_law_1026 : decode (mC M_L_law) 1026 = .ok (.aload_n 3, 1) := by decide +kernel
theorem dL_law_1027 : decode (mC M_L_law) 1027 = .ok (.iconst 0, 1) := by decide +kernel
theorem dL_law_1028 : decode (mC M_L_law) 1028 = .ok (.laload, 1) := by decide +kernel
theorem dL_law_1029 : decode (mC M_L_law) 1029 = .ok (.iload 6, 2) := by decide +kernel
theorem dL_law_1031 : decode (mC M_L_law) 1031 = .ok (.ifCond .eq 7, 3) := by decide +kernel
theorem dL_law_1034 : decode (mC M_L_law) 1034 = .ok (.lconst 1, 1) := by decide +kernel
theorem dL_law_1035 : decode (mC M_L_law) 1035 = .ok (.goto 4, 3) := by decide +kernel
theorem dL_law_1038 : decode (mC M_L_law) 1038 = .ok (.lconst 0, 1) := by decide +kernel
theorem dL_law_1039 : decode (mC M_L_law) 1039 = .ok (.lcmp, 1) := by decide +kernel
theorem dL_law_1040 : decode (mC M_L_law) 1040 = .ok (.ifCond .eq 5, 3) := by decide +kernel
theorem dL_law_1043 : decode (mC M_L_law) 1043 = .ok (.iconst 0, 1) := by decide +kernel
theorem dL_law_1044 : decode (mC M_L_law) 1044 = .ok (.ireturn, 1) := by decide +kernel
theorem dL_law_1045 : decode (mC M_L_law) 1045 = .ok (.goto 1187, 3) := by decide +kernel
theorem dL_law_1048 : decode (mC M_L_law) 1048 = .ok (.aload_n 1, 1) := by decide +kernel
theorem dL_law_1049 : decode (mC M_L_law) 1049 = .ok (.aload_n 0, 1) := by decide +kernel
theorem dL_law_1050 : decode (mC M_L_law) 1050 = .ok (.iload 4, 2) := by decide +kernel
theorem dL_law_1052 : decode (mC M_L_law) 1052 = .ok (.iconst 1, 1) := by decide +kernel
theorem dL_law_1053 : decode (mC M_L_law) 1053 = .ok (.iadd, 1) := by decide +kernel
theorem dL_law_1054 : decode (mC M_L_law) 1054 = .ok (.iaload, 1) := by decide +kernel
theorem dL_law_1055 : decode (mC M_L_law) 1055 = .ok (.aload_n 3, 1) := by decide +kernel
theorem dL_law_1056 : decode (mC M_L_law) 1056 = .ok (.invokestatic 174, 3) := by decide +kernel
theorem dL_law_1059 : decode (mC M_L_law) 1059 = .ok (.istore 5, 2) := by decide +kernel
theorem dL_law_1061 : decode (mC M_L_law) 1061 = .ok (.aload_n 2, 1) := by decide +kernel
theorem dL_law_1062 : decode (mC M_L_law) 1062 = .ok (.aload_n 0, 1) := by decide +kernel
theorem dL_law_1063 : decode (mC M_L_law) 1063 = .ok (.iload 4, 2) := by decide +kernel
theorem dL_law_1065 : decode (mC M_L_law) 1065 = .ok (.iconst 1, 1) := by decide +kernel
theorem dL_law_1066 : decode (mC M_L_law) 1066 = .ok (.iadd, 1) := by decide +kernel
theorem dL_law_1067 : decode (mC M_L_law) 1067 = .ok (.iaload, 1) := by decide +kernel
theorem dL_law_1068 : decode (mC M_L_law) 1068 = .ok (.invokevirtual 176, 3) := by decide +kernel
theorem dL_law_1071 : decode (mC M_L_law) 1071 = .ok (.istore 6, 2) := by decide +kernel
theorem dL_law_1073 : decode (mC M_L_law) 1073 = .ok (.aload_n 2, 1) := by decide +kernel
theorem dL_law_1074 : decode (mC M_L_law) 1074 = .ok (.invokevirtual 127, 3) := by decide +kernel
theorem dL_law_1077 : decode (mC M_L_law) 1077 = .ok (.iload 5, 2) := by decide +kernel
theorem dL_law_1079 : decode (mC M_L_law) 1079 = .ok (.if_icmp .eq 5, 3) := by decide +kernel
theorem dL_law_1082 : decode (mC M_L_law) 1082 = .ok (.iconst 0, 1) := by decide +kernel
theorem dL_law_1083 : decode (mC M_L_law) 1083 = .ok (.ireturn, 1) := by decide +kernel
theorem dL_law_1084 : decode (mC M_L_law) 1084 = .ok (.iload 5, 2) := by decide +kernel
theorem dL_law_1086 : decode (mC M_L_law) 1086 = .ok (.ifCond .ne 15, 3) := by decide +kernel
theorem dL_law_1089 : decode (mC M_L_law) 1089 = .ok (.aload_n 3, 1) := by decide +kernel
theorem dL_law_1090 : decode (mC M_L_law) 1090 = .ok (.iconst 0, 1) := by decide +kernel
theorem dL_law_1091 : decode (mC M_L_law) 1091 = .ok (.laload, 1) := by decide +kernel
theorem dL_law_1092 : decode (mC M_L_law) 1092 = .ok (.iload 6, 2) := by decide +kernel
theorem dL_law_1094 : decode (mC M_L_law) 1094 = .ok (.i2l, 1) := by decide +kernel
theorem dL_law_1095 : decode (mC M_L_law) 1095 = .ok (.lcmp, 1) := by decide +kernel
theorem dL_law_1096 : decode (mC M_L_law) 1096 = .ok (.ifCond .eq 5, 3) := by decide +kernel
theorem dL_law_1099 : decode (mC M_L_law) 1099 = .ok (.iconst 0, 1) := by decide +kernel
theorem dL_law_1100 : decode (mC M_L_law) 1100 = .ok (.ireturn, 1) := by decide +kernel
theorem dL_law_1101 : decode (mC M_L_law) 1101 = .ok (.goto 1131, 3) := by decide +kernel
theorem dL_law_1104 : decode (mC M_L_law) 1104 = .ok (.aload_n 1, 1) := by decide +kernel
theorem dL_law_1105 : decode (mC M_L_law) 1105 = .ok (.aload_n 0, 1) := by decide +kernel
theorem dL_law_1106 : decode (mC M_L_law) 1106 = .ok (.iload 4, 2) := by decide +kernel
theorem dL_law_1108 : decode (mC M_L_law) 1108 = .ok (.iconst 1, 1) := by decide +kernel
theorem dL_law_1109 : decode (mC M_L_law) 1109 = .ok (.iadd, 1) := by decide +kernel
theorem dL_law_1110 : decode (mC M_L_law) 1110 = .ok (.iaload, 1) := by decide +kernel
theorem dL_law_1111 : decode (mC M_L_law) 1111 = .ok (.aload_n 3, 1) := by decide +kernel
theorem dL_law_1112 : decode (mC M_L_law) 1112 = .ok (.invokestatic 177, 3) := by decide +kernel
theorem dL_law_1115 : decode (mC M_L_law) 1115 = .ok (.istore 5, 2) := by decide +kernel
theorem dL_law_1117 : decode (mC M_L_law) 1117 = .ok (.aload_n 2, 1) := by decide +kernel
theorem dL_law_1118 : decode (mC M_L_law) 1118 = .ok (.aload_n 0, 1) := by decide +kernel
theorem dL_law_1119 : decode (mC M_L_law) 1119 = .ok (.iload 4, 2) := by decide +kernel
theorem dL_law_1121 : decode (mC M_L_law) 1121 = .ok (.iconst 1, 1) := by decide +kernel
theorem dL_law_1122 : decode (mC M_L_law) 1122 = .ok (.iadd, 1) := by decide +kernel
theorem dL_law_1123 : decode (mC M_L_law) 1123 = .ok (.iaload, 1) := by decide +kernel
theorem dL_law_1124 : decode (mC M_L_law) 1124 = .ok (.invokevirtual 179, 3) := by decide +kernel
theorem dL_law_1127 : decode (mC M_L_law) 1127 = .ok (.istore 6, 2) := by decide +kernel
theorem dL_law_1129 : decode (mC M_L_law) 1129 = .ok (.aload_n 2, 1) := by decide +kernel
theorem dL_law_1130 : decode (mC M_L_law) 1130 = .ok (.invokevirtual 127, 3) := by decide +kernel
theorem dL_law_1133 : decode (mC M_L_law) 1133 = .ok (.iload 5, 2) := by decide +kernel
theorem dL_law_1135 : decode (mC M_L_law) 1135 = .ok (.if_icmp .eq 5, 3) := by decide +kernel
theorem dL_law_1138 : decode (mC M_L_law) 1138 = .ok (.iconst 0, 1) := by decide +kernel
theorem dL_law_1139 : decode (mC M_L_law) 1139 = .ok (.ireturn, 1) := by decide +kernel
theorem dL_law_1140 : decode (mC M_L_law) 1140 = .ok (.iload 5, 2) := by decide +kernel
theorem dL_law_1142 : decode (mC M_L_law) 1142 = .ok (.ifCond .ne 15, 3) := by decide +kernel
theorem dL_law_1145 : decode (mC M_L_law) 1145 = .ok (.aload_n 3, 1) := by decide +kernel
theorem dL_law_1146 : decode (mC M_L_law) 1146 = .ok (.iconst 0, 1) := by decide +kernel
theorem dL_law_1147 : decode (mC M_L_law) 1147 = .ok (.laload, 1) := by decide +kernel
theorem dL_law_1148 : decode (mC M_L_law) 1148 = .ok (.iload 6, 2) := by decide +kernel
theorem dL_law_1150 : decode (mC M_L_law) 1150 = .ok (.i2l, 1) := by decide +kernel
theorem dL_law_1151 : decode (mC M_L_law) 1151 = .ok (.lcmp, 1) := by decide +kernel
theorem dL_law_1152 : decode (mC M_L_law) 1152 = .ok (.ifCond .eq 5, 3) := by decide +kernel
theorem dL_law_1155 : decode (mC M_L_law) 1155 = .ok (.iconst 0, 1) := by decide +kernel
theorem dL_law_1156 : decode (mC M_L_law) 1156 = .ok (.ireturn, 1) := by decide +kernel
theorem dL_law_1157 : decode (mC M_L_law) 1157 = .ok (.goto 1075, 3) := by decide +kernel
theorem dL_law_1160 : decode (mC M_L_law) 1160 = .ok (.aload_n 1, 1) := by decide +kernel
theorem dL_law_1161 : decode (mC M_L_law) 1161 = .ok (.aload_n 0, 1) := by decide +kernel
theorem dL_law_1162 : decode (mC M_L_law) 1162 = .ok (.iload 4, 2) := by decide +kernel
theorem dL_law_1164 : decode (mC M_L_law) 1164 = .ok (.iconst 1, 1) := by decide +kernel
theorem dL_law_1165 : decode (mC M_L_law) 1165 = .ok (.iadd, 1) := by decide +kernel
theorem dL_law_1166 : decode (mC M_L_law) 1166 = .ok (.iaload, 1) := by decide +kernel
theorem dL_law_1167 : decode (mC M_L_law) 1167 = .ok (.aload_n 3, 1) := by decide +kernel
theorem dL_law_1168 : decode (mC M_L_law) 1168 = .ok (.invokestatic 180, 3) := by decide +kernel
theorem dL_law_1171 : decode (mC M_L_law) 1171 = .ok (.istore 5, 2) := by decide +kernel
theorem dL_law_1173 : decode (mC M_L_law) 1173 = .ok (.aload_n 2, 1) := by decide +kernel
theorem dL_law_1174 : decode (mC M_L_law) 1174 = .ok (.aload_n 0, 1) := by decide +kernel
theorem dL_law_1175 : decode (mC M_L_law) 1175 = .ok (.iload 4, 2) := by decide +kernel
theorem dL_law_1177 : decode (mC M_L_law) 1177 = .ok (.iconst 1, 1) := by decide +kernel
theorem dL_law_1178 : decode (mC M_L_law) 1178 = .ok (.iadd, 1) := by decide +kernel
theorem dL_law_1179 : decode (mC M_L_law) 1179 = .ok (.iaload, 1) := by decide +kernel
theorem dL_law_1180 : decode (mC M_L_law) 1180 = .ok (.invokevirtual 182, 3) := by decide +kernel
theorem dL_law_1183 : decode (mC M_L_law) 1183 = .ok (.istore 6, 2) := by decide +kernel
theorem dL_law_1185 : decode (mC M_L_law) 1185 = .ok (.aload_n 2, 1) := by decide +kernel
theorem dL_law_1186 : decode (mC M_L_law) 1186 = .ok (.invokevirtual 127, 3) := by decide +kernel
theorem dL_law_1189 : decode (mC M_L_law) 1189 = .ok (.iload 5, 2) := by decide +kernel
theorem dL_law_1191 : decode (mC M_L_law) 1191 = .ok (.if_icmp .eq 5, 3) := by decide +kernel
theorem dL_law_1194 : decode (mC M_L_law) 1194 = .ok (.iconst 0, 1) := by decide +kernel
theorem dL_law_1195 : decode (mC M_L_law) 1195 = .ok (.ireturn, 1) := by decide +kernel
theorem dL_law_1196 : decode (mC M_L_law) 1196 = .ok (.iload 5, 2) := by decide +kernel
theorem dL_law_1198 : decode (mC M_L_law) 1198 = .ok (.ifCond .ne 15, 3) := by decide +kernel
theorem dL_law_1201 : decode (mC M_L_law) 1201 = .ok (.aload_n 3, 1) := by decide +kernel
theorem dL_law_1202 : decode (mC M_L_law) 1202 = .ok (.iconst 0, 1) := by decide +kernel
theorem dL_law_1203 : decode (mC M_L_law) 1203 = .ok (.laload, 1) := by decide +kernel
theorem dL_law_1204 : decode (mC M_L_law) 1204 = .ok (.iload 6, 2) := by decide +kernel
theorem dL_law_1206 : decode (mC M_L_law) 1206 = .ok (.i2l, 1) := by decide +kernel
theorem dL_law_1207 : decode (mC M_L_law) 1207 = .ok (.lcmp, 1) := by decide +kernel
theorem dL_law_1208 : decode (mC M_L_law) 1208 = .ok (.ifCond .eq 5, 3) := by decide +kernel
theorem dL_law_1211 : decode (mC M_L_law) 1211 = .ok (.iconst 0, 1) := by decide +kernel
theorem dL_law_1212 : decode (mC M_L_law) 1212 = .ok (.ireturn, 1) := by decide +kernel
theorem dL_law_1213 : decode (mC M_L_law) 1213 = .ok (.goto 1019, 3) := by decide +kernel
theorem dL_law_1216 : decode (mC M_L_law) 1216 = .ok (.aload_n 1, 1) := by decide +kernel
theorem dL_law_1217 : decode (mC M_L_law) 1217 = .ok (.aload_n 0, 1) := by decide +kernel
theorem dL_law_1218 : decode (mC M_L_law) 1218 = .ok (.iload 4, 2) := by decide +kernel
theorem dL_law_1220 : decode (mC M_L_law) 1220 = .ok (.iconst 1, 1) := by decide +kernel
theorem dL_law_1221 : decode (mC M_L_law) 1221 = .ok (.iadd, 1) := by decide +kernel
theorem dL_law_1222 : decode (mC M_L_law) 1222 = .ok (.iaload, 1) := by decide +kernel
theorem dL_law_1223 : decode (mC M_L_law) 1223 = .ok (.aload_n 3, 1) := by decide +kernel
theorem dL_law_1224 : decode (mC M_L_law) 1224 = .ok (.invokestatic 183, 3) := by decide +kernel
theorem dL_law_1227 : decode (mC M_L_law) 1227 = .ok (.istore 5, 2) := by decide +kernel
theorem dL_law_1229 : decode (mC M_L_law) 1229 = .ok (.aload_n 2, 1) := by decide +kernel
theorem dL_law_1230 : decode (mC M_L_law) 1230 = .ok (.aload_n 0, 1) := by decide +kernel
theorem dL_law_1231 : decode (mC M_L_law) 1231 = .ok (.iload 4, 2) := by decide +kernel
theorem dL_law_1233 : decode (mC M_L_law) 1233 = .ok (.iconst 1, 1) := by decide +kernel
theorem dL_law_1234 : decode (mC M_L_law) 1234 = .ok (.iadd, 1) := by decide +kernel
theorem dL_law_1235 : decode (mC M_L_law) 1235 = .ok (.iaload, 1) := by decide +kernel
theorem dL_law_1236 : decode (mC M_L_law) 1236 = .ok (.invokevirtual 185, 3) := by decide +kernel
theorem dL_law_1239 : decode (mC M_L_law) 1239 = .ok (.istore 6, 2) := by decide +kernel
theorem dL_law_1241 : decode (mC M_L_law) 1241 = .ok (.aload_n 2, 1) := by decide +kernel
theorem dL_law_1242 : decode (mC M_L_law) 1242 = .ok (.invokevirtual 127, 3) := by decide +kernel
theorem dL_law_1245 : decode (mC M_L_law) 1245 = .ok (.iload 5, 2) := by decide +kernel
theorem dL_law_1247 : decode (mC M_L_law) 1247 = .ok (.if_icmp .eq 5, 3) := by decide +kernel
theorem dL_law_1250 : decode (mC M_L_law) 1250 = .ok (.iconst 0, 1) := by decide +kernel
theorem dL_law_1251 : decode (mC M_L_law) 1251 = .ok (.ireturn, 1) := by decide +kernel
theorem dL_law_1252 : decode (mC M_L_law) 1252 = .ok (.iload 5, 2) := by decide +kernel
theorem dL_law_1254 : decode (mC M_L_law) 1254 = .ok (.ifCond .ne 15, 3) := by decide +kernel
theorem dL_law_1257 : decode (mC M_L_law) 1257 = .ok (.aload_n 3, 1) := by decide +kernel
theorem dL_law_1258 : decode (mC M_L_law) 1258 = .ok (.iconst 0, 1) := by decide +kernel
theorem dL_law_1259 : decode (mC M_L_law) 1259 = .ok (.laload, 1) := by decide +kernel
theorem dL_law_1260 : decode (mC M_L_law) 1260 = .ok (.iload 6, 2) := by decide +kernel
theorem dL_law_1262 : decode (mC M_L_law) 1262 = .ok (.i2l, 1) := by decide +kernel
theorem dL_law_1263 : decode (mC M_L_law) 1263 = .ok (.lcmp, 1) := by decide +kernel
theorem dL_law_1264 : decode (mC M_L_law) 1264 = .ok (.ifCond .eq 5, 3) := by decide +kernel
theorem dL_law_1267 : decode (mC M_L_law) 1267 = .ok (.iconst 0, 1) := by decide +kernel
theorem dL_law_1268 : decode (mC M_L_law) 1268 = .ok (.ireturn, 1) := by decide +kernel
theorem dL_law_1269 : decode (mC M_L_law) 1269 = .ok (.goto 963, 3) := by decide +kernel
theorem dL_law_1272 : decode (mC M_L_law) 1272 = .ok (.aload_n 1, 1) := by decide +kernel
theorem dL_law_1273 : decode (mC M_L_law) 1273 = .ok (.aload_n 0, 1) := by decide +kernel
theorem dL_law_1274 : decode (mC M_L_law) 1274 = .ok (.iload 4, 2) := by decide +kernel
theorem dL_law_1276 : decode (mC M_L_law) 1276 = .ok (.iconst 1, 1) := by decide +kernel
theorem dL_law_1277 : decode (mC M_L_law) 1277 = .ok (.iadd, 1) := by decide +kernel
theorem dL_law_1278 : decode (mC M_L_law) 1278 = .ok (.iaload, 1) := by decide +kernel
theorem dL_law_1279 : decode (mC M_L_law) 1279 = .ok (.aload_n 3, 1) := by decide +kernel
theorem dL_law_1280 : decode (mC M_L_law) 1280 = .ok (.invokestatic 186, 3) := by decide +kernel
theorem dL_law_1283 : decode (mC M_L_law) 1283 = .ok (.istore 5, 2) := by decide +kernel
theorem dL_law_1285 : decode (mC M_L_law) 1285 = .ok (.aload_n 2, 1) := by decide +kernel
theorem dL_law_1286 : decode (mC M_L_law) 1286 = .ok (.aload_n 0, 1) := by decide +kernel
theorem dL_law_1287 : decode (mC M_L_law) 1287 = .ok (.iload 4, 2) := by decide +kernel
theorem dL_law_1289 : decode (mC M_L_law) 1289 = .ok (.iconst 1, 1) := by decide +kernel
theorem dL_law_1290 : decode (mC M_L_law) 1290 = .ok (.iadd, 1) := by decide +kernel
theorem dL_law_1291 : decode (mC M_L_law) 1291 = .ok (.iaload, 1) := by decide +kernel
theorem dL_law_1292 : decode (mC M_L_law) 1292 = .ok (.invokevirtual 188, 3) := by decide +kernel
theorem dL_law_1295 : decode (mC M_L_law) 1295 = .ok (.istore 6, 2) := by decide +kernel
theorem dL_law_1297 : decode (mC M_L_law) 1297 = .ok (.aload_n 2, 1) := by decide +kernel
theorem dL_law_1298 : decode (mC M_L_law) 1298 = .ok (.invokevirtual 127, 3) := by decide +kernel
theorem dL_law_1301 : decode (mC M_L_law) 1301 = .ok (.iload 5, 2) := by decide +kernel
theorem dL_law_1303 : decode (mC M_L_law) 1303 = .ok (.if_icmp .eq 5, 3) := by decide +kernel
theorem dL_law_1306 : decode (mC M_L_law) 1306 = .ok (.iconst 0, 1) := by decide +kernel
theorem dL_law_1307 : decode (mC M_L_law) 1307 = .ok (.ireturn, 1) := by decide +kernel
theorem dL_law_1308 : decode (mC M_L_law) 1308 = .ok (.iload 5, 2) := by decide +kernel
theorem dL_law_1310 : decode (mC M_L_law) 1310 = .ok (.ifCond .ne 15, 3) := by decide +kernel
theorem dL_law_1313 : decode (mC M_L_law) 1313 = .ok (.aload_n 3, 1) := by decide +kernel
theorem dL_law_1314 : decode (mC M_L_law) 1314 = .ok (.iconst 0, 1) := by decide +kernel
theorem dL_law_1315 : decode (mC M_L_law) 1315 = .ok (.laload, 1) := by decide +kernel
theorem dL_law_1316 : decode (mC M_L_law) 1316 = .ok (.iload 6, 2) := by decide +kernel
theorem dL_law_1318 : decode (mC M_L_law) 1318 = .ok (.i2l, 1) := by decide +kernel
theorem dL_law_1319 : decode (mC M_L_law) 1319 = .ok (.lcmp, 1) := by decide +kernel
theorem dL_law_1320 : decode (mC M_L_law) 1320 = .ok (.ifCond .eq 5, 3) := by decide +kernel
theorem dL_law_1323 : decode (mC M_L_law) 1323 = .ok (.iconst 0, 1) := by decide +kernel
theorem dL_law_1324 : decode (mC M_L_law) 1324 = .ok (.ireturn, 1) := by decide +kernel
theorem dL_law_1325 : decode (mC M_L_law) 1325 = .ok (.goto 907, 3) := by decide +kernel
theorem dL_law_1328 : decode (mC M_L_law) 1328 = .ok (.aload_n 1, 1) := by decide +kernel
theorem dL_law_1329 : decode (mC M_L_law) 1329 = .ok (.invokevirtual 189, 3) := by decide +kernel
theorem dL_law_1332 : decode (mC M_L_law) 1332 = .ok (.aload_n 2, 1) := by decide +kernel
theorem dL_law_1333 : decode (mC M_L_law) 1333 = .ok (.invokevirtual 192, 3) := by decide +kernel
theorem dL_law_1336 : decode (mC M_L_law) 1336 = .ok (.if_icmp .eq 896, 3) := by decide +kernel
theorem dL_law_1339 : decode (mC M_L_law) 1339 = .ok (.iconst 0, 1) := by decide +kernel
theorem dL_law_1340 : decode (mC M_L_law) 1340 = .ok (.ireturn, 1) := by decide +kernel
theorem dL_law_1341 : decode (mC M_L_law) 1341 = .ok (.aload_n 1, 1) := by decide +kernel
theorem dL_law_1342 : decode (mC M_L_law) 1342 = .ok (.aload_n 0, 1) := by decide +kernel
theorem dL_law_1343 : decode (mC M_L_law) 1343 = .ok (.iload 4, 2) := by decide +kernel
theorem dL_law_1345 : decode (mC M_L_law) 1345 = .ok (.iconst 1, 1) := by decide +kernel
theorem dL_law_1346 : decode (mC M_L_law) 1346 = .ok (.iadd, 1) := by decide +kernel
theorem dL_law_1347 : decode (mC M_L_law) 1347 = .ok (.iaload, 1) := by decide +kernel
theorem dL_law_1348 : decode (mC M_L_law) 1348 = .ok (.aload_n 3, 1) := by decide +kernel
theorem dL_law_1349 : decode (mC M_L_law) 1349 = .ok (.invokestatic 193, 3) := by decide +kernel
theorem dL_law_1352 : decode (mC M_L_law) 1352 = .ok (.istore 5, 2) := by decide +kernel
theorem dL_law_1354 : decode (mC M_L_law) 1354 = .ok (.aload_n 2, 1) := by decide +kernel
theorem dL_law_1355 : decode (mC M_L_law) 1355 = .ok (.aload_n 0, 1) := by decide +kernel
theorem dL_law_1356 : decode (mC M_L_law) 1356 = .ok (.iload 4, 2) := by decide +kernel
theorem dL_law_1358 : decode (mC M_L_law) 1358 = .ok (.iconst 1, 1) := by decide +kernel
theorem dL_law_1359 : decode (mC M_L_law) 1359 = .ok (.iadd, 1) := by decide +kernel
theorem dL_law_1360 : decode (mC M_L_law) 1360 = .ok (.iaload, 1) := by decide +kernel
theorem dL_law_1361 : decode (mC M_L_law) 1361 = .ok (.invokevirtual 195, 3) := by decide +kernel
theorem dL_law_1364 : decode (mC M_L_law) 1364 = .ok (.istore 6, 2) := by decide +kernel
theorem dL_law_1366 : decode (mC M_L_law) 1366 = .ok (.aload_n 2, 1) := by decide +kernel
theorem dL_law_1367 : decode (mC M_L_law) 1367 = .ok (.invokevirtual 127, 3) := by decide +kernel
theorem dL_law_1370 : decode (mC M_L_law) 1370 = .ok (.iload 5, 2) := by decide +kernel
theorem dL_law_1372 : decode (mC M_L_law) 1372 = .ok (.if_icmp .eq 5, 3) := by decide +kernel
theorem dL_law_1375 : decode (mC M_L_law) 1375 = .ok (.iconst 0, 1) := by decide +kernel
theorem dL_law_1376 : decode (mC M_L_law) 1376 = .ok (.ireturn, 1) := by decide +kernel
theorem dL_law_1377 : decode (mC M_L_law) 1377 = .ok (.iload 5, 2) := by decide +kernel
theorem dL_law_1379 : decode (mC M_L_law) 1379 = .ok (.ifCond .ne 15, 3) := by decide +kernel
theorem dL_law_1382 : decode (mC M_L_law) 1382 = .ok (.aload_n 3, 1) := by decide +kernel
theorem dL_law_1383 : decode (mC M_L_law) 1383 = .ok (.iconst 0, 1) := by decide +kernel
theorem dL_law_1384 : decode (mC M_L_law) 1384 = .ok (.laload, 1) := by decide +kernel
theorem dL_law_1385 : decode (mC M_L_law) 1385 = .ok (.iload 6, 2) := by decide +kernel
theorem dL_law_1387 : decode (mC M_L_law) 1387 = .ok (.i2l, 1) := by decide +kernel
theorem dL_law_1388 : decode (mC M_L_law) 1388 = .ok (.lcmp, 1) := by decide +kernel
theorem dL_law_1389 : decode (mC M_L_law) 1389 = .ok (.ifCond .eq 5, 3) := by decide +kernel
theorem dL_law_1392 : decode (mC M_L_law) 1392 = .ok (.iconst 0, 1) := by decide +kernel
theorem dL_law_1393 : decode (mC M_L_law) 1393 = .ok (.ireturn, 1) := by decide +kernel
theorem dL_law_1394 : decode (mC M_L_law) 1394 = .ok (.goto 838, 3) := by decide +kernel
theorem dL_law_1397 : decode (mC M_L_law) 1397 = .ok (.aload_n 1, 1) := by decide +kernel
theorem dL_law_1398 : decode (mC M_L_law) 1398 = .ok (.aload_n 0, 1) := by decide +kernel
theorem dL_law_1399 : decode (mC M_L_law) 1399 = .ok (.iload 4, 2) := by decide +kernel
theorem dL_law_1401 : decode (mC M_L_law) 1401 = .ok (.iconst 1, 1) := by decide +kernel
theorem dL_law_1402 : decode (mC M_L_law) 1402 = .ok (.iadd, 1) := by decide +kernel
theorem dL_law_1403 : decode (mC M_L_law) 1403 = .ok (.iaload, 1) := by decide +kernel
theorem dL_law_1404 : decode (mC M_L_law) 1404 = .ok (.aload_n 0, 1) := by decide +kernel
theorem dL_law_1405 : decode (mC M_L_law) 1405 = .ok (.iload 4, 2) := by decide +kernel
theorem dL_law_1407 : decode (mC M_L_law) 1407 = .ok (.iconst 2, 1) := by decide +kernel
theorem dL_law_1408 : decode (mC M_L_law) 1408 = .ok (.iadd, 1) := by decide +kernel
theorem dL_law_1409 : decode (mC M_L_law) 1409 = .ok (.iaload, 1) := by decide +kernel
theorem dL_law_1410 : decode (mC M_L_law) 1410 = .ok (.aload_n 3, 1) := by decide +kernel
theorem dL_law_1411 : decode (mC M_L_law) 1411 = .ok (.invokestatic 196, 3) := by decide +kernel
theorem dL_law_1414 : decode (mC M_L_law) 1414 = .ok (.istore 5, 2) := by decide +kernel
theorem dL_law_1416 : decode (mC M_L_law) 1416 = .ok (.aload_n 2, 1) := by decide +kernel
theorem dL_law_1417 : decode (mC M_L_law) 1417 = .ok (.aload_n 0, 1) := by decide +kernel
theorem dL_law_1418 : decode (mC M_L_law) 1418 = .ok (.iload 4, 2) := by decide +kernel
theorem dL_law_1420 : decode (mC M_L_law) 1420 = .ok (.iconst 1, 1) := by decide +kernel
theorem dL_law_1421 : decode (mC M_L_law) 1421 = .ok (.iadd, 1) := by decide +kernel
theorem dL_law_1422 : decode (mC M_L_law) 1422 = .ok (.iaload, 1) := by decide +kernel
theorem dL_law_1423 : decode (mC M_L_law) 1423 = .ok (.aload_n 0, 1) := by decide +kernel
theorem dL_law_1424 : decode (mC M_L_law) 1424 = .ok (.iload 4, 2) := by decide +kernel
theorem dL_law_1426 : decode (mC M_L_law) 1426 = .ok (.iconst 2, 1) := by decide +kernel
theorem dL_law_1427 : decode (mC M_L_law) 1427 = .ok (.iadd, 1) := by decide +kernel
theorem dL_law_1428 : decode (mC M_L_law) 1428 = .ok (.iaload, 1) := by decide +kernel
theorem dL_law_1429 : decode (mC M_L_law) 1429 = .ok (.invokevirtual 198, 3) := by decide +kernel
theorem dL_law_1432 : decode (mC M_L_law) 1432 = .ok (.istore 6, 2) := by decide +kernel
theorem dL_law_1434 : decode (mC M_L_law) 1434 = .ok (.aload_n 2, 1) := by decide +kernel
theorem dL_law_1435 : decode (mC M_L_law) 1435 = .ok (.invokevirtual 127, 3) := by decide +kernel
theorem dL_law_1438 : decode (mC M_L_law) 1438 = .ok (.iload 5, 2) := by decide +kernel
theorem dL_law_1440 : decode (mC M_L_law) 1440 = .ok (.if_icmp .eq 5, 3) := by decide +kernel
theorem dL_law_1443 : decode (mC M_L_law) 1443 = .ok (.iconst 0, 1) := by decide +kernel
theorem dL_law_1444 : decode (mC M_L_law) 1444 = .ok (.ireturn, 1) := by decide +kernel
theorem dL_law_1445 : decode (mC M_L_law) 1445 = .ok (.iload 5, 2) := by decide +kernel
theorem dL_law_1447 : decode (mC M_L_law) 1447 = .ok (.ifCond .ne 15, 3) := by decide +kernel
theorem dL_law_1450 : decode (mC M_L_law) 1450 = .ok (.aload_n 3, 1) := by decide +kernel
theorem dL_law_1451 : decode (mC M_L_law) 1451 = .ok (.iconst 0, 1) := by decide +kernel
theorem dL_law_1452 : decode (mC M_L_law) 1452 = .ok (.laload, 1) := by decide +kernel
theorem dL_law_1453 : decode (mC M_L_law) 1453 = .ok (.iload 6, 2) := by decide +kernel
theorem dL_law_1455 : decode (mC M_L_law) 1455 = .ok (.i2l, 1) := by decide +kernel
theorem dL_law_1456 : decode (mC M_L_law) 1456 = .ok (.lcmp, 1) := by decide +kernel
theorem dL_law_1457 : decode (mC M_L_law) 1457 = .ok (.ifCond .eq 5, 3) := by decide +kernel
theorem dL_law_1460 : decode (mC M_L_law) 1460 = .ok (.iconst 0, 1) := by decide +kernel
theorem dL_law_1461 : decode (mC M_L_law) 1461 = .ok (.ireturn, 1) := by decide +kernel
theorem dL_law_1462 : decode (mC M_L_law) 1462 = .ok (.goto 770, 3) := by decide +kernel
theorem dL_law_1465 : decode (mC M_L_law) 1465 = .ok (.aload_n 1, 1) := by decide +kernel
theorem dL_law_1466 : decode (mC M_L_law) 1466 = .ok (.aload_n 0, 1) := by decide +kernel
theorem dL_law_1467 : decode (mC M_L_law) 1467 = .ok (.iload 4, 2) := by decide +kernel
theorem dL_law_1469 : decode (mC M_L_law) 1469 = .ok (.iconst 1, 1) := by decide +kernel
theorem dL_law_1470 : decode (mC M_L_law) 1470 = .ok (.iadd, 1) := by decide +kernel
theorem dL_law_1471 : decode (mC M_L_law) 1471 = .ok (.iaload, 1) := by decide +kernel
theorem dL_law_1472 : decode (mC M_L_law) 1472 = .ok (.aload_n 3, 1) := by decide +kernel
theorem dL_law_1473 : decode (mC M_L_law) 1473 = .ok (.invokestatic 199, 3) := by decide +kernel
theorem dL_law_1476 : decode (mC M_L_law) 1476 = .ok (.istore 5, 2) := by decide +kernel
theorem dL_law_1478 : decode (mC M_L_law) 1478 = .ok (.aload_n 2, 1) := by decide +kernel
theorem dL_law_1479 : decode (mC M_L_law) 1479 = .ok (.aload_n 0, 1) := by decide +kernel
theorem dL_law_1480 : decode (mC M_L_law) 1480 = .ok (.iload 4, 2) := by decide +kernel
theorem dL_law_1482 : decode (mC M_L_law) 1482 = .ok (.iconst 1, 1) := by decide +kernel
theorem dL_law_1483 : decode (mC M_L_law) 1483 = .ok (.iadd, 1) := by decide +kernel
theorem dL_law_1484 : decode (mC M_L_law) 1484 = .ok (.iaload, 1) := by decide +kernel
theorem dL_law_1485 : decode (mC M_L_law) 1485 = .ok (.invokevirtual 201, 3) := by decide +kernel
theorem dL_law_1488 : decode (mC M_L_law) 1488 = .ok (.istore 6, 2) := by decide +kernel
theorem dL_law_1490 : decode (mC M_L_law) 1490 = .ok (.aload_n 2, 1) := by decide +kernel
theorem dL_law_1491 : decode (mC M_L_law) 1491 = .ok (.invokevirtual 127, 3) := by decide +kernel
theorem dL_law_1494 : decode (mC M_L_law) 1494 = .ok (.iload 5, 2) := by decide +kernel
theorem dL_law_1496 : decode (mC M_L_law) 1496 = .ok (.if_icmp .eq 5, 3) := by decide +kernel
theorem dL_law_1499 : decode (mC M_L_law) 1499 = .ok (.iconst 0, 1) := by decide +kernel
theorem dL_law_1500 : decode (mC M_L_law) 1500 = .ok (.ireturn, 1) := by decide +kernel
theorem dL_law_1501 : decode (mC M_L_law) 1501 = .ok (.iload 5, 2) := by decide +kernel
theorem dL_law_1503 : decode (mC M_L_law) 1503 = .ok (.ifCond .ne 15, 3) := by decide +kernel
theorem dL_law_1506 : decode (mC M_L_law) 1506 = .ok (.aload_n 3, 1) := by decide +kernel
theorem dL_law_1507 : decode (mC M_L_law) 1507 = .ok (.iconst 0, 1) := by decide +kernel
theorem dL_law_1508 : decode (mC M_L_law) 1508 = .ok (.laload, 1) := by decide +kernel
theorem dL_law_1509 : decode (mC M_L_law) 1509 = .ok (.iload 6, 2) := by decide +kernel
theorem dL_law_1511 : decode (mC M_L_law) 1511 = .ok (.i2l, 1) := by decide +kernel
theorem dL_law_1512 : decode (mC M_L_law) 1512 = .ok (.lcmp, 1) := by decide +kernel
theorem dL_law_1513 : decode (mC M_L_law) 1513 = .ok (.ifCond .eq 5, 3) := by decide +kernel
theorem dL_law_1516 : decode (mC M_L_law) 1516 = .ok (.iconst 0, 1) := by decide +kernel
theorem dL_law_1517 : decode (mC M_L_law) 1517 = .ok (.ireturn, 1) := by decide +kernel
theorem dL_law_1518 : decode (mC M_L_law) 1518 = .ok (.goto 714, 3) := by decide +kernel
theorem dL_law_1521 : decode (mC M_L_law) 1521 = .ok (.aload_n 1, 1) := by decide +kernel
theorem dL_law_1522 : decode (mC M_L_law) 1522 = .ok (.aload_n 0, 1) := by decide +kernel
theorem dL_law_1523 : decode (mC M_L_law) 1523 = .ok (.iload 4, 2) := by decide +kernel
theorem dL_law_1525 : decode (mC M_L_law) 1525 = .ok (.iconst 1, 1) := by decide +kernel
theorem dL_law_1526 : decode (mC M_L_law) 1526 = .ok (.iadd, 1) := by decide +kernel
theorem dL_law_1527 : decode (mC M_L_law) 1527 = .ok (.iaload, 1) := by decide +kernel
theorem dL_law_1528 : decode (mC M_L_law) 1528 = .ok (.aload_n 3, 1) := by decide +kernel
theorem dL_law_1529 : decode (mC M_L_law) 1529 = .ok (.invokestatic 202, 3) := by decide +kernel
theorem dL_law_1532 : decode (mC M_L_law) 1532 = .ok (.istore 5, 2) := by decide +kernel
theorem dL_law_1534 : decode (mC M_L_law) 1534 = .ok (.aload_n 2, 1) := by decide +kernel
theorem dL_law_1535 : decode (mC M_L_law) 1535 = .ok (.aload_n 0, 1) := by decide +kernel
theorem dL_law_1536 : decode (mC M_L_law) 1536 = .ok (.iload 4, 2) := by decide +kernel
theorem dL_law_1538 : decode (mC M_L_law) 1538 = .ok (.iconst 1, 1) := by decide +kernel
theorem dL_law_1539 : decode (mC M_L_law) 1539 = .ok (.iadd, 1) := by decide +kernel
theorem dL_law_1540 : decode (mC M_L_law) 1540 = .ok (.iaload, 1) := by decide +kernel
theorem dL_law_1541 : decode (mC M_L_law) 1541 = .ok (.invokevirtual 204, 3) := by decide +kernel
theorem dL_law_1544 : decode (mC M_L_law) 1544 = .ok (.istore 6, 2) := by decide +kernel
theorem dL_law_1546 : decode (mC M_L_law) 1546 = .ok (.aload_n 2, 1) := by decide +kernel
theorem dL_law_1547 : decode (mC M_L_law) 1547 = .ok (.invokevirtual 127, 3) := by decide +kernel
theorem dL_law_1550 : decode (mC M_L_law) 1550 = .ok (.iload 5, 2) := by decide +kernel
theorem dL_law_1552 : decode (mC M_L_law) 1552 = .ok (.if_icmp .eq 5, 3) := by decide +kernel
theorem dL_law_1555 : decode (mC M_L_law) 1555 = .ok (.iconst 0, 1) := by decide +kernel
theorem dL_law_1556 : decode (mC M_L_law) 1556 = .ok (.ireturn, 1) := by decide +kernel
theorem dL_law_1557 : decode (mC M_L_law) 1557 = .ok (.iload 5, 2) := by decide +kernel
theorem dL_law_1559 : decode (mC M_L_law) 1559 = .ok (.ifCond .ne 22, 3) := by decide +kernel
theorem dL_law_1562 : decode (mC M_L_law) 1562 = .ok (.aload_n 3, 1) := by decide +kernel
theorem dL_law_1563 : decode (mC M_L_law) 1563 = .ok (.iconst 0, 1) := by decide +kernel
theorem dL_law_1564 : decode (mC M_L_law) 1564 = .ok (.laload, 1) := by decide +kernel
theorem dL_law_1565 : decode (mC M_L_law) 1565 = .ok (.iload 6, 2) := by decide +kernel
theorem dL_law_1567 : decode (mC M_L_law) 1567 = .ok (.ifCond .eq 7, 3) := by decide +kernel
theorem dL_law_1570 : decode (mC M_L_law) 1570 = .ok (.lconst 1, 1) := by decide +kernel
theorem dL_law_1571 : decode (mC M_L_law) 1571 = .ok (.goto 4, 3) := by decide +kernel
theorem dL_law_1574 : decode (mC M_L_law) 1574 = .ok (.lconst 0, 1) := by decide +kernel
theorem dL_law_1575 : decode (mC M_L_law) 1575 = .ok (.lcmp, 1) := by decide +kernel
theorem dL_law_1576 : decode (mC M_L_law) 1576 = .ok (.ifCond .eq 5, 3) := by decide +kernel
theorem dL_law_1579 : decode (mC M_L_law) 1579 = .ok (.iconst 0, 1) := by decide +kernel
theorem dL_law_1580 : decode (mC M_L_law) 1580 = .ok (.ireturn, 1) := by decide +kernel
theorem dL_law_1581 : decode (mC M_L_law) 1581 = .ok (.goto 651, 3) := by decide +kernel
theorem dL_law_1584 : decode (mC M_L_law) 1584 = .ok (.aload_n 1, 1) := by decide +kernel
theorem dL_law_1585 : decode (mC M_L_law) 1585 = .ok (.aload_n 0, 1) := by decide +kernel
theorem dL_law_1586 : decode (mC M_L_law) 1586 = .ok (.iload 4, 2) := by decide +kernel
theorem dL_law_1588 : decode (mC M_L_law) 1588 = .ok (.iconst 1, 1) := by decide +kernel
theorem dL_law_1589 : decode (mC M_L_law) 1589 = .ok (.iadd, 1) := by decide +kernel
theorem dL_law_1590 : decode (mC M_L_law) 1590 = .ok (.iaload, 1) := by decide +kernel
theorem dL_law_1591 : decode (mC M_L_law) 1591 = .ok (.aload_n 3, 1) := by decide +kernel
theorem dL_law_1592 : decode (mC M_L_law) 1592 = .ok (.invokestatic 205, 3) := by decide +kernel
theorem dL_law_1595 : decode (mC M_L_law) 1595 = .ok (.istore 5, 2) := by decide +kernel
theorem dL_law_1597 : decode (mC M_L_law) 1597 = .ok (.aload_n 2, 1) := by decide +kernel
theorem dL_law_1598 : decode (mC M_L_law) 1598 = .ok (.aload_n 0, 1) := by decide +kernel
theorem dL_law_1599 : decode (mC M_L_law) 1599 = .ok (.iload 4, 2) := by decide +kernel
theorem dL_law_1601 : decode (mC M_L_law) 1601 = .ok (.iconst 1, 1) := by decide +kernel
theorem dL_law_1602 : decode (mC M_L_law) 1602 = .ok (.iadd, 1) := by decide +kernel
theorem dL_law_1603 : decode (mC M_L_law) 1603 = .ok (.iaload, 1) := by decide +kernel
theorem dL_law_1604 : decode (mC M_L_law) 1604 = .ok (.invokevirtual 207, 3) := by decide +kernel
theorem dL_law_1607 : decode (mC M_L_law) 1607 = .ok (.istore 6, 2) := by decide +kernel
theorem dL_law_1609 : decode (mC M_L_law) 1609 = .ok (.aload_n 2, 1) := by decide +kernel
theorem dL_law_1610 : decode (mC M_L_law) 1610 = .ok (.invokevirtual 127, 3) := by decide +kernel
theorem dL_law_1613 : decode (mC M_L_law) 1613 = .ok (.iload 5, 2) := by decide +kernel
theorem dL_law_1615 : decode (mC M_L_law) 1615 = .ok (.if_icmp .eq 5, 3) := by decide +kernel
theorem dL_law_1618 : decode (mC M_L_law) 1618 = .ok (.iconst 0, 1) := by decide +kernel
theorem dL_law_1619 : decode (mC M_L_law) 1619 = .ok (.ireturn, 1) := by decide +kernel
theorem dL_law_1620 : decode (mC M_L_law) 1620 = .ok (.iload 5, 2) := by decide +kernel
theorem dL_law_1622 : decode (mC M_L_law) 1622 = .ok (.ifCond .ne 15, 3) := by decide +kernel
theorem dL_law_1625 : decode (mC M_L_law) 1625 = .ok (.aload_n 3, 1) := by decide +kernel
theorem dL_law_1626 : decode (mC M_L_law) 1626 = .ok (.iconst 0, 1) := by decide +kernel
theorem dL_law_1627 : decode (mC M_L_law) 1627 = .ok (.laload, 1) := by decide +kernel
theorem dL_law_1628 : decode (mC M_L_law) 1628 = .ok (.iload 6, 2) := by decide +kernel
theorem dL_law_1630 : decode (mC M_L_law) 1630 = .ok (.i2l, 1) := by decide +kernel
theorem dL_law_1631 : decode (mC M_L_law) 1631 = .ok (.lcmp, 1) := by decide +kernel
theorem dL_law_1632 : decode (mC M_L_law) 1632 = .ok (.ifCond .eq 5, 3) := by decide +kernel
theorem dL_law_1635 : decode (mC M_L_law) 1635 = .ok (.iconst 0, 1) := by decide +kernel
theorem dL_law_1636 : decode (mC M_L_law) 1636 = .ok (.ireturn, 1) := by decide +kernel
theorem dL_law_1637 : decode (mC M_L_law) 1637 = .ok (.goto 595, 3) := by decide +kernel
theorem dL_law_1640 : decode (mC M_L_law) 1640 = .ok (.aload_n 1, 1) := by decide +kernel
theorem dL_law_1641 : decode (mC M_L_law) 1641 = .ok (.aload_n 0, 1) := by decide +kernel
theorem dL_law_1642 : decode (mC M_L_law) 1642 = .ok (.iload 4, 2) := by decide +kernel
theorem dL_law_1644 : decode (mC M_L_law) 1644 = .ok (.iconst 1, 1) := by decide +kernel
theorem dL_law_1645 : decode (mC M_L_law) 1645 = .ok (.iadd, 1) := by decide +kernel
theorem dL_law_1646 : decode (mC M_L_law) 1646 = .ok (.iaload, 1) := by decide +kernel
theorem dL_law_1647 : decode (mC M_L_law) 1647 = .ok (.aload_n 0, 1) := by decide +kernel
theorem dL_law_1648 : decode (mC M_L_law) 1648 = .ok (.iload 4, 2) := by decide +kernel
theorem dL_law_1650 : decode (mC M_L_law) 1650 = .ok (.iconst 2, 1) := by decide +kernel
theorem dL_law_1651 : decode (mC M_L_law) 1651 = .ok (.iadd, 1) := by decide +kernel
theorem dL_law_1652 : decode (mC M_L_law) 1652 = .ok (.iaload, 1) := by decide +kernel
theorem dL_law_1653 : decode (mC M_L_law) 1653 = .ok (.ifCond .eq 7, 3) := by decide +kernel
theorem dL_law_1656 : decode (mC M_L_law) 1656 = .ok (.iconst 1, 1) := by decide +kernel
theorem dL_law_1657 : decode (mC M_L_law) 1657 = .ok (.goto 4, 3) := by decide +kernel
theorem dL_law_1660 : decode (mC M_L_law) 1660 = .ok (.iconst 0, 1) := by decide +kernel
theorem dL_law_1661 : decode (mC M_L_law) 1661 = .ok (.aload_n 3, 1) := by decide +kernel
theorem dL_law_1662 : decode (mC M_L_law) 1662 = .ok (.invokestatic 208, 3) := by decide +kernel
theorem dL_law_1665 : decode (mC M_L_law) 1665 = .ok (.istore 5, 2) := by decide +kernel
theorem dL_law_1667 : decode (mC M_L_law) 1667 = .ok (.aload_n 2, 1) := by decide +kernel
theorem dL_law_1668 : decode (mC M_L_law) 1668 = .ok (.aload_n 0, 1) := by decide +kernel
theorem dL_law_1669 : decode (mC M_L_law) 1669 = .ok (.iload 4, 2) := by decide +kernel
theorem dL_law_1671 : decode (mC M_L_law) 1671 = .ok (.iconst 1, 1) := by decide +kernel
theorem dL_law_1672 : decode (mC M_L_law) 1672 = .ok (.iadd, 1) := by decide +kernel
theorem dL_law_1673 : decode (mC M_L_law) 1673 = .ok (.iaload, 1) := by decide +kernel
theorem dL_law_1674 : decode (mC M_L_law) 1674 = .ok (.aload_n 0, 1) := by decide +kernel
theorem dL_law_1675 : decode (mC M_L_law) 1675 = .ok (.iload 4, 2) := by decide +kernel
theorem dL_law_1677 : decode (mC M_L_law) 1677 = .ok (.iconst 2, 1) := by decide +kernel
theorem dL_law_1678 : decode (mC M_L_law) 1678 = .ok (.iadd, 1) := by decide +kernel
theorem dL_law_1679 : decode (mC M_L_law) 1679 = .ok (.iaload, 1) := by decide +kernel
theorem dL_law_1680 : decode (mC M_L_law) 1680 = .ok (.ifCond .eq 7, 3) := by decide +kernel
theorem dL_law_1683 : decode (mC M_L_law) 1683 = .ok (.iconst 1, 1) := by decide +kernel
theorem dL_law_1684 : decode (mC M_L_law) 1684 = .ok (.goto 4, 3) := by decide +kernel
theorem dL_law_1687 : decode (mC M_L_law) 1687 = .ok (.iconst 0, 1) := by decide +kernel
theorem dL_law_1688 : decode (mC M_L_law) 1688 = .ok (.invokevirtual 211, 3) := by decide +kernel
theorem dL_law_1691 : decode (mC M_L_law) 1691 = .ok (.istore 6, 2) := by decide +kernel
theorem dL_law_1693 : decode (mC M_L_law) 1693 = .ok (.aload_n 2, 1) := by decide +kernel
theorem dL_law_1694 : decode (mC M_L_law) 1694 = .ok (.invokevirtual 127, 3) := by decide +kernel
theorem dL_law_1697 : decode (mC M_L_law) 1697 = .ok (.iload 5, 2) := by decide +kernel
theorem dL_law_1699 : decode (mC M_L_law) 1699 = .ok (.if_icmp .eq 5, 3) := by decide +kernel
theorem dL_law_1702 : decode (mC M_L_law) 1702 = .ok (.iconst 0, 1) := by decide +kernel
theorem dL_law_1703 : decode (mC M_L_law) 1703 = .ok (.ireturn, 1) := by decide +kernel
theorem dL_law_1704 : decode (mC M_L_law) 1704 = .ok (.iload 5, 2) := by decide +kernel
theorem dL_law_1706 : decode (mC M_L_law) 1706 = .ok (.ifCond .ne 15, 3) := by decide +kernel
theorem dL_law_1709 : decode (mC M_L_law) 1709 = .ok (.aload_n 3, 1) := by decide +kernel
theorem dL_law_1710 : decode (mC M_L_law) 1710 = .ok (.iconst 0, 1) := by decide +kernel
theorem dL_law_1711 : decode (mC M_L_law) 1711 = .ok (.laload, 1) := by decide +kernel
theorem dL_law_1712 : decode (mC M_L_law) 1712 = .ok (.iload 6, 2) := by decide +kernel
theorem dL_law_1714 : decode (mC M_L_law) 1714 = .ok (.i2l, 1) := by decide +kernel
theorem dL_law_1715 : decode (mC M_L_law) 1715 = .ok (.lcmp, 1) := by decide +kernel
theorem dL_law_1716 : decode (mC M_L_law) 1716 = .ok (.ifCond .eq 5, 3) := by decide +kernel
theorem dL_law_1719 : decode (mC M_L_law) 1719 = .ok (.iconst 0, 1) := by decide +kernel
theorem dL_law_1720 : decode (mC M_L_law) 1720 = .ok (.ireturn, 1) := by decide +kernel
theorem dL_law_1721 : decode (mC M_L_law) 1721 = .ok (.goto 511, 3) := by decide +kernel
theorem dL_law_1724 : decode (mC M_L_law) 1724 = .ok (.aload_n 1, 1) := by decide +kernel
theorem dL_law_1725 : decode (mC M_L_law) 1725 = .ok (.aload_n 0, 1) := by decide +kernel
theorem dL_law_1726 : decode (mC M_L_law) 1726 = .ok (.iload 4, 2) := by decide +kernel
theorem dL_law_1728 : decode (mC M_L_law) 1728 = .ok (.iconst 1, 1) := by decide +kernel
theorem dL_law_1729 : decode (mC M_L_law) 1729 = .ok (.iadd, 1) := by decide +kernel
theorem dL_law_1730 : decode (mC M_L_law) 1730 = .ok (.iaload, 1) := by decide +kernel
theorem dL_law_1731 : decode (mC M_L_law) 1731 = .ok (.aload_n 3, 1) := by decide +kernel
theorem dL_law_1732 : decode (mC M_L_law) 1732 = .ok (.invokestatic 212, 3) := by decide +kernel
theorem dL_law_1735 : decode (mC M_L_law) 1735 = .ok (.istore 5, 2) := by decide +kernel
theorem dL_law_1737 : decode (mC M_L_law) 1737 = .ok (.aload_n 2, 1) := by decide +kernel
theorem dL_law_1738 : decode (mC M_L_law) 1738 = .ok (.aload_n 0, 1) := by decide +kernel
theorem dL_law_1739 : decode (mC M_L_law) 1739 = .ok (.iload 4, 2) := by decide +kernel
theorem dL_law_1741 : decode (mC M_L_law) 1741 = .ok (.iconst 1, 1) := by decide +kernel
theorem dL_law_1742 : decode (mC M_L_law) 1742 = .ok (.iadd, 1) := by decide +kernel
theorem dL_law_1743 : decode (mC M_L_law) 1743 = .ok (.iaload, 1) := by decide +kernel
theorem dL_law_1744 : decode (mC M_L_law) 1744 = .ok (.invokevirtual 214, 3) := by decide +kernel
theorem dL_law_1747 : decode (mC M_L_law) 1747 = .ok (.istore 6, 2) := by decide +kernel
theorem dL_law_1749 : decode (mC M_L_law) 1749 = .ok (.aload_n 2, 1) := by decide +kernel
theorem dL_law_1750 : decode (mC M_L_law) 1750 = .ok (.invokevirtual 127, 3) := by decide +kernel
theorem dL_law_1753 : decode (mC M_L_law) 1753 = .ok (.iload 5, 2) := by decide +kernel
theorem dL_law_1755 : decode (mC M_L_law) 1755 = .ok (.if_icmp .eq 5, 3) := by decide +kernel
theorem dL_law_1758 : decode (mC M_L_law) 1758 = .ok (.iconst 0, 1) := by decide +kernel
theorem dL_law_1759 : decode (mC M_L_law) 1759 = .ok (.ireturn, 1) := by decide +kernel
theorem dL_law_1760 : decode (mC M_L_law) 1760 = .ok (.iload 5, 2) := by decide +kernel
theorem dL_law_1762 : decode (mC M_L_law) 1762 = .ok (.ifCond .ne 15, 3) := by decide +kernel
theorem dL_law_1765 : decode (mC M_L_law) 1765 = .ok (.aload_n 3, 1) := by decide +kernel
theorem dL_law_1766 : decode (mC M_L_law) 1766 = .ok (.iconst 0, 1) := by decide +kernel
theorem dL_law_1767 : decode (mC M_L_law) 1767 = .ok (.laload, 1) := by decide +kernel
theorem dL_law_1768 : decode (mC M_L_law) 1768 = .ok (.iload 6, 2) := by decide +kernel
theorem dL_law_1770 : decode (mC M_L_law) 1770 = .ok (.i2l, 1) := by decide +kernel
theorem dL_law_1771 : decode (mC M_L_law) 1771 = .ok (.lcmp, 1) := by decide +kernel
theorem dL_law_1772 : decode (mC M_L_law) 1772 = .ok (.ifCond .eq 5, 3) := by decide +kernel
theorem dL_law_1775 : decode (mC M_L_law) 1775 = .ok (.iconst 0, 1) := by decide +kernel
theorem dL_law_1776 : decode (mC M_L_law) 1776 = .ok (.ireturn, 1) := by decide +kernel
theorem dL_law_1777 : decode (mC M_L_law) 1777 = .ok (.goto 455, 3) := by decide +kernel
theorem dL_law_1780 : decode (mC M_L_law) 1780 = .ok (.aload_n 1, 1) := by decide +kernel
theorem dL_law_1781 : decode (mC M_L_law) 1781 = .ok (.aload_n 0, 1) := by decide +kernel
theorem dL_law_1782 : decode (mC M_L_law) 1782 = .ok (.iload 4, 2) := by decide +kernel
theorem dL_law_1784 : decode (mC M_L_law) 1784 = .ok (.iconst 1, 1) := by decide +kernel
theorem dL_law_1785 : decode (mC M_L_law) 1785 = .ok (.iadd, 1) := by decide +kernel
theorem dL_law_1786 : decode (mC M_L_law) 1786 = .ok (.iaload, 1) := by decide +kernel
theorem dL_law_1787 : decode (mC M_L_law) 1787 = .ok (.aload_n 0, 1) := by decide +kernel
theorem dL_law_1788 : decode (mC M_L_law) 1788 = .ok (.iload 4, 2) := by decide +kernel
theorem dL_law_1790 : decode (mC M_L_law) 1790 = .ok (.iconst 2, 1) := by decide +kernel
theorem dL_law_1791 : decode (mC M_L_law) 1791 = .ok (.iadd, 1) := by decide +kernel
theorem dL_law_1792 : decode (mC M_L_law) 1792 = .ok (.iaload, 1) := by decide +kernel
theorem dL_law_1793 : decode (mC M_L_law) 1793 = .ok (.aload_n 0, 1) := by decide +kernel
theorem dL_law_1794 : decode (mC M_L_law) 1794 = .ok (.iload 4, 2) := by decide +kernel
theorem dL_law_1796 : decode (mC M_L_law) 1796 = .ok (.iconst 3, 1) := by decide +kernel
theorem dL_law_1797 : decode (mC M_L_law) 1797 = .ok (.iadd, 1) := by decide +kernel
theorem dL_law_1798 : decode (mC M_L_law) 1798 = .ok (.iaload, 1) := by decide +kernel
theorem dL_law_1799 : decode (mC M_L_law) 1799 = .ok (.aload_n 3, 1) := by decide +kernel
theorem dL_law_1800 : decode (mC M_L_law) 1800 = .ok (.invokestatic 215, 3) := by decide +kernel
theorem dL_law_1803 : decode (mC M_L_law) 1803 = .ok (.istore 5, 2) := by decide +kernel
theorem dL_law_1805 : decode (mC M_L_law) 1805 = .ok (.aload_n 2, 1) := by decide +kernel
theorem dL_law_1806 : decode (mC M_L_law) 1806 = .ok (.aload_n 0, 1) := by decide +kernel
theorem dL_law_1807 : decode (mC M_L_law) 1807 = .ok (.iload 4, 2) := by decide +kernel
theorem dL_law_1809 : decode (mC M_L_law) 1809 = .ok (.iconst 1, 1) := by decide +kernel
theorem dL_law_1810 : decode (mC M_L_law) 1810 = .ok (.iadd, 1) := by decide +kernel
theorem dL_law_1811 : decode (mC M_L_law) 1811 = .ok (.iaload, 1) := by decide +kernel
theorem dL_law_1812 : decode (mC M_L_law) 1812 = .ok (.aload_n 0, 1) := by decide +kernel
theorem dL_law_1813 : decode (mC M_L_law) 1813 = .ok (.iload 4, 2) := by decide +kernel
theorem dL_law_1815 : decode (mC M_L_law) 1815 = .ok (.iconst 2, 1) := by decide +kernel
theorem dL_law_1816 : decode (mC M_L_law) 1816 = .ok (.iadd, 1) := by decide +kernel
theorem dL_law_1817 : decode (mC M_L_law) 1817 = .ok (.iaload, 1) := by decide +kernel
theorem dL_law_1818 : decode (mC M_L_law) 1818 = .ok (.aload_n 0, 1) := by decide +kernel
theorem dL_law_1819 : decode (mC M_L_law) 1819 = .ok (.iload 4, 2) := by decide +kernel
theorem dL_law_1821 : decode (mC M_L_law) 1821 = .ok (.iconst 3, 1) := by decide +kernel
theorem dL_law_1822 : decode (mC M_L_law) 1822 = .ok (.iadd, 1) := by decide +kernel
theorem dL_law_1823 : decode (mC M_L_law) 1823 = .ok (.iaload, 1) := by decide +kernel
theorem dL_law_1824 : decode (mC M_L_law) 1824 = .ok (.invokevirtual 217, 3) := by decide +kernel
theorem dL_law_1827 : decode (mC M_L_law) 1827 = .ok (.istore 6, 2) := by decide +kernel
theorem dL_law_1829 : decode (mC M_L_law) 1829 = .ok (.aload_n 2, 1) := by decide +kernel
theorem dL_law_1830 : decode (mC M_L_law) 1830 = .ok (.invokevirtual 127, 3) := by decide +kernel
theorem dL_law_1833 : decode (mC M_L_law) 1833 = .ok (.iload 5, 2) := by decide +kernel
theorem dL_law_1835 : decode (mC M_L_law) 1835 = .ok (.if_icmp .eq 5, 3) := by decide +kernel
theorem dL_law_1838 : decode (mC M_L_law) 1838 = .ok (.iconst 0, 1) := by decide +kernel
theorem dL_law_1839 : decode (mC M_L_law) 1839 = .ok (.ireturn, 1) := by decide +kernel
theorem dL_law_1840 : decode (mC M_L_law) 1840 = .ok (.iload 5, 2) := by decide +kernel
theorem dL_law_1842 : decode (mC M_L_law) 1842 = .ok (.ifCond .ne 15, 3) := by decide +kernel
theorem dL_law_1845 : decode (mC M_L_law) 1845 = .ok (.aload_n 3, 1) := by decide +kernel
theorem dL_law_1846 : decode (mC M_L_law) 1846 = .ok (.iconst 0, 1) := by decide +kernel
theorem dL_law_1847 : decode (mC M_L_law) 1847 = .ok (.laload, 1) := by decide +kernel
theorem dL_law_1848 : decode (mC M_L_law) 1848 = .ok (.iload 6, 2) := by decide +kernel
theorem dL_law_1850 : decode (mC M_L_law) 1850 = .ok (.i2l, 1) := by decide +kernel
theorem dL_law_1851 : decode (mC M_L_law) 1851 = .ok (.lcmp, 1) := by decide +kernel
theorem dL_law_1852 : decode (mC M_L_law) 1852 = .ok (.ifCond .eq 5, 3) := by decide +kernel
theorem dL_law_1855 : decode (mC M_L_law) 1855 = .ok (.iconst 0, 1) := by decide +kernel
theorem dL_law_1856 : decode (mC M_L_law) 1856 = .ok (.ireturn, 1) := by decide +kernel
theorem dL_law_1857 : decode (mC M_L_law) 1857 = .ok (.goto 375, 3) := by decide +kernel
theorem dL_law_1860 : decode (mC M_L_law) 1860 = .ok (.aload_n 1, 1) := by decide +kernel
theorem dL_law_1861 : decode (mC M_L_law) 1861 = .ok (.aload_n 0, 1) := by decide +kernel
theorem dL_law_1862 : decode (mC M_L_law) 1862 = .ok (.iload 4, 2) := by decide +kernel
theorem dL_law_1864 : decode (mC M_L_law) 1864 = .ok (.iconst 1, 1) := by decide +kernel
theorem dL_law_1865 : decode (mC M_L_law) 1865 = .ok (.iadd, 1) := by decide +kernel
theorem dL_law_1866 : decode (mC M_L_law) 1866 = .ok (.iaload, 1) := by decide +kernel
theorem dL_law_1867 : decode (mC M_L_law) 1867 = .ok (.aload_n 0, 1) := by decide +kernel
theorem dL_law_1868 : decode (mC M_L_law) 1868 = .ok (.iload 4, 2) := by decide +kernel
theorem dL_law_1870 : decode (mC M_L_law) 1870 = .ok (.iconst 2, 1) := by decide +kernel
theorem dL_law_1871 : decode (mC M_L_law) 1871 = .ok (.iadd, 1) := by decide +kernel
theorem dL_law_1872 : decode (mC M_L_law) 1872 = .ok (.iaload, 1) := by decide +kernel
theorem dL_law_1873 : decode (mC M_L_law) 1873 = .ok (.aload_n 0, 1) := by decide +kernel
theorem dL_law_1874 : decode (mC M_L_law) 1874 = .ok (.iload 4, 2) := by decide +kernel
theorem dL_law_1876 : decode (mC M_L_law) 1876 = .ok (.iconst 3, 1) := by decide +kernel
theorem dL_law_1877 : decode (mC M_L_law) 1877 = .ok (.iadd, 1) := by decide +kernel
theorem dL_law_1878 : decode (mC M_L_law) 1878 = .ok (.iaload, 1) := by decide +kernel
theorem dL_law_1879 : decode (mC M_L_law) 1879 = .ok (.aload_n 3, 1) := by decide +kernel
theorem dL_law_1880 : decode (mC M_L_law) 1880 = .ok (.invokestatic 218, 3) := by decide +kernel
theorem dL_law_1883 : decode (mC M_L_law) 1883 = .ok (.istore 5, 2) := by decide +kernel
theorem dL_law_1885 : decode (mC M_L_law) 1885 = .ok (.aload_n 2, 1) := by decide +kernel
theorem dL_law_1886 : decode (mC M_L_law) 1886 = .ok (.aload_n 0, 1) := by decide +kernel
theorem dL_law_1887 : decode (mC M_L_law) 1887 = .ok (.iload 4, 2) := by decide +kernel
theorem dL_law_1889 : decode (mC M_L_law) 1889 = .ok (.iconst 1, 1) := by decide +kernel
theorem dL_law_1890 : decode (mC M_L_law) 1890 = .ok (.iadd, 1) := by decide +kernel
theorem dL_law_1891 : decode (mC M_L_law) 1891 = .ok (.iaload, 1) := by decide +kernel
theorem dL_law_1892 : decode (mC M_L_law) 1892 = .ok (.aload_n 0, 1) := by decide +kernel
theorem dL_law_1893 : decode (mC M_L_law) 1893 = .ok (.iload 4, 2) := by decide +kernel
theorem dL_law_1895 : decode (mC M_L_law) 1895 = .ok (.iconst 2, 1) := by decide +kernel
theorem dL_law_1896 : decode (mC M_L_law) 1896 = .ok (.iadd, 1) := by decide +kernel
theorem dL_law_1897 : decode (mC M_L_law) 1897 = .ok (.iaload, 1) := by decide +kernel
theorem dL_law_1898 : decode (mC M_L_law) 1898 = .ok (.aload_n 0, 1) := by decide +kernel
theorem dL_law_1899 : decode (mC M_L_law) 1899 = .ok (.iload 4, 2) := by decide +kernel
theorem dL_law_1901 : decode (mC M_L_law) 1901 = .ok (.iconst 3, 1) := by decide +kernel
theorem dL_law_1902 : decode (mC M_L_law) 1902 = .ok (.iadd, 1) := by decide +kernel
theorem dL_law_1903 : decode (mC M_L_law) 1903 = .ok (.iaload, 1) := by decide +kernel
theorem dL_law_1904 : decode (mC M_L_law) 1904 = .ok (.invokevirtual 220, 3) := by decide +kernel
theorem dL_law_1907 : decode (mC M_L_law) 1907 = .ok (.istore 6, 2) := by decide +kernel
theorem dL_law_1909 : decode (mC M_L_law) 1909 = .ok (.aload_n 2, 1) := by decide +kernel
theorem dL_law_1910 : decode (mC M_L_law) 1910 = .ok (.invokevirtual 127, 3) := by decide +kernel
theorem dL_law_1913 : decode (mC M_L_law) 1913 = .ok (.iload 5, 2) := by decide +kernel
theorem dL_law_1915 : decode (mC M_L_law) 1915 = .ok (.if_icmp .eq 5, 3) := by decide +kernel
theorem dL_law_1918 : decode (mC M_L_law) 1918 = .ok (.iconst 0, 1) := by decide +kernel
theorem dL_law_1919 : decode (mC M_L_law) 1919 = .ok (.ireturn, 1) := by decide +kernel
theorem dL_law_1920 : decode (mC M_L_law) 1920 = .ok (.iload 5, 2) := by decide +kernel
theorem dL_law_1922 : decode (mC M_L_law) 1922 = .ok (.ifCond .ne 15, 3) := by decide +kernel
theorem dL_law_1925 : decode (mC M_L_law) 1925 = .ok (.aload_n 3, 1) := by decide +kernel
theorem dL_law_1926 : decode (mC M_L_law) 1926 = .ok (.iconst 0, 1) := by decide +kernel
theorem dL_law_1927 : decode (mC M_L_law) 1927 = .ok (.laload, 1) := by decide +kernel
theorem dL_law_1928 : decode (mC M_L_law) 1928 = .ok (.iload 6, 2) := by decide +kernel
theorem dL_law_1930 : decode (mC M_L_law) 1930 = .ok (.i2l, 1) := by decide +kernel
theorem dL_law_1931 : decode (mC M_L_law) 1931 = .ok (.lcmp, 1) := by decide +kernel
theorem dL_law_1932 : decode (mC M_L_law) 1932 = .ok (.ifCond .eq 5, 3) := by decide +kernel
theorem dL_law_1935 : decode (mC M_L_law) 1935 = .ok (.iconst 0, 1) := by decide +kernel
theorem dL_law_1936 : decode (mC M_L_law) 1936 = .ok (.ireturn, 1) := by decide +kernel
theorem dL_law_1937 : decode (mC M_L_law) 1937 = .ok (.goto 295, 3) := by decide +kernel
theorem dL_law_1940 : decode (mC M_L_law) 1940 = .ok (.aload_n 1, 1) := by decide +kernel
theorem dL_law_1941 : decode (mC M_L_law) 1941 = .ok (.aload_n 0, 1) := by decide +kernel
theorem dL_law_1942 : decode (mC M_L_law) 1942 = .ok (.iload 4, 2) := by decide +kernel
theorem dL_law_1944 : decode (mC M_L_law) 1944 = .ok (.iconst 1, 1) := by decide +kernel
theorem dL_law_1945 : decode (mC M_L_law) 1945 = .ok (.iadd, 1) := by decide +kernel
theorem dL_law_1946 : decode (mC M_L_law) 1946 = .ok (.iaload, 1) := by decide +kernel
theorem dL_law_1947 : decode (mC M_L_law) 1947 = .ok (.aload_n 3, 1) := by decide +kernel
theorem dL_law_1948 : decode (mC M_L_law) 1948 = .ok (.invokestatic 221, 3) := by decide +kernel
theorem dL_law_1951 : decode (mC M_L_law) 1951 = .ok (.istore 5, 2) := by decide +kernel
theorem dL_law_1953 : decode (mC M_L_law) 1953 = .ok (.aload_n 2, 1) := by decide +kernel
theorem dL_law_1954 : decode (mC M_L_law) 1954 = .ok (.aload_n 0, 1) := by decide +kernel
theorem dL_law_1955 : decode (mC M_L_law) 1955 = .ok (.iload 4, 2) := by decide +kernel
theorem dL_law_1957 : decode (mC M_L_law) 1957 = .ok (.iconst 1, 1) := by decide +kernel
theorem dL_law_1958 : decode (mC M_L_law) 1958 = .ok (.iadd, 1) := by decide +kernel
theorem dL_law_1959 : decode (mC M_L_law) 1959 = .ok (.iaload, 1) := by decide +kernel
theorem dL_law_1960 : decode (mC M_L_law) 1960 = .ok (.invokevirtual 223, 3) := by decide +kernel
theorem dL_law_1963 : decode (mC M_L_law) 1963 = .ok (.istore 6, 2) := by decide +kernel
theorem dL_law_1965 : decode (mC M_L_law) 1965 = .ok (.aload_n 2, 1) := by decide +kernel
theorem dL_law_1966 : decode (mC M_L_law) 1966 = .ok (.invokevirtual 127, 3) := by decide +kernel
theorem dL_law_1969 : decode (mC M_L_law) 1969 = .ok (.iload 5, 2) := by decide +kernel
theorem dL_law_1971 : decode (mC M_L_law) 1971 = .ok (.if_icmp .eq 5, 3) := by decide +kernel
theorem dL_law_1974 : decode (mC M_L_law) 1974 = .ok (.iconst 0, 1) := by decide +kernel
theorem dL_law_1975 : decode (mC M_L_law) 1975 = .ok (.ireturn, 1) := by decide +kernel
theorem dL_law_1976 : decode (mC M_L_law) 1976 = .ok (.iload 5, 2) := by decide +kernel
theorem dL_law_1978 : decode (mC M_L_law) 1978 = .ok (.ifCond .ne 15, 3) := by decide +kernel
theorem dL_law_1981 : decode (mC M_L_law) 1981 = .ok (.aload_n 3, 1) := by decide +kernel
theorem dL_law_1982 : decode (mC M_L_law) 1982 = .ok (.iconst 0, 1) := by decide +kernel
theorem dL_law_1983 : decode (mC M_L_law) 1983 = .ok (.laload, 1) := by decide +kernel
theorem dL_law_1984 : decode (mC M_L_law) 1984 = .ok (.iload 6, 2) := by decide +kernel
theorem dL_law_1986 : decode (mC M_L_law) 1986 = .ok (.i2l, 1) := by decide +kernel
theorem dL_law_1987 : decode (mC M_L_law) 1987 = .ok (.lcmp, 1) := by decide +kernel
theorem dL_law_1988 : decode (mC M_L_law) 1988 = .ok (.ifCond .eq 5, 3) := by decide +kernel
theorem dL_law_1991 : decode (mC M_L_law) 1991 = .ok (.iconst 0, 1) := by decide +kernel
theorem dL_law_1992 : decode (mC M_L_law) 1992 = .ok (.ireturn, 1) := by decide +kernel
theorem dL_law_1993 : decode (mC M_L_law) 1993 = .ok (.goto 239, 3) := by decide +kernel
theorem dL_law_1996 : decode (mC M_L_law) 1996 = .ok (.aload_n 1, 1) := by decide +kernel
theorem dL_law_1997 : decode (mC M_L_law) 1997 = .ok (.aload_n 0, 1) := by decide +kernel
theorem dL_law_1998 : decode (mC M_L_law) 1998 = .ok (.iload 4, 2) := by decide +kernel
theorem dL_law_2000 : decode (mC M_L_law) 2000 = .ok (.iconst 1, 1) := by decide +kernel
theorem dL_law_2001 : decode (mC M_L_law) 2001 = .ok (.iadd, 1) := by decide +kernel
theorem dL_law_2002 : decode (mC M_L_law) 2002 = .ok (.iaload, 1) := by decide +kernel
theorem dL_law_2003 : decode (mC M_L_law) 2003 = .ok (.aload_n 3, 1) := by decide +kernel
theorem dL_law_2004 : decode (mC M_L_law) 2004 = .ok (.invokestatic 224, 3) := by decide +kernel
theorem dL_law_2007 : decode (mC M_L_law) 2007 = .ok (.istore 5, 2) := by decide +kernel
theorem dL_law_2009 : decode (mC M_L_law) 2009 = .ok (.aload_n 2, 1) := by decide +kernel
theorem dL_law_2010 : decode (mC M_L_law) 2010 = .ok (.aload_n 0, 1) := by decide +kernel
theorem dL_law_2011 : decode (mC M_L_law) 2011 = .ok (.iload 4, 2) := by decide +kernel
theorem dL_law_2013 : decode (mC M_L_law) 2013 = .ok (.iconst 1, 1) := by decide +kernel
theorem dL_law_2014 : decode (mC M_L_law) 2014 = .ok (.iadd, 1) := by decide +kernel
theorem dL_law_2015 : decode (mC M_L_law) 2015 = .ok (.iaload, 1) := by decide +kernel
theorem dL_law_2016 : decode (mC M_L_law) 2016 = .ok (.invokevirtual 226, 3) := by decide +kernel
theorem dL_law_2019 : decode (mC M_L_law) 2019 = .ok (.istore 6, 2) := by decide +kernel
theorem dL_law_2021 : decode (mC M_L_law) 2021 = .ok (.aload_n 2, 1) := by decide +kernel
theorem dL_law_2022 : decode (mC M_L_law) 2022 = .ok (.invokevirtual 127, 3) := by decide +kernel
theorem dL_law_2025 : decode (mC M_L_law) 2025 = .ok (.iload 5, 2) := by decide +kernel
theorem dL_law_2027 : decode (mC M_L_law) 2027 = .ok (.if_icmp .eq 5, 3) := by decide +kernel
theorem dL_law_2030 : decode (mC M_L_law) 2030 = .ok (.iconst 0, 1) := by decide +kernel
theorem dL_law_2031 : decode (mC M_L_law) 2031 = .ok (.ireturn, 1) := by decide +kernel
theorem dL_law_2032 : decode (mC M_L_law) 2032 = .ok (.iload 5, 2) := by decide +kernel
theorem dL_law_2034 : decode (mC M_L_law) 2034 = .ok (.ifCond .ne 15, 3) := by decide +kernel
theorem dL_law_2037 : decode (mC M_L_law) 2037 = .ok (.aload_n 3, 1) := by decide +kernel
theorem dL_law_2038 : decode (mC M_L_law) 2038 = .ok (.iconst 0, 1) := by decide +kernel
theorem dL_law_2039 : decode (mC M_L_law) 2039 = .ok (.laload, 1) := by decide +kernel
theorem dL_law_2040 : decode (mC M_L_law) 2040 = .ok (.iload 6, 2) := by decide +kernel
theorem dL_law_2042 : decode (mC M_L_law) 2042 = .ok (.i2l, 1) := by decide +kernel
theorem dL_law_2043 : decode (mC M_L_law) 2043 = .ok (.lcmp, 1) := by decide +kernel
theorem dL_law_2044 : decode (mC M_L_law) 2044 = .ok (.ifCond .eq 5, 3) := by decide +kernel
theorem dL_law_2047 : decode (mC M_L_law) 2047 = .ok (.iconst 0, 1) := by decide +kernel
theorem dL_law_2048 : decode (mC M_L_law) 2048 = .ok (.ireturn, 1) := by decide +kernel
theorem dL_law_2049 : decode (mC M_L_law) 2049 = .ok (.goto 183, 3) := by decide +kernel
theorem dL_law_2052 : decode (mC M_L_law) 2052 = .ok (.aload_n 1, 1) := by decide +kernel
theorem dL_law_2053 : decode (mC M_L_law) 2053 = .ok (.aload_n 0, 1) := by decide +kernel
theorem dL_law_2054 : decode (mC M_L_law) 2054 = .ok (.iload 4, 2) := by decide +kernel
theorem dL_law_2056 : decode (mC M_L_law) 2056 = .ok (.iconst 1, 1) := by decide +kernel
theorem dL_law_2057 : decode (mC M_L_law) 2057 = .ok (.iadd, 1) := by decide +kernel
theorem dL_law_2058 : decode (mC M_L_law) 2058 = .ok (.iaload, 1) := by decide +kernel
theorem dL_law_2059 : decode (mC M_L_law) 2059 = .ok (.aload_n 3, 1) := by decide +kernel
theorem dL_law_2060 : decode (mC M_L_law) 2060 = .ok (.invokestatic 227, 3) := by decide +kernel
theorem dL_law_2063 : decode (mC M_L_law) 2063 = .ok (.istore 5, 2) := by decide +kernel
theorem dL_law_2065 : decode (mC M_L_law) 2065 = .ok (.aload_n 2, 1) := by decide +kernel
theorem dL_law_2066 : decode (mC M_L_law) 2066 = .ok (.aload_n 0, 1) := by decide +kernel
theorem dL_law_2067 : decode (mC M_L_law) 2067 = .ok (.iload 4, 2) := by decide +kernel
theorem dL_law_2069 : decode (mC M_L_law) 2069 = .ok (.iconst 1, 1) := by decide +kernel
theorem dL_law_2070 : decode (mC M_L_law) 2070 = .ok (.iadd, 1) := by decide +kernel
theorem dL_law_2071 : decode (mC M_L_law) 2071 = .ok (.iaload, 1) := by decide +kernel
theorem dL_law_2072 : decode (mC M_L_law) 2072 = .ok (.invokevirtual 229, 3) := by decide +kernel
theorem dL_law_2075 : decode (mC M_L_law) 2075 = .ok (.istore 6, 2) := by decide +kernel
theorem dL_law_2077 : decode (mC M_L_law) 2077 = .ok (.aload_n 2, 1) := by decide +kernel
theorem dL_law_2078 : decode (mC M_L_law) 2078 = .ok (.invokevirtual 127, 3) := by decide +kernel
theorem dL_law_2081 : decode (mC M_L_law) 2081 = .ok (.iload 5, 2) := by decide +kernel
theorem dL_law_2083 : decode (mC M_L_law) 2083 = .ok (.if_icmp .eq 5, 3) := by decide +kernel
theorem dL_law_2086 : decode (mC M_L_law) 2086 = .ok (.iconst 0, 1) := by decide +kernel
theorem dL_law_2087 : decode (mC M_L_law) 2087 = .ok (.ireturn, 1) := by decide +kernel
theorem dL_law_2088 : decode (mC M_L_law) 2088 = .ok (.iload 5, 2) := by decide +kernel
theorem dL_law_2090 : decode (mC M_L_law) 2090 = .ok (.ifCond .ne 15, 3) := by decide +kernel
theorem dL_law_2093 : decode (mC M_L_law) 2093 = .ok (.aload_n 3, 1) := by decide +kernel
theorem dL_law_2094 : decode (mC M_L_law) 2094 = .ok (.iconst 0, 1) := by decide +kernel
theorem dL_law_2095 : decode (mC M_L_law) 2095 = .ok (.laload, 1) := by decide +kernel
theorem dL_law_2096 : decode (mC M_L_law) 2096 = .ok (.iload 6, 2) := by decide +kernel
theorem dL_law_2098 : decode (mC M_L_law) 2098 = .ok (.i2l, 1) := by decide +kernel
theorem dL_law_2099 : decode (mC M_L_law) 2099 = .ok (.lcmp, 1) := by decide +kernel
theorem dL_law_2100 : decode (mC M_L_law) 2100 = .ok (.ifCond .eq 5, 3) := by decide +kernel
theorem dL_law_2103 : decode (mC M_L_law) 2103 = .ok (.iconst 0, 1) := by decide +kernel
theorem dL_law_2104 : decode (mC M_L_law) 2104 = .ok (.ireturn, 1) := by decide +kernel
theorem dL_law_2105 : decode (mC M_L_law) 2105 = .ok (.goto 127, 3) := by decide +kernel
theorem dL_law_2108 : decode (mC M_L_law) 2108 = .ok (.aload_n 1, 1) := by decide +kernel
theorem dL_law_2109 : decode (mC M_L_law) 2109 = .ok (.aload_n 0, 1) := by decide +kernel
theorem dL_law_2110 : decode (mC M_L_law) 2110 = .ok (.iload 4, 2) := by decide +kernel
theorem dL_law_2112 : decode (mC M_L_law) 2112 = .ok (.iconst 1, 1) := by decide +kernel
theorem dL_law_2113 : decode (mC M_L_law) 2113 = .ok (.iadd, 1) := by decide +kernel
theorem dL_law_2114 : decode (mC M_L_law) 2114 = .ok (.iaload, 1) := by decide +kernel
theorem dL_law_2115 : decode (mC M_L_law) 2115 = .ok (.aload_n 3, 1) := by decide +kernel
theorem dL_law_2116 : decode (mC M_L_law) 2116 = .ok (.invokestatic 230, 3) := by decide +kernel
theorem dL_law_2119 : decode (mC M_L_law) 2119 = .ok (.istore 5, 2) := by decide +kernel
theorem dL_law_2121 : decode (mC M_L_law) 2121 = .ok (.aload_n 2, 1) := by decide +kernel
theorem dL_law_2122 : decode (mC M_L_law) 2122 = .ok (.aload_n 0, 1) := by decide +kernel
theorem dL_law_2123 : decode (mC M_L_law) 2123 = .ok (.iload 4, 2) := by decide +kernel
theorem dL_law_2125 : decode (mC M_L_law) 2125 = .ok (.iconst 1, 1) := by decide +kernel
theorem dL_law_2126 : decode (mC M_L_law) 2126 = .ok (.iadd, 1) := by decide +kernel
theorem dL_law_2127 : decode (mC M_L_law) 2127 = .ok (.iaload, 1) := by decide +kernel
theorem dL_law_2128 : decode (mC M_L_law) 2128 = .ok (.invokevirtual 232, 3) := by decide +kernel
theorem dL_law_2131 : decode (mC M_L_law) 2131 = .ok (.istore 6, 2) := by decide +kernel
theorem dL_law_2133 : decode (mC M_L_law) 2133 = .ok (.aload_n 2, 1) := by decide +kernel
theorem dL_law_2134 : decode (mC M_L_law) 2134 = .ok (.invokevirtual 127, 3) := by decide +kernel
theorem dL_law_2137 : decode (mC M_L_law) 2137 = .ok (.iload 5, 2) := by decide +kernel
theorem dL_law_2139 : decode (mC M_L_law) 2139 = .ok (.if_icmp .eq 5, 3) := by decide +kernel
theorem dL_law_2142 : decode (mC M_L_law) 2142 = .ok (.iconst 0, 1) := by decide +kernel
theorem dL_law_2143 : decode (mC M_L_law) 2143 = .ok (.ireturn, 1) := by decide +kernel
theorem dL_law_2144 : decode (mC M_L_law) 2144 = .ok (.iload 5, 2) := by decide +kernel
theorem dL_law_2146 : decode (mC M_L_law) 2146 = .ok (.ifCond .ne 15, 3) := by decide +kernel
theorem dL_law_2149 : decode (mC M_L_law) 2149 = .ok (.aload_n 3, 1) := by decide +kernel
theorem dL_law_2150 : decode (mC M_L_law) 2150 = .ok (.iconst 0, 1) := by decide +kernel
theorem dL_law_2151 : decode (mC M_L_law) 2151 = .ok (.laload, 1) := by decide +kernel
theorem dL_law_2152 : decode (mC M_L_law) 2152 = .ok (.iload 6, 2) := by decide +kernel
theorem dL_law_2154 : decode (mC M_L_law) 2154 = .ok (.i2l, 1) := by decide +kernel
theorem dL_law_2155 : decode (mC M_L_law) 2155 = .ok (.lcmp, 1) := by decide +kernel
theorem dL_law_2156 : decode (mC M_L_law) 2156 = .ok (.ifCond .eq 5, 3) := by decide +kernel
theorem dL_law_2159 : decode (mC M_L_law) 2159 = .ok (.iconst 0, 1) := by decide +kernel
theorem dL_law_2160 : decode (mC M_L_law) 2160 = .ok (.ireturn, 1) := by decide +kernel
theorem dL_law_2161 : decode (mC M_L_law) 2161 = .ok (.goto 71, 3) := by decide +kernel
theorem dL_law_2164 : decode (mC M_L_law) 2164 = .ok (.aload_n 1, 1) := by decide +kernel
theorem dL_law_2165 : decode (mC M_L_law) 2165 = .ok (.aload_n 0, 1) := by decide +kernel
theorem dL_law_2166 : decode (mC M_L_law) 2166 = .ok (.iload 4, 2) := by decide +kernel
theorem dL_law_2168 : decode (mC M_L_law) 2168 = .ok (.iconst 1, 1) := by decide +kernel
theorem dL_law_2169 : decode (mC M_L_law) 2169 = .ok (.iadd, 1) := by decide +kernel
theorem dL_law_2170 : decode (mC M_L_law) 2170 = .ok (.iaload, 1) := by decide +kernel
theorem dL_law_2171 : decode (mC M_L_law) 2171 = .ok (.aload_n 0, 1) := by decide +kernel
theorem dL_law_2172 : decode (mC M_L_law) 2172 = .ok (.iload 4, 2) := by decide +kernel
theorem dL_law_2174 : decode (mC M_L_law) 2174 = .ok (.iconst 2, 1) := by decide +kernel
theorem dL_law_2175 : decode (mC M_L_law) 2175 = .ok (.iadd, 1) := by decide +kernel
theorem dL_law_2176 : decode (mC M_L_law) 2176 = .ok (.iaload, 1) := by decide +kernel
theorem dL_law_2177 : decode (mC M_L_law) 2177 = .ok (.aload_n 3, 1) := by decide +kernel
theorem dL_law_2178 : decode (mC M_L_law) 2178 = .ok (.invokestatic 233, 3) := by decide +kernel
theorem dL_law_2181 : decode (mC M_L_law) 2181 = .ok (.istore 5, 2) := by decide +kernel
theorem dL_law_2183 : decode (mC M_L_law) 2183 = .ok (.aload_n 2, 1) := by decide +kernel
theorem dL_law_2184 : decode (mC M_L_law) 2184 = .ok (.aload_n 0, 1) := by decide +kernel
theorem dL_law_2185 : decode (mC M_L_law) 2185 = .ok (.iload 4, 2) := by decide +kernel
theorem dL_law_2187 : decode (mC M_L_law) 2187 = .ok (.iconst 1, 1) := by decide +kernel
theorem dL_law_2188 : decode (mC M_L_law) 2188 = .ok (.iadd, 1) := by decide +kernel
theorem dL_law_2189 : decode (mC M_L_law) 2189 = .ok (.iaload, 1) := by decide +kernel
theorem dL_law_2190 : decode (mC M_L_law) 2190 = .ok (.aload_n 0, 1) := by decide +kernel
theorem dL_law_2191 : decode (mC M_L_law) 2191 = .ok (.iload 4, 2) := by decide +kernel
theorem dL_law_2193 : decode (mC M_L_law) 2193 = .ok (.iconst 2, 1) := by decide +kernel
theorem dL_law_2194 : decode (mC M_L_law) 2194 = .ok (.iadd, 1) := by decide +kernel
theorem dL_law_2195 : decode (mC M_L_law) 2195 = .ok (.iaload, 1) := by decide +kernel
theorem dL_law_2196 : decode (mC M_L_law) 2196 = .ok (.invokevirtual 235, 3) := by decide +kernel
theorem dL_law_2199 : decode (mC M_L_law) 2199 = .ok (.istore 6, 2) := by decide +kernel
theorem dL_law_2201 : decode (mC M_L_law) 2201 = .ok (.aload_n 2, 1) := by decide +kernel
theorem dL_law_2202 : decode (mC M_L_law) 2202 = .ok (.invokevirtual 127, 3) := by decide +kernel
theorem dL_law_2205 : decode (mC M_L_law) 2205 = .ok (.iload 5, 2) := by decide +kernel
theorem dL_law_2207 : decode (mC M_L_law) 2207 = .ok (.if_icmp .eq 5, 3) := by decide +kernel
theorem dL_law_2210 : decode (mC M_L_law) 2210 = .ok (.iconst 0, 1) := by decide +kernel
theorem dL_law_2211 : decode (mC M_L_law) 2211 = .ok (.ireturn, 1) := by decide +kernel
theorem dL_law_2212 : decode (mC M_L_law) 2212 = .ok (.iload 5, 2) := by decide +kernel
theorem dL_law_2214 : decode (mC M_L_law) 2214 = .ok (.ifCond .ne 15, 3) := by decide +kernel
theorem dL_law_2217 : decode (mC M_L_law) 2217 = .ok (.aload_n 3, 1) := by decide +kernel
theorem dL_law_2218 : decode (mC M_L_law) 2218 = .ok (.iconst 0, 1) := by decide +kernel
theorem dL_law_2219 : decode (mC M_L_law) 2219 = .ok (.laload, 1) := by decide +kernel
theorem dL_law_2220 : decode (mC M_L_law) 2220 = .ok (.iload 6, 2) := by decide +kernel
theorem dL_law_2222 : decode (mC M_L_law) 2222 = .ok (.i2l, 1) := by decide +kernel
theorem dL_law_2223 : decode (mC M_L_law) 2223 = .ok (.lcmp, 1) := by decide +kernel
theorem dL_law_2224 : decode (mC M_L_law) 2224 = .ok (.ifCond .eq 5, 3) := by decide +kernel
theorem dL_law_2227 : decode (mC M_L_law) 2227 = .ok (.iconst 0, 1) := by decide +kernel
theorem dL_law_2228 : decode (mC M_L_law) 2228 = .ok (.ireturn, 1) := by decide +kernel
theorem dL_law_2229 : decode (mC M_L_law) 2229 = .ok (.goto 3, 3) := by decide +kernel
theorem dL_law_2232 : decode (mC M_L_law) 2232 = .ok (.iinc 4 5, 3) := by decide +kernel
theorem dL_law_2235 : decode (mC M_L_law) 2235 = .ok (.goto (-2212), 3) := by decide +kernel
theorem dL_law_2238 : decode (mC M_L_law) 2238 = .ok (.iconst 1, 1) := by decide +kernel
theorem dL_law_2239 : decode (mC M_L_law) 2239 = .ok (.ireturn, 1) := by decide +kernel
