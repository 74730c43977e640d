theorem dL_isSo_217 : decode cL_isSo 217 = .ok (.aload_n 0, 1) := by decide +kernel
theorem dL_isSo_218 : decode cL_isSo 218 = .ok (.iload 8, 2) := by decide +kernel
theorem dL_isSo_220 : decode cL_isSo 220 = .ok (.invokestatic 200, 3) := by decide +kernel
theorem dL_isSo_223 : decode cL_isSo 223 = .ok (.iload 11, 2) := by decide +kernel
theorem dL_isSo_225 : decode cL_isSo 225 = .ok (.if_icmp .ne 7, 3) := by decide +kernel
theorem dL_isSo_228 : decode cL_isSo 228 = .ok (.iconst 1, 1) := by decide +kernel
theorem dL_isSo_229 : decode cL_isSo 229 = .ok (.goto 4, 3) := by decide +kernel
theorem dL_isSo_232 : decode cL_isSo 232 = .ok (.iconst 0, 1) := by decide +kernel
theorem dL_isSo_233 : decode cL_isSo 233 = .ok (.istore 7, 2) := by decide +kernel
theorem dL_isSo_235 : decode cL_isSo 235 = .ok (.iinc 8 1, 3) := by decide +kernel
theorem dL_isSo_238 : decode cL_isSo 238 = .ok (.goto (-226), 3) := by decide +kernel
theorem dL_isSo_241 : decode cL_isSo 241 = .ok (.iload 4, 2) := by decide +kernel
theorem dL_isSo_243 : decode cL_isSo 243 = .ok (.bipush 8, 2) := by decide +kernel
theorem dL_isSo_245 : decode cL_isSo 245 = .ok (.irem, 1) := by decide +kernel
theorem dL_isSo_246 : decode cL_isSo 246 = .ok (.istore 8, 2) := by decide +kernel
theorem dL_isSo_248 : decode cL_isSo 248 = .ok (.iload 4, 2) := by decide +kernel
theorem dL_isSo_250 : decode cL_isSo 250 = .ok (.bipush 8, 2) := by decide +kernel
theorem dL_isSo_252 : decode cL_isSo 252 = .ok (.idiv, 1) := by decide +kernel
theorem dL_isSo_253 : decode cL_isSo 253 = .ok (.bipush 8, 2) := by decide +kernel
theorem dL_isSo_255 : decode cL_isSo 255 = .ok (.irem, 1) := by decide +kernel
theorem dL_isSo_256 : decode cL_isSo 256 = .ok (.istore 9, 2) := by decide +kernel
theorem dL_isSo_258 : decode cL_isSo 258 = .ok (.lconst 0, 1) := by decide +kernel
theorem dL_isSo_259 : decode cL_isSo 259 = .ok (.lstore 10, 2) := by decide +kernel
theorem dL_isSo_261 : decode cL_isSo 261 = .ok (.iconst 0, 1) := by decide +kernel
theorem dL_isSo_262 : decode cL_isSo 262 = .ok (.istore 12, 2) := by decide +kernel
theorem dL_isSo_264 : decode cL_isSo 264 = .ok (.iload 12, 2) := by decide +kernel
theorem dL_isSo_266 : decode cL_isSo 266 = .ok (.bipush 8, 2) := by decide +kernel
theorem dL_isSo_268 : decode cL_isSo 268 = .ok (.if_icmp .ge 101, 3) := by decide +kernel
theorem dL_isSo_271 : decode cL_isSo 271 = .ok (.lload 10, 2) := by decide +kernel
theorem dL_isSo_273 : decode cL_isSo 273 = .ok (.aload_n 2, 1) := by decide +kernel
theorem dL_isSo_274 : decode cL_isSo 274 = .ok (.bipush 8, 2) := by decide +kernel
theorem dL_isSo_276 : decode cL_isSo 276 = .ok (.iload 8, 2) := by decide +kernel
theorem dL_isSo_278 : decode cL_isSo 278 = .ok (.imul, 1) := by decide +kernel
theorem dL_isSo_279 : decode cL_isSo 279 = .ok (.iload 12, 2) := by decide +kernel
theorem dL_isSo_281 : decode cL_isSo 281 = .ok (.iadd, 1) := by decide +kernel
theorem dL_isSo_282 : decode cL_isSo 282 = .ok (.iaload, 1) := by decide +kernel
theorem dL_isSo_283 : decode cL_isSo 283 = .ok (.i2l, 1) := by decide +kernel
theorem dL_isSo_284 : decode cL_isSo 284 = .ok (.aload_n 2, 1) := by decide +kernel
theorem dL_isSo_285 : decode cL_isSo 285 = .ok (.bipush 8, 2) := by decide +kernel
theorem dL_isSo_287 : decode cL_isSo 287 = .ok (.iload 9, 2) := by decide +kernel
theorem dL_isSo_289 : decode cL_isSo 289 = .ok (.imul, 1) := by decide +kernel
theorem dL_isSo_290 : decode cL_isSo 290 = .ok (.iload 12, 2) := by decide +kernel
theorem dL_isSo_292 : decode cL_isSo 292 = .ok (.iadd, 1) := by decide +kernel
theorem dL_isSo_293 : decode cL_isSo 293 = .ok (.iaload, 1) := by decide +kernel
theorem dL_isSo_294 : decode cL_isSo 294 = .ok (.i2l, 1) := by decide +kernel
theorem dL_isSo_295 : decode cL_isSo 295 = .ok (.lmul, 1) := by decide +kernel
theorem dL_isSo_296 : decode cL_isSo 296 = .ok (.ladd, 1) := by decide +kernel
theorem dL_isSo_297 : decode cL_isSo 297 = .ok (.lstore 10, 2) := by decide +kernel
theorem dL_isSo_299 : decode cL_isSo 299 = .ok (.bipush 8, 2) := by decide +kernel
theorem dL_isSo_301 : decode cL_isSo 301 = .ok (.newarray .long, 2) := by decide +kernel
theorem dL_isSo_303 : decode cL_isSo 303 = .ok (.astore 13, 2) := by decide +kernel
theorem dL_isSo_305 : decode cL_isSo 305 = .ok (.aload 13, 2) := by decide +kernel
theorem dL_isSo_307 : decode cL_isSo 307 = .ok (.iload 12, 2) := by decide +kernel
theorem dL_isSo_309 : decode cL_isSo 309 = .ok (.ldc2_w 23, 3) := by decide +kernel
theorem dL_isSo_312 : decode cL_isSo 312 = .ok (.lastore, 1) := by decide +kernel
theorem dL_isSo_313 : decode cL_isSo 313 = .ok (.aload_n 3, 1) := by decide +kernel
theorem dL_isSo_314 : decode cL_isSo 314 = .ok (.aload_n 2, 1) := by decide +kernel
theorem dL_isSo_315 : decode cL_isSo 315 = .ok (.iload 8, 2) := by decide +kernel
theorem dL_isSo_317 : decode cL_isSo 317 = .ok (.invokestatic 116, 3) := by decide +kernel
theorem dL_isSo_320 : decode cL_isSo 320 = .ok (.aload 13, 2) := by decide +kernel
theorem dL_isSo_322 : decode cL_isSo 322 = .ok (.invokestatic 39, 3) := by decide +kernel
theorem dL_isSo_325 : decode cL_isSo 325 = .ok (.astore 14, 2) := by decide +kernel
theorem dL_isSo_327 : decode cL_isSo 327 = .ok (.iload 7, 2) := by decide +kernel
theorem dL_isSo_329 : decode cL_isSo 329 = .ok (.ifCond .eq 31, 3) := by decide +kernel
theorem dL_isSo_332 : decode cL_isSo 332 = .ok (.aload_n 0, 1) := by decide +kernel
theorem dL_isSo_333 : decode cL_isSo 333 = .ok (.iload 8, 2) := by decide +kernel
theorem dL_isSo_335 : decode cL_isSo 335 = .ok (.iload 9, 2) := by decide +kernel
theorem dL_isSo_337 : decode cL_isSo 337 = .ok (.iload 12, 2) := by decide +kernel
theorem dL_isSo_339 : decode cL_isSo 339 = .ok (.invokestatic 202, 3) := by decide +kernel
theorem dL_isSo_342 : decode cL_isSo 342 = .ok (.i2l, 1) := by decide +kernel
theorem dL_isSo_343 : decode cL_isSo 343 = .ok (.aload 14, 2) := by decide +kernel
theorem dL_isSo_345 : decode cL_isSo 345 = .ok (.iload 9, 2) := by decide +kernel
theorem dL_isSo_347 : decode cL_isSo 347 = .ok (.laload, 1) := by decide +kernel
theorem dL_isSo_348 : decode cL_isSo 348 = .ok (.ldc2_w 23, 3) := by decide +kernel
theorem dL_isSo_351 : decode cL_isSo 351 = .ok (.ldiv, 1) := by decide +kernel
theorem dL_isSo_352 : decode cL_isSo 352 = .ok (.lcmp, 1) := by decide +kernel
theorem dL_isSo_353 : decode cL_isSo 353 = .ok (.ifCond .ne 7, 3) := by decide +kernel
theorem dL_isSo_356 : decode cL_isSo 356 = .ok (.iconst 1, 1) := by decide +kernel
theorem dL_isSo_357 : decode cL_isSo 357 = .ok (.goto 4, 3) := by decide +kernel
theorem dL_isSo_360 : decode cL_isSo 360 = .ok (.iconst 0, 1) := by decide +kernel
theorem dL_isSo_361 : decode cL_isSo 361 = .ok (.istore 7, 2) := by decide +kernel
theorem dL_isSo_363 : decode cL_isSo 363 = .ok (.iinc 12 1, 3) := by decide +kernel
theorem dL_isSo_366 : decode cL_isSo 366 = .ok (.goto (-102), 3) := by decide +kernel
theorem dL_isSo_369 : decode cL_isSo 369 = .ok (.iload 7, 2) := by decide +kernel
theorem dL_isSo_371 : decode cL_isSo 371 = .ok (.ifCond .eq 88, 3) := by decide +kernel
theorem dL_isSo_374 : decode cL_isSo 374 = .ok (.aload_n 0, 1) := by decide +kernel
theorem dL_isSo_375 : decode cL_isSo 375 = .ok (.iload 8, 2) := by decide +kernel
theorem dL_isSo_377 : decode cL_isSo 377 = .ok (.iload 9, 2) := by decide +kernel
theorem dL_isSo_379 : decode cL_isSo 379 = .ok (.invokestatic 205, 3) := by decide +kernel
theorem dL_isSo_382 : decode cL_isSo 382 = .ok (.lload 10, 2) := by decide +kernel
theorem dL_isSo_384 : decode cL_isSo 384 = .ok (.lcmp, 1) := by decide +kernel
theorem dL_isSo_385 : decode cL_isSo 385 = .ok (.ifCond .ne 74, 3) := by decide +kernel
theorem dL_isSo_388 : decode cL_isSo 388 = .ok (.aload_n 0, 1) := by decide +kernel
theorem dL_isSo_389 : decode cL_isSo 389 = .ok (.iconst 0, 1) := by decide +kernel
theorem dL_isSo_390 : decode cL_isSo 390 = .ok (.invokestatic 209, 3) := by decide +kernel
theorem dL_isSo_393 : decode cL_isSo 393 = .ok (.aload_n 1, 1) := by decide +kernel
theorem dL_isSo_394 : decode cL_isSo 394 = .ok (.iconst 0, 1) := by decide +kernel
theorem dL_isSo_395 : decode cL_isSo 395 = .ok (.iaload, 1) := by decide +kernel
theorem dL_isSo_396 : decode cL_isSo 396 = .ok (.if_icmp .ne 63, 3) := by decide +kernel
theorem dL_isSo_399 : decode cL_isSo 399 = .ok (.aload_n 0, 1) := by decide +kernel
theorem dL_isSo_400 : decode cL_isSo 400 = .ok (.iconst 1, 1) := by decide +kernel
theorem dL_isSo_401 : decode cL_isSo 401 = .ok (.invokestatic 209, 3) := by decide +kernel
theorem dL_isSo_404 : decode cL_isSo 404 = .ok (.aload_n 1, 1) := by decide +kernel
theorem dL_isSo_405 : decode cL_isSo 405 = .ok (.iconst 0, 1) := by decide +kernel
theorem dL_isSo_406 : decode cL_isSo 406 = .ok (.iaload, 1) := by decide +kernel
theorem dL_isSo_407 : decode cL_isSo 407 = .ok (.invokestatic 124, 3) := by decide +kernel
theorem dL_isSo_410 : decode cL_isSo 410 = .ok (.if_icmp .ne 49, 3) := by decide +kernel
theorem dL_isSo_413 : decode cL_isSo 413 = .ok (.aload_n 0, 1) := by decide +kernel
theorem dL_isSo_414 : decode cL_isSo 414 = .ok (.iconst 2, 1) := by decide +kernel
theorem dL_isSo_415 : decode cL_isSo 415 = .ok (.invokestatic 209, 3) := by decide +kernel
theorem dL_isSo_418 : decode cL_isSo 418 = .ok (.aload_n 1, 1) := by decide +kernel
theorem dL_isSo_419 : decode cL_isSo 419 = .ok (.iconst 1, 1) := by decide +kernel
theorem dL_isSo_420 : decode cL_isSo 420 = .ok (.iaload, 1) := by decide +kernel
theorem dL_isSo_421 : decode cL_isSo 421 = .ok (.if_icmp .ne 38, 3) := by decide +kernel
theorem dL_isSo_424 : decode cL_isSo 424 = .ok (.aload_n 0, 1) := by decide +kernel
theorem dL_isSo_425 : decode cL_isSo 425 = .ok (.iconst 3, 1) := by decide +kernel
theorem dL_isSo_426 : decode cL_isSo 426 = .ok (.invokestatic 209, 3) := by decide +kernel
theorem dL_isSo_429 : decode cL_isSo 429 = .ok (.aload_n 1, 1) := by decide +kernel
theorem dL_isSo_430 : decode cL_isSo 430 = .ok (.iconst 2, 1) := by decide +kernel
theorem dL_isSo_431 : decode cL_isSo 431 = .ok (.iaload, 1) := by decide +kernel
