theorem md_L_law_274 : decode mb_L_law 274 = .ok (.lshl, 1) := by decide +kernel
theorem md_L_law_275 : decode mb_L_law 275 = .ok (.aload_n 0, 1) := by decide +kernel
theorem md_L_law_276 : decode mb_L_law 276 = .ok (.iload 4, 2) := by decide +kernel
theorem md_L_law_278 : decode mb_L_law 278 = .ok (.iconst 4, 1) := by decide +kernel
theorem md_L_law_279 : decode mb_L_law 279 = .ok (.iadd, 1) := by decide +kernel
theorem md_L_law_280 : decode mb_L_law 280 = .ok (.iaload, 1) := by decide +kernel
theorem md_L_law_281 : decode mb_L_law 281 = .ok (.i2l, 1) := by decide +kernel
theorem md_L_law_282 : decode mb_L_law 282 = .ok (.ldc2_w 94, 3) := by decide +kernel
theorem md_L_law_285 : decode mb_L_law 285 = .ok (.land, 1) := by decide +kernel
theorem md_L_law_286 : decode mb_L_law 286 = .ok (.lor, 1) := by decide +kernel
theorem md_L_law_287 : decode mb_L_law 287 = .ok (.aload_n 0, 1) := by decide +kernel
theorem md_L_law_288 : decode mb_L_law 288 = .ok (.iload 4, 2) := by decide +kernel
theorem md_L_law_290 : decode mb_L_law 290 = .ok (.iconst 5, 1) := by decide +kernel
theorem md_L_law_291 : decode mb_L_law 291 = .ok (.iadd, 1) := by decide +kernel
theorem md_L_law_292 : decode mb_L_law 292 = .ok (.iaload, 1) := by decide +kernel
theorem md_L_law_293 : decode mb_L_law 293 = .ok (.aload_n 3, 1) := by decide +kernel
theorem md_L_law_294 : decode mb_L_law 294 = .ok (.invokestatic 96, 3) := by decide +kernel
theorem md_L_law_297 : decode mb_L_law 297 = .ok (.istore 5, 2) := by decide +kernel
theorem md_L_law_299 : decode mb_L_law 299 = .ok (.aload_n 2, 1) := by decide +kernel
theorem md_L_law_300 : decode mb_L_law 300 = .ok (.aload_n 0, 1) := by decide +kernel
theorem md_L_law_301 : decode mb_L_law 301 = .ok (.iload 4, 2) := by decide +kernel
theorem md_L_law_303 : decode mb_L_law 303 = .ok (.iconst 1, 1) := by decide +kernel
theorem md_L_law_304 : decode mb_L_law 304 = .ok (.iadd, 1) := by decide +kernel
theorem md_L_law_305 : decode mb_L_law 305 = .ok (.iaload, 1) := by decide +kernel
theorem md_L_law_306 : decode mb_L_law 306 = .ok (.i2l, 1) := by decide +kernel
theorem md_L_law_307 : decode mb_L_law 307 = .ok (.bipush 32, 2) := by decide +kernel
theorem md_L_law_309 : decode mb_L_law 309 = .ok (.lshl, 1) := by decide +kernel
theorem md_L_law_310 : decode mb_L_law 310 = .ok (.aload_n 0, 1) := by decide +kernel
theorem md_L_law_311 : decode mb_L_law 311 = .ok (.iload 4, 2) := by decide +kernel
theorem md_L_law_313 : decode mb_L_law 313 = .ok (.iconst 2, 1) := by decide +kernel
theorem md_L_law_314 : decode mb_L_law 314 = .ok (.iadd, 1) := by decide +kernel
theorem md_L_law_315 : decode mb_L_law 315 = .ok (.iaload, 1) := by decide +kernel
theorem md_L_law_316 : decode mb_L_law 316 = .ok (.i2l, 1) := by decide +kernel
theorem md_L_law_317 : decode mb_L_law 317 = .ok (.ldc2_w 94, 3) := by decide +kernel
theorem md_L_law_320 : decode mb_L_law 320 = .ok (.land, 1) := by decide +kernel
theorem md_L_law_321 : decode mb_L_law 321 = .ok (.lor, 1) := by decide +kernel
theorem md_L_law_322 : decode mb_L_law 322 = .ok (.aload_n 0, 1) := by decide +kernel
theorem md_L_law_323 : decode mb_L_law 323 = .ok (.iload 4, 2) := by decide +kernel
theorem md_L_law_325 : decode mb_L_law 325 = .ok (.iconst 3, 1) := by decide +kernel
theorem md_L_law_326 : decode mb_L_law 326 = .ok (.iadd, 1) := by decide +kernel
theorem md_L_law_327 : decode mb_L_law 327 = .ok (.iaload, 1) := by decide +kernel
theorem md_L_law_328 : decode mb_L_law 328 = .ok (.i2l, 1) := by decide +kernel
theorem md_L_law_329 : decode mb_L_law 329 = .ok (.bipush 32, 2) := by decide +kernel
theorem md_L_law_331 : decode mb_L_law 331 = .ok (.lshl, 1) := by decide +kernel
theorem md_L_law_332 : decode mb_L_law 332 = .ok (.aload_n 0, 1) := by decide +kernel
theorem md_L_law_333 : decode mb_L_law 333 = .ok (.iload 4, 2) := by decide +kernel
theorem md_L_law_335 : decode mb_L_law 335 = .ok (.iconst 4, 1) := by decide +kernel
theorem md_L_law_336 : decode mb_L_law 336 = .ok (.iadd, 1) := by decide +kernel
theorem md_L_law_337 : decode mb_L_law 337 = .ok (.iaload, 1) := by decide +kernel
theorem md_L_law_338 : decode mb_L_law 338 = .ok (.i2l, 1) := by decide +kernel
theorem md_L_law_339 : decode mb_L_law 339 = .ok (.ldc2_w 94, 3) := by decide +kernel
theorem md_L_law_342 : decode mb_L_law 342 = .ok (.land, 1) := by decide +kernel
theorem md_L_law_343 : decode mb_L_law 343 = .ok (.lor, 1) := by decide +kernel
theorem md_L_law_344 : decode mb_L_law 344 = .ok (.aload_n 0, 1) := by decide +kernel
theorem md_L_law_345 : decode mb_L_law 345 = .ok (.iload 4, 2) := by decide +kernel
theorem md_L_law_347 : decode mb_L_law 347 = .ok (.iconst 5, 1) := by decide +kernel
theorem md_L_law_348 : decode mb_L_law 348 = .ok (.iadd, 1) := by decide +kernel
theorem md_L_law_349 : decode mb_L_law 349 = .ok (.iaload, 1) := by decide +kernel
theorem md_L_law_350 : decode mb_L_law 350 = .ok (.invokevirtual 99, 3) := by decide +kernel
theorem md_L_law_353 : decode mb_L_law 353 = .ok (.istore 6, 2) := by decide +kernel
theorem md_L_law_355 : decode mb_L_law 355 = .ok (.goto 828, 3) := by decide +kernel
theorem md_L_law_358 : decode mb_L_law 358 = .ok (.aload_n 1, 1) := by decide +kernel
theorem md_L_law_359 : decode mb_L_law 359 = .ok (.aload_n 0, 1) := by decide +kernel
theorem md_L_law_360 : decode mb_L_law 360 = .ok (.iload 4, 2) := by decide +kernel
theorem md_L_law_362 : decode mb_L_law 362 = .ok (.iconst 1, 1) := by decide +kernel
theorem md_L_law_363 : decode mb_L_law 363 = .ok (.iadd, 1) := by decide +kernel
theorem md_L_law_364 : decode mb_L_law 364 = .ok (.iaload, 1) := by decide +kernel
theorem md_L_law_365 : decode mb_L_law 365 = .ok (.aload_n 0, 1) := by decide +kernel
theorem md_L_law_366 : decode mb_L_law 366 = .ok (.iload 4, 2) := by decide +kernel
theorem md_L_law_368 : decode mb_L_law 368 = .ok (.iconst 2, 1) := by decide +kernel
theorem md_L_law_369 : decode mb_L_law 369 = .ok (.iadd, 1) := by decide +kernel
theorem md_L_law_370 : decode mb_L_law 370 = .ok (.iaload, 1) := by decide +kernel
theorem md_L_law_371 : decode mb_L_law 371 = .ok (.aload_n 3, 1) := by decide +kernel
theorem md_L_law_372 : decode mb_L_law 372 = .ok (.invokestatic 100, 3) := by decide +kernel
theorem md_L_law_375 : decode mb_L_law 375 = .ok (.istore 5, 2) := by decide +kernel
theorem md_L_law_377 : decode mb_L_law 377 = .ok (.aload_n 2, 1) := by decide +kernel
theorem md_L_law_378 : decode mb_L_law 378 = .ok (.aload_n 0, 1) := by decide +kernel
theorem md_L_law_379 : decode mb_L_law 379 = .ok (.iload 4, 2) := by decide +kernel
theorem md_L_law_381 : decode mb_L_law 381 = .ok (.iconst 1, 1) := by decide +kernel
theorem md_L_law_382 : decode mb_L_law 382 = .ok (.iadd, 1) := by decide +kernel
theorem md_L_law_383 : decode mb_L_law 383 = .ok (.iaload, 1) := by decide +kernel
theorem md_L_law_384 : decode mb_L_law 384 = .ok (.aload_n 0, 1) := by decide +kernel
theorem md_L_law_385 : decode mb_L_law 385 = .ok (.iload 4, 2) := by decide +kernel
theorem md_L_law_387 : decode mb_L_law 387 = .ok (.iconst 2, 1) := by decide +kernel
theorem md_L_law_388 : decode mb_L_law 388 = .ok (.iadd, 1) := by decide +kernel
theorem md_L_law_389 : decode mb_L_law 389 = .ok (.iaload, 1) := by decide +kernel
theorem md_L_law_390 : decode mb_L_law 390 = .ok (.invokevirtual 102, 3) := by decide +kernel
theorem md_L_law_393 : decode mb_L_law 393 = .ok (.istore 6, 2) := by decide +kernel
theorem md_L_law_395 : decode mb_L_law 395 = .ok (.goto 788, 3) := by decide +kernel
theorem md_L_law_398 : decode mb_L_law 398 = .ok (.aload_n 1, 1) := by decide +kernel
theorem md_L_law_399 : decode mb_L_law 399 = .ok (.aload_n 0, 1) := by decide +kernel
theorem md_L_law_400 : decode mb_L_law 400 = .ok (.iload 4, 2) := by decide +kernel
theorem md_L_law_402 : decode mb_L_law 402 = .ok (.iconst 1, 1) := by decide +kernel
theorem md_L_law_403 : decode mb_L_law 403 = .ok (.iadd, 1) := by decide +kernel
theorem md_L_law_404 : decode mb_L_law 404 = .ok (.iaload, 1) := by decide +kernel
theorem md_L_law_405 : decode mb_L_law 405 = .ok (.i2l, 1) := by decide +kernel
theorem md_L_law_406 : decode mb_L_law 406 = .ok (.bipush 32, 2) := by decide +kernel
theorem md_L_law_408 : decode mb_L_law 408 = .ok (.lshl, 1) := by decide +kernel
theorem md_L_law_409 : decode mb_L_law 409 = .ok (.aload_n 0, 1) := by decide +kernel
theorem md_L_law_410 : decode mb_L_law 410 = .ok (.iload 4, 2) := by decide +kernel
theorem md_L_law_412 : decode mb_L_law 412 = .ok (.iconst 2, 1) := by decide +kernel
theorem md_L_law_413 : decode mb_L_law 413 = .ok (.iadd, 1) := by decide +kernel
theorem md_L_law_414 : decode mb_L_law 414 = .ok (.iaload, 1) := by decide +kernel
theorem md_L_law_415 : decode mb_L_law 415 = .ok (.i2l, 1) := by decide +kernel
theorem md_L_law_416 : decode mb_L_law 416 = .ok (.ldc2_w 94, 3) := by decide +kernel
theorem md_L_law_419 : decode mb_L_law 419 = .ok (.land, 1) := by decide +kernel
theorem md_L_law_420 : decode mb_L_law 420 = .ok (.lor, 1) := by decide +kernel
theorem md_L_law_421 : decode mb_L_law 421 = .ok (.aload_n 3, 1) := by decide +kernel
theorem md_L_law_422 : decode mb_L_law 422 = .ok (.invokestatic 103, 3) := by decide +kernel
theorem md_L_law_425 : decode mb_L_law 425 = .ok (.istore 5, 2) := by decide +kernel
theorem md_L_law_427 : decode mb_L_law 427 = .ok (.aload_n 2, 1) := by decide +kernel
theorem md_L_law_428 : decode mb_L_law 428 = .ok (.aload_n 0, 1) := by decide +kernel
theorem md_L_law_429 : decode mb_L_law 429 = .ok (.iload 4, 2) := by decide +kernel
theorem md_L_law_431 : decode mb_L_law 431 = .ok (.iconst 1, 1) := by decide +kernel
theorem md_L_law_432 : decode mb_L_law 432 = .ok (.iadd, 1) := by decide +kernel
theorem md_L_law_433 : decode mb_L_law 433 = .ok (.iaload, 1) := by decide +kernel
theorem md_L_law_434 : decode mb_L_law 434 = .ok (.i2l, 1) := by decide +kernel
theorem md_L_law_435 : decode mb_L_law 435 = .ok (.bipush 32, 2) := by decide +kernel
theorem md_L_law_437 : decode mb_L_law 437 = .ok (.lshl, 1) := by decide +kernel
theorem md_L_law_438 : decode mb_L_law 438 = .ok (.aload_n 0, 1) := by decide +kernel
theorem md_L_law_439 : decode mb_L_law 439 = .ok (.iload 4, 2) := by decide +kernel
theorem md_L_law_441 : decode mb_L_law 441 = .ok (.iconst 2, 1) := by decide +kernel
theorem md_L_law_442 : decode mb_L_law 442 = .ok (.iadd, 1) := by decide +kernel
theorem md_L_law_443 : decode mb_L_law 443 = .ok (.iaload, 1) := by decide +kernel
theorem md_L_law_444 : decode mb_L_law 444 = .ok (.i2l, 1) := by decide +kernel
theorem md_L_law_445 : decode mb_L_law 445 = .ok (.ldc2_w 94, 3) := by decide +kernel
theorem md_L_law_448 : decode mb_L_law 448 = .ok (.land, 1) := by decide +kernel
theorem md_L_law_449 : decode mb_L_law 449 = .ok (.lor, 1) := by decide +kernel
theorem md_L_law_450 : decode mb_L_law 450 = .ok (.invokevirtual 106, 3) := by decide +kernel
theorem md_L_law_453 : decode mb_L_law 453 = .ok (.istore 6, 2) := by decide +kernel
