theorem md_L_law_283 : decode mb_L_law 283 = .ok (.iaload, 1) := by decide +kernel
theorem md_L_law_284 : decode mb_L_law 284 = .ok (.i2l, 1) := by decide +kernel
theorem md_L_law_285 : decode mb_L_law 285 = .ok (.bipush 32, 2) := by decide +kernel
theorem md_L_law_287 : decode mb_L_law 287 = .ok (.lshl, 1) := by decide +kernel
theorem md_L_law_288 : decode mb_L_law 288 = .ok (.aload_n 0, 1) := by decide +kernel
theorem md_L_law_289 : decode mb_L_law 289 = .ok (.iload 4, 2) := by decide +kernel
theorem md_L_law_291 : decode mb_L_law 291 = .ok (.iconst 2, 1) := by decide +kernel
theorem md_L_law_292 : decode mb_L_law 292 = .ok (.iadd, 1) := by decide +kernel
theorem md_L_law_293 : decode mb_L_law 293 = .ok (.iaload, 1) := by decide +kernel
theorem md_L_law_294 : decode mb_L_law 294 = .ok (.i2l, 1) := by decide +kernel
theorem md_L_law_295 : decode mb_L_law 295 = .ok (.ldc2_w 97, 3) := by decide +kernel
theorem md_L_law_298 : decode mb_L_law 298 = .ok (.land, 1) := by decide +kernel
theorem md_L_law_299 : decode mb_L_law 299 = .ok (.lor, 1) := by decide +kernel
theorem md_L_law_300 : decode mb_L_law 300 = .ok (.aload_n 0, 1) := by decide +kernel
theorem md_L_law_301 : decode mb_L_law 301 = .ok (.iload 4, 2) := by decide +kernel
theorem md_L_law_303 : decode mb_L_law 303 = .ok (.iconst 3, 1) := by decide +kernel
theorem md_L_law_304 : decode mb_L_law 304 = .ok (.iadd, 1) := by decide +kernel
theorem md_L_law_305 : decode mb_L_law 305 = .ok (.iaload, 1) := by decide +kernel
theorem md_L_law_306 : decode mb_L_law 306 = .ok (.i2l, 1) := by decide +kernel
theorem md_L_law_307 : decode mb_L_law 307 = .ok (.bipush 32, 2) := by decide +kernel
theorem md_L_law_309 : decode mb_L_law 309 = .ok (.lshl, 1) := by decide +kernel
theorem md_L_law_310 : decode mb_L_law 310 = .ok (.aload_n 0, 1) := by decide +kernel
theorem md_L_law_311 : decode mb_L_law 311 = .ok (.iload 4, 2) := by decide +kernel
theorem md_L_law_313 : decode mb_L_law 313 = .ok (.iconst 4, 1) := by decide +kernel
theorem md_L_law_314 : decode mb_L_law 314 = .ok (.iadd, 1) := by decide +kernel
theorem md_L_law_315 : decode mb_L_law 315 = .ok (.iaload, 1) := by decide +kernel
theorem md_L_law_316 : decode mb_L_law 316 = .ok (.i2l, 1) := by decide +kernel
theorem md_L_law_317 : decode mb_L_law 317 = .ok (.ldc2_w 97, 3) := by decide +kernel
theorem md_L_law_320 : decode mb_L_law 320 = .ok (.land, 1) := by decide +kernel
theorem md_L_law_321 : decode mb_L_law 321 = .ok (.lor, 1) := by decide +kernel
theorem md_L_law_322 : decode mb_L_law 322 = .ok (.aload_n 0, 1) := by decide +kernel
theorem md_L_law_323 : decode mb_L_law 323 = .ok (.iload 4, 2) := by decide +kernel
theorem md_L_law_325 : decode mb_L_law 325 = .ok (.iconst 5, 1) := by decide +kernel
theorem md_L_law_326 : decode mb_L_law 326 = .ok (.iadd, 1) := by decide +kernel
theorem md_L_law_327 : decode mb_L_law 327 = .ok (.iaload, 1) := by decide +kernel
theorem md_L_law_328 : decode mb_L_law 328 = .ok (.aload_n 3, 1) := by decide +kernel
theorem md_L_law_329 : decode mb_L_law 329 = .ok (.invokestatic 99, 3) := by decide +kernel
theorem md_L_law_332 : decode mb_L_law 332 = .ok (.istore 5, 2) := by decide +kernel
theorem md_L_law_334 : decode mb_L_law 334 = .ok (.aload_n 2, 1) := by decide +kernel
theorem md_L_law_335 : decode mb_L_law 335 = .ok (.aload_n 0, 1) := by decide +kernel
theorem md_L_law_336 : decode mb_L_law 336 = .ok (.iload 4, 2) := by decide +kernel
theorem md_L_law_338 : decode mb_L_law 338 = .ok (.iconst 1, 1) := by decide +kernel
theorem md_L_law_339 : decode mb_L_law 339 = .ok (.iadd, 1) := by decide +kernel
theorem md_L_law_340 : decode mb_L_law 340 = .ok (.iaload, 1) := by decide +kernel
theorem md_L_law_341 : decode mb_L_law 341 = .ok (.i2l, 1) := by decide +kernel
theorem md_L_law_342 : decode mb_L_law 342 = .ok (.bipush 32, 2) := by decide +kernel
theorem md_L_law_344 : decode mb_L_law 344 = .ok (.lshl, 1) := by decide +kernel
theorem md_L_law_345 : decode mb_L_law 345 = .ok (.aload_n 0, 1) := by decide +kernel
theorem md_L_law_346 : decode mb_L_law 346 = .ok (.iload 4, 2) := by decide +kernel
theorem md_L_law_348 : decode mb_L_law 348 = .ok (.iconst 2, 1) := by decide +kernel
theorem md_L_law_349 : decode mb_L_law 349 = .ok (.iadd, 1) := by decide +kernel
theorem md_L_law_350 : decode mb_L_law 350 = .ok (.iaload, 1) := by decide +kernel
theorem md_L_law_351 : decode mb_L_law 351 = .ok (.i2l, 1) := by decide +kernel
theorem md_L_law_352 : decode mb_L_law 352 = .ok (.ldc2_w 97, 3) := by decide +kernel
theorem md_L_law_355 : decode mb_L_law 355 = .ok (.land, 1) := by decide +kernel
theorem md_L_law_356 : decode mb_L_law 356 = .ok (.lor, 1) := by decide +kernel
theorem md_L_law_357 : decode mb_L_law 357 = .ok (.aload_n 0, 1) := by decide +kernel
theorem md_L_law_358 : decode mb_L_law 358 = .ok (.iload 4, 2) := by decide +kernel
theorem md_L_law_360 : decode mb_L_law 360 = .ok (.iconst 3, 1) := by decide +kernel
theorem md_L_law_361 : decode mb_L_law 361 = .ok (.iadd, 1) := by decide +kernel
theorem md_L_law_362 : decode mb_L_law 362 = .ok (.iaload, 1) := by decide +kernel
theorem md_L_law_363 : decode mb_L_law 363 = .ok (.i2l, 1) := by decide +kernel
theorem md_L_law_364 : decode mb_L_law 364 = .ok (.bipush 32, 2) := by decide +kernel
theorem md_L_law_366 : decode mb_L_law 366 = .ok (.lshl, 1) := by decide +kernel
theorem md_L_law_367 : decode mb_L_law 367 = .ok (.aload_n 0, 1) := by decide +kernel
theorem md_L_law_368 : decode mb_L_law 368 = .ok (.iload 4, 2) := by decide +kernel
theorem md_L_law_370 : decode mb_L_law 370 = .ok (.iconst 4, 1) := by decide +kernel
theorem md_L_law_371 : decode mb_L_law 371 = .ok (.iadd, 1) := by decide +kernel
theorem md_L_law_372 : decode mb_L_law 372 = .ok (.iaload, 1) := by decide +kernel
theorem md_L_law_373 : decode mb_L_law 373 = .ok (.i2l, 1) := by decide +kernel
theorem md_L_law_374 : decode mb_L_law 374 = .ok (.ldc2_w 97, 3) := by decide +kernel
theorem md_L_law_377 : decode mb_L_law 377 = .ok (.land, 1) := by decide +kernel
theorem md_L_law_378 : decode mb_L_law 378 = .ok (.lor, 1) := by decide +kernel
theorem md_L_law_379 : decode mb_L_law 379 = .ok (.aload_n 0, 1) := by decide +kernel
theorem md_L_law_380 : decode mb_L_law 380 = .ok (.iload 4, 2) := by decide +kernel
theorem md_L_law_382 : decode mb_L_law 382 = .ok (.iconst 5, 1) := by decide +kernel
theorem md_L_law_383 : decode mb_L_law 383 = .ok (.iadd, 1) := by decide +kernel
theorem md_L_law_384 : decode mb_L_law 384 = .ok (.iaload, 1) := by decide +kernel
theorem md_L_law_385 : decode mb_L_law 385 = .ok (.invokevirtual 102, 3) := by decide +kernel
theorem md_L_law_388 : decode mb_L_law 388 = .ok (.istore 6, 2) := by decide +kernel
theorem md_L_law_390 : decode mb_L_law 390 = .ok (.goto 801, 3) := by decide +kernel
theorem md_L_law_393 : decode mb_L_law 393 = .ok (.aload_n 1, 1) := by decide +kernel
theorem md_L_law_394 : decode mb_L_law 394 = .ok (.aload_n 0, 1) := by decide +kernel
theorem md_L_law_395 : decode mb_L_law 395 = .ok (.iload 4, 2) := by decide +kernel
theorem md_L_law_397 : decode mb_L_law 397 = .ok (.iconst 1, 1) := by decide +kernel
theorem md_L_law_398 : decode mb_L_law 398 = .ok (.iadd, 1) := by decide +kernel
theorem md_L_law_399 : decode mb_L_law 399 = .ok (.iaload, 1) := by decide +kernel
theorem md_L_law_400 : decode mb_L_law 400 = .ok (.aload_n 0, 1) := by decide +kernel
theorem md_L_law_401 : decode mb_L_law 401 = .ok (.iload 4, 2) := by decide +kernel
theorem md_L_law_403 : decode mb_L_law 403 = .ok (.iconst 2, 1) := by decide +kernel
theorem md_L_law_404 : decode mb_L_law 404 = .ok (.iadd, 1) := by decide +kernel
theorem md_L_law_405 : decode mb_L_law 405 = .ok (.iaload, 1) := by decide +kernel
theorem md_L_law_406 : decode mb_L_law 406 = .ok (.aload_n 3, 1) := by decide +kernel
theorem md_L_law_407 : decode mb_L_law 407 = .ok (.invokestatic 103, 3) := by decide +kernel
theorem md_L_law_410 : decode mb_L_law 410 = .ok (.istore 5, 2) := by decide +kernel
theorem md_L_law_412 : decode mb_L_law 412 = .ok (.aload_n 2, 1) := by decide +kernel
theorem md_L_law_413 : decode mb_L_law 413 = .ok (.aload_n 0, 1) := by decide +kernel
theorem md_L_law_414 : decode mb_L_law 414 = .ok (.iload 4, 2) := by decide +kernel
theorem md_L_law_416 : decode mb_L_law 416 = .ok (.iconst 1, 1) := by decide +kernel
theorem md_L_law_417 : decode mb_L_law 417 = .ok (.iadd, 1) := by decide +kernel
theorem md_L_law_418 : decode mb_L_law 418 = .ok (.iaload, 1) := by decide +kernel
theorem md_L_law_419 : decode mb_L_law 419 = .ok (.aload_n 0, 1) := by decide +kernel
theorem md_L_law_420 : decode mb_L_law 420 = .ok (.iload 4, 2) := by decide +kernel
theorem md_L_law_422 : decode mb_L_law 422 = .ok (.iconst 2, 1) := by decide +kernel
theorem md_L_law_423 : decode mb_L_law 423 = .ok (.iadd, 1) := by decide +kernel
theorem md_L_law_424 : decode mb_L_law 424 = .ok (.iaload, 1) := by decide +kernel
theorem md_L_law_425 : decode mb_L_law 425 = .ok (.invokevirtual 105, 3) := by decide +kernel
theorem md_L_law_428 : decode mb_L_law 428 = .ok (.istore 6, 2) := by decide +kernel
theorem md_L_law_430 : decode mb_L_law 430 = .ok (.goto 761, 3) := by decide +kernel
theorem md_L_law_433 : decode mb_L_law 433 = .ok (.aload_n 1, 1) := by decide +kernel
theorem md_L_law_434 : decode mb_L_law 434 = .ok (.aload_n 0, 1) := by decide +kernel
theorem md_L_law_435 : decode mb_L_law 435 = .ok (.iload 4, 2) := by decide +kernel
theorem md_L_law_437 : decode mb_L_law 437 = .ok (.iconst 1, 1) := by decide +kernel
theorem md_L_law_438 : decode mb_L_law 438 = .ok (.iadd, 1) := by decide +kernel
theorem md_L_law_439 : decode mb_L_law 439 = .ok (.iaload, 1) := by decide +kernel
theorem md_L_law_440 : decode mb_L_law 440 = .ok (.i2l, 1) := by decide +kernel
theorem md_L_law_441 : decode mb_L_law 441 = .ok (.bipush 32, 2) := by decide +kernel
theorem md_L_law_443 : decode mb_L_law 443 = .ok (.lshl, 1) := by decide +kernel
theorem md_L_law_444 : decode mb_L_law 444 = .ok (.aload_n 0, 1) := by decide +kernel
theorem md_L_law_445 : decode mb_L_law 445 = .ok (.iload 4, 2) := by decide +kernel
theorem md_L_law_447 : decode mb_L_law 447 = .ok (.iconst 2, 1) := by decide +kernel
theorem md_L_law_448 : decode mb_L_law 448 = .ok (.iadd, 1) := by decide +kernel
theorem md_L_law_449 : decode mb_L_law 449 = .ok (.iaload, 1) := by decide +kernel
theorem md_L_law_450 : decode mb_L_law 450 = .ok (.i2l, 1) := by decide +kernel
theorem md_L_law_451 : decode mb_L_law 451 = .ok (.ldc2_w 97, 3) := by decide +kernel
theorem md_L_law_454 : decode mb_L_law 454 = .ok (.land, 1) := by decide +kernel
theorem md_L_law_455 : decode mb_L_law 455 = .ok (.lor, 1) := by decide +kernel
theorem md_L_law_456 : decode mb_L_law 456 = .ok (.aload_n 3, 1) := by decide +kernel
theorem md_L_law_457 : decode mb_L_law 457 = .ok (.invokestatic 106, 3) := by decide +kernel
theorem md_L_law_460 : decode mb_L_law 460 = .ok (.istore 5, 2) := by decide +kernel
