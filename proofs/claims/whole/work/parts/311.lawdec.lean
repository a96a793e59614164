theorem jd_law_302 : decode code 302 = .ok (.aload_n 0, 1) := by decide +kernel
theorem jd_law_303 : decode code 303 = .ok (.iload_n 3, 1) := by decide +kernel
theorem jd_law_304 : decode code 304 = .ok (.iconst 2, 1) := by decide +kernel
theorem jd_law_305 : decode code 305 = .ok (.iadd, 1) := by decide +kernel
theorem jd_law_306 : decode code 306 = .ok (.iaload, 1) := by decide +kernel
theorem jd_law_307 : decode code 307 = .ok (.invokevirtual 40, 3) := by decide +kernel
theorem jd_law_310 : decode code 310 = .ok (.aload_n 2, 1) := by decide +kernel
theorem jd_law_311 : decode code 311 = .ok (.aload_n 0, 1) := by decide +kernel
theorem jd_law_312 : decode code 312 = .ok (.iload_n 3, 1) := by decide +kernel
theorem jd_law_313 : decode code 313 = .ok (.iconst 1, 1) := by decide +kernel
theorem jd_law_314 : decode code 314 = .ok (.iadd, 1) := by decide +kernel
theorem jd_law_315 : decode code 315 = .ok (.iaload, 1) := by decide +kernel
theorem jd_law_316 : decode code 316 = .ok (.aload_n 0, 1) := by decide +kernel
theorem jd_law_317 : decode code 317 = .ok (.iload_n 3, 1) := by decide +kernel
theorem jd_law_318 : decode code 318 = .ok (.iconst 2, 1) := by decide +kernel
theorem jd_law_319 : decode code 319 = .ok (.iadd, 1) := by decide +kernel
theorem jd_law_320 : decode code 320 = .ok (.iaload, 1) := by decide +kernel
theorem jd_law_321 : decode code 321 = .ok (.invokevirtual 43, 3) := by decide +kernel
theorem jd_law_324 : decode code 324 = .ok (.if_icmp .eq 704, 3) := by decide +kernel
theorem jd_law_327 : decode code 327 = .ok (.iconst 0, 1) := by decide +kernel
theorem jd_law_328 : decode code 328 = .ok (.ireturn, 1) := by decide +kernel
theorem jd_law_329 : decode code 329 = .ok (.aload_n 1, 1) := by decide +kernel
theorem jd_law_330 : decode code 330 = .ok (.aload_n 0, 1) := by decide +kernel
theorem jd_law_331 : decode code 331 = .ok (.iload_n 3, 1) := by decide +kernel
theorem jd_law_332 : decode code 332 = .ok (.iconst 1, 1) := by decide +kernel
theorem jd_law_333 : decode code 333 = .ok (.iadd, 1) := by decide +kernel
theorem jd_law_334 : decode code 334 = .ok (.iaload, 1) := by decide +kernel
theorem jd_law_335 : decode code 335 = .ok (.aload_n 0, 1) := by decide +kernel
theorem jd_law_336 : decode code 336 = .ok (.iload_n 3, 1) := by decide +kernel
theorem jd_law_337 : decode code 337 = .ok (.iconst 2, 1) := by decide +kernel
theorem jd_law_338 : decode code 338 = .ok (.iadd, 1) := by decide +kernel
theorem jd_law_339 : decode code 339 = .ok (.iaload, 1) := by decide +kernel
theorem jd_law_340 : decode code 340 = .ok (.aload_n 0, 1) := by decide +kernel
theorem jd_law_341 : decode code 341 = .ok (.iload_n 3, 1) := by decide +kernel
theorem jd_law_342 : decode code 342 = .ok (.iconst 3, 1) := by decide +kernel
theorem jd_law_343 : decode code 343 = .ok (.iadd, 1) := by decide +kernel
theorem jd_law_344 : decode code 344 = .ok (.iaload, 1) := by decide +kernel
theorem jd_law_345 : decode code 345 = .ok (.invokevirtual 44, 3) := by decide +kernel
theorem jd_law_348 : decode code 348 = .ok (.aload_n 2, 1) := by decide +kernel
theorem jd_law_349 : decode code 349 = .ok (.aload_n 0, 1) := by decide +kernel
theorem jd_law_350 : decode code 350 = .ok (.iload_n 3, 1) := by decide +kernel
theorem jd_law_351 : decode code 351 = .ok (.iconst 1, 1) := by decide +kernel
theorem jd_law_352 : decode code 352 = .ok (.iadd, 1) := by decide +kernel
theorem jd_law_353 : decode code 353 = .ok (.iaload, 1) := by decide +kernel
theorem jd_law_354 : decode code 354 = .ok (.aload_n 0, 1) := by decide +kernel
theorem jd_law_355 : decode code 355 = .ok (.iload_n 3, 1) := by decide +kernel
theorem jd_law_356 : decode code 356 = .ok (.iconst 2, 1) := by decide +kernel
theorem jd_law_357 : decode code 357 = .ok (.iadd, 1) := by decide +kernel
theorem jd_law_358 : decode code 358 = .ok (.iaload, 1) := by decide +kernel
theorem jd_law_359 : decode code 359 = .ok (.aload_n 0, 1) := by decide +kernel
theorem jd_law_360 : decode code 360 = .ok (.iload_n 3, 1) := by decide +kernel
theorem jd_law_361 : decode code 361 = .ok (.iconst 3, 1) := by decide +kernel
theorem jd_law_362 : decode code 362 = .ok (.iadd, 1) := by decide +kernel
theorem jd_law_363 : decode code 363 = .ok (.iaload, 1) := by decide +kernel
theorem jd_law_364 : decode code 364 = .ok (.invokevirtual 48, 3) := by decide +kernel
theorem jd_law_367 : decode code 367 = .ok (.if_icmp .eq 661, 3) := by decide +kernel
theorem jd_law_370 : decode code 370 = .ok (.iconst 0, 1) := by decide +kernel
theorem jd_law_371 : decode code 371 = .ok (.ireturn, 1) := by decide +kernel
theorem jd_law_372 : decode code 372 = .ok (.aload_n 1, 1) := by decide +kernel
theorem jd_law_373 : decode code 373 = .ok (.aload_n 0, 1) := by decide +kernel
theorem jd_law_374 : decode code 374 = .ok (.iload_n 3, 1) := by decide +kernel
theorem jd_law_375 : decode code 375 = .ok (.iconst 1, 1) := by decide +kernel
theorem jd_law_376 : decode code 376 = .ok (.iadd, 1) := by decide +kernel
theorem jd_law_377 : decode code 377 = .ok (.iaload, 1) := by decide +kernel
theorem jd_law_378 : decode code 378 = .ok (.invokevirtual 49, 3) := by decide +kernel
theorem jd_law_381 : decode code 381 = .ok (.aload_n 2, 1) := by decide +kernel
theorem jd_law_382 : decode code 382 = .ok (.aload_n 0, 1) := by decide +kernel
theorem jd_law_383 : decode code 383 = .ok (.iload_n 3, 1) := by decide +kernel
theorem jd_law_384 : decode code 384 = .ok (.iconst 1, 1) := by decide +kernel
theorem jd_law_385 : decode code 385 = .ok (.iadd, 1) := by decide +kernel
theorem jd_law_386 : decode code 386 = .ok (.iaload, 1) := by decide +kernel
theorem jd_law_387 : decode code 387 = .ok (.invokevirtual 52, 3) := by decide +kernel
theorem jd_law_390 : decode code 390 = .ok (.if_icmp .eq 638, 3) := by decide +kernel
theorem jd_law_393 : decode code 393 = .ok (.iconst 0, 1) := by decide +kernel
theorem jd_law_394 : decode code 394 = .ok (.ireturn, 1) := by decide +kernel
theorem jd_law_395 : decode code 395 = .ok (.aload_n 1, 1) := by decide +kernel
theorem jd_law_396 : decode code 396 = .ok (.aload_n 0, 1) := by decide +kernel
theorem jd_law_397 : decode code 397 = .ok (.iload_n 3, 1) := by decide +kernel
theorem jd_law_398 : decode code 398 = .ok (.iconst 1, 1) := by decide +kernel
theorem jd_law_399 : decode code 399 = .ok (.iadd, 1) := by decide +kernel
theorem jd_law_400 : decode code 400 = .ok (.iaload, 1) := by decide +kernel
theorem jd_law_401 : decode code 401 = .ok (.aload_n 0, 1) := by decide +kernel
theorem jd_law_402 : decode code 402 = .ok (.iload_n 3, 1) := by decide +kernel
theorem jd_law_403 : decode code 403 = .ok (.iconst 2, 1) := by decide +kernel
theorem jd_law_404 : decode code 404 = .ok (.iadd, 1) := by decide +kernel
theorem jd_law_405 : decode code 405 = .ok (.iaload, 1) := by decide +kernel
theorem jd_law_406 : decode code 406 = .ok (.aload_n 0, 1) := by decide +kernel
theorem jd_law_407 : decode code 407 = .ok (.iload_n 3, 1) := by decide +kernel
theorem jd_law_408 : decode code 408 = .ok (.iconst 3, 1) := by decide +kernel
theorem jd_law_409 : decode code 409 = .ok (.iadd, 1) := by decide +kernel
theorem jd_law_410 : decode code 410 = .ok (.iaload, 1) := by decide +kernel
theorem jd_law_411 : decode code 411 = .ok (.invokevirtual 53, 3) := by decide +kernel
theorem jd_law_414 : decode code 414 = .ok (.aload_n 2, 1) := by decide +kernel
theorem jd_law_415 : decode code 415 = .ok (.aload_n 0, 1) := by decide +kernel
theorem jd_law_416 : decode code 416 = .ok (.iload_n 3, 1) := by decide +kernel
theorem jd_law_417 : decode code 417 = .ok (.iconst 1, 1) := by decide +kernel
theorem jd_law_418 : decode code 418 = .ok (.iadd, 1) := by decide +kernel
theorem jd_law_419 : decode code 419 = .ok (.iaload, 1) := by decide +kernel
theorem jd_law_420 : decode code 420 = .ok (.aload_n 0, 1) := by decide +kernel
theorem jd_law_421 : decode code 421 = .ok (.iload_n 3, 1) := by decide +kernel
theorem jd_law_422 : decode code 422 = .ok (.iconst 2, 1) := by decide +kernel
theorem jd_law_423 : decode code 423 = .ok (.iadd, 1) := by decide +kernel
theorem jd_law_424 : decode code 424 = .ok (.iaload, 1) := by decide +kernel
theorem jd_law_425 : decode code 425 = .ok (.aload_n 0, 1) := by decide +kernel
theorem jd_law_426 : decode code 426 = .ok (.iload_n 3, 1) := by decide +kernel
theorem jd_law_427 : decode code 427 = .ok (.iconst 3, 1) := by decide +kernel
theorem jd_law_428 : decode code 428 = .ok (.iadd, 1) := by decide +kernel
theorem jd_law_429 : decode code 429 = .ok (.iaload, 1) := by decide +kernel
theorem jd_law_430 : decode code 430 = .ok (.invokevirtual 56, 3) := by decide +kernel
theorem jd_law_433 : decode code 433 = .ok (.if_icmp .eq 595, 3) := by decide +kernel
theorem jd_law_436 : decode code 436 = .ok (.iconst 0, 1) := by decide +kernel
theorem jd_law_437 : decode code 437 = .ok (.ireturn, 1) := by decide +kernel
theorem jd_law_438 : decode code 438 = .ok (.aload_n 1, 1) := by decide +kernel
theorem jd_law_439 : decode code 439 = .ok (.aload_n 0, 1) := by decide +kernel
theorem jd_law_440 : decode code 440 = .ok (.iload_n 3, 1) := by decide +kernel
theorem jd_law_441 : decode code 441 = .ok (.iconst 1, 1) := by decide +kernel
theorem jd_law_442 : decode code 442 = .ok (.iadd, 1) := by decide +kernel
theorem jd_law_443 : decode code 443 = .ok (.iaload, 1) := by decide +kernel
theorem jd_law_444 : decode code 444 = .ok (.aload_n 0, 1) := by decide +kernel
theorem jd_law_445 : decode code 445 = .ok (.iload_n 3, 1) := by decide +kernel
