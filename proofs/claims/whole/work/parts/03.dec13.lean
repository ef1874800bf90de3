theorem d_LA_law_326 : decode code 326 = .ok (.aload_n 0, 1) := by decide +kernel
theorem d_LA_law_327 : decode code 327 = .ok (.iload_n 3, 1) := by decide +kernel
theorem d_LA_law_328 : decode code 328 = .ok (.iconst 2, 1) := by decide +kernel
theorem d_LA_law_329 : decode code 329 = .ok (.iadd, 1) := by decide +kernel
theorem d_LA_law_330 : decode code 330 = .ok (.iaload, 1) := by decide +kernel
theorem d_LA_law_331 : decode code 331 = .ok (.invokevirtual 40, 3) := by decide +kernel
theorem d_LA_law_334 : decode code 334 = .ok (.aload_n 2, 1) := by decide +kernel
theorem d_LA_law_335 : decode code 335 = .ok (.aload_n 0, 1) := by decide +kernel
theorem d_LA_law_336 : decode code 336 = .ok (.iload_n 3, 1) := by decide +kernel
theorem d_LA_law_337 : decode code 337 = .ok (.iconst 1, 1) := by decide +kernel
theorem d_LA_law_338 : decode code 338 = .ok (.iadd, 1) := by decide +kernel
theorem d_LA_law_339 : decode code 339 = .ok (.iaload, 1) := by decide +kernel
theorem d_LA_law_340 : decode code 340 = .ok (.aload_n 0, 1) := by decide +kernel
theorem d_LA_law_341 : decode code 341 = .ok (.iload_n 3, 1) := by decide +kernel
theorem d_LA_law_342 : decode code 342 = .ok (.iconst 2, 1) := by decide +kernel
theorem d_LA_law_343 : decode code 343 = .ok (.iadd, 1) := by decide +kernel
theorem d_LA_law_344 : decode code 344 = .ok (.iaload, 1) := by decide +kernel
theorem d_LA_law_345 : decode code 345 = .ok (.invokevirtual 43, 3) := by decide +kernel
theorem d_LA_law_348 : decode code 348 = .ok (.if_icmp .eq 222, 3) := by decide +kernel
theorem d_LA_law_351 : decode code 351 = .ok (.iconst 0, 1) := by decide +kernel
theorem d_LA_law_352 : decode code 352 = .ok (.ireturn, 1) := by decide +kernel
theorem d_LA_law_353 : decode code 353 = .ok (.aload_n 1, 1) := by decide +kernel
theorem d_LA_law_354 : decode code 354 = .ok (.aload_n 0, 1) := by decide +kernel
theorem d_LA_law_355 : decode code 355 = .ok (.iload_n 3, 1) := by decide +kernel
theorem d_LA_law_356 : decode code 356 = .ok (.iconst 1, 1) := by decide +kernel
theorem d_LA_law_357 : decode code 357 = .ok (.iadd, 1) := by decide +kernel
theorem d_LA_law_358 : decode code 358 = .ok (.iaload, 1) := by decide +kernel
theorem d_LA_law_359 : decode code 359 = .ok (.invokevirtual 44, 3) := by decide +kernel
theorem d_LA_law_362 : decode code 362 = .ok (.aload_n 2, 1) := by decide +kernel
theorem d_LA_law_363 : decode code 363 = .ok (.aload_n 0, 1) := by decide +kernel
theorem d_LA_law_364 : decode code 364 = .ok (.iload_n 3, 1) := by decide +kernel
theorem d_LA_law_365 : decode code 365 = .ok (.iconst 1, 1) := by decide +kernel
theorem d_LA_law_366 : decode code 366 = .ok (.iadd, 1) := by decide +kernel
theorem d_LA_law_367 : decode code 367 = .ok (.iaload, 1) := by decide +kernel
theorem d_LA_law_368 : decode code 368 = .ok (.invokevirtual 47, 3) := by decide +kernel
theorem d_LA_law_371 : decode code 371 = .ok (.if_icmp .eq 199, 3) := by decide +kernel
theorem d_LA_law_374 : decode code 374 = .ok (.iconst 0, 1) := by decide +kernel
theorem d_LA_law_375 : decode code 375 = .ok (.ireturn, 1) := by decide +kernel
theorem d_LA_law_376 : decode code 376 = .ok (.aload_n 1, 1) := by decide +kernel
theorem d_LA_law_377 : decode code 377 = .ok (.aload_n 0, 1) := by decide +kernel
theorem d_LA_law_378 : decode code 378 = .ok (.iload_n 3, 1) := by decide +kernel
theorem d_LA_law_379 : decode code 379 = .ok (.iconst 1, 1) := by decide +kernel
theorem d_LA_law_380 : decode code 380 = .ok (.iadd, 1) := by decide +kernel
theorem d_LA_law_381 : decode code 381 = .ok (.iaload, 1) := by decide +kernel
theorem d_LA_law_382 : decode code 382 = .ok (.invokevirtual 48, 3) := by decide +kernel
theorem d_LA_law_385 : decode code 385 = .ok (.aload_n 2, 1) := by decide +kernel
theorem d_LA_law_386 : decode code 386 = .ok (.aload_n 0, 1) := by decide +kernel
theorem d_LA_law_387 : decode code 387 = .ok (.iload_n 3, 1) := by decide +kernel
theorem d_LA_law_388 : decode code 388 = .ok (.iconst 1, 1) := by decide +kernel
theorem d_LA_law_389 : decode code 389 = .ok (.iadd, 1) := by decide +kernel
theorem d_LA_law_390 : decode code 390 = .ok (.iaload, 1) := by decide +kernel
theorem d_LA_law_391 : decode code 391 = .ok (.invokevirtual 51, 3) := by decide +kernel
theorem d_LA_law_394 : decode code 394 = .ok (.if_icmp .eq 176, 3) := by decide +kernel
theorem d_LA_law_397 : decode code 397 = .ok (.iconst 0, 1) := by decide +kernel
theorem d_LA_law_398 : decode code 398 = .ok (.ireturn, 1) := by decide +kernel
theorem d_LA_law_399 : decode code 399 = .ok (.aload_n 1, 1) := by decide +kernel
theorem d_LA_law_400 : decode code 400 = .ok (.aload_n 0, 1) := by decide +kernel
theorem d_LA_law_401 : decode code 401 = .ok (.iload_n 3, 1) := by decide +kernel
theorem d_LA_law_402 : decode code 402 = .ok (.iconst 1, 1) := by decide +kernel
theorem d_LA_law_403 : decode code 403 = .ok (.iadd, 1) := by decide +kernel
theorem d_LA_law_404 : decode code 404 = .ok (.iaload, 1) := by decide +kernel
theorem d_LA_law_405 : decode code 405 = .ok (.invokevirtual 52, 3) := by decide +kernel
theorem d_LA_law_408 : decode code 408 = .ok (.aload_n 2, 1) := by decide +kernel
theorem d_LA_law_409 : decode code 409 = .ok (.aload_n 0, 1) := by decide +kernel
theorem d_LA_law_410 : decode code 410 = .ok (.iload_n 3, 1) := by decide +kernel
theorem d_LA_law_411 : decode code 411 = .ok (.iconst 1, 1) := by decide +kernel
theorem d_LA_law_412 : decode code 412 = .ok (.iadd, 1) := by decide +kernel
theorem d_LA_law_413 : decode code 413 = .ok (.iaload, 1) := by decide +kernel
theorem d_LA_law_414 : decode code 414 = .ok (.invokevirtual 55, 3) := by decide +kernel
theorem d_LA_law_417 : decode code 417 = .ok (.if_icmp .eq 153, 3) := by decide +kernel
theorem d_LA_law_420 : decode code 420 = .ok (.iconst 0, 1) := by decide +kernel
theorem d_LA_law_421 : decode code 421 = .ok (.ireturn, 1) := by decide +kernel
theorem d_LA_law_422 : decode code 422 = .ok (.aload_n 1, 1) := by decide +kernel
theorem d_LA_law_423 : decode code 423 = .ok (.aload_n 0, 1) := by decide +kernel
theorem d_LA_law_424 : decode code 424 = .ok (.iload_n 3, 1) := by decide +kernel
theorem d_LA_law_425 : decode code 425 = .ok (.iconst 1, 1) := by decide +kernel
theorem d_LA_law_426 : decode code 426 = .ok (.iadd, 1) := by decide +kernel
theorem d_LA_law_427 : decode code 427 = .ok (.iaload, 1) := by decide +kernel
theorem d_LA_law_428 : decode code 428 = .ok (.invokevirtual 56, 3) := by decide +kernel
theorem d_LA_law_431 : decode code 431 = .ok (.aload_n 2, 1) := by decide +kernel
theorem d_LA_law_432 : decode code 432 = .ok (.aload_n 0, 1) := by decide +kernel
theorem d_LA_law_433 : decode code 433 = .ok (.iload_n 3, 1) := by decide +kernel
theorem d_LA_law_434 : decode code 434 = .ok (.iconst 1, 1) := by decide +kernel
theorem d_LA_law_435 : decode code 435 = .ok (.iadd, 1) := by decide +kernel
theorem d_LA_law_436 : decode code 436 = .ok (.iaload, 1) := by decide +kernel
theorem d_LA_law_437 : decode code 437 = .ok (.invokevirtual 59, 3) := by decide +kernel
theorem d_LA_law_440 : decode code 440 = .ok (.if_icmp .eq 130, 3) := by decide +kernel
theorem d_LA_law_443 : decode code 443 = .ok (.iconst 0, 1) := by decide +kernel
theorem d_LA_law_444 : decode code 444 = .ok (.ireturn, 1) := by decide +kernel
theorem d_LA_law_445 : decode code 445 = .ok (.aload_n 1, 1) := by decide +kernel
theorem d_LA_law_446 : decode code 446 = .ok (.invokevirtual 60, 3) := by decide +kernel
theorem d_LA_law_449 : decode code 449 = .ok (.aload_n 2, 1) := by decide +kernel
theorem d_LA_law_450 : decode code 450 = .ok (.invokevirtual 64, 3) := by decide +kernel
theorem d_LA_law_453 : decode code 453 = .ok (.if_icmp .eq 117, 3) := by decide +kernel
theorem d_LA_law_456 : decode code 456 = .ok (.iconst 0, 1) := by decide +kernel
theorem d_LA_law_457 : decode code 457 = .ok (.ireturn, 1) := by decide +kernel
theorem d_LA_law_458 : decode code 458 = .ok (.aload_n 1, 1) := by decide +kernel
theorem d_LA_law_459 : decode code 459 = .ok (.aload_n 0, 1) := by decide +kernel
theorem d_LA_law_460 : decode code 460 = .ok (.iload_n 3, 1) := by decide +kernel
theorem d_LA_law_461 : decode code 461 = .ok (.iconst 1, 1) := by decide +kernel
