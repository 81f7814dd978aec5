theorem d_L_law_312 : decode c_L_law 312 = .ok (.aload_n 1, 1) := by decide +kernel
theorem d_L_law_313 : decode c_L_law 313 = .ok (.aload_n 0, 1) := by decide +kernel
theorem d_L_law_314 : decode c_L_law 314 = .ok (.iload 4, 2) := by decide +kernel
theorem d_L_law_316 : decode c_L_law 316 = .ok (.iconst 1, 1) := by decide +kernel
theorem d_L_law_317 : decode c_L_law 317 = .ok (.iadd, 1) := by decide +kernel
theorem d_L_law_318 : decode c_L_law 318 = .ok (.iaload, 1) := by decide +kernel
theorem d_L_law_319 : decode c_L_law 319 = .ok (.aload_n 0, 1) := by decide +kernel
theorem d_L_law_320 : decode c_L_law 320 = .ok (.iload 4, 2) := by decide +kernel
theorem d_L_law_322 : decode c_L_law 322 = .ok (.iconst 2, 1) := by decide +kernel
theorem d_L_law_323 : decode c_L_law 323 = .ok (.iadd, 1) := by decide +kernel
theorem d_L_law_324 : decode c_L_law 324 = .ok (.iaload, 1) := by decide +kernel
theorem d_L_law_325 : decode c_L_law 325 = .ok (.i2l, 1) := by decide +kernel
theorem d_L_law_326 : decode c_L_law 326 = .ok (.bipush 32, 2) := by decide +kernel
theorem d_L_law_328 : decode c_L_law 328 = .ok (.lshl, 1) := by decide +kernel
theorem d_L_law_329 : decode c_L_law 329 = .ok (.aload_n 0, 1) := by decide +kernel
theorem d_L_law_330 : decode c_L_law 330 = .ok (.iload 4, 2) := by decide +kernel
theorem d_L_law_332 : decode c_L_law 332 = .ok (.iconst 3, 1) := by decide +kernel
theorem d_L_law_333 : decode c_L_law 333 = .ok (.iadd, 1) := by decide +kernel
theorem d_L_law_334 : decode c_L_law 334 = .ok (.iaload, 1) := by decide +kernel
theorem d_L_law_335 : decode c_L_law 335 = .ok (.i2l, 1) := by decide +kernel
theorem d_L_law_336 : decode c_L_law 336 = .ok (.ldc2_w 81, 3) := by decide +kernel
theorem d_L_law_339 : decode c_L_law 339 = .ok (.land, 1) := by decide +kernel
theorem d_L_law_340 : decode c_L_law 340 = .ok (.lor, 1) := by decide +kernel
theorem d_L_law_341 : decode c_L_law 341 = .ok (.aload_n 3, 1) := by decide +kernel
theorem d_L_law_342 : decode c_L_law 342 = .ok (.invokestatic 90, 3) := by decide +kernel
theorem d_L_law_345 : decode c_L_law 345 = .ok (.istore 5, 2) := by decide +kernel
theorem d_L_law_347 : decode c_L_law 347 = .ok (.aload_n 2, 1) := by decide +kernel
theorem d_L_law_348 : decode c_L_law 348 = .ok (.aload_n 0, 1) := by decide +kernel
theorem d_L_law_349 : decode c_L_law 349 = .ok (.iload 4, 2) := by decide +kernel
theorem d_L_law_351 : decode c_L_law 351 = .ok (.iconst 1, 1) := by decide +kernel
theorem d_L_law_352 : decode c_L_law 352 = .ok (.iadd, 1) := by decide +kernel
theorem d_L_law_353 : decode c_L_law 353 = .ok (.iaload, 1) := by decide +kernel
theorem d_L_law_354 : decode c_L_law 354 = .ok (.aload_n 0, 1) := by decide +kernel
theorem d_L_law_355 : decode c_L_law 355 = .ok (.iload 4, 2) := by decide +kernel
theorem d_L_law_357 : decode c_L_law 357 = .ok (.iconst 2, 1) := by decide +kernel
theorem d_L_law_358 : decode c_L_law 358 = .ok (.iadd, 1) := by decide +kernel
theorem d_L_law_359 : decode c_L_law 359 = .ok (.iaload, 1) := by decide +kernel
theorem d_L_law_360 : decode c_L_law 360 = .ok (.i2l, 1) := by decide +kernel
theorem d_L_law_361 : decode c_L_law 361 = .ok (.bipush 32, 2) := by decide +kernel
theorem d_L_law_363 : decode c_L_law 363 = .ok (.lshl, 1) := by decide +kernel
theorem d_L_law_364 : decode c_L_law 364 = .ok (.aload_n 0, 1) := by decide +kernel
theorem d_L_law_365 : decode c_L_law 365 = .ok (.iload 4, 2) := by decide +kernel
theorem d_L_law_367 : decode c_L_law 367 = .ok (.iconst 3, 1) := by decide +kernel
theorem d_L_law_368 : decode c_L_law 368 = .ok (.iadd, 1) := by decide +kernel
theorem d_L_law_369 : decode c_L_law 369 = .ok (.iaload, 1) := by decide +kernel
theorem d_L_law_370 : decode c_L_law 370 = .ok (.i2l, 1) := by decide +kernel
theorem d_L_law_371 : decode c_L_law 371 = .ok (.ldc2_w 81, 3) := by decide +kernel
theorem d_L_law_374 : decode c_L_law 374 = .ok (.land, 1) := by decide +kernel
theorem d_L_law_375 : decode c_L_law 375 = .ok (.lor, 1) := by decide +kernel
theorem d_L_law_376 : decode c_L_law 376 = .ok (.invokevirtual 93, 3) := by decide +kernel
theorem d_L_law_379 : decode c_L_law 379 = .ok (.istore 6, 2) := by decide +kernel
theorem d_L_law_381 : decode c_L_law 381 = .ok (.aload_n 2, 1) := by decide +kernel
theorem d_L_law_382 : decode c_L_law 382 = .ok (.invokevirtual 87, 3) := by decide +kernel
theorem d_L_law_385 : decode c_L_law 385 = .ok (.iload 5, 2) := by decide +kernel
theorem d_L_law_387 : decode c_L_law 387 = .ok (.if_icmp .eq 5, 3) := by decide +kernel
theorem d_L_law_390 : decode c_L_law 390 = .ok (.iconst 0, 1) := by decide +kernel
theorem d_L_law_391 : decode c_L_law 391 = .ok (.ireturn, 1) := by decide +kernel
theorem d_L_law_392 : decode c_L_law 392 = .ok (.iload 5, 2) := by decide +kernel
theorem d_L_law_394 : decode c_L_law 394 = .ok (.ifCond .ne 15, 3) := by decide +kernel
theorem d_L_law_397 : decode c_L_law 397 = .ok (.aload_n 3, 1) := by decide +kernel
theorem d_L_law_398 : decode c_L_law 398 = .ok (.iconst 0, 1) := by decide +kernel
theorem d_L_law_399 : decode c_L_law 399 = .ok (.laload, 1) := by decide +kernel
theorem d_L_law_400 : decode c_L_law 400 = .ok (.iload 6, 2) := by decide +kernel
theorem d_L_law_402 : decode c_L_law 402 = .ok (.i2l, 1) := by decide +kernel
theorem d_L_law_403 : decode c_L_law 403 = .ok (.lcmp, 1) := by decide +kernel
theorem d_L_law_404 : decode c_L_law 404 = .ok (.ifCond .eq 5, 3) := by decide +kernel
theorem d_L_law_407 : decode c_L_law 407 = .ok (.iconst 0, 1) := by decide +kernel
theorem d_L_law_408 : decode c_L_law 408 = .ok (.ireturn, 1) := by decide +kernel
theorem d_L_law_409 : decode c_L_law 409 = .ok (.goto 1051, 3) := by decide +kernel
theorem d_L_law_412 : decode c_L_law 412 = .ok (.aload_n 1, 1) := by decide +kernel
theorem d_L_law_413 : decode c_L_law 413 = .ok (.aload_n 0, 1) := by decide +kernel
theorem d_L_law_414 : decode c_L_law 414 = .ok (.iload 4, 2) := by decide +kernel
theorem d_L_law_416 : decode c_L_law 416 = .ok (.iconst 1, 1) := by decide +kernel
theorem d_L_law_417 : decode c_L_law 417 = .ok (.iadd, 1) := by decide +kernel
theorem d_L_law_418 : decode c_L_law 418 = .ok (.iaload, 1) := by decide +kernel
theorem d_L_law_419 : decode c_L_law 419 = .ok (.aload_n 0, 1) := by decide +kernel
theorem d_L_law_420 : decode c_L_law 420 = .ok (.iload 4, 2) := by decide +kernel
theorem d_L_law_422 : decode c_L_law 422 = .ok (.iconst 2, 1) := by decide +kernel
theorem d_L_law_423 : decode c_L_law 423 = .ok (.iadd, 1) := by decide +kernel
theorem d_L_law_424 : decode c_L_law 424 = .ok (.iaload, 1) := by decide +kernel
theorem d_L_law_425 : decode c_L_law 425 = .ok (.aload_n 3, 1) := by decide +kernel
theorem d_L_law_426 : decode c_L_law 426 = .ok (.invokestatic 94, 3) := by decide +kernel
theorem d_L_law_429 : decode c_L_law 429 = .ok (.istore 5, 2) := by decide +kernel
theorem d_L_law_431 : decode c_L_law 431 = .ok (.aload_n 2, 1) := by decide +kernel
theorem d_L_law_432 : decode c_L_law 432 = .ok (.aload_n 0, 1) := by decide +kernel
theorem d_L_law_433 : decode c_L_law 433 = .ok (.iload 4, 2) := by decide +kernel
theorem d_L_law_435 : decode c_L_law 435 = .ok (.iconst 1, 1) := by decide +kernel
theorem d_L_law_436 : decode c_L_law 436 = .ok (.iadd, 1) := by decide +kernel
theorem d_L_law_437 : decode c_L_law 437 = .ok (.iaload, 1) := by decide +kernel
theorem d_L_law_438 : decode c_L_law 438 = .ok (.aload_n 0, 1) := by decide +kernel
theorem d_L_law_439 : decode c_L_law 439 = .ok (.iload 4, 2) := by decide +kernel
theorem d_L_law_441 : decode c_L_law 441 = .ok (.iconst 2, 1) := by decide +kernel
theorem d_L_law_442 : decode c_L_law 442 = .ok (.iadd, 1) := by decide +kernel
theorem d_L_law_443 : decode c_L_law 443 = .ok (.iaload, 1) := by decide +kernel
theorem d_L_law_444 : decode c_L_law 444 = .ok (.invokevirtual 97, 3) := by decide +kernel
theorem d_L_law_447 : decode c_L_law 447 = .ok (.lstore 6, 2) := by decide +kernel
theorem d_L_law_449 : decode c_L_law 449 = .ok (.aload_n 2, 1) := by decide +kernel
theorem d_L_law_450 : decode c_L_law 450 = .ok (.invokevirtual 87, 3) := by decide +kernel
theorem d_L_law_453 : decode c_L_law 453 = .ok (.iload 5, 2) := by decide +kernel
theorem d_L_law_455 : decode c_L_law 455 = .ok (.if_icmp .eq 5, 3) := by decide +kernel
theorem d_L_law_458 : decode c_L_law 458 = .ok (.iconst 0, 1) := by decide +kernel
theorem d_L_law_459 : decode c_L_law 459 = .ok (.ireturn, 1) := by decide +kernel
theorem d_L_law_460 : decode c_L_law 460 = .ok (.iload 5, 2) := by decide +kernel
theorem d_L_law_462 : decode c_L_law 462 = .ok (.ifCond .ne 14, 3) := by decide +kernel
theorem d_L_law_465 : decode c_L_law 465 = .ok (.aload_n 3, 1) := by decide +kernel
theorem d_L_law_466 : decode c_L_law 466 = .ok (.iconst 0, 1) := by decide +kernel
theorem d_L_law_467 : decode c_L_law 467 = .ok (.laload, 1) := by decide +kernel
theorem d_L_law_468 : decode c_L_law 468 = .ok (.lload 6, 2) := by decide +kernel
theorem d_L_law_470 : decode c_L_law 470 = .ok (.lcmp, 1) := by decide +kernel
theorem d_L_law_471 : decode c_L_law 471 = .ok (.ifCond .eq 5, 3) := by decide +kernel
theorem d_L_law_474 : decode c_L_law 474 = .ok (.iconst 0, 1) := by decide +kernel
theorem d_L_law_475 : decode c_L_law 475 = .ok (.ireturn, 1) := by decide +kernel
theorem d_L_law_476 : decode c_L_law 476 = .ok (.goto 984, 3) := by decide +kernel
theorem d_L_law_479 : decode c_L_law 479 = .ok (.aload_n 1, 1) := by decide +kernel
theorem d_L_law_480 : decode c_L_law 480 = .ok (.invokevirtual 98, 3) := by decide +kernel
theorem d_L_law_483 : decode c_L_law 483 = .ok (.aload_n 2, 1) := by decide +kernel
theorem d_L_law_484 : decode c_L_law 484 = .ok (.invokevirtual 102, 3) := by decide +kernel
theorem d_L_law_487 : decode c_L_law 487 = .ok (.if_icmp .eq 973, 3) := by decide +kernel
theorem d_L_law_490 : decode c_L_law 490 = .ok (.iconst 0, 1) := by decide +kernel
theorem d_L_law_491 : decode c_L_law 491 = .ok (.ireturn, 1) := by decide +kernel
theorem d_L_law_492 : decode c_L_law 492 = .ok (.aload_n 1, 1) := by decide +kernel
theorem d_L_law_493 : decode c_L_law 493 = .ok (.aload_n 0, 1) := by decide +kernel
theorem d_L_law_494 : decode c_L_law 494 = .ok (.iload 4, 2) := by decide +kernel
theorem d_L_law_496 : decode c_L_law 496 = .ok (.iconst 1, 1) := by decide +kernel
theorem d_L_law_497 : decode c_L_law 497 = .ok (.iadd, 1) := by decide +kernel
theorem d_L_law_498 : decode c_L_law 498 = .ok (.iaload, 1) := by decide +kernel
theorem d_L_law_499 : decode c_L_law 499 = .ok (.i2l, 1) := by decide +kernel
theorem d_L_law_500 : decode c_L_law 500 = .ok (.bipush 32, 2) := by decide +kernel
theorem d_L_law_502 : decode c_L_law 502 = .ok (.lshl, 1) := by decide +kernel
theorem d_L_law_503 : decode c_L_law 503 = .ok (.aload_n 0, 1) := by decide +kernel
theorem d_L_law_504 : decode c_L_law 504 = .ok (.iload 4, 2) := by decide +kernel
theorem d_L_law_506 : decode c_L_law 506 = .ok (.iconst 2, 1) := by decide +kernel
theorem d_L_law_507 : decode c_L_law 507 = .ok (.iadd, 1) := by decide +kernel
theorem d_L_law_508 : decode c_L_law 508 = .ok (.iaload, 1) := by decide +kernel
theorem d_L_law_509 : decode c_L_law 509 = .ok (.i2l, 1) := by decide +kernel
theorem d_L_law_510 : decode c_L_law 510 = .ok (.ldc2_w 81, 3) := by decide +kernel
theorem d_L_law_513 : decode c_L_law 513 = .ok (.land, 1) := by decide +kernel
theorem d_L_law_514 : decode c_L_law 514 = .ok (.lor, 1) := by decide +kernel
theorem d_L_law_515 : decode c_L_law 515 = .ok (.aload_n 3, 1) := by decide +kernel
theorem d_L_law_516 : decode c_L_law 516 = .ok (.invokestatic 103, 3) := by decide +kernel
theorem d_L_law_519 : decode c_L_law 519 = .ok (.istore 5, 2) := by decide +kernel
theorem d_L_law_521 : decode c_L_law 521 = .ok (.aload_n 2, 1) := by decide +kernel
theorem d_L_law_522 : decode c_L_law 522 = .ok (.aload_n 0, 1) := by decide +kernel
theorem d_L_law_523 : decode c_L_law 523 = .ok (.iload 4, 2) := by decide +kernel
theorem d_L_law_525 : decode c_L_law 525 = .ok (.iconst 1, 1) := by decide +kernel
theorem d_L_law_526 : decode c_L_law 526 = .ok (.iadd, 1) := by decide +kernel
theorem d_L_law_527 : decode c_L_law 527 = .ok (.iaload, 1) := by decide +kernel
theorem d_L_law_528 : decode c_L_law 528 = .ok (.i2l, 1) := by decide +kernel
theorem d_L_law_529 : decode c_L_law 529 = .ok (.bipush 32, 2) := by decide +kernel
theorem d_L_law_531 : decode c_L_law 531 = .ok (.lshl, 1) := by decide +kernel
theorem d_L_law_532 : decode c_L_law 532 = .ok (.aload_n 0, 1) := by decide +kernel
theorem d_L_law_533 : decode c_L_law 533 = .ok (.iload 4, 2) := by decide +kernel
theorem d_L_law_535 : decode c_L_law 535 = .ok (.iconst 2, 1) := by decide +kernel
theorem d_L_law_536 : decode c_L_law 536 = .ok (.iadd, 1) := by decide +kernel
