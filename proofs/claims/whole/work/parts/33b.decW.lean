theorem dW_309 : decode code 309 = .ok (.iadd, 1) := by decide +kernel
theorem dW_310 : decode code 310 = .ok (.iaload, 1) := by decide +kernel
theorem dW_311 : decode code 311 = .ok (.aload_n 0, 1) := by decide +kernel
theorem dW_312 : decode code 312 = .ok (.iload 4, 2) := by decide +kernel
theorem dW_314 : decode code 314 = .ok (.iconst 2, 1) := by decide +kernel
theorem dW_315 : decode code 315 = .ok (.iadd, 1) := by decide +kernel
theorem dW_316 : decode code 316 = .ok (.iaload, 1) := by decide +kernel
theorem dW_317 : decode code 317 = .ok (.aload_n 0, 1) := by decide +kernel
theorem dW_318 : decode code 318 = .ok (.iload 4, 2) := by decide +kernel
theorem dW_320 : decode code 320 = .ok (.iconst 3, 1) := by decide +kernel
theorem dW_321 : decode code 321 = .ok (.iadd, 1) := by decide +kernel
theorem dW_322 : decode code 322 = .ok (.iaload, 1) := by decide +kernel
theorem dW_323 : decode code 323 = .ok (.aload_n 0, 1) := by decide +kernel
theorem dW_324 : decode code 324 = .ok (.iload 4, 2) := by decide +kernel
theorem dW_326 : decode code 326 = .ok (.iconst 4, 1) := by decide +kernel
theorem dW_327 : decode code 327 = .ok (.iadd, 1) := by decide +kernel
theorem dW_328 : decode code 328 = .ok (.iaload, 1) := by decide +kernel
theorem dW_329 : decode code 329 = .ok (.ifCond .eq 7, 3) := by decide +kernel
theorem dW_332 : decode code 332 = .ok (.iconst 1, 1) := by decide +kernel
theorem dW_333 : decode code 333 = .ok (.goto 4, 3) := by decide +kernel
theorem dW_336 : decode code 336 = .ok (.iconst 0, 1) := by decide +kernel
theorem dW_337 : decode code 337 = .ok (.aload_n 3, 1) := by decide +kernel
theorem dW_338 : decode code 338 = .ok (.invokestatic 85, 3) := by decide +kernel
theorem dW_341 : decode code 341 = .ok (.istore 5, 2) := by decide +kernel
theorem dW_343 : decode code 343 = .ok (.aload_n 2, 1) := by decide +kernel
theorem dW_344 : decode code 344 = .ok (.aload_n 0, 1) := by decide +kernel
theorem dW_345 : decode code 345 = .ok (.iload 4, 2) := by decide +kernel
theorem dW_347 : decode code 347 = .ok (.iconst 1, 1) := by decide +kernel
theorem dW_348 : decode code 348 = .ok (.iadd, 1) := by decide +kernel
theorem dW_349 : decode code 349 = .ok (.iaload, 1) := by decide +kernel
theorem dW_350 : decode code 350 = .ok (.aload_n 0, 1) := by decide +kernel
theorem dW_351 : decode code 351 = .ok (.iload 4, 2) := by decide +kernel
theorem dW_353 : decode code 353 = .ok (.iconst 2, 1) := by decide +kernel
theorem dW_354 : decode code 354 = .ok (.iadd, 1) := by decide +kernel
theorem dW_355 : decode code 355 = .ok (.iaload, 1) := by decide +kernel
theorem dW_356 : decode code 356 = .ok (.aload_n 0, 1) := by decide +kernel
theorem dW_357 : decode code 357 = .ok (.iload 4, 2) := by decide +kernel
theorem dW_359 : decode code 359 = .ok (.iconst 3, 1) := by decide +kernel
theorem dW_360 : decode code 360 = .ok (.iadd, 1) := by decide +kernel
theorem dW_361 : decode code 361 = .ok (.iaload, 1) := by decide +kernel
theorem dW_362 : decode code 362 = .ok (.aload_n 0, 1) := by decide +kernel
theorem dW_363 : decode code 363 = .ok (.iload 4, 2) := by decide +kernel
theorem dW_365 : decode code 365 = .ok (.iconst 4, 1) := by decide +kernel
theorem dW_366 : decode code 366 = .ok (.iadd, 1) := by decide +kernel
theorem dW_367 : decode code 367 = .ok (.iaload, 1) := by decide +kernel
theorem dW_368 : decode code 368 = .ok (.ifCond .eq 7, 3) := by decide +kernel
theorem dW_371 : decode code 371 = .ok (.iconst 1, 1) := by decide +kernel
theorem dW_372 : decode code 372 = .ok (.goto 4, 3) := by decide +kernel
theorem dW_375 : decode code 375 = .ok (.iconst 0, 1) := by decide +kernel
theorem dW_376 : decode code 376 = .ok (.invokevirtual 88, 3) := by decide +kernel
theorem dW_379 : decode code 379 = .ok (.istore 6, 2) := by decide +kernel
theorem dW_381 : decode code 381 = .ok (.aload_n 2, 1) := by decide +kernel
theorem dW_382 : decode code 382 = .ok (.invokevirtual 77, 3) := by decide +kernel
theorem dW_385 : decode code 385 = .ok (.iload 5, 2) := by decide +kernel
theorem dW_387 : decode code 387 = .ok (.if_icmp .eq 5, 3) := by decide +kernel
theorem dW_390 : decode code 390 = .ok (.iconst 0, 1) := by decide +kernel
theorem dW_391 : decode code 391 = .ok (.ireturn, 1) := by decide +kernel
theorem dW_392 : decode code 392 = .ok (.iload 5, 2) := by decide +kernel
theorem dW_394 : decode code 394 = .ok (.ifCond .ne 22, 3) := by decide +kernel
theorem dW_397 : decode code 397 = .ok (.aload_n 3, 1) := by decide +kernel
theorem dW_398 : decode code 398 = .ok (.iconst 0, 1) := by decide +kernel
theorem dW_399 : decode code 399 = .ok (.laload, 1) := by decide +kernel
theorem dW_400 : decode code 400 = .ok (.iload 6, 2) := by decide +kernel
theorem dW_402 : decode code 402 = .ok (.ifCond .eq 7, 3) := by decide +kernel
theorem dW_405 : decode code 405 = .ok (.lconst 1, 1) := by decide +kernel
theorem dW_406 : decode code 406 = .ok (.goto 4, 3) := by decide +kernel
theorem dW_409 : decode code 409 = .ok (.lconst 0, 1) := by decide +kernel
theorem dW_410 : decode code 410 = .ok (.lcmp, 1) := by decide +kernel
theorem dW_411 : decode code 411 = .ok (.ifCond .eq 5, 3) := by decide +kernel
theorem dW_414 : decode code 414 = .ok (.iconst 0, 1) := by decide +kernel
theorem dW_415 : decode code 415 = .ok (.ireturn, 1) := by decide +kernel
theorem dW_416 : decode code 416 = .ok (.goto 1036, 3) := by decide +kernel
theorem dW_419 : decode code 419 = .ok (.aload_n 1, 1) := by decide +kernel
theorem dW_420 : decode code 420 = .ok (.aload_n 0, 1) := by decide +kernel
theorem dW_421 : decode code 421 = .ok (.iload 4, 2) := by decide +kernel
theorem dW_423 : decode code 423 = .ok (.iconst 1, 1) := by decide +kernel
theorem dW_424 : decode code 424 = .ok (.iadd, 1) := by decide +kernel
theorem dW_425 : decode code 425 = .ok (.iaload, 1) := by decide +kernel
theorem dW_426 : decode code 426 = .ok (.aload_n 0, 1) := by decide +kernel
theorem dW_427 : decode code 427 = .ok (.iload 4, 2) := by decide +kernel
theorem dW_429 : decode code 429 = .ok (.iconst 2, 1) := by decide +kernel
theorem dW_430 : decode code 430 = .ok (.iadd, 1) := by decide +kernel
theorem dW_431 : decode code 431 = .ok (.iaload, 1) := by decide +kernel
theorem dW_432 : decode code 432 = .ok (.aload_n 0, 1) := by decide +kernel
theorem dW_433 : decode code 433 = .ok (.iload 4, 2) := by decide +kernel
theorem dW_435 : decode code 435 = .ok (.iconst 3, 1) := by decide +kernel
theorem dW_436 : decode code 436 = .ok (.iadd, 1) := by decide +kernel
theorem dW_437 : decode code 437 = .ok (.iaload, 1) := by decide +kernel
theorem dW_438 : decode code 438 = .ok (.aload_n 3, 1) := by decide +kernel
theorem dW_439 : decode code 439 = .ok (.invokestatic 89, 3) := by decide +kernel
theorem dW_442 : decode code 442 = .ok (.istore 5, 2) := by decide +kernel
theorem dW_444 : decode code 444 = .ok (.aload_n 2, 1) := by decide +kernel
theorem dW_445 : decode code 445 = .ok (.aload_n 0, 1) := by decide +kernel
theorem dW_446 : decode code 446 = .ok (.iload 4, 2) := by decide +kernel
theorem dW_448 : decode code 448 = .ok (.iconst 1, 1) := by decide +kernel
theorem dW_449 : decode code 449 = .ok (.iadd, 1) := by decide +kernel
theorem dW_450 : decode code 450 = .ok (.iaload, 1) := by decide +kernel
theorem dW_451 : decode code 451 = .ok (.aload_n 0, 1) := by decide +kernel
theorem dW_452 : decode code 452 = .ok (.iload 4, 2) := by decide +kernel
theorem dW_454 : decode code 454 = .ok (.iconst 2, 1) := by decide +kernel
theorem dW_455 : decode code 455 = .ok (.iadd, 1) := by decide +kernel
theorem dW_456 : decode code 456 = .ok (.iaload, 1) := by decide +kernel
theorem dW_457 : decode code 457 = .ok (.aload_n 0, 1) := by decide +kernel
theorem dW_458 : decode code 458 = .ok (.iload 4, 2) := by decide +kernel
theorem dW_460 : decode code 460 = .ok (.iconst 3, 1) := by decide +kernel
theorem dW_461 : decode code 461 = .ok (.iadd, 1) := by decide +kernel
theorem dW_462 : decode code 462 = .ok (.iaload, 1) := by decide +kernel
theorem dW_463 : decode code 463 = .ok (.invokevirtual 92, 3) := by decide +kernel
theorem dW_466 : decode code 466 = .ok (.istore 6, 2) := by decide +kernel
theorem dW_468 : decode code 468 = .ok (.aload_n 2, 1) := by decide +kernel
theorem dW_469 : decode code 469 = .ok (.invokevirtual 77, 3) := by decide +kernel
theorem dW_472 : decode code 472 = .ok (.iload 5, 2) := by decide +kernel
theorem dW_474 : decode code 474 = .ok (.if_icmp .eq 5, 3) := by decide +kernel
theorem dW_477 : decode code 477 = .ok (.iconst 0, 1) := by decide +kernel
theorem dW_478 : decode code 478 = .ok (.ireturn, 1) := by decide +kernel
theorem dW_479 : decode code 479 = .ok (.iload 5, 2) := by decide +kernel
theorem dW_481 : decode code 481 = .ok (.ifCond .ne 22, 3) := by decide +kernel
theorem dW_484 : decode code 484 = .ok (.aload_n 3, 1) := by decide +kernel
theorem dW_485 : decode code 485 = .ok (.iconst 0, 1) := by decide +kernel
theorem dW_486 : decode code 486 = .ok (.laload, 1) := by decide +kernel
theorem dW_487 : decode code 487 = .ok (.iload 6, 2) := by decide +kernel
theorem dW_489 : decode code 489 = .ok (.ifCond .eq 7, 3) := by decide +kernel
theorem dW_492 : decode code 492 = .ok (.lconst 1, 1) := by decide +kernel
theorem dW_493 : decode code 493 = .ok (.goto 4, 3) := by decide +kernel
theorem dW_496 : decode code 496 = .ok (.lconst 0, 1) := by decide +kernel
theorem dW_497 : decode code 497 = .ok (.lcmp, 1) := by decide +kernel
theorem dW_498 : decode code 498 = .ok (.ifCond .eq 5, 3) := by decide +kernel
theorem dW_501 : decode code 501 = .ok (.iconst 0, 1) := by decide +kernel
theorem dW_502 : decode code 502 = .ok (.ireturn, 1) := by decide +kernel
theorem dW_503 : decode code 503 = .ok (.goto 949, 3) := by decide +kernel
theorem dW_506 : decode code 506 = .ok (.aload_n 1, 1) := by decide +kernel
theorem dW_507 : decode code 507 = .ok (.aload_n 0, 1) := by decide +kernel
theorem dW_508 : decode code 508 = .ok (.iload 4, 2) := by decide +kernel
theorem dW_510 : decode code 510 = .ok (.iconst 1, 1) := by decide +kernel
theorem dW_511 : decode code 511 = .ok (.iadd, 1) := by decide +kernel
theorem dW_512 : decode code 512 = .ok (.iaload, 1) := by decide +kernel
theorem dW_513 : decode code 513 = .ok (.aload_n 0, 1) := by decide +kernel
theorem dW_514 : decode code 514 = .ok (.iload 4, 2) := by decide +kernel
theorem dW_516 : decode code 516 = .ok (.iconst 2, 1) := by decide +kernel
theorem dW_517 : decode code 517 = .ok (.iadd, 1) := by decide +kernel
theorem dW_518 : decode code 518 = .ok (.iaload, 1) := by decide +kernel
theorem dW_519 : decode code 519 = .ok (.aload_n 0, 1) := by decide +kernel
theorem dW_520 : decode code 520 = .ok (.iload 4, 2) := by decide +kernel
theorem dW_522 : decode code 522 = .ok (.iconst 3, 1) := by decide +kernel
theorem dW_523 : decode code 523 = .ok (.iadd, 1) := by decide +kernel
theorem dW_524 : decode code 524 = .ok (.iaload, 1) := by decide +kernel
theorem dW_525 : decode code 525 = .ok (.aload_n 3, 1) := by decide +kernel
theorem dW_526 : decode code 526 = .ok (.invokestatic 93, 3) := by decide +kernel
theorem dW_529 : decode code 529 = .ok (.istore 5, 2) := by decide +kernel
theorem dW_531 : decode code 531 = .ok (.aload_n 2, 1) := by decide +kernel
theorem dW_532 : decode code 532 = .ok (.aload_n 0, 1) := by decide +kernel
theorem dW_533 : decode code 533 = .ok (.iload 4, 2) := by decide +kernel
theorem dW_535 : decode code 535 = .ok (.iconst 1, 1) := by decide +kernel
theorem dW_536 : decode code 536 = .ok (.iadd, 1) := by decide +kernel
theorem dW_537 : decode code 537 = .ok (.iaload, 1) := by decide +kernel
theorem dW_538 : decode code 538 = .ok (.aload_n 0, 1) := by decide +kernel
theorem dW_539 : decode code 539 = .ok (.iload 4, 2) := by decide +kernel
theorem dW_541 : decode code 541 = .ok (.iconst 2, 1) := by decide +kernel
theorem dW_542 : decode code 542 = .ok (.iadd, 1) := by decide +kernel
theorem dW_543 : decode code 543 = .ok (.iaload, 1) := by decide +kernel
