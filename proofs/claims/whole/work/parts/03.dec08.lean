theorem d_W_law_363 : decode code 363 = .ok (.aload_n 0, 1) := by decide +kernel
theorem d_W_law_364 : decode code 364 = .ok (.iload 4, 2) := by decide +kernel
theorem d_W_law_366 : decode code 366 = .ok (.iconst 1, 1) := by decide +kernel
theorem d_W_law_367 : decode code 367 = .ok (.iadd, 1) := by decide +kernel
theorem d_W_law_368 : decode code 368 = .ok (.iaload, 1) := by decide +kernel
theorem d_W_law_369 : decode code 369 = .ok (.aload_n 0, 1) := by decide +kernel
theorem d_W_law_370 : decode code 370 = .ok (.iload 4, 2) := by decide +kernel
theorem d_W_law_372 : decode code 372 = .ok (.iconst 2, 1) := by decide +kernel
theorem d_W_law_373 : decode code 373 = .ok (.iadd, 1) := by decide +kernel
theorem d_W_law_374 : decode code 374 = .ok (.iaload, 1) := by decide +kernel
theorem d_W_law_375 : decode code 375 = .ok (.aload_n 3, 1) := by decide +kernel
theorem d_W_law_376 : decode code 376 = .ok (.invokestatic 68, 3) := by decide +kernel
theorem d_W_law_379 : decode code 379 = .ok (.istore 5, 2) := by decide +kernel
theorem d_W_law_381 : decode code 381 = .ok (.aload_n 2, 1) := by decide +kernel
theorem d_W_law_382 : decode code 382 = .ok (.aload_n 0, 1) := by decide +kernel
theorem d_W_law_383 : decode code 383 = .ok (.iload 4, 2) := by decide +kernel
theorem d_W_law_385 : decode code 385 = .ok (.iconst 1, 1) := by decide +kernel
theorem d_W_law_386 : decode code 386 = .ok (.iadd, 1) := by decide +kernel
theorem d_W_law_387 : decode code 387 = .ok (.iaload, 1) := by decide +kernel
theorem d_W_law_388 : decode code 388 = .ok (.aload_n 0, 1) := by decide +kernel
theorem d_W_law_389 : decode code 389 = .ok (.iload 4, 2) := by decide +kernel
theorem d_W_law_391 : decode code 391 = .ok (.iconst 2, 1) := by decide +kernel
theorem d_W_law_392 : decode code 392 = .ok (.iadd, 1) := by decide +kernel
theorem d_W_law_393 : decode code 393 = .ok (.iaload, 1) := by decide +kernel
theorem d_W_law_394 : decode code 394 = .ok (.invokevirtual 70, 3) := by decide +kernel
theorem d_W_law_397 : decode code 397 = .ok (.istore 6, 2) := by decide +kernel
theorem d_W_law_399 : decode code 399 = .ok (.aload_n 2, 1) := by decide +kernel
theorem d_W_law_400 : decode code 400 = .ok (.invokevirtual 49, 3) := by decide +kernel
theorem d_W_law_403 : decode code 403 = .ok (.iload 5, 2) := by decide +kernel
theorem d_W_law_405 : decode code 405 = .ok (.if_icmp .eq 5, 3) := by decide +kernel
theorem d_W_law_408 : decode code 408 = .ok (.iconst 0, 1) := by decide +kernel
theorem d_W_law_409 : decode code 409 = .ok (.ireturn, 1) := by decide +kernel
theorem d_W_law_410 : decode code 410 = .ok (.iload 5, 2) := by decide +kernel
theorem d_W_law_412 : decode code 412 = .ok (.ifCond .ne 15, 3) := by decide +kernel
theorem d_W_law_415 : decode code 415 = .ok (.aload_n 3, 1) := by decide +kernel
theorem d_W_law_416 : decode code 416 = .ok (.iconst 0, 1) := by decide +kernel
theorem d_W_law_417 : decode code 417 = .ok (.laload, 1) := by decide +kernel
theorem d_W_law_418 : decode code 418 = .ok (.iload 6, 2) := by decide +kernel
theorem d_W_law_420 : decode code 420 = .ok (.i2l, 1) := by decide +kernel
theorem d_W_law_421 : decode code 421 = .ok (.lcmp, 1) := by decide +kernel
theorem d_W_law_422 : decode code 422 = .ok (.ifCond .eq 5, 3) := by decide +kernel
theorem d_W_law_425 : decode code 425 = .ok (.iconst 0, 1) := by decide +kernel
theorem d_W_law_426 : decode code 426 = .ok (.ireturn, 1) := by decide +kernel
theorem d_W_law_427 : decode code 427 = .ok (.goto 59, 3) := by decide +kernel
theorem d_W_law_430 : decode code 430 = .ok (.aload_n 1, 1) := by decide +kernel
theorem d_W_law_431 : decode code 431 = .ok (.aload_n 0, 1) := by decide +kernel
theorem d_W_law_432 : decode code 432 = .ok (.iload 4, 2) := by decide +kernel
theorem d_W_law_434 : decode code 434 = .ok (.iconst 1, 1) := by decide +kernel
theorem d_W_law_435 : decode code 435 = .ok (.iadd, 1) := by decide +kernel
theorem d_W_law_436 : decode code 436 = .ok (.iaload, 1) := by decide +kernel
theorem d_W_law_437 : decode code 437 = .ok (.aload_n 3, 1) := by decide +kernel
theorem d_W_law_438 : decode code 438 = .ok (.invokestatic 71, 3) := by decide +kernel
theorem d_W_law_441 : decode code 441 = .ok (.istore 5, 2) := by decide +kernel
theorem d_W_law_443 : decode code 443 = .ok (.aload_n 2, 1) := by decide +kernel
theorem d_W_law_444 : decode code 444 = .ok (.aload_n 0, 1) := by decide +kernel
theorem d_W_law_445 : decode code 445 = .ok (.iload 4, 2) := by decide +kernel
theorem d_W_law_447 : decode code 447 = .ok (.iconst 1, 1) := by decide +kernel
theorem d_W_law_448 : decode code 448 = .ok (.iadd, 1) := by decide +kernel
theorem d_W_law_449 : decode code 449 = .ok (.iaload, 1) := by decide +kernel
theorem d_W_law_450 : decode code 450 = .ok (.invokevirtual 73, 3) := by decide +kernel
theorem d_W_law_453 : decode code 453 = .ok (.istore 6, 2) := by decide +kernel
theorem d_W_law_455 : decode code 455 = .ok (.aload_n 2, 1) := by decide +kernel
theorem d_W_law_456 : decode code 456 = .ok (.invokevirtual 49, 3) := by decide +kernel
theorem d_W_law_459 : decode code 459 = .ok (.iload 5, 2) := by decide +kernel
theorem d_W_law_461 : decode code 461 = .ok (.if_icmp .eq 5, 3) := by decide +kernel
theorem d_W_law_464 : decode code 464 = .ok (.iconst 0, 1) := by decide +kernel
theorem d_W_law_465 : decode code 465 = .ok (.ireturn, 1) := by decide +kernel
theorem d_W_law_466 : decode code 466 = .ok (.iload 5, 2) := by decide +kernel
theorem d_W_law_468 : decode code 468 = .ok (.ifCond .ne 15, 3) := by decide +kernel
theorem d_W_law_471 : decode code 471 = .ok (.aload_n 3, 1) := by decide +kernel
theorem d_W_law_472 : decode code 472 = .ok (.iconst 0, 1) := by decide +kernel
theorem d_W_law_473 : decode code 473 = .ok (.laload, 1) := by decide +kernel
theorem d_W_law_474 : decode code 474 = .ok (.iload 6, 2) := by decide +kernel
theorem d_W_law_476 : decode code 476 = .ok (.i2l, 1) := by decide +kernel
theorem d_W_law_477 : decode code 477 = .ok (.lcmp, 1) := by decide +kernel
theorem d_W_law_478 : decode code 478 = .ok (.ifCond .eq 5, 3) := by decide +kernel
theorem d_W_law_481 : decode code 481 = .ok (.iconst 0, 1) := by decide +kernel
theorem d_W_law_482 : decode code 482 = .ok (.ireturn, 1) := by decide +kernel
theorem d_W_law_483 : decode code 483 = .ok (.goto 3, 3) := by decide +kernel
theorem d_W_law_486 : decode code 486 = .ok (.iinc 4 3, 3) := by decide +kernel
theorem d_W_law_489 : decode code 489 = .ok (.goto (-466), 3) := by decide +kernel
theorem d_W_law_492 : decode code 492 = .ok (.iconst 1, 1) := by decide +kernel
theorem d_W_law_493 : decode code 493 = .ok (.ireturn, 1) := by decide +kernel
