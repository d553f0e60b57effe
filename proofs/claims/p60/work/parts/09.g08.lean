theorem dL_act_354 : decode cL_act 354 = .ok (.iload 5, 2) := by decide +kernel
theorem dL_act_356 : decode cL_act 356 = .ok (.invokevirtual 33, 3) := by decide +kernel
theorem dL_act_359 : decode cL_act 359 = .ok (.if_icmp .ne 75, 3) := by decide +kernel
theorem dL_act_362 : decode cL_act 362 = .ok (.iload 15, 2) := by decide +kernel
theorem dL_act_364 : decode cL_act 364 = .ok (.iload 6, 2) := by decide +kernel
theorem dL_act_366 : decode cL_act 366 = .ok (.iload 11, 2) := by decide +kernel
theorem dL_act_368 : decode cL_act 368 = .ok (.isub, 1) := by decide +kernel
theorem dL_act_369 : decode cL_act 369 = .ok (.if_icmp .gt 65, 3) := by decide +kernel
theorem dL_act_372 : decode cL_act 372 = .ok (.aload_n 0, 1) := by decide +kernel
theorem dL_act_373 : decode cL_act 373 = .ok (.iload 5, 2) := by decide +kernel
theorem dL_act_375 : decode cL_act 375 = .ok (.invokevirtual 88, 3) := by decide +kernel
theorem dL_act_378 : decode cL_act 378 = .ok (.iload 9, 2) := by decide +kernel
theorem dL_act_380 : decode cL_act 380 = .ok (.if_icmp .ne 54, 3) := by decide +kernel
theorem dL_act_383 : decode cL_act 383 = .ok (.aload_n 0, 1) := by decide +kernel
theorem dL_act_384 : decode cL_act 384 = .ok (.invokevirtual 43, 3) := by decide +kernel
theorem dL_act_387 : decode cL_act 387 = .ok (.iload 12, 2) := by decide +kernel
theorem dL_act_389 : decode cL_act 389 = .ok (.iload 10, 2) := by decide +kernel
theorem dL_act_391 : decode cL_act 391 = .ok (.iadd, 1) := by decide +kernel
theorem dL_act_392 : decode cL_act 392 = .ok (.if_icmp .ne 42, 3) := by decide +kernel
theorem dL_act_395 : decode cL_act 395 = .ok (.aload_n 0, 1) := by decide +kernel
theorem dL_act_396 : decode cL_act 396 = .ok (.invokevirtual 46, 3) := by decide +kernel
theorem dL_act_399 : decode cL_act 399 = .ok (.iload 13, 2) := by decide +kernel
theorem dL_act_401 : decode cL_act 401 = .ok (.iload 11, 2) := by decide +kernel
theorem dL_act_403 : decode cL_act 403 = .ok (.iadd, 1) := by decide +kernel
theorem dL_act_404 : decode cL_act 404 = .ok (.if_icmp .ne 30, 3) := by decide +kernel
theorem dL_act_407 : decode cL_act 407 = .ok (.aload_n 0, 1) := by decide +kernel
theorem dL_act_408 : decode cL_act 408 = .ok (.iload 5, 2) := by decide +kernel
theorem dL_act_410 : decode cL_act 410 = .ok (.invokevirtual 62, 3) := by decide +kernel
theorem dL_act_413 : decode cL_act 413 = .ok (.ifCond .ne 21, 3) := by decide +kernel
theorem dL_act_416 : decode cL_act 416 = .ok (.aload_n 0, 1) := by decide +kernel
theorem dL_act_417 : decode cL_act 417 = .ok (.iload 5, 2) := by decide +kernel
theorem dL_act_419 : decode cL_act 419 = .ok (.invokevirtual 94, 3) := by decide +kernel
theorem dL_act_422 : decode cL_act 422 = .ok (.iload 14, 2) := by decide +kernel
theorem dL_act_424 : decode cL_act 424 = .ok (.iload 11, 2) := by decide +kernel
theorem dL_act_426 : decode cL_act 426 = .ok (.isub, 1) := by decide +kernel
theorem dL_act_427 : decode cL_act 427 = .ok (.if_icmp .gt 7, 3) := by decide +kernel
theorem dL_act_430 : decode cL_act 430 = .ok (.iconst 1, 1) := by decide +kernel
theorem dL_act_431 : decode cL_act 431 = .ok (.goto 4, 3) := by decide +kernel
theorem dL_act_434 : decode cL_act 434 = .ok (.iconst 0, 1) := by decide +kernel
theorem dL_act_435 : decode cL_act 435 = .ok (.ireturn, 1) := by decide +kernel
theorem dL_act_436 : decode cL_act 436 = .ok (.iload_n 2, 1) := by decide +kernel
theorem dL_act_437 : decode cL_act 437 = .ok (.bipush 10, 2) := by decide +kernel
theorem dL_act_439 : decode cL_act 439 = .ok (.if_icmp .ne 56, 3) := by decide +kernel
theorem dL_act_442 : decode cL_act 442 = .ok (.aload_n 0, 1) := by decide +kernel
theorem dL_act_443 : decode cL_act 443 = .ok (.invokevirtual 37, 3) := by decide +kernel
theorem dL_act_446 : decode cL_act 446 = .ok (.istore 9, 2) := by decide +kernel
theorem dL_act_448 : decode cL_act 448 = .ok (.iload 7, 2) := by decide +kernel
theorem dL_act_450 : decode cL_act 450 = .ok (.ifCond .ne 39, 3) := by decide +kernel
theorem dL_act_453 : decode cL_act 453 = .ok (.aload_n 0, 1) := by decide +kernel
theorem dL_act_454 : decode cL_act 454 = .ok (.iload 5, 2) := by decide +kernel
theorem dL_act_456 : decode cL_act 456 = .ok (.invokevirtual 58, 3) := by decide +kernel
theorem dL_act_459 : decode cL_act 459 = .ok (.ifCond .ne 30, 3) := by decide +kernel
theorem dL_act_462 : decode cL_act 462 = .ok (.iload 9, 2) := by decide +kernel
theorem dL_act_464 : decode cL_act 464 = .ok (.ifCond .eq 25, 3) := by decide +kernel
theorem dL_act_467 : decode cL_act 467 = .ok (.aload_n 0, 1) := by decide +kernel
theorem dL_act_468 : decode cL_act 468 = .ok (.iload 5, 2) := by decide +kernel
theorem dL_act_470 : decode cL_act 470 = .ok (.invokevirtual 146, 3) := by decide +kernel
theorem dL_act_473 : decode cL_act 473 = .ok (.iload 9, 2) := by decide +kernel
theorem dL_act_475 : decode cL_act 475 = .ok (.iconst 1, 1) := by decide +kernel
theorem dL_act_476 : decode cL_act 476 = .ok (.isub, 1) := by decide +kernel
theorem dL_act_477 : decode cL_act 477 = .ok (.if_icmp .ne 16, 3) := by decide +kernel
theorem dL_act_480 : decode cL_act 480 = .ok (.aload_n 0, 1) := by decide +kernel
theorem dL_act_481 : decode cL_act 481 = .ok (.iload 5, 2) := by decide +kernel
theorem dL_act_483 : decode cL_act 483 = .ok (.invokevirtual 58, 3) := by decide +kernel
theorem dL_act_486 : decode cL_act 486 = .ok (.ifCond .eq 7, 3) := by decide +kernel
theorem dL_act_489 : decode cL_act 489 = .ok (.iconst 1, 1) := by decide +kernel
theorem dL_act_490 : decode cL_act 490 = .ok (.goto 4, 3) := by decide +kernel
theorem dL_act_493 : decode cL_act 493 = .ok (.iconst 0, 1) := by decide +kernel
theorem dL_act_494 : decode cL_act 494 = .ok (.ireturn, 1) := by decide +kernel
theorem dL_act_495 : decode cL_act 495 = .ok (.iload_n 2, 1) := by decide +kernel
theorem dL_act_496 : decode cL_act 496 = .ok (.bipush 11, 2) := by decide +kernel
theorem dL_act_498 : decode cL_act 498 = .ok (.if_icmp .ne 50, 3) := by decide +kernel
theorem dL_act_501 : decode cL_act 501 = .ok (.iload 7, 2) := by decide +kernel
theorem dL_act_503 : decode cL_act 503 = .ok (.ifCond .ne 39, 3) := by decide +kernel
theorem dL_act_506 : decode cL_act 506 = .ok (.aload_n 0, 1) := by decide +kernel
theorem dL_act_507 : decode cL_act 507 = .ok (.iload 5, 2) := by decide +kernel
theorem dL_act_509 : decode cL_act 509 = .ok (.invokevirtual 62, 3) := by decide +kernel
theorem dL_act_512 : decode cL_act 512 = .ok (.ifCond .ne 30, 3) := by decide +kernel
theorem dL_act_515 : decode cL_act 515 = .ok (.aload_n 0, 1) := by decide +kernel
theorem dL_act_516 : decode cL_act 516 = .ok (.iload 5, 2) := by decide +kernel
theorem dL_act_518 : decode cL_act 518 = .ok (.invokevirtual 149, 3) := by decide +kernel
theorem dL_act_521 : decode cL_act 521 = .ok (.ifCond .le 25, 3) := by decide +kernel
theorem dL_act_524 : decode cL_act 524 = .ok (.aload_n 0, 1) := by decide +kernel
theorem dL_act_525 : decode cL_act 525 = .ok (.iload 5, 2) := by decide +kernel
theorem dL_act_527 : decode cL_act 527 = .ok (.invokevirtual 62, 3) := by decide +kernel
theorem dL_act_530 : decode cL_act 530 = .ok (.ifCond .eq 16, 3) := by decide +kernel
theorem dL_act_533 : decode cL_act 533 = .ok (.aload_n 0, 1) := by decide +kernel
theorem dL_act_534 : decode cL_act 534 = .ok (.iload 5, 2) := by decide +kernel
theorem dL_act_536 : decode cL_act 536 = .ok (.invokevirtual 85, 3) := by decide +kernel
theorem dL_act_539 : decode cL_act 539 = .ok (.ifCond .ne 7, 3) := by decide +kernel
theorem dL_act_542 : decode cL_act 542 = .ok (.iconst 1, 1) := by decide +kernel
theorem dL_act_543 : decode cL_act 543 = .ok (.goto 4, 3) := by decide +kernel
theorem dL_act_546 : decode cL_act 546 = .ok (.iconst 0, 1) := by decide +kernel
theorem dL_act_547 : decode cL_act 547 = .ok (.ireturn, 1) := by decide +kernel
theorem dL_act_548 : decode cL_act 548 = .ok (.iload_n 2, 1) := by decide +kernel
theorem dL_act_549 : decode cL_act 549 = .ok (.bipush 14, 2) := by decide +kernel
theorem dL_act_551 : decode cL_act 551 = .ok (.if_icmp .ge 114, 3) := by decide +kernel
theorem dL_act_554 : decode cL_act 554 = .ok (.iconst 0, 1) := by decide +kernel
theorem dL_act_555 : decode cL_act 555 = .ok (.istore 9, 2) := by decide +kernel
theorem dL_act_557 : decode cL_act 557 = .ok (.iconst 0, 1) := by decide +kernel
