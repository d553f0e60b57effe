theorem dL_isBench_368 : decode cL_isBench 368 = .ok (.invokevirtual 33, 3) := by decide +kernel
theorem dL_isBench_371 : decode cL_isBench 371 = .ok (.if_icmp .gt 19, 3) := by decide +kernel
theorem dL_isBench_374 : decode cL_isBench 374 = .ok (.aload_n 0, 1) := by decide +kernel
theorem dL_isBench_375 : decode cL_isBench 375 = .ok (.iload_n 2, 1) := by decide +kernel
theorem dL_isBench_376 : decode cL_isBench 376 = .ok (.invokevirtual 112, 3) := by decide +kernel
theorem dL_isBench_379 : decode cL_isBench 379 = .ok (.iload 5, 2) := by decide +kernel
theorem dL_isBench_381 : decode cL_isBench 381 = .ok (.i2f, 1) := by decide +kernel
theorem dL_isBench_382 : decode cL_isBench 382 = .ok (.iload 4, 2) := by decide +kernel
theorem dL_isBench_384 : decode cL_isBench 384 = .ok (.i2f, 1) := by decide +kernel
theorem dL_isBench_385 : decode cL_isBench 385 = .ok (.fdiv, 1) := by decide +kernel
theorem dL_isBench_386 : decode cL_isBench 386 = .ok (.fcmp .l, 1) := by decide +kernel
theorem dL_isBench_387 : decode cL_isBench 387 = .ok (.ifCond .eq 5, 3) := by decide +kernel
theorem dL_isBench_390 : decode cL_isBench 390 = .ok (.iconst 0, 1) := by decide +kernel
theorem dL_isBench_391 : decode cL_isBench 391 = .ok (.ireturn, 1) := by decide +kernel
theorem dL_isBench_392 : decode cL_isBench 392 = .ok (.iconst 2, 1) := by decide +kernel
theorem dL_isBench_393 : decode cL_isBench 393 = .ok (.istore 11, 2) := by decide +kernel
theorem dL_isBench_395 : decode cL_isBench 395 = .ok (.iload 11, 2) := by decide +kernel
theorem dL_isBench_397 : decode cL_isBench 397 = .ok (.iconst 5, 1) := by decide +kernel
theorem dL_isBench_398 : decode cL_isBench 398 = .ok (.if_icmp .ge 140, 3) := by decide +kernel
theorem dL_isBench_401 : decode cL_isBench 401 = .ok (.aload_n 0, 1) := by decide +kernel
theorem dL_isBench_402 : decode cL_isBench 402 = .ok (.iload_n 2, 1) := by decide +kernel
theorem dL_isBench_403 : decode cL_isBench 403 = .ok (.iload 11, 2) := by decide +kernel
theorem dL_isBench_405 : decode cL_isBench 405 = .ok (.invokevirtual 116, 3) := by decide +kernel
theorem dL_isBench_408 : decode cL_isBench 408 = .ok (.ifCond .ne 7, 3) := by decide +kernel
theorem dL_isBench_411 : decode cL_isBench 411 = .ok (.iconst 1, 1) := by decide +kernel
theorem dL_isBench_412 : decode cL_isBench 412 = .ok (.goto 4, 3) := by decide +kernel
theorem dL_isBench_415 : decode cL_isBench 415 = .ok (.iconst 0, 1) := by decide +kernel
theorem dL_isBench_416 : decode cL_isBench 416 = .ok (.istore 12, 2) := by decide +kernel
theorem dL_isBench_418 : decode cL_isBench 418 = .ok (.aload_n 0, 1) := by decide +kernel
theorem dL_isBench_419 : decode cL_isBench 419 = .ok (.iload_n 2, 1) := by decide +kernel
theorem dL_isBench_420 : decode cL_isBench 420 = .ok (.iload 11, 2) := by decide +kernel
theorem dL_isBench_422 : decode cL_isBench 422 = .ok (.invokevirtual 119, 3) := by decide +kernel
theorem dL_isBench_425 : decode cL_isBench 425 = .ok (.istore 13, 2) := by decide +kernel
theorem dL_isBench_427 : decode cL_isBench 427 = .ok (.iload 13, 2) := by decide +kernel
theorem dL_isBench_429 : decode cL_isBench 429 = .ok (.ifCond .ge 7, 3) := by decide +kernel
theorem dL_isBench_432 : decode cL_isBench 432 = .ok (.iconst 1, 1) := by decide +kernel
theorem dL_isBench_433 : decode cL_isBench 433 = .ok (.goto 4, 3) := by decide +kernel
theorem dL_isBench_436 : decode cL_isBench 436 = .ok (.iconst 0, 1) := by decide +kernel
theorem dL_isBench_437 : decode cL_isBench 437 = .ok (.iload 12, 2) := by decide +kernel
theorem dL_isBench_439 : decode cL_isBench 439 = .ok (.if_icmp .eq 91, 3) := by decide +kernel
theorem dL_isBench_442 : decode cL_isBench 442 = .ok (.iload 12, 2) := by decide +kernel
theorem dL_isBench_444 : decode cL_isBench 444 = .ok (.ifCond .eq 29, 3) := by decide +kernel
theorem dL_isBench_447 : decode cL_isBench 447 = .ok (.iload 13, 2) := by decide +kernel
theorem dL_isBench_449 : decode cL_isBench 449 = .ok (.iload 11, 2) := by decide +kernel
theorem dL_isBench_451 : decode cL_isBench 451 = .ok (.iload_n 3, 1) := by decide +kernel
theorem dL_isBench_452 : decode cL_isBench 452 = .ok (.imul, 1) := by decide +kernel
theorem dL_isBench_453 : decode cL_isBench 453 = .ok (.aload_n 0, 1) := by decide +kernel
theorem dL_isBench_454 : decode cL_isBench 454 = .ok (.iload_n 2, 1) := by decide +kernel
theorem dL_isBench_455 : decode cL_isBench 455 = .ok (.invokevirtual 58, 3) := by decide +kernel
theorem dL_isBench_458 : decode cL_isBench 458 = .ok (.ifCond .eq 7, 3) := by decide +kernel
theorem dL_isBench_461 : decode cL_isBench 461 = .ok (.iconst 0, 1) := by decide +kernel
theorem dL_isBench_462 : decode cL_isBench 462 = .ok (.goto 7, 3) := by decide +kernel
theorem dL_isBench_465 : decode cL_isBench 465 = .ok (.iload 11, 2) := by decide +kernel
theorem dL_isBench_467 : decode cL_isBench 467 = .ok (.iconst 1, 1) := by decide +kernel
theorem dL_isBench_468 : decode cL_isBench 468 = .ok (.isub, 1) := by decide +kernel
theorem dL_isBench_469 : decode cL_isBench 469 = .ok (.isub, 1) := by decide +kernel
theorem dL_isBench_470 : decode cL_isBench 470 = .ok (.if_icmp .ne 60, 3) := by decide +kernel
theorem dL_isBench_473 : decode cL_isBench 473 = .ok (.aload_n 0, 1) := by decide +kernel
theorem dL_isBench_474 : decode cL_isBench 474 = .ok (.iload_n 2, 1) := by decide +kernel
theorem dL_isBench_475 : decode cL_isBench 475 = .ok (.iload 11, 2) := by decide +kernel
theorem dL_isBench_477 : decode cL_isBench 477 = .ok (.invokevirtual 122, 3) := by decide +kernel
theorem dL_isBench_480 : decode cL_isBench 480 = .ok (.ifCond .le 7, 3) := by decide +kernel
theorem dL_isBench_483 : decode cL_isBench 483 = .ok (.iconst 1, 1) := by decide +kernel
theorem dL_isBench_484 : decode cL_isBench 484 = .ok (.goto 4, 3) := by decide +kernel
theorem dL_isBench_487 : decode cL_isBench 487 = .ok (.iconst 0, 1) := by decide +kernel
theorem dL_isBench_488 : decode cL_isBench 488 = .ok (.iload 12, 2) := by decide +kernel
theorem dL_isBench_490 : decode cL_isBench 490 = .ok (.if_icmp .ne 40, 3) := by decide +kernel
theorem dL_isBench_493 : decode cL_isBench 493 = .ok (.aload_n 0, 1) := by decide +kernel
theorem dL_isBench_494 : decode cL_isBench 494 = .ok (.iload_n 2, 1) := by decide +kernel
theorem dL_isBench_495 : decode cL_isBench 495 = .ok (.iload 11, 2) := by decide +kernel
theorem dL_isBench_497 : decode cL_isBench 497 = .ok (.invokevirtual 125, 3) := by decide +kernel
theorem dL_isBench_500 : decode cL_isBench 500 = .ok (.iload 6, 2) := by decide +kernel
theorem dL_isBench_502 : decode cL_isBench 502 = .ok (.if_icmp .gt 28, 3) := by decide +kernel
theorem dL_isBench_505 : decode cL_isBench 505 = .ok (.iload 11, 2) := by decide +kernel
theorem dL_isBench_507 : decode cL_isBench 507 = .ok (.iconst 2, 1) := by decide +kernel
theorem dL_isBench_508 : decode cL_isBench 508 = .ok (.if_icmp .le 24, 3) := by decide +kernel
theorem dL_isBench_511 : decode cL_isBench 511 = .ok (.aload_n 0, 1) := by decide +kernel
theorem dL_isBench_512 : decode cL_isBench 512 = .ok (.iload_n 2, 1) := by decide +kernel
theorem dL_isBench_513 : decode cL_isBench 513 = .ok (.iload 11, 2) := by decide +kernel
theorem dL_isBench_515 : decode cL_isBench 515 = .ok (.invokevirtual 125, 3) := by decide +kernel
theorem dL_isBench_518 : decode cL_isBench 518 = .ok (.aload_n 0, 1) := by decide +kernel
theorem dL_isBench_519 : decode cL_isBench 519 = .ok (.iload_n 2, 1) := by decide +kernel
theorem dL_isBench_520 : decode cL_isBench 520 = .ok (.iload 11, 2) := by decide +kernel
theorem dL_isBench_522 : decode cL_isBench 522 = .ok (.iconst 1, 1) := by decide +kernel
theorem dL_isBench_523 : decode cL_isBench 523 = .ok (.isub, 1) := by decide +kernel
theorem dL_isBench_524 : decode cL_isBench 524 = .ok (.invokevirtual 125, 3) := by decide +kernel
theorem dL_isBench_527 : decode cL_isBench 527 = .ok (.if_icmp .ge 5, 3) := by decide +kernel
theorem dL_isBench_530 : decode cL_isBench 530 = .ok (.iconst 0, 1) := by decide +kernel
theorem dL_isBench_531 : decode cL_isBench 531 = .ok (.ireturn, 1) := by decide +kernel
theorem dL_isBench_532 : decode cL_isBench 532 = .ok (.iinc 11 1, 3) := by decide +kernel
theorem dL_isBench_535 : decode cL_isBench 535 = .ok (.goto (-140), 3) := by decide +kernel
theorem dL_isBench_538 : decode cL_isBench 538 = .ok (.iinc 2 1, 3) := by decide +kernel
theorem dL_isBench_541 : decode cL_isBench 541 = .ok (.goto (-537), 3) := by decide +kernel
theorem dL_isBench_544 : decode cL_isBench 544 = .ok (.iload_n 1, 1) := by decide +kernel
theorem dL_isBench_545 : decode cL_isBench 545 = .ok (.iconst 3, 1) := by decide +kernel
theorem dL_isBench_546 : decode cL_isBench 546 = .ok (.if_icmp .gt 41, 3) := by decide +kernel
theorem dL_isBench_549 : decode cL_isBench 549 = .ok (.aload_n 0, 1) := by decide +kernel
theorem dL_isBench_550 : decode cL_isBench 550 = .ok (.invokevirtual 106, 3) := by decide +kernel
theorem dL_isBench_553 : decode cL_isBench 553 = .ok (.ifCond .ge 7, 3) := by decide +kernel
theorem dL_isBench_556 : decode cL_isBench 556 = .ok (.iconst 1, 1) := by decide +kernel
