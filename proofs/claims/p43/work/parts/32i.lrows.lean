theorem dX12_changes_433 : decode cX12_changes 433 = .ok (.isub, 1) := by decide +kernel
theorem dX12_changes_434 : decode cX12_changes 434 = .ok (.istore 5, 2) := by decide +kernel
theorem dX12_changes_436 : decode cX12_changes 436 = .ok (.aload_n 0, 1) := by decide +kernel
theorem dX12_changes_437 : decode cX12_changes 437 = .ok (.iload 5, 2) := by decide +kernel
theorem dX12_changes_439 : decode cX12_changes 439 = .ok (.ifCond .ge 9, 3) := by decide +kernel
theorem dX12_changes_442 : decode cX12_changes 442 = .ok (.sipush (-150), 3) := by decide +kernel
theorem dX12_changes_445 : decode cX12_changes 445 = .ok (.goto 19, 3) := by decide +kernel
theorem dX12_changes_448 : decode cX12_changes 448 = .ok (.iload 5, 2) := by decide +kernel
theorem dX12_changes_450 : decode cX12_changes 450 = .ok (.sipush 300, 3) := by decide +kernel
theorem dX12_changes_453 : decode cX12_changes 453 = .ok (.if_icmp .le 9, 3) := by decide +kernel
theorem dX12_changes_456 : decode cX12_changes 456 = .ok (.sipush 200, 3) := by decide +kernel
theorem dX12_changes_459 : decode cX12_changes 459 = .ok (.goto 5, 3) := by decide +kernel
theorem dX12_changes_462 : decode cX12_changes 462 = .ok (.iload 5, 2) := by decide +kernel
theorem dX12_changes_464 : decode cX12_changes 464 = .ok (.invokevirtual 130, 3) := by decide +kernel
theorem dX12_changes_467 : decode cX12_changes 467 = .ok (.istore 6, 2) := by decide +kernel
theorem dX12_changes_469 : decode cX12_changes 469 = .ok (.iload 6, 2) := by decide +kernel
theorem dX12_changes_471 : decode cX12_changes 471 = .ok (.iconst (-1), 1) := by decide +kernel
theorem dX12_changes_472 : decode cX12_changes 472 = .ok (.if_icmp .eq 16, 3) := by decide +kernel
theorem dX12_changes_475 : decode cX12_changes 475 = .ok (.iload 6, 2) := by decide +kernel
theorem dX12_changes_477 : decode cX12_changes 477 = .ok (.bipush (-2), 2) := by decide +kernel
theorem dX12_changes_479 : decode cX12_changes 479 = .ok (.if_icmp .eq 9, 3) := by decide +kernel
theorem dX12_changes_482 : decode cX12_changes 482 = .ok (.iload 6, 2) := by decide +kernel
theorem dX12_changes_484 : decode cX12_changes 484 = .ok (.iconst 1, 1) := by decide +kernel
theorem dX12_changes_485 : decode cX12_changes 485 = .ok (.if_icmp .lt 7, 3) := by decide +kernel
theorem dX12_changes_488 : decode cX12_changes 488 = .ok (.iconst 1, 1) := by decide +kernel
theorem dX12_changes_489 : decode cX12_changes 489 = .ok (.goto 4, 3) := by decide +kernel
theorem dX12_changes_492 : decode cX12_changes 492 = .ok (.iconst 0, 1) := by decide +kernel
theorem dX12_changes_493 : decode cX12_changes 493 = .ok (.ireturn, 1) := by decide +kernel
theorem dX12_changes_494 : decode cX12_changes 494 = .ok (.iload_n 3, 1) := by decide +kernel
theorem dX12_changes_495 : decode cX12_changes 495 = .ok (.bipush 12, 2) := by decide +kernel
theorem dX12_changes_497 : decode cX12_changes 497 = .ok (.if_icmp .ne 30, 3) := by decide +kernel
theorem dX12_changes_500 : decode cX12_changes 500 = .ok (.aload_n 0, 1) := by decide +kernel
theorem dX12_changes_501 : decode cX12_changes 501 = .ok (.iload_n 2, 1) := by decide +kernel
theorem dX12_changes_502 : decode cX12_changes 502 = .ok (.iconst 3, 1) := by decide +kernel
theorem dX12_changes_503 : decode cX12_changes 503 = .ok (.invokestatic 102, 3) := by decide +kernel
theorem dX12_changes_506 : decode cX12_changes 506 = .ok (.iload_n 2, 1) := by decide +kernel
theorem dX12_changes_507 : decode cX12_changes 507 = .ok (.iconst 3, 1) := by decide +kernel
theorem dX12_changes_508 : decode cX12_changes 508 = .ok (.ishr, 1) := by decide +kernel
theorem dX12_changes_509 : decode cX12_changes 509 = .ok (.sipush 1001, 3) := by decide +kernel
theorem dX12_changes_512 : decode cX12_changes 512 = .ok (.invokestatic 102, 3) := by decide +kernel
theorem dX12_changes_515 : decode cX12_changes 515 = .ok (.invokevirtual 133, 3) := by decide +kernel
theorem dX12_changes_518 : decode cX12_changes 518 = .ok (.ifCond .le 7, 3) := by decide +kernel
theorem dX12_changes_521 : decode cX12_changes 521 = .ok (.iconst 1, 1) := by decide +kernel
theorem dX12_changes_522 : decode cX12_changes 522 = .ok (.goto 4, 3) := by decide +kernel
theorem dX12_changes_525 : decode cX12_changes 525 = .ok (.iconst 0, 1) := by decide +kernel
theorem dX12_changes_526 : decode cX12_changes 526 = .ok (.ireturn, 1) := by decide +kernel
theorem dX12_changes_527 : decode cX12_changes 527 = .ok (.iload_n 3, 1) := by decide +kernel
theorem dX12_changes_528 : decode cX12_changes 528 = .ok (.bipush 13, 2) := by decide +kernel
theorem dX12_changes_530 : decode cX12_changes 530 = .ok (.if_icmp .ne 270, 3) := by decide +kernel
theorem dX12_changes_533 : decode cX12_changes 533 = .ok (.iconst 1, 1) := by decide +kernel
theorem dX12_changes_534 : decode cX12_changes 534 = .ok (.iload_n 2, 1) := by decide +kernel
theorem dX12_changes_535 : decode cX12_changes 535 = .ok (.bipush 90, 2) := by decide +kernel
theorem dX12_changes_537 : decode cX12_changes 537 = .ok (.invokestatic 102, 3) := by decide +kernel
theorem dX12_changes_540 : decode cX12_changes 540 = .ok (.iadd, 1) := by decide +kernel
theorem dX12_changes_541 : decode cX12_changes 541 = .ok (.istore 5, 2) := by decide +kernel
theorem dX12_changes_543 : decode cX12_changes 543 = .ok (.aload_n 0, 1) := by decide +kernel
theorem dX12_changes_544 : decode cX12_changes 544 = .ok (.iload 5, 2) := by decide +kernel
theorem dX12_changes_546 : decode cX12_changes 546 = .ok (.invokevirtual 136, 3) := by decide +kernel
theorem dX12_changes_549 : decode cX12_changes 549 = .ok (.istore 6, 2) := by decide +kernel
theorem dX12_changes_551 : decode cX12_changes 551 = .ok (.bipush 10, 2) := by decide +kernel
theorem dX12_changes_553 : decode cX12_changes 553 = .ok (.iload_n 2, 1) := by decide +kernel
theorem dX12_changes_554 : decode cX12_changes 554 = .ok (.bipush 8, 2) := by decide +kernel
theorem dX12_changes_556 : decode cX12_changes 556 = .ok (.ishr, 1) := by decide +kernel
theorem dX12_changes_557 : decode cX12_changes 557 = .ok (.bipush 16, 2) := by decide +kernel
theorem dX12_changes_559 : decode cX12_changes 559 = .ok (.invokestatic 102, 3) := by decide +kernel
theorem dX12_changes_562 : decode cX12_changes 562 = .ok (.imul, 1) := by decide +kernel
theorem dX12_changes_563 : decode cX12_changes 563 = .ok (.istore 7, 2) := by decide +kernel
theorem dX12_changes_565 : decode cX12_changes 565 = .ok (.aload_n 0, 1) := by decide +kernel
theorem dX12_changes_566 : decode cX12_changes 566 = .ok (.iconst 5, 1) := by decide +kernel
theorem dX12_changes_567 : decode cX12_changes 567 = .ok (.invokevirtual 49, 3) := by decide +kernel
theorem dX12_changes_570 : decode cX12_changes 570 = .ok (.istore 8, 2) := by decide +kernel
theorem dX12_changes_572 : decode cX12_changes 572 = .ok (.aload_n 0, 1) := by decide +kernel
theorem dX12_changes_573 : decode cX12_changes 573 = .ok (.invokevirtual 30, 3) := by decide +kernel
theorem dX12_changes_576 : decode cX12_changes 576 = .ok (.istore 9, 2) := by decide +kernel
theorem dX12_changes_578 : decode cX12_changes 578 = .ok (.aload_n 0, 1) := by decide +kernel
