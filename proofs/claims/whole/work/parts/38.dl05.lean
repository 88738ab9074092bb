theorem d_law_502 : decode code 502 = .ok (.aload_n 0, 1) := by decide +kernel
theorem d_law_503 : decode code 503 = .ok (.iload 4, 2) := by decide +kernel
theorem d_law_505 : decode code 505 = .ok (.iconst 1, 1) := by decide +kernel
theorem d_law_506 : decode code 506 = .ok (.iadd, 1) := by decide +kernel
theorem d_law_507 : decode code 507 = .ok (.iaload, 1) := by decide +kernel
theorem d_law_508 : decode code 508 = .ok (.aload_n 0, 1) := by decide +kernel
theorem d_law_509 : decode code 509 = .ok (.iload 4, 2) := by decide +kernel
theorem d_law_511 : decode code 511 = .ok (.iconst 2, 1) := by decide +kernel
theorem d_law_512 : decode code 512 = .ok (.iadd, 1) := by decide +kernel
theorem d_law_513 : decode code 513 = .ok (.iaload, 1) := by decide +kernel
theorem d_law_514 : decode code 514 = .ok (.aload_n 0, 1) := by decide +kernel
theorem d_law_515 : decode code 515 = .ok (.iload 4, 2) := by decide +kernel
theorem d_law_517 : decode code 517 = .ok (.iconst 3, 1) := by decide +kernel
theorem d_law_518 : decode code 518 = .ok (.iadd, 1) := by decide +kernel
theorem d_law_519 : decode code 519 = .ok (.iaload, 1) := by decide +kernel
theorem d_law_520 : decode code 520 = .ok (.invokevirtual 86, 3) := by decide +kernel
theorem d_law_523 : decode code 523 = .ok (.istore 6, 2) := by decide +kernel
theorem d_law_525 : decode code 525 = .ok (.aload_n 2, 1) := by decide +kernel
theorem d_law_526 : decode code 526 = .ok (.invokevirtual 66, 3) := by decide +kernel
theorem d_law_529 : decode code 529 = .ok (.iload 5, 2) := by decide +kernel
theorem d_law_531 : decode code 531 = .ok (.if_icmp .eq 5, 3) := by decide +kernel
theorem d_law_534 : decode code 534 = .ok (.iconst 0, 1) := by decide +kernel
theorem d_law_535 : decode code 535 = .ok (.ireturn, 1) := by decide +kernel
theorem d_law_536 : decode code 536 = .ok (.iload 5, 2) := by decide +kernel
theorem d_law_538 : decode code 538 = .ok (.ifCond .ne 15, 3) := by decide +kernel
theorem d_law_541 : decode code 541 = .ok (.aload_n 3, 1) := by decide +kernel
theorem d_law_542 : decode code 542 = .ok (.iconst 0, 1) := by decide +kernel
theorem d_law_543 : decode code 543 = .ok (.laload, 1) := by decide +kernel
theorem d_law_544 : decode code 544 = .ok (.iload 6, 2) := by decide +kernel
theorem d_law_546 : decode code 546 = .ok (.i2l, 1) := by decide +kernel
theorem d_law_547 : decode code 547 = .ok (.lcmp, 1) := by decide +kernel
theorem d_law_548 : decode code 548 = .ok (.ifCond .eq 5, 3) := by decide +kernel
theorem d_law_551 : decode code 551 = .ok (.iconst 0, 1) := by decide +kernel
theorem d_law_552 : decode code 552 = .ok (.ireturn, 1) := by decide +kernel
theorem d_law_553 : decode code 553 = .ok (.goto 465, 3) := by decide +kernel
theorem d_law_556 : decode code 556 = .ok (.aload_n 1, 1) := by decide +kernel
theorem d_law_557 : decode code 557 = .ok (.aload_n 0, 1) := by decide +kernel
theorem d_law_558 : decode code 558 = .ok (.iload 4, 2) := by decide +kernel
theorem d_law_560 : decode code 560 = .ok (.iconst 1, 1) := by decide +kernel
theorem d_law_561 : decode code 561 = .ok (.iadd, 1) := by decide +kernel
theorem d_law_562 : decode code 562 = .ok (.iaload, 1) := by decide +kernel
theorem d_law_563 : decode code 563 = .ok (.aload_n 0, 1) := by decide +kernel
theorem d_law_564 : decode code 564 = .ok (.iload 4, 2) := by decide +kernel
theorem d_law_566 : decode code 566 = .ok (.iconst 2, 1) := by decide +kernel
theorem d_law_567 : decode code 567 = .ok (.iadd, 1) := by decide +kernel
theorem d_law_568 : decode code 568 = .ok (.iaload, 1) := by decide +kernel
theorem d_law_569 : decode code 569 = .ok (.aload_n 0, 1) := by decide +kernel
theorem d_law_570 : decode code 570 = .ok (.iload 4, 2) := by decide +kernel
theorem d_law_572 : decode code 572 = .ok (.iconst 3, 1) := by decide +kernel
theorem d_law_573 : decode code 573 = .ok (.iadd, 1) := by decide +kernel
theorem d_law_574 : decode code 574 = .ok (.iaload, 1) := by decide +kernel
theorem d_law_575 : decode code 575 = .ok (.aload_n 0, 1) := by decide +kernel
theorem d_law_576 : decode code 576 = .ok (.iload 4, 2) := by decide +kernel
theorem d_law_578 : decode code 578 = .ok (.iconst 4, 1) := by decide +kernel
theorem d_law_579 : decode code 579 = .ok (.iadd, 1) := by decide +kernel
theorem d_law_580 : decode code 580 = .ok (.iaload, 1) := by decide +kernel
theorem d_law_581 : decode code 581 = .ok (.aload_n 3, 1) := by decide +kernel
theorem d_law_582 : decode code 582 = .ok (.invokestatic 87, 3) := by decide +kernel
theorem d_law_585 : decode code 585 = .ok (.istore 5, 2) := by decide +kernel
theorem d_law_587 : decode code 587 = .ok (.aload_n 2, 1) := by decide +kernel
