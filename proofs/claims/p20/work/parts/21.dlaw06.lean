theorem d_law_554 : decode code 554 = .ok (.iadd, 1) := by decide +kernel
theorem d_law_555 : decode code 555 = .ok (.iaload, 1) := by decide +kernel
theorem d_law_556 : decode code 556 = .ok (.aload_n 0, 1) := by decide +kernel
theorem d_law_557 : decode code 557 = .ok (.iload_n 3, 1) := by decide +kernel
theorem d_law_558 : decode code 558 = .ok (.iconst 2, 1) := by decide +kernel
theorem d_law_559 : decode code 559 = .ok (.iadd, 1) := by decide +kernel
theorem d_law_560 : decode code 560 = .ok (.iaload, 1) := by decide +kernel
theorem d_law_561 : decode code 561 = .ok (.invokevirtual 77, 3) := by decide +kernel
theorem d_law_564 : decode code 564 = .ok (.pop, 1) := by decide +kernel
theorem d_law_565 : decode code 565 = .ok (.goto 204, 3) := by decide +kernel
theorem d_law_568 : decode code 568 = .ok (.aload_n 1, 1) := by decide +kernel
theorem d_law_569 : decode code 569 = .ok (.aload_n 0, 1) := by decide +kernel
theorem d_law_570 : decode code 570 = .ok (.iload_n 3, 1) := by decide +kernel
theorem d_law_571 : decode code 571 = .ok (.iconst 1, 1) := by decide +kernel
theorem d_law_572 : decode code 572 = .ok (.iadd, 1) := by decide +kernel
theorem d_law_573 : decode code 573 = .ok (.iaload, 1) := by decide +kernel
theorem d_law_574 : decode code 574 = .ok (.aload_n 0, 1) := by decide +kernel
theorem d_law_575 : decode code 575 = .ok (.iload_n 3, 1) := by decide +kernel
theorem d_law_576 : decode code 576 = .ok (.iconst 2, 1) := by decide +kernel
theorem d_law_577 : decode code 577 = .ok (.iadd, 1) := by decide +kernel
theorem d_law_578 : decode code 578 = .ok (.iaload, 1) := by decide +kernel
theorem d_law_579 : decode code 579 = .ok (.invokevirtual 78, 3) := by decide +kernel
theorem d_law_582 : decode code 582 = .ok (.pop, 1) := by decide +kernel
theorem d_law_583 : decode code 583 = .ok (.aload_n 2, 1) := by decide +kernel
theorem d_law_584 : decode code 584 = .ok (.aload_n 0, 1) := by decide +kernel
theorem d_law_585 : decode code 585 = .ok (.iload_n 3, 1) := by decide +kernel
theorem d_law_586 : decode code 586 = .ok (.iconst 1, 1) := by decide +kernel
theorem d_law_587 : decode code 587 = .ok (.iadd, 1) := by decide +kernel
theorem d_law_588 : decode code 588 = .ok (.iaload, 1) := by decide +kernel
theorem d_law_589 : decode code 589 = .ok (.aload_n 0, 1) := by decide +kernel
theorem d_law_590 : decode code 590 = .ok (.iload_n 3, 1) := by decide +kernel
theorem d_law_591 : decode code 591 = .ok (.iconst 2, 1) := by decide +kernel
theorem d_law_592 : decode code 592 = .ok (.iadd, 1) := by decide +kernel
theorem d_law_593 : decode code 593 = .ok (.iaload, 1) := by decide +kernel
theorem d_law_594 : decode code 594 = .ok (.invokevirtual 81, 3) := by decide +kernel
theorem d_law_597 : decode code 597 = .ok (.pop, 1) := by decide +kernel
theorem d_law_598 : decode code 598 = .ok (.goto 171, 3) := by decide +kernel
theorem d_law_601 : decode code 601 = .ok (.aload_n 1, 1) := by decide +kernel
theorem d_law_602 : decode code 602 = .ok (.aload_n 0, 1) := by decide +kernel
theorem d_law_603 : decode code 603 = .ok (.iload_n 3, 1) := by decide +kernel
theorem d_law_604 : decode code 604 = .ok (.iconst 1, 1) := by decide +kernel
theorem d_law_605 : decode code 605 = .ok (.iadd, 1) := by decide +kernel
theorem d_law_606 : decode code 606 = .ok (.iaload, 1) := by decide +kernel
theorem d_law_607 : decode code 607 = .ok (.aload_n 0, 1) := by decide +kernel
theorem d_law_608 : decode code 608 = .ok (.iload_n 3, 1) := by decide +kernel
theorem d_law_609 : decode code 609 = .ok (.iconst 2, 1) := by decide +kernel
theorem d_law_610 : decode code 610 = .ok (.iadd, 1) := by decide +kernel
theorem d_law_611 : decode code 611 = .ok (.iaload, 1) := by decide +kernel
theorem d_law_612 : decode code 612 = .ok (.invokevirtual 82, 3) := by decide +kernel
theorem d_law_615 : decode code 615 = .ok (.pop, 1) := by decide +kernel
theorem d_law_616 : decode code 616 = .ok (.aload_n 2, 1) := by decide +kernel
theorem d_law_617 : decode code 617 = .ok (.aload_n 0, 1) := by decide +kernel
theorem d_law_618 : decode code 618 = .ok (.iload_n 3, 1) := by decide +kernel
theorem d_law_619 : decode code 619 = .ok (.iconst 1, 1) := by decide +kernel
theorem d_law_620 : decode code 620 = .ok (.iadd, 1) := by decide +kernel
theorem d_law_621 : decode code 621 = .ok (.iaload, 1) := by decide +kernel
theorem d_law_622 : decode code 622 = .ok (.aload_n 0, 1) := by decide +kernel
theorem d_law_623 : decode code 623 = .ok (.iload_n 3, 1) := by decide +kernel
theorem d_law_624 : decode code 624 = .ok (.iconst 2, 1) := by decide +kernel
theorem d_law_625 : decode code 625 = .ok (.iadd, 1) := by decide +kernel
