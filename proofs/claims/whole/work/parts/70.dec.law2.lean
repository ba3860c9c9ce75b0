/-! Decoded instructions of the law. -/
theorem d_Law_480 : decode code 480 = .ok (.iadd, 1) := by decide +kernel
theorem d_Law_481 : decode code 481 = .ok (.iaload, 1) := by decide +kernel
theorem d_Law_482 : decode code 482 = .ok (.invokevirtual 68, 3) := by decide +kernel
theorem d_Law_485 : decode code 485 = .ok (.if_icmp .eq 190, 3) := by decide +kernel
theorem d_Law_488 : decode code 488 = .ok (.iconst 0, 1) := by decide +kernel
theorem d_Law_489 : decode code 489 = .ok (.ireturn, 1) := by decide +kernel
theorem d_Law_490 : decode code 490 = .ok (.aload_n 1, 1) := by decide +kernel
theorem d_Law_491 : decode code 491 = .ok (.aload_n 0, 1) := by decide +kernel
theorem d_Law_492 : decode code 492 = .ok (.iload_n 3, 1) := by decide +kernel
theorem d_Law_493 : decode code 493 = .ok (.iconst 1, 1) := by decide +kernel
theorem d_Law_494 : decode code 494 = .ok (.iadd, 1) := by decide +kernel
theorem d_Law_495 : decode code 495 = .ok (.iaload, 1) := by decide +kernel
theorem d_Law_496 : decode code 496 = .ok (.invokevirtual 69, 3) := by decide +kernel
theorem d_Law_499 : decode code 499 = .ok (.aload_n 2, 1) := by decide +kernel
theorem d_Law_500 : decode code 500 = .ok (.aload_n 0, 1) := by decide +kernel
theorem d_Law_501 : decode code 501 = .ok (.iload_n 3, 1) := by decide +kernel
theorem d_Law_502 : decode code 502 = .ok (.iconst 1, 1) := by decide +kernel
theorem d_Law_503 : decode code 503 = .ok (.iadd, 1) := by decide +kernel
theorem d_Law_504 : decode code 504 = .ok (.iaload, 1) := by decide +kernel
theorem d_Law_505 : decode code 505 = .ok (.invokevirtual 72, 3) := by decide +kernel
theorem d_Law_508 : decode code 508 = .ok (.if_icmp .eq 167, 3) := by decide +kernel
theorem d_Law_511 : decode code 511 = .ok (.iconst 0, 1) := by decide +kernel
theorem d_Law_512 : decode code 512 = .ok (.ireturn, 1) := by decide +kernel
theorem d_Law_513 : decode code 513 = .ok (.aload_n 1, 1) := by decide +kernel
theorem d_Law_514 : decode code 514 = .ok (.invokevirtual 73, 3) := by decide +kernel
theorem d_Law_517 : decode code 517 = .ok (.aload_n 2, 1) := by decide +kernel
theorem d_Law_518 : decode code 518 = .ok (.invokevirtual 76, 3) := by decide +kernel
theorem d_Law_521 : decode code 521 = .ok (.if_icmp .eq 154, 3) := by decide +kernel
theorem d_Law_524 : decode code 524 = .ok (.iconst 0, 1) := by decide +kernel
theorem d_Law_525 : decode code 525 = .ok (.ireturn, 1) := by decide +kernel
theorem d_Law_526 : decode code 526 = .ok (.aload_n 1, 1) := by decide +kernel
theorem d_Law_527 : decode code 527 = .ok (.invokevirtual 77, 3) := by decide +kernel
theorem d_Law_530 : decode code 530 = .ok (.aload_n 2, 1) := by decide +kernel
theorem d_Law_531 : decode code 531 = .ok (.invokevirtual 80, 3) := by decide +kernel
theorem d_Law_534 : decode code 534 = .ok (.if_icmp .eq 141, 3) := by decide +kernel
theorem d_Law_537 : decode code 537 = .ok (.iconst 0, 1) := by decide +kernel
theorem d_Law_538 : decode code 538 = .ok (.ireturn, 1) := by decide +kernel
theorem d_Law_539 : decode code 539 = .ok (.aload_n 1, 1) := by decide +kernel
theorem d_Law_540 : decode code 540 = .ok (.invokevirtual 81, 3) := by decide +kernel
theorem d_Law_543 : decode code 543 = .ok (.aload_n 2, 1) := by decide +kernel
theorem d_Law_544 : decode code 544 = .ok (.invokevirtual 84, 3) := by decide +kernel
theorem d_Law_547 : decode code 547 = .ok (.if_icmp .eq 128, 3) := by decide +kernel
theorem d_Law_550 : decode code 550 = .ok (.iconst 0, 1) := by decide +kernel
theorem d_Law_551 : decode code 551 = .ok (.ireturn, 1) := by decide +kernel
theorem d_Law_552 : decode code 552 = .ok (.aload_n 1, 1) := by decide +kernel
theorem d_Law_553 : decode code 553 = .ok (.aload_n 0, 1) := by decide +kernel
theorem d_Law_554 : decode code 554 = .ok (.iload_n 3, 1) := by decide +kernel
theorem d_Law_555 : decode code 555 = .ok (.iconst 1, 1) := by decide +kernel
theorem d_Law_556 : decode code 556 = .ok (.iadd, 1) := by decide +kernel
theorem d_Law_557 : decode code 557 = .ok (.iaload, 1) := by decide +kernel
theorem d_Law_558 : decode code 558 = .ok (.invokevirtual 85, 3) := by decide +kernel
theorem d_Law_561 : decode code 561 = .ok (.aload_n 2, 1) := by decide +kernel
theorem d_Law_562 : decode code 562 = .ok (.aload_n 0, 1) := by decide +kernel
theorem d_Law_563 : decode code 563 = .ok (.iload_n 3, 1) := by decide +kernel
theorem d_Law_564 : decode code 564 = .ok (.iconst 1, 1) := by decide +kernel
theorem d_Law_565 : decode code 565 = .ok (.iadd, 1) := by decide +kernel
theorem d_Law_566 : decode code 566 = .ok (.iaload, 1) := by decide +kernel
theorem d_Law_567 : decode code 567 = .ok (.invokevirtual 88, 3) := by decide +kernel
theorem d_Law_570 : decode code 570 = .ok (.if_icmp .eq 105, 3) := by decide +kernel
theorem d_Law_573 : decode code 573 = .ok (.iconst 0, 1) := by decide +kernel
theorem d_Law_574 : decode code 574 = .ok (.ireturn, 1) := by decide +kernel
theorem d_Law_575 : decode code 575 = .ok (.aload_n 1, 1) := by decide +kernel
theorem d_Law_576 : decode code 576 = .ok (.aload_n 0, 1) := by decide +kernel
theorem d_Law_577 : decode code 577 = .ok (.iload_n 3, 1) := by decide +kernel
theorem d_Law_578 : decode code 578 = .ok (.iconst 1, 1) := by decide +kernel
theorem d_Law_579 : decode code 579 = .ok (.iadd, 1) := by decide +kernel
theorem d_Law_580 : decode code 580 = .ok (.iaload, 1) := by decide +kernel
theorem d_Law_581 : decode code 581 = .ok (.invokevirtual 89, 3) := by decide +kernel
theorem d_Law_584 : decode code 584 = .ok (.aload_n 2, 1) := by decide +kernel
theorem d_Law_585 : decode code 585 = .ok (.aload_n 0, 1) := by decide +kernel
theorem d_Law_586 : decode code 586 = .ok (.iload_n 3, 1) := by decide +kernel
theorem d_Law_587 : decode code 587 = .ok (.iconst 1, 1) := by decide +kernel
theorem d_Law_588 : decode code 588 = .ok (.iadd, 1) := by decide +kernel
theorem d_Law_589 : decode code 589 = .ok (.iaload, 1) := by decide +kernel
theorem d_Law_590 : decode code 590 = .ok (.invokevirtual 92, 3) := by decide +kernel
theorem d_Law_593 : decode code 593 = .ok (.if_icmp .eq 82, 3) := by decide +kernel
theorem d_Law_596 : decode code 596 = .ok (.iconst 0, 1) := by decide +kernel
theorem d_Law_597 : decode code 597 = .ok (.ireturn, 1) := by decide +kernel
theorem d_Law_598 : decode code 598 = .ok (.aload_n 1, 1) := by decide +kernel
theorem d_Law_599 : decode code 599 = .ok (.aload_n 0, 1) := by decide +kernel
theorem d_Law_600 : decode code 600 = .ok (.iload_n 3, 1) := by decide +kernel
theorem d_Law_601 : decode code 601 = .ok (.iconst 1, 1) := by decide +kernel
theorem d_Law_602 : decode code 602 = .ok (.iadd, 1) := by decide +kernel
theorem d_Law_603 : decode code 603 = .ok (.iaload, 1) := by decide +kernel
theorem d_Law_604 : decode code 604 = .ok (.aload_n 0, 1) := by decide +kernel
theorem d_Law_605 : decode code 605 = .ok (.iload_n 3, 1) := by decide +kernel
theorem d_Law_606 : decode code 606 = .ok (.iconst 2, 1) := by decide +kernel
theorem d_Law_607 : decode code 607 = .ok (.iadd, 1) := by decide +kernel
theorem d_Law_608 : decode code 608 = .ok (.iaload, 1) := by decide +kernel
theorem d_Law_609 : decode code 609 = .ok (.invokevirtual 93, 3) := by decide +kernel
theorem d_Law_612 : decode code 612 = .ok (.aload_n 2, 1) := by decide +kernel
theorem d_Law_613 : decode code 613 = .ok (.aload_n 0, 1) := by decide +kernel
theorem d_Law_614 : decode code 614 = .ok (.iload_n 3, 1) := by decide +kernel
theorem d_Law_615 : decode code 615 = .ok (.iconst 1, 1) := by decide +kernel
theorem d_Law_616 : decode code 616 = .ok (.iadd, 1) := by decide +kernel
theorem d_Law_617 : decode code 617 = .ok (.iaload, 1) := by decide +kernel
theorem d_Law_618 : decode code 618 = .ok (.aload_n 0, 1) := by decide +kernel
theorem d_Law_619 : decode code 619 = .ok (.iload_n 3, 1) := by decide +kernel
theorem d_Law_620 : decode code 620 = .ok (.iconst 2, 1) := by decide +kernel
theorem d_Law_621 : decode code 621 = .ok (.iadd, 1) := by decide +kernel
theorem d_Law_622 : decode code 622 = .ok (.iaload, 1) := by decide +kernel
theorem d_Law_623 : decode code 623 = .ok (.invokevirtual 97, 3) := by decide +kernel
theorem d_Law_626 : decode code 626 = .ok (.lcmp, 1) := by decide +kernel
theorem d_Law_627 : decode code 627 = .ok (.ifCond .eq 48, 3) := by decide +kernel
theorem d_Law_630 : decode code 630 = .ok (.iconst 0, 1) := by decide +kernel
theorem d_Law_631 : decode code 631 = .ok (.ireturn, 1) := by decide +kernel
theorem d_Law_632 : decode code 632 = .ok (.aload_n 1, 1) := by decide +kernel
theorem d_Law_633 : decode code 633 = .ok (.aload_n 0, 1) := by decide +kernel
theorem d_Law_634 : decode code 634 = .ok (.iload_n 3, 1) := by decide +kernel
theorem d_Law_635 : decode code 635 = .ok (.iconst 1, 1) := by decide +kernel
theorem d_Law_636 : decode code 636 = .ok (.iadd, 1) := by decide +kernel
theorem d_Law_637 : decode code 637 = .ok (.iaload, 1) := by decide +kernel
theorem d_Law_638 : decode code 638 = .ok (.aload_n 0, 1) := by decide +kernel
theorem d_Law_639 : decode code 639 = .ok (.iload_n 3, 1) := by decide +kernel
theorem d_Law_640 : decode code 640 = .ok (.iconst 2, 1) := by decide +kernel
theorem d_Law_641 : decode code 641 = .ok (.iadd, 1) := by decide +kernel
theorem d_Law_642 : decode code 642 = .ok (.iaload, 1) := by decide +kernel
theorem d_Law_643 : decode code 643 = .ok (.aload_n 0, 1) := by decide +kernel
theorem d_Law_644 : decode code 644 = .ok (.iload_n 3, 1) := by decide +kernel
theorem d_Law_645 : decode code 645 = .ok (.iconst 3, 1) := by decide +kernel
theorem d_Law_646 : decode code 646 = .ok (.iadd, 1) := by decide +kernel
theorem d_Law_647 : decode code 647 = .ok (.iaload, 1) := by decide +kernel
theorem d_Law_648 : decode code 648 = .ok (.invokevirtual 98, 3) := by decide +kernel
theorem d_Law_651 : decode code 651 = .ok (.aload_n 2, 1) := by decide +kernel
theorem d_Law_652 : decode code 652 = .ok (.aload_n 0, 1) := by decide +kernel
theorem d_Law_653 : decode code 653 = .ok (.iload_n 3, 1) := by decide +kernel
theorem d_Law_654 : decode code 654 = .ok (.iconst 1, 1) := by decide +kernel
theorem d_Law_655 : decode code 655 = .ok (.iadd, 1) := by decide +kernel
theorem d_Law_656 : decode code 656 = .ok (.iaload, 1) := by decide +kernel
theorem d_Law_657 : decode code 657 = .ok (.aload_n 0, 1) := by decide +kernel
theorem d_Law_658 : decode code 658 = .ok (.iload_n 3, 1) := by decide +kernel
theorem d_Law_659 : decode code 659 = .ok (.iconst 2, 1) := by decide +kernel
theorem d_Law_660 : decode code 660 = .ok (.iadd, 1) := by decide +kernel
theorem d_Law_661 : decode code 661 = .ok (.iaload, 1) := by decide +kernel
theorem d_Law_662 : decode code 662 = .ok (.aload_n 0, 1) := by decide +kernel
theorem d_Law_663 : decode code 663 = .ok (.iload_n 3, 1) := by decide +kernel
theorem d_Law_664 : decode code 664 = .ok (.iconst 3, 1) := by decide +kernel
theorem d_Law_665 : decode code 665 = .ok (.iadd, 1) := by decide +kernel
theorem d_Law_666 : decode code 666 = .ok (.iaload, 1) := by decide +kernel
theorem d_Law_667 : decode code 667 = .ok (.invokevirtual 102, 3) := by decide +kernel
theorem d_Law_670 : decode code 670 = .ok (.if_icmp .eq 5, 3) := by decide +kernel
theorem d_Law_673 : decode code 673 = .ok (.iconst 0, 1) := by decide +kernel
theorem d_Law_674 : decode code 674 = .ok (.ireturn, 1) := by decide +kernel
theorem d_Law_675 : decode code 675 = .ok (.iinc 3 5, 3) := by decide +kernel
theorem d_Law_678 : decode code 678 = .ok (.goto (-660), 3) := by decide +kernel
theorem d_Law_681 : decode code 681 = .ok (.iconst 1, 1) := by decide +kernel
theorem d_Law_682 : decode code 682 = .ok (.ireturn, 1) := by decide +kernel
