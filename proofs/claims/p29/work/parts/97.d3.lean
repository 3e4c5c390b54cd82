theorem dL_hangs_482 : decode cL_hangs 482 = .ok (.iconst (-1), 1) := by decide +kernel
theorem dL_hangs_483 : decode cL_hangs 483 = .ok (.if_icmp .ne 7, 3) := by decide +kernel
theorem dL_hangs_486 : decode cL_hangs 486 = .ok (.iconst 1, 1) := by decide +kernel
theorem dL_hangs_487 : decode cL_hangs 487 = .ok (.goto 4, 3) := by decide +kernel
theorem dL_hangs_490 : decode cL_hangs 490 = .ok (.iconst 0, 1) := by decide +kernel
theorem dL_hangs_491 : decode cL_hangs 491 = .ok (.iload 9, 2) := by decide +kernel
theorem dL_hangs_493 : decode cL_hangs 493 = .ok (.iconst (-1), 1) := by decide +kernel
theorem dL_hangs_494 : decode cL_hangs 494 = .ok (.if_icmp .ne 7, 3) := by decide +kernel
theorem dL_hangs_497 : decode cL_hangs 497 = .ok (.iconst 1, 1) := by decide +kernel
theorem dL_hangs_498 : decode cL_hangs 498 = .ok (.goto 4, 3) := by decide +kernel
theorem dL_hangs_501 : decode cL_hangs 501 = .ok (.iconst 0, 1) := by decide +kernel
theorem dL_hangs_502 : decode cL_hangs 502 = .ok (.if_icmp .ne 7, 3) := by decide +kernel
theorem dL_hangs_505 : decode cL_hangs 505 = .ok (.iconst 1, 1) := by decide +kernel
theorem dL_hangs_506 : decode cL_hangs 506 = .ok (.goto 4, 3) := by decide +kernel
theorem dL_hangs_509 : decode cL_hangs 509 = .ok (.iconst 0, 1) := by decide +kernel
theorem dL_hangs_510 : decode cL_hangs 510 = .ok (.istore 7, 2) := by decide +kernel
theorem dL_hangs_512 : decode cL_hangs 512 = .ok (.iinc 8 1, 3) := by decide +kernel
theorem dL_hangs_515 : decode cL_hangs 515 = .ok (.goto (-98), 3) := by decide +kernel
theorem dL_hangs_518 : decode cL_hangs 518 = .ok (.iconst 0, 1) := by decide +kernel
theorem dL_hangs_519 : decode cL_hangs 519 = .ok (.istore 8, 2) := by decide +kernel
theorem dL_hangs_521 : decode cL_hangs 521 = .ok (.iconst 0, 1) := by decide +kernel
theorem dL_hangs_522 : decode cL_hangs 522 = .ok (.istore 9, 2) := by decide +kernel
theorem dL_hangs_524 : decode cL_hangs 524 = .ok (.iload 9, 2) := by decide +kernel
theorem dL_hangs_526 : decode cL_hangs 526 = .ok (.bipush 8, 2) := by decide +kernel
theorem dL_hangs_528 : decode cL_hangs 528 = .ok (.if_icmp .ge 32, 3) := by decide +kernel
theorem dL_hangs_531 : decode cL_hangs 531 = .ok (.iload 8, 2) := by decide +kernel
theorem dL_hangs_533 : decode cL_hangs 533 = .ok (.ifCond .ne 14, 3) := by decide +kernel
theorem dL_hangs_536 : decode cL_hangs 536 = .ok (.aload_n 0, 1) := by decide +kernel
theorem dL_hangs_537 : decode cL_hangs 537 = .ok (.iload 9, 2) := by decide +kernel
theorem dL_hangs_539 : decode cL_hangs 539 = .ok (.iconst 2, 1) := by decide +kernel
theorem dL_hangs_540 : decode cL_hangs 540 = .ok (.invokestatic 108, 3) := by decide +kernel
theorem dL_hangs_543 : decode cL_hangs 543 = .ok (.iconst 1, 1) := by decide +kernel
theorem dL_hangs_544 : decode cL_hangs 544 = .ok (.if_icmp .ne 7, 3) := by decide +kernel
theorem dL_hangs_547 : decode cL_hangs 547 = .ok (.iconst 1, 1) := by decide +kernel
theorem dL_hangs_548 : decode cL_hangs 548 = .ok (.goto 4, 3) := by decide +kernel
theorem dL_hangs_551 : decode cL_hangs 551 = .ok (.iconst 0, 1) := by decide +kernel
theorem dL_hangs_552 : decode cL_hangs 552 = .ok (.istore 8, 2) := by decide +kernel
theorem dL_hangs_554 : decode cL_hangs 554 = .ok (.iinc 9 1, 3) := by decide +kernel
theorem dL_hangs_557 : decode cL_hangs 557 = .ok (.goto (-33), 3) := by decide +kernel
theorem dL_hangs_560 : decode cL_hangs 560 = .ok (.aload_n 0, 1) := by decide +kernel
theorem dL_hangs_561 : decode cL_hangs 561 = .ok (.invokevirtual 113, 3) := by decide +kernel
theorem dL_hangs_564 : decode cL_hangs 564 = .ok (.istore 9, 2) := by decide +kernel
theorem dL_hangs_566 : decode cL_hangs 566 = .ok (.aload_n 0, 1) := by decide +kernel
theorem dL_hangs_567 : decode cL_hangs 567 = .ok (.iconst 1, 1) := by decide +kernel
theorem dL_hangs_568 : decode cL_hangs 568 = .ok (.invokestatic 116, 3) := by decide +kernel
theorem dL_hangs_571 : decode cL_hangs 571 = .ok (.istore 10, 2) := by decide +kernel
theorem dL_hangs_573 : decode cL_hangs 573 = .ok (.aload_n 0, 1) := by decide +kernel
theorem dL_hangs_574 : decode cL_hangs 574 = .ok (.invokevirtual 118, 3) := by decide +kernel
theorem dL_hangs_577 : decode cL_hangs 577 = .ok (.istore 11, 2) := by decide +kernel
theorem dL_hangs_579 : decode cL_hangs 579 = .ok (.iload 7, 2) := by decide +kernel
theorem dL_hangs_581 : decode cL_hangs 581 = .ok (.ifCond .eq 91, 3) := by decide +kernel
theorem dL_hangs_584 : decode cL_hangs 584 = .ok (.iload 9, 2) := by decide +kernel
theorem dL_hangs_586 : decode cL_hangs 586 = .ok (.ifCond .ne 7, 3) := by decide +kernel
theorem dL_hangs_589 : decode cL_hangs 589 = .ok (.iconst 1, 1) := by decide +kernel
theorem dL_hangs_590 : decode cL_hangs 590 = .ok (.goto 4, 3) := by decide +kernel
theorem dL_hangs_593 : decode cL_hangs 593 = .ok (.iconst 0, 1) := by decide +kernel
theorem dL_hangs_594 : decode cL_hangs 594 = .ok (.iload 10, 2) := by decide +kernel
theorem dL_hangs_596 : decode cL_hangs 596 = .ok (.iconst (-1), 1) := by decide +kernel
theorem dL_hangs_597 : decode cL_hangs 597 = .ok (.if_icmp .ne 7, 3) := by decide +kernel
theorem dL_hangs_600 : decode cL_hangs 600 = .ok (.iconst 1, 1) := by decide +kernel
theorem dL_hangs_601 : decode cL_hangs 601 = .ok (.goto 4, 3) := by decide +kernel
theorem dL_hangs_604 : decode cL_hangs 604 = .ok (.iconst 0, 1) := by decide +kernel
theorem dL_hangs_605 : decode cL_hangs 605 = .ok (.if_icmp .ne 67, 3) := by decide +kernel
theorem dL_hangs_608 : decode cL_hangs 608 = .ok (.iload 9, 2) := by decide +kernel
theorem dL_hangs_610 : decode cL_hangs 610 = .ok (.ifCond .ne 20, 3) := by decide +kernel
theorem dL_hangs_613 : decode cL_hangs 613 = .ok (.aload_n 0, 1) := by decide +kernel
theorem dL_hangs_614 : decode cL_hangs 614 = .ok (.iconst 0, 1) := by decide +kernel
theorem dL_hangs_615 : decode cL_hangs 615 = .ok (.invokestatic 116, 3) := by decide +kernel
theorem dL_hangs_618 : decode cL_hangs 618 = .ok (.iconst (-1), 1) := by decide +kernel
theorem dL_hangs_619 : decode cL_hangs 619 = .ok (.if_icmp .ne 53, 3) := by decide +kernel
theorem dL_hangs_622 : decode cL_hangs 622 = .ok (.iload 11, 2) := by decide +kernel
theorem dL_hangs_624 : decode cL_hangs 624 = .ok (.ifCond .ne 48, 3) := by decide +kernel
theorem dL_hangs_627 : decode cL_hangs 627 = .ok (.goto 41, 3) := by decide +kernel
theorem dL_hangs_630 : decode cL_hangs 630 = .ok (.iload 10, 2) := by decide +kernel
theorem dL_hangs_632 : decode cL_hangs 632 = .ok (.invokestatic 110, 3) := by decide +kernel
theorem dL_hangs_635 : decode cL_hangs 635 = .ok (.aload_n 0, 1) := by decide +kernel
theorem dL_hangs_636 : decode cL_hangs 636 = .ok (.iconst 0, 1) := by decide +kernel
theorem dL_hangs_637 : decode cL_hangs 637 = .ok (.invokestatic 116, 3) := by decide +kernel
theorem dL_hangs_640 : decode cL_hangs 640 = .ok (.if_icmp .ne 32, 3) := by decide +kernel
theorem dL_hangs_643 : decode cL_hangs 643 = .ok (.iload 8, 2) := by decide +kernel
theorem dL_hangs_645 : decode cL_hangs 645 = .ok (.ifCond .ne 13, 3) := by decide +kernel
theorem dL_hangs_648 : decode cL_hangs 648 = .ok (.iload 11, 2) := by decide +kernel
theorem dL_hangs_650 : decode cL_hangs 650 = .ok (.iload 10, 2) := by decide +kernel
theorem dL_hangs_652 : decode cL_hangs 652 = .ok (.iconst (-1), 1) := by decide +kernel
theorem dL_hangs_653 : decode cL_hangs 653 = .ok (.ixor, 1) := by decide +kernel
theorem dL_hangs_654 : decode cL_hangs 654 = .ok (.iand, 1) := by decide +kernel
theorem dL_hangs_655 : decode cL_hangs 655 = .ok (.ifCond .ne 17, 3) := by decide +kernel
theorem dL_hangs_658 : decode cL_hangs 658 = .ok (.iload 10, 2) := by decide +kernel
theorem dL_hangs_660 : decode cL_hangs 660 = .ok (.iload 4, 2) := by decide +kernel
theorem dL_hangs_662 : decode cL_hangs 662 = .ok (.iconst (-1), 1) := by decide +kernel
theorem dL_hangs_663 : decode cL_hangs 663 = .ok (.ixor, 1) := by decide +kernel
theorem dL_hangs_664 : decode cL_hangs 664 = .ok (.iand, 1) := by decide +kernel
theorem dL_hangs_665 : decode cL_hangs 665 = .ok (.ifCond .ne 7, 3) := by decide +kernel
theorem dL_hangs_668 : decode cL_hangs 668 = .ok (.iconst 1, 1) := by decide +kernel
theorem dL_hangs_669 : decode cL_hangs 669 = .ok (.goto 4, 3) := by decide +kernel
theorem dL_hangs_672 : decode cL_hangs 672 = .ok (.iconst 0, 1) := by decide +kernel
theorem dL_hangs_673 : decode cL_hangs 673 = .ok (.istore 7, 2) := by decide +kernel
theorem dL_hangs_675 : decode cL_hangs 675 = .ok (.iload 7, 2) := by decide +kernel
theorem dL_hangs_677 : decode cL_hangs 677 = .ok (.ifCond .eq 17, 3) := by decide +kernel
theorem dL_hangs_680 : decode cL_hangs 680 = .ok (.iload 10, 2) := by decide +kernel
theorem dL_hangs_682 : decode cL_hangs 682 = .ok (.ifCond .le 12, 3) := by decide +kernel
theorem dL_hangs_685 : decode cL_hangs 685 = .ok (.aload_n 0, 1) := by decide +kernel
theorem dL_hangs_686 : decode cL_hangs 686 = .ok (.iload 10, 2) := by decide +kernel
theorem dL_hangs_688 : decode cL_hangs 688 = .ok (.invokestatic 121, 3) := by decide +kernel
theorem dL_hangs_691 : decode cL_hangs 691 = .ok (.goto 4, 3) := by decide +kernel
theorem dL_hangs_694 : decode cL_hangs 694 = .ok (.iconst 0, 1) := by decide +kernel
theorem dL_hangs_695 : decode cL_hangs 695 = .ok (.istore 12, 2) := by decide +kernel
theorem dL_hangs_697 : decode cL_hangs 697 = .ok (.iload 7, 2) := by decide +kernel
theorem dL_hangs_699 : decode cL_hangs 699 = .ok (.ifCond .eq 31, 3) := by decide +kernel
theorem dL_hangs_702 : decode cL_hangs 702 = .ok (.iload 12, 2) := by decide +kernel
theorem dL_hangs_704 : decode cL_hangs 704 = .ok (.ifCond .eq 22, 3) := by decide +kernel
theorem dL_hangs_707 : decode cL_hangs 707 = .ok (.iload 12, 2) := by decide +kernel
theorem dL_hangs_709 : decode cL_hangs 709 = .ok (.iconst 4, 1) := by decide +kernel
theorem dL_hangs_710 : decode cL_hangs 710 = .ok (.if_icmp .ne 20, 3) := by decide +kernel
theorem dL_hangs_713 : decode cL_hangs 713 = .ok (.aload_n 0, 1) := by decide +kernel
theorem dL_hangs_714 : decode cL_hangs 714 = .ok (.iconst 2, 1) := by decide +kernel
theorem dL_hangs_715 : decode cL_hangs 715 = .ok (.invokestatic 102, 3) := by decide +kernel
theorem dL_hangs_718 : decode cL_hangs 718 = .ok (.aload_n 0, 1) := by decide +kernel
theorem dL_hangs_719 : decode cL_hangs 719 = .ok (.iconst 5, 1) := by decide +kernel
theorem dL_hangs_720 : decode cL_hangs 720 = .ok (.invokestatic 102, 3) := by decide +kernel
theorem dL_hangs_723 : decode cL_hangs 723 = .ok (.if_icmp .ge 7, 3) := by decide +kernel
theorem dL_hangs_726 : decode cL_hangs 726 = .ok (.iconst 1, 1) := by decide +kernel
theorem dL_hangs_727 : decode cL_hangs 727 = .ok (.goto 4, 3) := by decide +kernel
theorem dL_hangs_730 : decode cL_hangs 730 = .ok (.iconst 0, 1) := by decide +kernel
theorem dL_hangs_731 : decode cL_hangs 731 = .ok (.istore 7, 2) := by decide +kernel
theorem dL_hangs_733 : decode cL_hangs 733 = .ok (.iload 7, 2) := by decide +kernel
theorem dL_hangs_735 : decode cL_hangs 735 = .ok (.ifCond .eq 179, 3) := by decide +kernel
theorem dL_hangs_738 : decode cL_hangs 738 = .ok (.iload_n 2, 1) := by decide +kernel
