theorem dL_acts_525 : decode cL_acts 525 = .ok (.iload 12, 2) := by decide +kernel
theorem dL_acts_527 : decode cL_acts 527 = .ok (.ifCond .eq 11, 3) := by decide +kernel
theorem dL_acts_530 : decode cL_acts 530 = .ok (.aload 11, 2) := by decide +kernel
theorem dL_acts_532 : decode cL_acts 532 = .ok (.invokestatic 43, 3) := by decide +kernel
theorem dL_acts_535 : decode cL_acts 535 = .ok (.goto 6, 3) := by decide +kernel
theorem dL_acts_538 : decode cL_acts 538 = .ok (.ldc2_w 81, 3) := by decide +kernel
theorem dL_acts_541 : decode cL_acts 541 = .ok (.lcmp, 1) := by decide +kernel
theorem dL_acts_542 : decode cL_acts 542 = .ok (.ifCond .ne 7, 3) := by decide +kernel
theorem dL_acts_545 : decode cL_acts 545 = .ok (.iconst 1, 1) := by decide +kernel
theorem dL_acts_546 : decode cL_acts 546 = .ok (.goto 4, 3) := by decide +kernel
theorem dL_acts_549 : decode cL_acts 549 = .ok (.iconst 0, 1) := by decide +kernel
theorem dL_acts_550 : decode cL_acts 550 = .ok (.ireturn, 1) := by decide +kernel
theorem dL_acts_551 : decode cL_acts 551 = .ok (.iload 6, 2) := by decide +kernel
theorem dL_acts_553 : decode cL_acts 553 = .ok (.bipush 15, 2) := by decide +kernel
theorem dL_acts_555 : decode cL_acts 555 = .ok (.if_icmp .ge 128, 3) := by decide +kernel
theorem dL_acts_558 : decode cL_acts 558 = .ok (.aload_n 2, 1) := by decide +kernel
theorem dL_acts_559 : decode cL_acts 559 = .ok (.iload 7, 2) := by decide +kernel
theorem dL_acts_561 : decode cL_acts 561 = .ok (.invokestatic 116, 3) := by decide +kernel
theorem dL_acts_564 : decode cL_acts 564 = .ok (.invokestatic 43, 3) := by decide +kernel
theorem dL_acts_567 : decode cL_acts 567 = .ok (.aload_n 2, 1) := by decide +kernel
theorem dL_acts_568 : decode cL_acts 568 = .ok (.iload 8, 2) := by decide +kernel
theorem dL_acts_570 : decode cL_acts 570 = .ok (.invokestatic 116, 3) := by decide +kernel
theorem dL_acts_573 : decode cL_acts 573 = .ok (.invokestatic 43, 3) := by decide +kernel
theorem dL_acts_576 : decode cL_acts 576 = .ok (.lmul, 1) := by decide +kernel
theorem dL_acts_577 : decode cL_acts 577 = .ok (.lstore 10, 2) := by decide +kernel
theorem dL_acts_579 : decode cL_acts 579 = .ok (.aload_n 2, 1) := by decide +kernel
theorem dL_acts_580 : decode cL_acts 580 = .ok (.iload 9, 2) := by decide +kernel
theorem dL_acts_582 : decode cL_acts 582 = .ok (.aload_n 3, 1) := by decide +kernel
theorem dL_acts_583 : decode cL_acts 583 = .ok (.aload_n 2, 1) := by decide +kernel
theorem dL_acts_584 : decode cL_acts 584 = .ok (.iload 7, 2) := by decide +kernel
theorem dL_acts_586 : decode cL_acts 586 = .ok (.invokestatic 116, 3) := by decide +kernel
theorem dL_acts_589 : decode cL_acts 589 = .ok (.aload_n 2, 1) := by decide +kernel
theorem dL_acts_590 : decode cL_acts 590 = .ok (.iload 8, 2) := by decide +kernel
theorem dL_acts_592 : decode cL_acts 592 = .ok (.invokestatic 116, 3) := by decide +kernel
theorem dL_acts_595 : decode cL_acts 595 = .ok (.invokestatic 39, 3) := by decide +kernel
theorem dL_acts_598 : decode cL_acts 598 = .ok (.ldc2_w 23, 3) := by decide +kernel
theorem dL_acts_601 : decode cL_acts 601 = .ok (.invokestatic 135, 3) := by decide +kernel
theorem dL_acts_604 : decode cL_acts 604 = .ok (.istore 12, 2) := by decide +kernel
theorem dL_acts_606 : decode cL_acts 606 = .ok (.aload_n 1, 1) := by decide +kernel
theorem dL_acts_607 : decode cL_acts 607 = .ok (.iconst 1, 1) := by decide +kernel
theorem dL_acts_608 : decode cL_acts 608 = .ok (.dup2, 1) := by decide +kernel
theorem dL_acts_609 : decode cL_acts 609 = .ok (.iaload, 1) := by decide +kernel
theorem dL_acts_610 : decode cL_acts 610 = .ok (.iload 12, 2) := by decide +kernel
theorem dL_acts_612 : decode cL_acts 612 = .ok (.ifCond .eq 7, 3) := by decide +kernel
theorem dL_acts_615 : decode cL_acts 615 = .ok (.iconst 1, 1) := by decide +kernel
theorem dL_acts_616 : decode cL_acts 616 = .ok (.goto 4, 3) := by decide +kernel
theorem dL_acts_619 : decode cL_acts 619 = .ok (.iconst 0, 1) := by decide +kernel
theorem dL_acts_620 : decode cL_acts 620 = .ok (.iadd, 1) := by decide +kernel
theorem dL_acts_621 : decode cL_acts 621 = .ok (.iastore, 1) := by decide +kernel
theorem dL_acts_622 : decode cL_acts 622 = .ok (.aload_n 0, 1) := by decide +kernel
theorem dL_acts_623 : decode cL_acts 623 = .ok (.iload 7, 2) := by decide +kernel
theorem dL_acts_625 : decode cL_acts 625 = .ok (.iload 8, 2) := by decide +kernel
theorem dL_acts_627 : decode cL_acts 627 = .ok (.iload 9, 2) := by decide +kernel
theorem dL_acts_629 : decode cL_acts 629 = .ok (.invokestatic 143, 3) := by decide +kernel
theorem dL_acts_632 : decode cL_acts 632 = .ok (.iload 12, 2) := by decide +kernel
theorem dL_acts_634 : decode cL_acts 634 = .ok (.ifCond .eq 12, 3) := by decide +kernel
theorem dL_acts_637 : decode cL_acts 637 = .ok (.lload 10, 2) := by decide +kernel
theorem dL_acts_639 : decode cL_acts 639 = .ok (.ldc2_w 25, 3) := by decide +kernel
theorem dL_acts_642 : decode cL_acts 642 = .ok (.ldiv, 1) := by decide +kernel
theorem dL_acts_643 : decode cL_acts 643 = .ok (.goto 6, 3) := by decide +kernel
theorem dL_acts_646 : decode cL_acts 646 = .ok (.ldc2_w 81, 3) := by decide +kernel
theorem dL_acts_649 : decode cL_acts 649 = .ok (.lcmp, 1) := by decide +kernel
theorem dL_acts_650 : decode cL_acts 650 = .ok (.ifCond .ne 31, 3) := by decide +kernel
theorem dL_acts_653 : decode cL_acts 653 = .ok (.iload 12, 2) := by decide +kernel
theorem dL_acts_655 : decode cL_acts 655 = .ok (.ifCond .eq 22, 3) := by decide +kernel
theorem dL_acts_658 : decode cL_acts 658 = .ok (.aload_n 2, 1) := by decide +kernel
theorem dL_acts_659 : decode cL_acts 659 = .ok (.iload 9, 2) := by decide +kernel
theorem dL_acts_661 : decode cL_acts 661 = .ok (.invokestatic 116, 3) := by decide +kernel
theorem dL_acts_664 : decode cL_acts 664 = .ok (.invokestatic 43, 3) := by decide +kernel
theorem dL_acts_667 : decode cL_acts 667 = .ok (.lload 10, 2) := by decide +kernel
theorem dL_acts_669 : decode cL_acts 669 = .ok (.ldc2_w 25, 3) := by decide +kernel
theorem dL_acts_672 : decode cL_acts 672 = .ok (.ldiv, 1) := by decide +kernel
theorem dL_acts_673 : decode cL_acts 673 = .ok (.lcmp, 1) := by decide +kernel
theorem dL_acts_674 : decode cL_acts 674 = .ok (.ifCond .ne 7, 3) := by decide +kernel
theorem dL_acts_677 : decode cL_acts 677 = .ok (.iconst 1, 1) := by decide +kernel
theorem dL_acts_678 : decode cL_acts 678 = .ok (.goto 4, 3) := by decide +kernel
theorem dL_acts_681 : decode cL_acts 681 = .ok (.iconst 0, 1) := by decide +kernel
theorem dL_acts_682 : decode cL_acts 682 = .ok (.ireturn, 1) := by decide +kernel
theorem dL_acts_683 : decode cL_acts 683 = .ok (.iload 6, 2) := by decide +kernel
theorem dL_acts_685 : decode cL_acts 685 = .ok (.bipush 15, 2) := by decide +kernel
theorem dL_acts_687 : decode cL_acts 687 = .ok (.if_icmp .ne 62, 3) := by decide +kernel
theorem dL_acts_690 : decode cL_acts 690 = .ok (.iconst 1, 1) := by decide +kernel
theorem dL_acts_691 : decode cL_acts 691 = .ok (.istore 10, 2) := by decide +kernel
theorem dL_acts_693 : decode cL_acts 693 = .ok (.iload 10, 2) := by decide +kernel
theorem dL_acts_695 : decode cL_acts 695 = .ok (.bipush 8, 2) := by decide +kernel
theorem dL_acts_697 : decode cL_acts 697 = .ok (.if_icmp .ge 30, 3) := by decide +kernel
theorem dL_acts_700 : decode cL_acts 700 = .ok (.aload_n 2, 1) := by decide +kernel
theorem dL_acts_701 : decode cL_acts 701 = .ok (.bipush 8, 2) := by decide +kernel
theorem dL_acts_703 : decode cL_acts 703 = .ok (.iload 7, 2) := by decide +kernel
theorem dL_acts_705 : decode cL_acts 705 = .ok (.imul, 1) := by decide +kernel
theorem dL_acts_706 : decode cL_acts 706 = .ok (.iload 10, 2) := by decide +kernel
theorem dL_acts_708 : decode cL_acts 708 = .ok (.iadd, 1) := by decide +kernel
theorem dL_acts_709 : decode cL_acts 709 = .ok (.aload_n 2, 1) := by decide +kernel
theorem dL_acts_710 : decode cL_acts 710 = .ok (.bipush 8, 2) := by decide +kernel
theorem dL_acts_712 : decode cL_acts 712 = .ok (.iload 7, 2) := by decide +kernel
theorem dL_acts_714 : decode cL_acts 714 = .ok (.imul, 1) := by decide +kernel
theorem dL_acts_715 : decode cL_acts 715 = .ok (.iload 10, 2) := by decide +kernel
theorem dL_acts_717 : decode cL_acts 717 = .ok (.iadd, 1) := by decide +kernel
theorem dL_acts_718 : decode cL_acts 718 = .ok (.iaload, 1) := by decide +kernel
theorem dL_acts_719 : decode cL_acts 719 = .ok (.ineg, 1) := by decide +kernel
theorem dL_acts_720 : decode cL_acts 720 = .ok (.iastore, 1) := by decide +kernel
theorem dL_acts_721 : decode cL_acts 721 = .ok (.iinc 10 1, 3) := by decide +kernel
theorem dL_acts_724 : decode cL_acts 724 = .ok (.goto (-31), 3) := by decide +kernel
theorem dL_acts_727 : decode cL_acts 727 = .ok (.aload_n 0, 1) := by decide +kernel
theorem dL_acts_728 : decode cL_acts 728 = .ok (.iload 7, 2) := by decide +kernel
theorem dL_acts_730 : decode cL_acts 730 = .ok (.invokestatic 147, 3) := by decide +kernel
theorem dL_acts_733 : decode cL_acts 733 = .ok (.aload_n 2, 1) := by decide +kernel
theorem dL_acts_734 : decode cL_acts 734 = .ok (.bipush 8, 2) := by decide +kernel
theorem dL_acts_736 : decode cL_acts 736 = .ok (.iload 7, 2) := by decide +kernel
theorem dL_acts_738 : decode cL_acts 738 = .ok (.imul, 1) := by decide +kernel
theorem dL_acts_739 : decode cL_acts 739 = .ok (.iaload, 1) := by decide +kernel
theorem dL_acts_740 : decode cL_acts 740 = .ok (.if_icmp .ne 7, 3) := by decide +kernel
theorem dL_acts_743 : decode cL_acts 743 = .ok (.iconst 1, 1) := by decide +kernel
theorem dL_acts_744 : decode cL_acts 744 = .ok (.goto 4, 3) := by decide +kernel
theorem dL_acts_747 : decode cL_acts 747 = .ok (.iconst 0, 1) := by decide +kernel
theorem dL_acts_748 : decode cL_acts 748 = .ok (.ireturn, 1) := by decide +kernel
theorem dL_acts_749 : decode cL_acts 749 = .ok (.iload 6, 2) := by decide +kernel
theorem dL_acts_751 : decode cL_acts 751 = .ok (.bipush 18, 2) := by decide +kernel
theorem dL_acts_753 : decode cL_acts 753 = .ok (.if_icmp .ge 89, 3) := by decide +kernel
theorem dL_acts_756 : decode cL_acts 756 = .ok (.aload_n 2, 1) := by decide +kernel
