theorem dL_isStep_557 : decode cL_isStep 557 = .ok (.goto 4, 3) := by decide +kernel
theorem dL_isStep_560 : decode cL_isStep 560 = .ok (.iconst 0, 1) := by decide +kernel
theorem dL_isStep_561 : decode cL_isStep 561 = .ok (.ireturn, 1) := by decide +kernel
theorem dL_isStep_562 : decode cL_isStep 562 = .ok (.iload_n 3, 1) := by decide +kernel
theorem dL_isStep_563 : decode cL_isStep 563 = .ok (.iconst 2, 1) := by decide +kernel
theorem dL_isStep_564 : decode cL_isStep 564 = .ok (.invokestatic 9, 3) := by decide +kernel
theorem dL_isStep_567 : decode cL_isStep 567 = .ok (.ifCond .ne 34, 3) := by decide +kernel
theorem dL_isStep_570 : decode cL_isStep 570 = .ok (.aload_n 0, 1) := by decide +kernel
theorem dL_isStep_571 : decode cL_isStep 571 = .ok (.iload 4, 2) := by decide +kernel
theorem dL_isStep_573 : decode cL_isStep 573 = .ok (.iconst 2, 1) := by decide +kernel
theorem dL_isStep_574 : decode cL_isStep 574 = .ok (.invokestatic 9, 3) := by decide +kernel
theorem dL_isStep_577 : decode cL_isStep 577 = .ok (.invokevirtual 61, 3) := by decide +kernel
theorem dL_isStep_580 : decode cL_isStep 580 = .ok (.aload_n 1, 1) := by decide +kernel
theorem dL_isStep_581 : decode cL_isStep 581 = .ok (.iload 4, 2) := by decide +kernel
theorem dL_isStep_583 : decode cL_isStep 583 = .ok (.iconst 2, 1) := by decide +kernel
theorem dL_isStep_584 : decode cL_isStep 584 = .ok (.invokestatic 9, 3) := by decide +kernel
theorem dL_isStep_587 : decode cL_isStep 587 = .ok (.invokevirtual 61, 3) := by decide +kernel
theorem dL_isStep_590 : decode cL_isStep 590 = .ok (.if_icmp .ne 7, 3) := by decide +kernel
theorem dL_isStep_593 : decode cL_isStep 593 = .ok (.iconst 1, 1) := by decide +kernel
theorem dL_isStep_594 : decode cL_isStep 594 = .ok (.goto 35, 3) := by decide +kernel
theorem dL_isStep_597 : decode cL_isStep 597 = .ok (.iconst 0, 1) := by decide +kernel
theorem dL_isStep_598 : decode cL_isStep 598 = .ok (.goto 31, 3) := by decide +kernel
theorem dL_isStep_601 : decode cL_isStep 601 = .ok (.aload_n 0, 1) := by decide +kernel
theorem dL_isStep_602 : decode cL_isStep 602 = .ok (.iload 4, 2) := by decide +kernel
theorem dL_isStep_604 : decode cL_isStep 604 = .ok (.iconst 2, 1) := by decide +kernel
theorem dL_isStep_605 : decode cL_isStep 605 = .ok (.invokestatic 9, 3) := by decide +kernel
theorem dL_isStep_608 : decode cL_isStep 608 = .ok (.invokevirtual 64, 3) := by decide +kernel
theorem dL_isStep_611 : decode cL_isStep 611 = .ok (.aload_n 1, 1) := by decide +kernel
theorem dL_isStep_612 : decode cL_isStep 612 = .ok (.iload 4, 2) := by decide +kernel
theorem dL_isStep_614 : decode cL_isStep 614 = .ok (.iconst 2, 1) := by decide +kernel
theorem dL_isStep_615 : decode cL_isStep 615 = .ok (.invokestatic 9, 3) := by decide +kernel
theorem dL_isStep_618 : decode cL_isStep 618 = .ok (.invokevirtual 64, 3) := by decide +kernel
theorem dL_isStep_621 : decode cL_isStep 621 = .ok (.if_icmp .ne 7, 3) := by decide +kernel
theorem dL_isStep_624 : decode cL_isStep 624 = .ok (.iconst 1, 1) := by decide +kernel
theorem dL_isStep_625 : decode cL_isStep 625 = .ok (.goto 4, 3) := by decide +kernel
theorem dL_isStep_628 : decode cL_isStep 628 = .ok (.iconst 0, 1) := by decide +kernel
theorem dL_isStep_629 : decode cL_isStep 629 = .ok (.ireturn, 1) := by decide +kernel
theorem dL_isStep_630 : decode cL_isStep 630 = .ok (.aload_n 0, 1) := by decide +kernel
theorem dL_isStep_631 : decode cL_isStep 631 = .ok (.aload_n 1, 1) := by decide +kernel
theorem dL_isStep_632 : decode cL_isStep 632 = .ok (.iload_n 3, 1) := by decide +kernel
theorem dL_isStep_633 : decode cL_isStep 633 = .ok (.iload 4, 2) := by decide +kernel
theorem dL_isStep_635 : decode cL_isStep 635 = .ok (.invokestatic 67, 3) := by decide +kernel
theorem dL_isStep_638 : decode cL_isStep 638 = .ok (.ireturn, 1) := by decide +kernel
theorem dL_isStep_639 : decode cL_isStep 639 = .ok (.iconst 1, 1) := by decide +kernel
theorem dL_isStep_640 : decode cL_isStep 640 = .ok (.iload_n 3, 1) := by decide +kernel
theorem dL_isStep_641 : decode cL_isStep 641 = .ok (.iload 4, 2) := by decide +kernel
theorem dL_isStep_643 : decode cL_isStep 643 = .ok (.bipush 8, 2) := by decide +kernel
theorem dL_isStep_645 : decode cL_isStep 645 = .ok (.invokestatic 9, 3) := by decide +kernel
theorem dL_isStep_648 : decode cL_isStep 648 = .ok (.ifCond .ne 8, 3) := by decide +kernel
theorem dL_isStep_651 : decode cL_isStep 651 = .ok (.bipush 99, 2) := by decide +kernel
theorem dL_isStep_653 : decode cL_isStep 653 = .ok (.goto 5, 3) := by decide +kernel
theorem dL_isStep_656 : decode cL_isStep 656 = .ok (.bipush 7, 2) := by decide +kernel
theorem dL_isStep_658 : decode cL_isStep 658 = .ok (.invokestatic 9, 3) := by decide +kernel
theorem dL_isStep_661 : decode cL_isStep 661 = .ok (.iadd, 1) := by decide +kernel
theorem dL_isStep_662 : decode cL_isStep 662 = .ok (.istore 7, 2) := by decide +kernel
theorem dL_isStep_664 : decode cL_isStep 664 = .ok (.aload_n 0, 1) := by decide +kernel
theorem dL_isStep_665 : decode cL_isStep 665 = .ok (.iconst 4, 1) := by decide +kernel
theorem dL_isStep_666 : decode cL_isStep 666 = .ok (.invokevirtual 21, 3) := by decide +kernel
theorem dL_isStep_669 : decode cL_isStep 669 = .ok (.istore 8, 2) := by decide +kernel
theorem dL_isStep_671 : decode cL_isStep 671 = .ok (.aload_n 0, 1) := by decide +kernel
theorem dL_isStep_672 : decode cL_isStep 672 = .ok (.bipush 10, 2) := by decide +kernel
theorem dL_isStep_674 : decode cL_isStep 674 = .ok (.invokevirtual 21, 3) := by decide +kernel
theorem dL_isStep_677 : decode cL_isStep 677 = .ok (.istore 9, 2) := by decide +kernel
theorem dL_isStep_679 : decode cL_isStep 679 = .ok (.iconst 0, 1) := by decide +kernel
theorem dL_isStep_680 : decode cL_isStep 680 = .ok (.istore 10, 2) := by decide +kernel
theorem dL_isStep_682 : decode cL_isStep 682 = .ok (.iconst 0, 1) := by decide +kernel
theorem dL_isStep_683 : decode cL_isStep 683 = .ok (.istore 11, 2) := by decide +kernel
theorem dL_isStep_685 : decode cL_isStep 685 = .ok (.iload 11, 2) := by decide +kernel
theorem dL_isStep_687 : decode cL_isStep 687 = .ok (.iload 7, 2) := by decide +kernel
theorem dL_isStep_689 : decode cL_isStep 689 = .ok (.if_icmp .ge 36, 3) := by decide +kernel
theorem dL_isStep_692 : decode cL_isStep 692 = .ok (.aload_n 1, 1) := by decide +kernel
theorem dL_isStep_693 : decode cL_isStep 693 = .ok (.iconst 1, 1) := by decide +kernel
theorem dL_isStep_694 : decode cL_isStep 694 = .ok (.invokevirtual 71, 3) := by decide +kernel
theorem dL_isStep_697 : decode cL_isStep 697 = .ok (.istore 12, 2) := by decide +kernel
theorem dL_isStep_699 : decode cL_isStep 699 = .ok (.iload 10, 2) := by decide +kernel
theorem dL_isStep_701 : decode cL_isStep 701 = .ok (.iload 12, 2) := by decide +kernel
theorem dL_isStep_703 : decode cL_isStep 703 = .ok (.iadd, 1) := by decide +kernel
theorem dL_isStep_704 : decode cL_isStep 704 = .ok (.istore 10, 2) := by decide +kernel
theorem dL_isStep_706 : decode cL_isStep 706 = .ok (.iload 12, 2) := by decide +kernel
theorem dL_isStep_708 : decode cL_isStep 708 = .ok (.ifCond .lt 9, 3) := by decide +kernel
theorem dL_isStep_711 : decode cL_isStep 711 = .ok (.iload 12, 2) := by decide +kernel
theorem dL_isStep_713 : decode cL_isStep 713 = .ok (.iconst 1, 1) := by decide +kernel
theorem dL_isStep_714 : decode cL_isStep 714 = .ok (.if_icmp .le 5, 3) := by decide +kernel
theorem dL_isStep_717 : decode cL_isStep 717 = .ok (.iconst 0, 1) := by decide +kernel
theorem dL_isStep_718 : decode cL_isStep 718 = .ok (.ireturn, 1) := by decide +kernel
theorem dL_isStep_719 : decode cL_isStep 719 = .ok (.iinc 11 1, 3) := by decide +kernel
theorem dL_isStep_722 : decode cL_isStep 722 = .ok (.goto (-37), 3) := by decide +kernel
theorem dL_isStep_725 : decode cL_isStep 725 = .ok (.aload_n 0, 1) := by decide +kernel
theorem dL_isStep_726 : decode cL_isStep 726 = .ok (.iload 7, 2) := by decide +kernel
theorem dL_isStep_728 : decode cL_isStep 728 = .ok (.invokevirtual 71, 3) := by decide +kernel
theorem dL_isStep_731 : decode cL_isStep 731 = .ok (.iload 10, 2) := by decide +kernel
theorem dL_isStep_733 : decode cL_isStep 733 = .ok (.if_icmp .ne 34, 3) := by decide +kernel
theorem dL_isStep_736 : decode cL_isStep 736 = .ok (.aload_n 0, 1) := by decide +kernel
theorem dL_isStep_737 : decode cL_isStep 737 = .ok (.iconst 4, 1) := by decide +kernel
theorem dL_isStep_738 : decode cL_isStep 738 = .ok (.invokevirtual 21, 3) := by decide +kernel
theorem dL_isStep_741 : decode cL_isStep 741 = .ok (.iload 8, 2) := by decide +kernel
theorem dL_isStep_743 : decode cL_isStep 743 = .ok (.iload 7, 2) := by decide +kernel
theorem dL_isStep_745 : decode cL_isStep 745 = .ok (.iadd, 1) := by decide +kernel
theorem dL_isStep_746 : decode cL_isStep 746 = .ok (.if_icmp .ne 21, 3) := by decide +kernel
theorem dL_isStep_749 : decode cL_isStep 749 = .ok (.aload_n 0, 1) := by decide +kernel
theorem dL_isStep_750 : decode cL_isStep 750 = .ok (.bipush 10, 2) := by decide +kernel
theorem dL_isStep_752 : decode cL_isStep 752 = .ok (.invokevirtual 21, 3) := by decide +kernel
theorem dL_isStep_755 : decode cL_isStep 755 = .ok (.iload 9, 2) := by decide +kernel
theorem dL_isStep_757 : decode cL_isStep 757 = .ok (.iload 10, 2) := by decide +kernel
theorem dL_isStep_759 : decode cL_isStep 759 = .ok (.iadd, 1) := by decide +kernel
theorem dL_isStep_760 : decode cL_isStep 760 = .ok (.if_icmp .ne 7, 3) := by decide +kernel
theorem dL_isStep_763 : decode cL_isStep 763 = .ok (.iconst 1, 1) := by decide +kernel
theorem dL_isStep_764 : decode cL_isStep 764 = .ok (.goto 4, 3) := by decide +kernel
theorem dL_isStep_767 : decode cL_isStep 767 = .ok (.iconst 0, 1) := by decide +kernel
theorem dL_isStep_768 : decode cL_isStep 768 = .ok (.ireturn, 1) := by decide +kernel
