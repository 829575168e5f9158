theorem d_Lw_law_598 : decode code 598 = .ok (.invokevirtual 87, 3) := by decide +kernel
theorem d_Lw_law_601 : decode code 601 = .ok (.aload_n 2, 1) := by decide +kernel
theorem d_Lw_law_602 : decode code 602 = .ok (.aload_n 0, 1) := by decide +kernel
theorem d_Lw_law_603 : decode code 603 = .ok (.iload_n 3, 1) := by decide +kernel
theorem d_Lw_law_604 : decode code 604 = .ok (.iconst 1, 1) := by decide +kernel
theorem d_Lw_law_605 : decode code 605 = .ok (.iadd, 1) := by decide +kernel
theorem d_Lw_law_606 : decode code 606 = .ok (.iaload, 1) := by decide +kernel
theorem d_Lw_law_607 : decode code 607 = .ok (.aload_n 0, 1) := by decide +kernel
theorem d_Lw_law_608 : decode code 608 = .ok (.iload_n 3, 1) := by decide +kernel
theorem d_Lw_law_609 : decode code 609 = .ok (.iconst 2, 1) := by decide +kernel
theorem d_Lw_law_610 : decode code 610 = .ok (.iadd, 1) := by decide +kernel
theorem d_Lw_law_611 : decode code 611 = .ok (.iaload, 1) := by decide +kernel
theorem d_Lw_law_612 : decode code 612 = .ok (.invokevirtual 90, 3) := by decide +kernel
theorem d_Lw_law_615 : decode code 615 = .ok (.if_icmp .eq 94, 3) := by decide +kernel
theorem d_Lw_law_618 : decode code 618 = .ok (.iconst 0, 1) := by decide +kernel
theorem d_Lw_law_619 : decode code 619 = .ok (.ireturn, 1) := by decide +kernel
theorem d_Lw_law_620 : decode code 620 = .ok (.aload_n 1, 1) := by decide +kernel
theorem d_Lw_law_621 : decode code 621 = .ok (.aload_n 0, 1) := by decide +kernel
theorem d_Lw_law_622 : decode code 622 = .ok (.iload_n 3, 1) := by decide +kernel
theorem d_Lw_law_623 : decode code 623 = .ok (.iconst 1, 1) := by decide +kernel
theorem d_Lw_law_624 : decode code 624 = .ok (.iadd, 1) := by decide +kernel
theorem d_Lw_law_625 : decode code 625 = .ok (.iaload, 1) := by decide +kernel
theorem d_Lw_law_626 : decode code 626 = .ok (.aload_n 0, 1) := by decide +kernel
theorem d_Lw_law_627 : decode code 627 = .ok (.iload_n 3, 1) := by decide +kernel
theorem d_Lw_law_628 : decode code 628 = .ok (.iconst 2, 1) := by decide +kernel
theorem d_Lw_law_629 : decode code 629 = .ok (.iadd, 1) := by decide +kernel
theorem d_Lw_law_630 : decode code 630 = .ok (.iaload, 1) := by decide +kernel
theorem d_Lw_law_631 : decode code 631 = .ok (.aload_n 0, 1) := by decide +kernel
theorem d_Lw_law_632 : decode code 632 = .ok (.iload_n 3, 1) := by decide +kernel
theorem d_Lw_law_633 : decode code 633 = .ok (.iconst 3, 1) := by decide +kernel
theorem d_Lw_law_634 : decode code 634 = .ok (.iadd, 1) := by decide +kernel
theorem d_Lw_law_635 : decode code 635 = .ok (.iaload, 1) := by decide +kernel
theorem d_Lw_law_636 : decode code 636 = .ok (.invokevirtual 91, 3) := by decide +kernel
theorem d_Lw_law_639 : decode code 639 = .ok (.aload_n 2, 1) := by decide +kernel
theorem d_Lw_law_640 : decode code 640 = .ok (.aload_n 0, 1) := by decide +kernel
theorem d_Lw_law_641 : decode code 641 = .ok (.iload_n 3, 1) := by decide +kernel
theorem d_Lw_law_642 : decode code 642 = .ok (.iconst 1, 1) := by decide +kernel
theorem d_Lw_law_643 : decode code 643 = .ok (.iadd, 1) := by decide +kernel
theorem d_Lw_law_644 : decode code 644 = .ok (.iaload, 1) := by decide +kernel
theorem d_Lw_law_645 : decode code 645 = .ok (.aload_n 0, 1) := by decide +kernel
theorem d_Lw_law_646 : decode code 646 = .ok (.iload_n 3, 1) := by decide +kernel
theorem d_Lw_law_647 : decode code 647 = .ok (.iconst 2, 1) := by decide +kernel
theorem d_Lw_law_648 : decode code 648 = .ok (.iadd, 1) := by decide +kernel
theorem d_Lw_law_649 : decode code 649 = .ok (.iaload, 1) := by decide +kernel
theorem d_Lw_law_650 : decode code 650 = .ok (.aload_n 0, 1) := by decide +kernel
theorem d_Lw_law_651 : decode code 651 = .ok (.iload_n 3, 1) := by decide +kernel
theorem d_Lw_law_652 : decode code 652 = .ok (.iconst 3, 1) := by decide +kernel
theorem d_Lw_law_653 : decode code 653 = .ok (.iadd, 1) := by decide +kernel
theorem d_Lw_law_654 : decode code 654 = .ok (.iaload, 1) := by decide +kernel
theorem d_Lw_law_655 : decode code 655 = .ok (.invokevirtual 95, 3) := by decide +kernel
theorem d_Lw_law_658 : decode code 658 = .ok (.if_icmp .eq 51, 3) := by decide +kernel
theorem d_Lw_law_661 : decode code 661 = .ok (.iconst 0, 1) := by decide +kernel
theorem d_Lw_law_662 : decode code 662 = .ok (.ireturn, 1) := by decide +kernel
theorem d_Lw_law_663 : decode code 663 = .ok (.aload_n 1, 1) := by decide +kernel
theorem d_Lw_law_664 : decode code 664 = .ok (.aload_n 0, 1) := by decide +kernel
theorem d_Lw_law_665 : decode code 665 = .ok (.iload_n 3, 1) := by decide +kernel
theorem d_Lw_law_666 : decode code 666 = .ok (.iconst 1, 1) := by decide +kernel
theorem d_Lw_law_667 : decode code 667 = .ok (.iadd, 1) := by decide +kernel
theorem d_Lw_law_668 : decode code 668 = .ok (.iaload, 1) := by decide +kernel
theorem d_Lw_law_669 : decode code 669 = .ok (.invokevirtual 96, 3) := by decide +kernel
theorem d_Lw_law_672 : decode code 672 = .ok (.aload_n 2, 1) := by decide +kernel
theorem d_Lw_law_673 : decode code 673 = .ok (.aload_n 0, 1) := by decide +kernel
theorem d_Lw_law_674 : decode code 674 = .ok (.iload_n 3, 1) := by decide +kernel
theorem d_Lw_law_675 : decode code 675 = .ok (.iconst 1, 1) := by decide +kernel
theorem d_Lw_law_676 : decode code 676 = .ok (.iadd, 1) := by decide +kernel
theorem d_Lw_law_677 : decode code 677 = .ok (.iaload, 1) := by decide +kernel
theorem d_Lw_law_678 : decode code 678 = .ok (.invokevirtual 99, 3) := by decide +kernel
theorem d_Lw_law_681 : decode code 681 = .ok (.if_icmp .eq 28, 3) := by decide +kernel
theorem d_Lw_law_684 : decode code 684 = .ok (.iconst 0, 1) := by decide +kernel
theorem d_Lw_law_685 : decode code 685 = .ok (.ireturn, 1) := by decide +kernel
theorem d_Lw_law_686 : decode code 686 = .ok (.aload_n 1, 1) := by decide +kernel
theorem d_Lw_law_687 : decode code 687 = .ok (.aload_n 0, 1) := by decide +kernel
theorem d_Lw_law_688 : decode code 688 = .ok (.iload_n 3, 1) := by decide +kernel
theorem d_Lw_law_689 : decode code 689 = .ok (.iconst 1, 1) := by decide +kernel
theorem d_Lw_law_690 : decode code 690 = .ok (.iadd, 1) := by decide +kernel
theorem d_Lw_law_691 : decode code 691 = .ok (.iaload, 1) := by decide +kernel
theorem d_Lw_law_692 : decode code 692 = .ok (.invokevirtual 100, 3) := by decide +kernel
theorem d_Lw_law_695 : decode code 695 = .ok (.aload_n 2, 1) := by decide +kernel
theorem d_Lw_law_696 : decode code 696 = .ok (.aload_n 0, 1) := by decide +kernel
theorem d_Lw_law_697 : decode code 697 = .ok (.iload_n 3, 1) := by decide +kernel
theorem d_Lw_law_698 : decode code 698 = .ok (.iconst 1, 1) := by decide +kernel
theorem d_Lw_law_699 : decode code 699 = .ok (.iadd, 1) := by decide +kernel
theorem d_Lw_law_700 : decode code 700 = .ok (.iaload, 1) := by decide +kernel
theorem d_Lw_law_701 : decode code 701 = .ok (.invokevirtual 103, 3) := by decide +kernel
theorem d_Lw_law_704 : decode code 704 = .ok (.if_icmp .eq 5, 3) := by decide +kernel
theorem d_Lw_law_707 : decode code 707 = .ok (.iconst 0, 1) := by decide +kernel
theorem d_Lw_law_708 : decode code 708 = .ok (.ireturn, 1) := by decide +kernel
theorem d_Lw_law_709 : decode code 709 = .ok (.iinc 3 5, 3) := by decide +kernel
theorem d_Lw_law_712 : decode code 712 = .ok (.goto (-694), 3) := by decide +kernel
theorem d_Lw_law_715 : decode code 715 = .ok (.iconst 1, 1) := by decide +kernel
theorem d_Lw_law_716 : decode code 716 = .ok (.ireturn, 1) := by decide +kernel
