theorem d_law_608 : decode code 608 = .ok (.iadd, 1) := by decide +kernel
theorem d_law_609 : decode code 609 = .ok (.iaload, 1) := by decide +kernel
theorem d_law_610 : decode code 610 = .ok (.aload_n 0, 1) := by decide +kernel
theorem d_law_611 : decode code 611 = .ok (.iload_n 3, 1) := by decide +kernel
theorem d_law_612 : decode code 612 = .ok (.iconst 2, 1) := by decide +kernel
theorem d_law_613 : decode code 613 = .ok (.iadd, 1) := by decide +kernel
theorem d_law_614 : decode code 614 = .ok (.iaload, 1) := by decide +kernel
theorem d_law_615 : decode code 615 = .ok (.invokevirtual 84, 3) := by decide +kernel
theorem d_law_618 : decode code 618 = .ok (.aload_n 2, 1) := by decide +kernel
theorem d_law_619 : decode code 619 = .ok (.aload_n 0, 1) := by decide +kernel
theorem d_law_620 : decode code 620 = .ok (.iload_n 3, 1) := by decide +kernel
theorem d_law_621 : decode code 621 = .ok (.iconst 1, 1) := by decide +kernel
theorem d_law_622 : decode code 622 = .ok (.iadd, 1) := by decide +kernel
theorem d_law_623 : decode code 623 = .ok (.iaload, 1) := by decide +kernel
theorem d_law_624 : decode code 624 = .ok (.aload_n 0, 1) := by decide +kernel
theorem d_law_625 : decode code 625 = .ok (.iload_n 3, 1) := by decide +kernel
theorem d_law_626 : decode code 626 = .ok (.iconst 2, 1) := by decide +kernel
theorem d_law_627 : decode code 627 = .ok (.iadd, 1) := by decide +kernel
theorem d_law_628 : decode code 628 = .ok (.iaload, 1) := by decide +kernel
theorem d_law_629 : decode code 629 = .ok (.invokevirtual 88, 3) := by decide +kernel
theorem d_law_632 : decode code 632 = .ok (.if_icmp .eq 107, 3) := by decide +kernel
theorem d_law_635 : decode code 635 = .ok (.iconst 0, 1) := by decide +kernel
theorem d_law_636 : decode code 636 = .ok (.ireturn, 1) := by decide +kernel
theorem d_law_637 : decode code 637 = .ok (.aload_n 1, 1) := by decide +kernel
theorem d_law_638 : decode code 638 = .ok (.aload_n 0, 1) := by decide +kernel
theorem d_law_639 : decode code 639 = .ok (.iload_n 3, 1) := by decide +kernel
theorem d_law_640 : decode code 640 = .ok (.iconst 1, 1) := by decide +kernel
theorem d_law_641 : decode code 641 = .ok (.iadd, 1) := by decide +kernel
theorem d_law_642 : decode code 642 = .ok (.iaload, 1) := by decide +kernel
theorem d_law_643 : decode code 643 = .ok (.invokevirtual 89, 3) := by decide +kernel
theorem d_law_646 : decode code 646 = .ok (.aload_n 2, 1) := by decide +kernel
theorem d_law_647 : decode code 647 = .ok (.aload_n 0, 1) := by decide +kernel
theorem d_law_648 : decode code 648 = .ok (.iload_n 3, 1) := by decide +kernel
theorem d_law_649 : decode code 649 = .ok (.iconst 1, 1) := by decide +kernel
theorem d_law_650 : decode code 650 = .ok (.iadd, 1) := by decide +kernel
theorem d_law_651 : decode code 651 = .ok (.iaload, 1) := by decide +kernel
theorem d_law_652 : decode code 652 = .ok (.invokevirtual 92, 3) := by decide +kernel
theorem d_law_655 : decode code 655 = .ok (.if_icmp .eq 84, 3) := by decide +kernel
theorem d_law_658 : decode code 658 = .ok (.iconst 0, 1) := by decide +kernel
theorem d_law_659 : decode code 659 = .ok (.ireturn, 1) := by decide +kernel
theorem d_law_660 : decode code 660 = .ok (.aload_n 1, 1) := by decide +kernel
theorem d_law_661 : decode code 661 = .ok (.invokevirtual 93, 3) := by decide +kernel
theorem d_law_664 : decode code 664 = .ok (.aload_n 2, 1) := by decide +kernel
theorem d_law_665 : decode code 665 = .ok (.invokevirtual 96, 3) := by decide +kernel
theorem d_law_668 : decode code 668 = .ok (.if_icmp .eq 71, 3) := by decide +kernel
theorem d_law_671 : decode code 671 = .ok (.iconst 0, 1) := by decide +kernel
theorem d_law_672 : decode code 672 = .ok (.ireturn, 1) := by decide +kernel
theorem d_law_673 : decode code 673 = .ok (.aload_n 1, 1) := by decide +kernel
theorem d_law_674 : decode code 674 = .ok (.aload_n 0, 1) := by decide +kernel
theorem d_law_675 : decode code 675 = .ok (.iload_n 3, 1) := by decide +kernel
theorem d_law_676 : decode code 676 = .ok (.iconst 1, 1) := by decide +kernel
theorem d_law_677 : decode code 677 = .ok (.iadd, 1) := by decide +kernel
theorem d_law_678 : decode code 678 = .ok (.iaload, 1) := by decide +kernel
theorem d_law_679 : decode code 679 = .ok (.aload_n 0, 1) := by decide +kernel
theorem d_law_680 : decode code 680 = .ok (.iload_n 3, 1) := by decide +kernel
theorem d_law_681 : decode code 681 = .ok (.iconst 2, 1) := by decide +kernel
theorem d_law_682 : decode code 682 = .ok (.iadd, 1) := by decide +kernel
theorem d_law_683 : decode code 683 = .ok (.iaload, 1) := by decide +kernel
theorem d_law_684 : decode code 684 = .ok (.invokevirtual 97, 3) := by decide +kernel
theorem d_law_687 : decode code 687 = .ok (.aload_n 2, 1) := by decide +kernel
theorem d_law_688 : decode code 688 = .ok (.aload_n 0, 1) := by decide +kernel
theorem d_law_689 : decode code 689 = .ok (.iload_n 3, 1) := by decide +kernel
theorem d_law_690 : decode code 690 = .ok (.iconst 1, 1) := by decide +kernel
theorem d_law_691 : decode code 691 = .ok (.iadd, 1) := by decide +kernel
theorem d_law_692 : decode code 692 = .ok (.iaload, 1) := by decide +kernel
theorem d_law_693 : decode code 693 = .ok (.aload_n 0, 1) := by decide +kernel
theorem d_law_694 : decode code 694 = .ok (.iload_n 3, 1) := by decide +kernel
theorem d_law_695 : decode code 695 = .ok (.iconst 2, 1) := by decide +kernel
theorem d_law_696 : decode code 696 = .ok (.iadd, 1) := by decide +kernel
theorem d_law_697 : decode code 697 = .ok (.iaload, 1) := by decide +kernel
theorem d_law_698 : decode code 698 = .ok (.invokevirtual 100, 3) := by decide +kernel
theorem d_law_701 : decode code 701 = .ok (.if_icmp .eq 38, 3) := by decide +kernel
theorem d_law_704 : decode code 704 = .ok (.iconst 0, 1) := by decide +kernel
theorem d_law_705 : decode code 705 = .ok (.ireturn, 1) := by decide +kernel
theorem d_law_706 : decode code 706 = .ok (.aload_n 1, 1) := by decide +kernel
theorem d_law_707 : decode code 707 = .ok (.aload_n 0, 1) := by decide +kernel
theorem d_law_708 : decode code 708 = .ok (.iload_n 3, 1) := by decide +kernel
theorem d_law_709 : decode code 709 = .ok (.iconst 1, 1) := by decide +kernel
theorem d_law_710 : decode code 710 = .ok (.iadd, 1) := by decide +kernel
theorem d_law_711 : decode code 711 = .ok (.iaload, 1) := by decide +kernel
theorem d_law_712 : decode code 712 = .ok (.aload_n 0, 1) := by decide +kernel
theorem d_law_713 : decode code 713 = .ok (.iload_n 3, 1) := by decide +kernel
theorem d_law_714 : decode code 714 = .ok (.iconst 2, 1) := by decide +kernel
theorem d_law_715 : decode code 715 = .ok (.iadd, 1) := by decide +kernel
theorem d_law_716 : decode code 716 = .ok (.iaload, 1) := by decide +kernel
theorem d_law_717 : decode code 717 = .ok (.invokevirtual 101, 3) := by decide +kernel
theorem d_law_720 : decode code 720 = .ok (.aload_n 2, 1) := by decide +kernel
theorem d_law_721 : decode code 721 = .ok (.aload_n 0, 1) := by decide +kernel
theorem d_law_722 : decode code 722 = .ok (.iload_n 3, 1) := by decide +kernel
theorem d_law_723 : decode code 723 = .ok (.iconst 1, 1) := by decide +kernel
theorem d_law_724 : decode code 724 = .ok (.iadd, 1) := by decide +kernel
theorem d_law_725 : decode code 725 = .ok (.iaload, 1) := by decide +kernel
theorem d_law_726 : decode code 726 = .ok (.aload_n 0, 1) := by decide +kernel
theorem d_law_727 : decode code 727 = .ok (.iload_n 3, 1) := by decide +kernel
theorem d_law_728 : decode code 728 = .ok (.iconst 2, 1) := by decide +kernel
theorem d_law_729 : decode code 729 = .ok (.iadd, 1) := by decide +kernel
theorem d_law_730 : decode code 730 = .ok (.iaload, 1) := by decide +kernel
theorem d_law_731 : decode code 731 = .ok (.invokevirtual 104, 3) := by decide +kernel
theorem d_law_734 : decode code 734 = .ok (.if_icmp .eq 5, 3) := by decide +kernel
theorem d_law_737 : decode code 737 = .ok (.iconst 0, 1) := by decide +kernel
theorem d_law_738 : decode code 738 = .ok (.ireturn, 1) := by decide +kernel
theorem d_law_739 : decode code 739 = .ok (.iinc 3 5, 3) := by decide +kernel
theorem d_law_742 : decode code 742 = .ok (.goto (-714), 3) := by decide +kernel
theorem d_law_745 : decode code 745 = .ok (.iconst 1, 1) := by decide +kernel
theorem d_law_746 : decode code 746 = .ok (.ireturn, 1) := by decide +kernel
