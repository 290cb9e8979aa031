theorem d_La_law_616 : decode code 616 = .ok (.istore 5, 2) := by decide +kernel
theorem d_La_law_618 : decode code 618 = .ok (.aload_n 2, 1) := by decide +kernel
theorem d_La_law_619 : decode code 619 = .ok (.aload_n 0, 1) := by decide +kernel
theorem d_La_law_620 : decode code 620 = .ok (.iload 4, 2) := by decide +kernel
theorem d_La_law_622 : decode code 622 = .ok (.iconst 1, 1) := by decide +kernel
theorem d_La_law_623 : decode code 623 = .ok (.iadd, 1) := by decide +kernel
theorem d_La_law_624 : decode code 624 = .ok (.iaload, 1) := by decide +kernel
theorem d_La_law_625 : decode code 625 = .ok (.invokevirtual 98, 3) := by decide +kernel
theorem d_La_law_628 : decode code 628 = .ok (.istore 6, 2) := by decide +kernel
theorem d_La_law_630 : decode code 630 = .ok (.aload_n 2, 1) := by decide +kernel
theorem d_La_law_631 : decode code 631 = .ok (.invokevirtual 64, 3) := by decide +kernel
theorem d_La_law_634 : decode code 634 = .ok (.iload 5, 2) := by decide +kernel
theorem d_La_law_636 : decode code 636 = .ok (.if_icmp .eq 5, 3) := by decide +kernel
theorem d_La_law_641 : decode code 641 = .ok (.iload 5, 2) := by decide +kernel
theorem d_La_law_643 : decode code 643 = .ok (.ifCond .ne 15, 3) := by decide +kernel
theorem d_La_law_658 : decode code 658 = .ok (.goto 242, 3) := by decide +kernel
theorem d_La_law_661 : decode code 661 = .ok (.aload_n 1, 1) := by decide +kernel
theorem d_La_law_662 : decode code 662 = .ok (.aload_n 0, 1) := by decide +kernel
theorem d_La_law_663 : decode code 663 = .ok (.iload 4, 2) := by decide +kernel
theorem d_La_law_665 : decode code 665 = .ok (.iconst 1, 1) := by decide +kernel
theorem d_La_law_666 : decode code 666 = .ok (.iadd, 1) := by decide +kernel
theorem d_La_law_667 : decode code 667 = .ok (.iaload, 1) := by decide +kernel
theorem d_La_law_668 : decode code 668 = .ok (.aload_n 0, 1) := by decide +kernel
theorem d_La_law_669 : decode code 669 = .ok (.iload 4, 2) := by decide +kernel
theorem d_La_law_671 : decode code 671 = .ok (.iconst 2, 1) := by decide +kernel
theorem d_La_law_672 : decode code 672 = .ok (.iadd, 1) := by decide +kernel
theorem d_La_law_673 : decode code 673 = .ok (.iaload, 1) := by decide +kernel
theorem d_La_law_674 : decode code 674 = .ok (.aload_n 0, 1) := by decide +kernel
theorem d_La_law_675 : decode code 675 = .ok (.iload 4, 2) := by decide +kernel
theorem d_La_law_677 : decode code 677 = .ok (.iconst 3, 1) := by decide +kernel
theorem d_La_law_678 : decode code 678 = .ok (.iadd, 1) := by decide +kernel
theorem d_La_law_679 : decode code 679 = .ok (.iaload, 1) := by decide +kernel
theorem d_La_law_680 : decode code 680 = .ok (.aload_n 3, 1) := by decide +kernel
theorem d_La_law_681 : decode code 681 = .ok (.invokestatic 99, 3) := by decide +kernel
theorem d_La_law_684 : decode code 684 = .ok (.istore 5, 2) := by decide +kernel
theorem d_La_law_686 : decode code 686 = .ok (.aload_n 2, 1) := by decide +kernel
theorem d_La_law_687 : decode code 687 = .ok (.aload_n 0, 1) := by decide +kernel
theorem d_La_law_688 : decode code 688 = .ok (.iload 4, 2) := by decide +kernel
theorem d_La_law_690 : decode code 690 = .ok (.iconst 1, 1) := by decide +kernel
theorem d_La_law_691 : decode code 691 = .ok (.iadd, 1) := by decide +kernel
theorem d_La_law_692 : decode code 692 = .ok (.iaload, 1) := by decide +kernel
theorem d_La_law_693 : decode code 693 = .ok (.aload_n 0, 1) := by decide +kernel
theorem d_La_law_694 : decode code 694 = .ok (.iload 4, 2) := by decide +kernel
theorem d_La_law_696 : decode code 696 = .ok (.iconst 2, 1) := by decide +kernel
theorem d_La_law_697 : decode code 697 = .ok (.iadd, 1) := by decide +kernel
theorem d_La_law_698 : decode code 698 = .ok (.iaload, 1) := by decide +kernel
theorem d_La_law_699 : decode code 699 = .ok (.aload_n 0, 1) := by decide +kernel
theorem d_La_law_7 : decode code 7 = .ok (.astore_n 1, 1) := by decide +kernel
theorem d_La_law_700 : decode code 700 = .ok (.iload 4, 2) := by decide +kernel
theorem d_La_law_702 : decode code 702 = .ok (.iconst 3, 1) := by decide +kernel
theorem d_La_law_703 : decode code 703 = .ok (.iadd, 1) := by decide +kernel
theorem d_La_law_704 : decode code 704 = .ok (.iaload, 1) := by decide +kernel
theorem d_La_law_705 : decode code 705 = .ok (.invokevirtual 101, 3) := by decide +kernel
theorem d_La_law_708 : decode code 708 = .ok (.istore 6, 2) := by decide +kernel
theorem d_La_law_710 : decode code 710 = .ok (.aload_n 2, 1) := by decide +kernel
theorem d_La_law_711 : decode code 711 = .ok (.invokevirtual 64, 3) := by decide +kernel
theorem d_La_law_714 : decode code 714 = .ok (.iload 5, 2) := by decide +kernel
theorem d_La_law_716 : decode code 716 = .ok (.if_icmp .eq 5, 3) := by decide +kernel
theorem d_La_law_721 : decode code 721 = .ok (.iload 5, 2) := by decide +kernel
theorem d_La_law_723 : decode code 723 = .ok (.ifCond .ne 15, 3) := by decide +kernel
theorem d_La_law_738 : decode code 738 = .ok (.goto 162, 3) := by decide +kernel
theorem d_La_law_741 : decode code 741 = .ok (.aload_n 1, 1) := by decide +kernel
theorem d_La_law_742 : decode code 742 = .ok (.aload_n 0, 1) := by decide +kernel
theorem d_La_law_743 : decode code 743 = .ok (.iload 4, 2) := by decide +kernel
theorem d_La_law_745 : decode code 745 = .ok (.iconst 1, 1) := by decide +kernel
theorem d_La_law_746 : decode code 746 = .ok (.iadd, 1) := by decide +kernel
theorem d_La_law_747 : decode code 747 = .ok (.iaload, 1) := by decide +kernel
theorem d_La_law_748 : decode code 748 = .ok (.aload_n 3, 1) := by decide +kernel
theorem d_La_law_749 : decode code 749 = .ok (.invokestatic 102, 3) := by decide +kernel
theorem d_La_law_752 : decode code 752 = .ok (.istore 5, 2) := by decide +kernel
theorem d_La_law_754 : decode code 754 = .ok (.aload_n 2, 1) := by decide +kernel
theorem d_La_law_755 : decode code 755 = .ok (.aload_n 0, 1) := by decide +kernel
theorem d_La_law_756 : decode code 756 = .ok (.iload 4, 2) := by decide +kernel
theorem d_La_law_758 : decode code 758 = .ok (.iconst 1, 1) := by decide +kernel
theorem d_La_law_759 : decode code 759 = .ok (.iadd, 1) := by decide +kernel
theorem d_La_law_760 : decode code 760 = .ok (.iaload, 1) := by decide +kernel
theorem d_La_law_761 : decode code 761 = .ok (.invokevirtual 104, 3) := by decide +kernel
theorem d_La_law_764 : decode code 764 = .ok (.lstore 6, 2) := by decide +kernel
theorem d_La_law_766 : decode code 766 = .ok (.aload_n 2, 1) := by decide +kernel
theorem d_La_law_767 : decode code 767 = .ok (.invokevirtual 64, 3) := by decide +kernel
theorem d_La_law_770 : decode code 770 = .ok (.iload 5, 2) := by decide +kernel
theorem d_La_law_772 : decode code 772 = .ok (.if_icmp .eq 5, 3) := by decide +kernel
theorem d_La_law_777 : decode code 777 = .ok (.iload 5, 2) := by decide +kernel
theorem d_La_law_779 : decode code 779 = .ok (.ifCond .ne 14, 3) := by decide +kernel
theorem d_La_law_793 : decode code 793 = .ok (.goto 107, 3) := by decide +kernel
theorem d_La_law_796 : decode code 796 = .ok (.aload_n 1, 1) := by decide +kernel
theorem d_La_law_797 : decode code 797 = .ok (.aload_n 0, 1) := by decide +kernel
theorem d_La_law_798 : decode code 798 = .ok (.iload 4, 2) := by decide +kernel
theorem d_La_law_8 : decode code 8 = .ok (.new 55, 3) := by decide +kernel
theorem d_La_law_800 : decode code 800 = .ok (.iconst 1, 1) := by decide +kernel
theorem d_La_law_801 : decode code 801 = .ok (.iadd, 1) := by decide +kernel
theorem d_La_law_802 : decode code 802 = .ok (.iaload, 1) := by decide +kernel
theorem d_La_law_803 : decode code 803 = .ok (.aload_n 0, 1) := by decide +kernel
theorem d_La_law_804 : decode code 804 = .ok (.iload 4, 2) := by decide +kernel
theorem d_La_law_806 : decode code 806 = .ok (.iconst 2, 1) := by decide +kernel
theorem d_La_law_807 : decode code 807 = .ok (.iadd, 1) := by decide +kernel
theorem d_La_law_808 : decode code 808 = .ok (.iaload, 1) := by decide +kernel
theorem d_La_law_809 : decode code 809 = .ok (.aload_n 0, 1) := by decide +kernel
theorem d_La_law_810 : decode code 810 = .ok (.iload 4, 2) := by decide +kernel
theorem d_La_law_812 : decode code 812 = .ok (.iconst 3, 1) := by decide +kernel
theorem d_La_law_813 : decode code 813 = .ok (.iadd, 1) := by decide +kernel
theorem d_La_law_814 : decode code 814 = .ok (.iaload, 1) := by decide +kernel
theorem d_La_law_815 : decode code 815 = .ok (.aload_n 3, 1) := by decide +kernel
theorem d_La_law_816 : decode code 816 = .ok (.invokestatic 105, 3) := by decide +kernel
theorem d_La_law_819 : decode code 819 = .ok (.istore 5, 2) := by decide +kernel
theorem d_La_law_821 : decode code 821 = .ok (.aload_n 2, 1) := by decide +kernel
theorem d_La_law_822 : decode code 822 = .ok (.aload_n 0, 1) := by decide +kernel
theorem d_La_law_823 : decode code 823 = .ok (.iload 4, 2) := by decide +kernel
theorem d_La_law_825 : decode code 825 = .ok (.iconst 1, 1) := by decide +kernel
theorem d_La_law_826 : decode code 826 = .ok (.iadd, 1) := by decide +kernel
theorem d_La_law_827 : decode code 827 = .ok (.iaload, 1) := by decide +kernel
theorem d_La_law_828 : decode code 828 = .ok (.aload_n 0, 1) := by decide +kernel
theorem d_La_law_829 : decode code 829 = .ok (.iload 4, 2) := by decide +kernel
theorem d_La_law_831 : decode code 831 = .ok (.iconst 2, 1) := by decide +kernel
theorem d_La_law_832 : decode code 832 = .ok (.iadd, 1) := by decide +kernel
theorem d_La_law_833 : decode code 833 = .ok (.iaload, 1) := by decide +kernel
theorem d_La_law_834 : decode code 834 = .ok (.aload_n 0, 1) := by decide +kernel
theorem d_La_law_835 : decode code 835 = .ok (.iload 4, 2) := by decide +kernel
theorem d_La_law_837 : decode code 837 = .ok (.iconst 3, 1) := by decide +kernel
theorem d_La_law_838 : decode code 838 = .ok (.iadd, 1) := by decide +kernel
theorem d_La_law_839 : decode code 839 = .ok (.iaload, 1) := by decide +kernel
theorem d_La_law_840 : decode code 840 = .ok (.invokevirtual 107, 3) := by decide +kernel
theorem d_La_law_843 : decode code 843 = .ok (.lstore 6, 2) := by decide +kernel
theorem d_La_law_845 : decode code 845 = .ok (.aload_n 2, 1) := by decide +kernel
theorem d_La_law_846 : decode code 846 = .ok (.invokevirtual 64, 3) := by decide +kernel
theorem d_La_law_849 : decode code 849 = .ok (.iload 5, 2) := by decide +kernel
theorem d_La_law_851 : decode code 851 = .ok (.if_icmp .eq 5, 3) := by decide +kernel
theorem d_La_law_856 : decode code 856 = .ok (.iload 5, 2) := by decide +kernel
theorem d_La_law_858 : decode code 858 = .ok (.ifCond .ne 14, 3) := by decide +kernel
theorem d_La_law_872 : decode code 872 = .ok (.goto 28, 3) := by decide +kernel
theorem d_La_law_875 : decode code 875 = .ok (.aload_n 1, 1) := by decide +kernel
theorem d_La_law_876 : decode code 876 = .ok (.aload_n 0, 1) := by decide +kernel
theorem d_La_law_877 : decode code 877 = .ok (.iload 4, 2) := by decide +kernel
theorem d_La_law_879 : decode code 879 = .ok (.iconst 1, 1) := by decide +kernel
theorem d_La_law_880 : decode code 880 = .ok (.iadd, 1) := by decide +kernel
theorem d_La_law_881 : decode code 881 = .ok (.iaload, 1) := by decide +kernel
theorem d_La_law_882 : decode code 882 = .ok (.invokevirtual 108, 3) := by decide +kernel
theorem d_La_law_885 : decode code 885 = .ok (.aload_n 2, 1) := by decide +kernel
theorem d_La_law_886 : decode code 886 = .ok (.aload_n 0, 1) := by decide +kernel
theorem d_La_law_887 : decode code 887 = .ok (.iload 4, 2) := by decide +kernel
theorem d_La_law_889 : decode code 889 = .ok (.iconst 1, 1) := by decide +kernel
theorem d_La_law_890 : decode code 890 = .ok (.iadd, 1) := by decide +kernel
theorem d_La_law_891 : decode code 891 = .ok (.iaload, 1) := by decide +kernel
theorem d_La_law_892 : decode code 892 = .ok (.invokevirtual 111, 3) := by decide +kernel
theorem d_La_law_895 : decode code 895 = .ok (.if_icmp .eq 5, 3) := by decide +kernel
theorem d_La_law_900 : decode code 900 = .ok (.iinc 4 6, 3) := by decide +kernel
theorem d_La_law_903 : decode code 903 = .ok (.goto (-880), 3) := by decide +kernel
theorem d_La_law_906 : decode code 906 = .ok (.iconst 1, 1) := by decide +kernel
theorem d_La_law_907 : decode code 907 = .ok (.ireturn, 1) := by decide +kernel
theorem d_La_letter_0 : decode method_9_code 0 = .ok (.aload_n 2, 1) := by decide +kernel
theorem d_La_letter_1 : decode method_9_code 1 = .ok (.iconst 0, 1) := by decide +kernel
theorem d_La_letter_12 : decode method_9_code 12 = .ok (.astore_n 3, 1) := by decide +kernel
theorem d_La_letter_13 : decode method_9_code 13 = .ok (.iconst 1, 1) := by decide +kernel
theorem d_La_letter_14 : decode method_9_code 14 = .ok (.ireturn, 1) := by decide +kernel
theorem d_La_letter_2 : decode method_9_code 2 = .ok (.aload_n 0, 1) := by decide +kernel
theorem d_La_letter_3 : decode method_9_code 3 = .ok (.iload_n 1, 1) := by decide +kernel
theorem d_La_letter_4 : decode method_9_code 4 = .ok (.invokevirtual 38, 3) := by decide +kernel
theorem d_La_log_0 : decode method_11_code 0 = .ok (.aload_n 2, 1) := by decide +kernel
theorem d_La_log_1 : decode method_11_code 1 = .ok (.iconst 0, 1) := by decide +kernel
theorem d_La_log_11 : decode method_11_code 11 = .ok (.astore_n 3, 1) := by decide +kernel
theorem d_La_log_12 : decode method_11_code 12 = .ok (.iconst 1, 1) := by decide +kernel
theorem d_La_log_13 : decode method_11_code 13 = .ok (.ireturn, 1) := by decide +kernel
theorem d_La_log_2 : decode method_11_code 2 = .ok (.aload_n 0, 1) := by decide +kernel
theorem d_La_log_3 : decode method_11_code 3 = .ok (.iload_n 1, 1) := by decide +kernel
theorem d_La_log_4 : decode method_11_code 4 = .ok (.invokevirtual 46, 3) := by decide +kernel
theorem d_La_map_0 : decode method_3_code 0 = .ok (.aload 4, 2) := by decide +kernel
theorem d_La_map_10 : decode method_3_code 10 = .ok (.i2l, 1) := by decide +kernel
theorem d_La_map_11 : decode method_3_code 11 = .ok (.lastore, 1) := by decide +kernel
theorem d_La_map_12 : decode method_3_code 12 = .ok (.goto 11, 3) := by decide +kernel
theorem d_La_map_15 : decode method_3_code 15 = .ok (.astore 5, 2) := by decide +kernel
theorem d_La_map_17 : decode method_3_code 17 = .ok (.iconst 1, 1) := by decide +kernel
theorem d_La_map_18 : decode method_3_code 18 = .ok (.ireturn, 1) := by decide +kernel
theorem d_La_map_2 : decode method_3_code 2 = .ok (.iconst 0, 1) := by decide +kernel
theorem d_La_map_23 : decode method_3_code 23 = .ok (.iconst 0, 1) := by decide +kernel
theorem d_La_map_24 : decode method_3_code 24 = .ok (.ireturn, 1) := by decide +kernel
theorem d_La_map_3 : decode method_3_code 3 = .ok (.aload_n 0, 1) := by decide +kernel
theorem d_La_map_4 : decode method_3_code 4 = .ok (.iload_n 1, 1) := by decide +kernel
theorem d_La_map_5 : decode method_3_code 5 = .ok (.iload_n 2, 1) := by decide +kernel
theorem d_La_map_6 : decode method_3_code 6 = .ok (.iload_n 3, 1) := by decide +kernel
theorem d_La_map_7 : decode method_3_code 7 = .ok (.invokevirtual 7, 3) := by decide +kernel
theorem d_La_place_0 : decode method_10_code 0 = .ok (.aload 4, 2) := by decide +kernel
theorem d_La_place_15 : decode method_10_code 15 = .ok (.astore 5, 2) := by decide +kernel
theorem d_La_place_17 : decode method_10_code 17 = .ok (.iconst 1, 1) := by decide +kernel
theorem d_La_place_18 : decode method_10_code 18 = .ok (.ireturn, 1) := by decide +kernel
theorem d_La_place_2 : decode method_10_code 2 = .ok (.iconst 0, 1) := by decide +kernel
theorem d_La_place_3 : decode method_10_code 3 = .ok (.aload_n 0, 1) := by decide +kernel
theorem d_La_place_4 : decode method_10_code 4 = .ok (.iload_n 1, 1) := by decide +kernel
theorem d_La_place_5 : decode method_10_code 5 = .ok (.iload_n 2, 1) := by decide +kernel
theorem d_La_place_6 : decode method_10_code 6 = .ok (.iload_n 3, 1) := by decide +kernel
theorem d_La_place_7 : decode method_10_code 7 = .ok (.invokevirtual 43, 3) := by decide +kernel
theorem d_La_run_0 : decode method_8_code 0 = .ok (.aload_n 1, 1) := by decide +kernel
theorem d_La_run_1 : decode method_8_code 1 = .ok (.iconst 0, 1) := by decide +kernel
theorem d_La_run_10 : decode method_8_code 10 = .ok (.astore_n 2, 1) := by decide +kernel
theorem d_La_run_11 : decode method_8_code 11 = .ok (.iconst 1, 1) := by decide +kernel
theorem d_La_run_12 : decode method_8_code 12 = .ok (.ireturn, 1) := by decide +kernel
theorem d_La_run_2 : decode method_8_code 2 = .ok (.aload_n 0, 1) := by decide +kernel
theorem d_La_run_3 : decode method_8_code 3 = .ok (.invokevirtual 34, 3) := by decide +kernel
theorem d_Ma_append_0 : decode prog_5_method_2_code 0 = .ok (.aload_n 0, 1) := by decide +kernel
theorem d_Ma_append_1 : decode prog_5_method_2_code 1 = .ok (.getfield 9, 3) := by decide +kernel
theorem d_Ma_append_10 : decode prog_5_method_2_code 10 = .ok (.aload_n 0, 1) := by decide +kernel
theorem d_Ma_append_11 : decode prog_5_method_2_code 11 = .ok (.getfield 15, 3) := by decide +kernel
theorem d_Ma_append_14 : decode prog_5_method_2_code 14 = .ok (.aload_n 0, 1) := by decide +kernel
theorem d_Ma_append_15 : decode prog_5_method_2_code 15 = .ok (.getfield 35, 3) := by decide +kernel
theorem d_Ma_append_18 : decode prog_5_method_2_code 18 = .ok (.iload_n 2, 1) := by decide +kernel
theorem d_Ma_append_19 : decode prog_5_method_2_code 19 = .ok (.iastore, 1) := by decide +kernel
theorem d_Ma_append_20 : decode prog_5_method_2_code 20 = .ok (.aload_n 0, 1) := by decide +kernel
theorem d_Ma_append_21 : decode prog_5_method_2_code 21 = .ok (.getfield 25, 3) := by decide +kernel
theorem d_Ma_append_24 : decode prog_5_method_2_code 24 = .ok (.aload_n 0, 1) := by decide +kernel
theorem d_Ma_append_25 : decode prog_5_method_2_code 25 = .ok (.getfield 35, 3) := by decide +kernel
theorem d_Ma_append_28 : decode prog_5_method_2_code 28 = .ok (.iload_n 3, 1) := by decide +kernel
theorem d_Ma_append_29 : decode prog_5_method_2_code 29 = .ok (.iastore, 1) := by decide +kernel
theorem d_Ma_append_30 : decode prog_5_method_2_code 30 = .ok (.aload_n 0, 1) := by decide +kernel
theorem d_Ma_append_31 : decode prog_5_method_2_code 31 = .ok (.dup, 1) := by decide +kernel
theorem d_Ma_append_32 : decode prog_5_method_2_code 32 = .ok (.getfield 35, 3) := by decide +kernel
theorem d_Ma_append_35 : decode prog_5_method_2_code 35 = .ok (.iconst 1, 1) := by decide +kernel
theorem d_Ma_append_36 : decode prog_5_method_2_code 36 = .ok (.iadd, 1) := by decide +kernel
theorem d_Ma_append_37 : decode prog_5_method_2_code 37 = .ok (.putfield 35, 3) := by decide +kernel
theorem d_Ma_append_4 : decode prog_5_method_2_code 4 = .ok (.aload_n 0, 1) := by decide +kernel
theorem d_Ma_append_40 : decode prog_5_method_2_code 40 = .ok (.aload_n 0, 1) := by decide +kernel
theorem d_Ma_append_41 : decode prog_5_method_2_code 41 = .ok (.getfield 35, 3) := by decide +kernel
theorem d_Ma_append_44 : decode prog_5_method_2_code 44 = .ok (.iconst 1, 1) := by decide +kernel
theorem d_Ma_append_45 : decode prog_5_method_2_code 45 = .ok (.isub, 1) := by decide +kernel
theorem d_Ma_append_46 : decode prog_5_method_2_code 46 = .ok (.ireturn, 1) := by decide +kernel
theorem d_Ma_append_5 : decode prog_5_method_2_code 5 = .ok (.getfield 35, 3) := by decide +kernel
theorem d_Ma_append_8 : decode prog_5_method_2_code 8 = .ok (.iload_n 1, 1) := by decide +kernel
theorem d_Ma_append_9 : decode prog_5_method_2_code 9 = .ok (.iastore, 1) := by decide +kernel
theorem d_Ma_forget_0 : decode prog_5_method_3_code 0 = .ok (.aload_n 0, 1) := by decide +kernel
theorem d_Ma_forget_1 : decode prog_5_method_3_code 1 = .ok (.iconst 0, 1) := by decide +kernel
theorem d_Ma_forget_10 : decode prog_5_method_3_code 10 = .ok (.invokestatic 39, 3) := by decide +kernel
theorem d_Ma_forget_13 : decode prog_5_method_3_code 13 = .ok (.aload_n 0, 1) := by decide +kernel
theorem d_Ma_forget_14 : decode prog_5_method_3_code 14 = .ok (.getfield 18, 3) := by decide +kernel
theorem d_Ma_forget_17 : decode prog_5_method_3_code 17 = .ok (.iconst 0, 1) := by decide +kernel
theorem d_Ma_forget_18 : decode prog_5_method_3_code 18 = .ok (.invokestatic 39, 3) := by decide +kernel
theorem d_Ma_forget_2 : decode prog_5_method_3_code 2 = .ok (.putfield 35, 3) := by decide +kernel
theorem d_Ma_forget_21 : decode prog_5_method_3_code 21 = .ok (.iconst 0, 1) := by decide +kernel
theorem d_Ma_forget_22 : decode prog_5_method_3_code 22 = .ok (.istore_n 1, 1) := by decide +kernel
theorem d_Ma_forget_23 : decode prog_5_method_3_code 23 = .ok (.iload_n 1, 1) := by decide +kernel
theorem d_Ma_forget_24 : decode prog_5_method_3_code 24 = .ok (.aload_n 0, 1) := by decide +kernel
theorem d_Ma_forget_25 : decode prog_5_method_3_code 25 = .ok (.getfield 28, 3) := by decide +kernel
theorem d_Ma_forget_28 : decode prog_5_method_3_code 28 = .ok (.arraylength, 1) := by decide +kernel
theorem d_Ma_forget_29 : decode prog_5_method_3_code 29 = .ok (.if_icmp .ge 16, 3) := by decide +kernel
theorem d_Ma_forget_32 : decode prog_5_method_3_code 32 = .ok (.aload_n 0, 1) := by decide +kernel
theorem d_Ma_forget_33 : decode prog_5_method_3_code 33 = .ok (.getfield 28, 3) := by decide +kernel
theorem d_Ma_forget_36 : decode prog_5_method_3_code 36 = .ok (.iload_n 1, 1) := by decide +kernel
theorem d_Ma_forget_37 : decode prog_5_method_3_code 37 = .ok (.iconst 0, 1) := by decide +kernel
theorem d_Ma_forget_38 : decode prog_5_method_3_code 38 = .ok (.bastore, 1) := by decide +kernel
theorem d_Ma_forget_39 : decode prog_5_method_3_code 39 = .ok (.iinc 1 1, 3) := by decide +kernel
theorem d_Ma_forget_42 : decode prog_5_method_3_code 42 = .ok (.goto (-19), 3) := by decide +kernel
theorem d_Ma_forget_45 : decode prog_5_method_3_code 45 = .ok (.return_, 1) := by decide +kernel
theorem d_Ma_forget_5 : decode prog_5_method_3_code 5 = .ok (.aload_n 0, 1) := by decide +kernel
theorem d_Ma_forget_6 : decode prog_5_method_3_code 6 = .ok (.getfield 32, 3) := by decide +kernel
theorem d_Ma_forget_9 : decode prog_5_method_3_code 9 = .ok (.iconst 0, 1) := by decide +kernel
theorem d_Ma_has_0 : decode prog_5_method_4_code 0 = .ok (.iload_n 1, 1) := by decide +kernel
theorem d_Ma_has_1 : decode prog_5_method_4_code 1 = .ok (.iconst 0, 1) := by decide +kernel
theorem d_Ma_has_11 : decode prog_5_method_4_code 11 = .ok (.ifCond .eq 23, 3) := by decide +kernel
theorem d_Ma_has_2 : decode prog_5_method_4_code 2 = .ok (.aload_n 0, 1) := by decide +kernel
theorem d_Ma_has_3 : decode prog_5_method_4_code 3 = .ok (.getfield 35, 3) := by decide +kernel
theorem d_Ma_has_34 : decode prog_5_method_4_code 34 = .ok (.iconst 0, 1) := by decide +kernel
theorem d_Ma_has_35 : decode prog_5_method_4_code 35 = .ok (.ireturn, 1) := by decide +kernel
theorem d_Ma_has_6 : decode prog_5_method_4_code 6 = .ok (.iconst 1, 1) := by decide +kernel
theorem d_Ma_has_7 : decode prog_5_method_4_code 7 = .ok (.isub, 1) := by decide +kernel
theorem d_Ma_has_8 : decode prog_5_method_4_code 8 = .ok (.invokestatic 45, 3) := by decide +kernel
theorem d_Ma_init_0 : decode prog_5_method_1_code 0 = .ok (.aload_n 0, 1) := by decide +kernel
theorem d_Ma_init_1 : decode prog_5_method_1_code 1 = .ok (.invokespecial 3, 3) := by decide +kernel
theorem d_Ma_init_11 : decode prog_5_method_1_code 11 = .ok (.aload_n 0, 1) := by decide +kernel
theorem d_Ma_init_12 : decode prog_5_method_1_code 12 = .ok (.iconst 4, 1) := by decide +kernel
theorem d_Ma_init_13 : decode prog_5_method_1_code 13 = .ok (.newarray .int, 2) := by decide +kernel
theorem d_Ma_init_15 : decode prog_5_method_1_code 15 = .ok (.putfield 15, 3) := by decide +kernel
theorem d_Ma_init_18 : decode prog_5_method_1_code 18 = .ok (.aload_n 0, 1) := by decide +kernel
theorem d_Ma_init_19 : decode prog_5_method_1_code 19 = .ok (.sipush 4096, 3) := by decide +kernel
theorem d_Ma_init_22 : decode prog_5_method_1_code 22 = .ok (.newarray .byte, 2) := by decide +kernel
theorem d_Ma_init_24 : decode prog_5_method_1_code 24 = .ok (.putfield 18, 3) := by decide +kernel
theorem d_Ma_init_27 : decode prog_5_method_1_code 27 = .ok (.aload_n 0, 1) := by decide +kernel
theorem d_Ma_init_28 : decode prog_5_method_1_code 28 = .ok (.bipush 8, 2) := by decide +kernel
theorem d_Ma_init_30 : decode prog_5_method_1_code 30 = .ok (.newarray .byte, 2) := by decide +kernel
theorem d_Ma_init_32 : decode prog_5_method_1_code 32 = .ok (.putfield 22, 3) := by decide +kernel
theorem d_Ma_init_35 : decode prog_5_method_1_code 35 = .ok (.aload_n 0, 1) := by decide +kernel
theorem d_Ma_init_36 : decode prog_5_method_1_code 36 = .ok (.iconst 4, 1) := by decide +kernel
theorem d_Ma_init_37 : decode prog_5_method_1_code 37 = .ok (.newarray .int, 2) := by decide +kernel
theorem d_Ma_init_39 : decode prog_5_method_1_code 39 = .ok (.putfield 25, 3) := by decide +kernel
theorem d_Ma_init_4 : decode prog_5_method_1_code 4 = .ok (.aload_n 0, 1) := by decide +kernel
theorem d_Ma_init_42 : decode prog_5_method_1_code 42 = .ok (.aload_n 0, 1) := by decide +kernel
theorem d_Ma_init_43 : decode prog_5_method_1_code 43 = .ok (.bipush 64, 2) := by decide +kernel
theorem d_Ma_init_45 : decode prog_5_method_1_code 45 = .ok (.newarray .boolean, 2) := by decide +kernel
theorem d_Ma_init_47 : decode prog_5_method_1_code 47 = .ok (.putfield 28, 3) := by decide +kernel
theorem d_Ma_init_5 : decode prog_5_method_1_code 5 = .ok (.iconst 4, 1) := by decide +kernel
theorem d_Ma_init_50 : decode prog_5_method_1_code 50 = .ok (.aload_n 0, 1) := by decide +kernel
theorem d_Ma_init_51 : decode prog_5_method_1_code 51 = .ok (.sipush 512, 3) := by decide +kernel
theorem d_Ma_init_54 : decode prog_5_method_1_code 54 = .ok (.newarray .byte, 2) := by decide +kernel
theorem d_Ma_init_56 : decode prog_5_method_1_code 56 = .ok (.putfield 32, 3) := by decide +kernel
theorem d_Ma_init_59 : decode prog_5_method_1_code 59 = .ok (.return_, 1) := by decide +kernel
theorem d_Ma_init_6 : decode prog_5_method_1_code 6 = .ok (.newarray .int, 2) := by decide +kernel
theorem d_Ma_init_8 : decode prog_5_method_1_code 8 = .ok (.putfield 9, 3) := by decide +kernel
theorem d_Me_feedNumber_0 : decode prog_6_method_2_code 0 = .ok (.bipush 24, 2) := by decide +kernel
theorem d_Me_feedNumber_11 : decode prog_6_method_2_code 11 = .ok (.aload_n 0, 1) := by decide +kernel
theorem d_Me_feedNumber_12 : decode prog_6_method_2_code 12 = .ok (.getfield 22, 3) := by decide +kernel
theorem d_Me_feedNumber_15 : decode prog_6_method_2_code 15 = .ok (.iload_n 1, 1) := by decide +kernel
theorem d_Me_feedNumber_16 : decode prog_6_method_2_code 16 = .ok (.iload_n 2, 1) := by decide +kernel
theorem d_Me_feedNumber_17 : decode prog_6_method_2_code 17 = .ok (.ishr, 1) := by decide +kernel
theorem d_Me_feedNumber_18 : decode prog_6_method_2_code 18 = .ok (.i2b, 1) := by decide +kernel
theorem d_Me_feedNumber_19 : decode prog_6_method_2_code 19 = .ok (.bastore, 1) := by decide +kernel
theorem d_Me_feedNumber_2 : decode prog_6_method_2_code 2 = .ok (.istore_n 2, 1) := by decide +kernel
theorem d_Me_feedNumber_20 : decode prog_6_method_2_code 20 = .ok (.aload_n 0, 1) := by decide +kernel
theorem d_Me_feedNumber_21 : decode prog_6_method_2_code 21 = .ok (.dup, 1) := by decide +kernel
theorem d_Me_feedNumber_22 : decode prog_6_method_2_code 22 = .ok (.getfield 22, 3) := by decide +kernel
theorem d_Me_feedNumber_25 : decode prog_6_method_2_code 25 = .ok (.iconst 1, 1) := by decide +kernel
theorem d_Me_feedNumber_26 : decode prog_6_method_2_code 26 = .ok (.iadd, 1) := by decide +kernel
theorem d_Me_feedNumber_27 : decode prog_6_method_2_code 27 = .ok (.putfield 22, 3) := by decide +kernel
theorem d_Me_feedNumber_3 : decode prog_6_method_2_code 3 = .ok (.iload_n 2, 1) := by decide +kernel
theorem d_Me_feedNumber_30 : decode prog_6_method_2_code 30 = .ok (.iinc 2 (-8), 3) := by decide +kernel
theorem d_Me_feedNumber_33 : decode prog_6_method_2_code 33 = .ok (.goto (-30), 3) := by decide +kernel
theorem d_Me_feedNumber_36 : decode prog_6_method_2_code 36 = .ok (.return_, 1) := by decide +kernel
theorem d_Me_feedNumber_4 : decode prog_6_method_2_code 4 = .ok (.ifCond .lt 32, 3) := by decide +kernel
theorem d_Me_feedNumber_7 : decode prog_6_method_2_code 7 = .ok (.aload_n 0, 1) := by decide +kernel
theorem d_Me_feedNumber_8 : decode prog_6_method_2_code 8 = .ok (.getfield 9, 3) := by decide +kernel
theorem d_Me_init_0 : decode prog_6_method_1_code 0 = .ok (.aload_n 0, 1) := by decide +kernel
theorem d_Me_init_1 : decode prog_6_method_1_code 1 = .ok (.invokespecial 3, 3) := by decide +kernel
theorem d_Me_init_10 : decode prog_6_method_1_code 10 = .ok (.putfield 9, 3) := by decide +kernel
theorem d_Me_init_13 : decode prog_6_method_1_code 13 = .ok (.aload_n 0, 1) := by decide +kernel
theorem d_Me_init_14 : decode prog_6_method_1_code 14 = .ok (.bipush 64, 2) := by decide +kernel
theorem d_Me_init_16 : decode prog_6_method_1_code 16 = .ok (.newarray .byte, 2) := by decide +kernel
theorem d_Me_init_18 : decode prog_6_method_1_code 18 = .ok (.putfield 15, 3) := by decide +kernel
theorem d_Me_init_21 : decode prog_6_method_1_code 21 = .ok (.aload_n 0, 1) := by decide +kernel
theorem d_Me_init_22 : decode prog_6_method_1_code 22 = .ok (.aload_n 1, 1) := by decide +kernel
theorem d_Me_init_23 : decode prog_6_method_1_code 23 = .ok (.putfield 18, 3) := by decide +kernel
theorem d_Me_init_26 : decode prog_6_method_1_code 26 = .ok (.return_, 1) := by decide +kernel
theorem d_Me_init_4 : decode prog_6_method_1_code 4 = .ok (.aload_n 0, 1) := by decide +kernel
theorem d_Me_init_5 : decode prog_6_method_1_code 5 = .ok (.sipush 400, 3) := by decide +kernel
theorem d_Me_init_8 : decode prog_6_method_1_code 8 = .ok (.newarray .byte, 2) := by decide +kernel
theorem d_Mo_add_0 : decode prog_14_method_5_code 0 = .ok (.aload_n 0, 1) := by decide +kernel
theorem d_Mo_add_1 : decode prog_14_method_5_code 1 = .ok (.getfield 123, 3) := by decide +kernel
theorem d_Mo_add_10 : decode prog_14_method_5_code 10 = .ok (.aload_n 0, 1) := by decide +kernel
theorem d_Mo_add_11 : decode prog_14_method_5_code 11 = .ok (.getfield 119, 3) := by decide +kernel
theorem d_Mo_add_14 : decode prog_14_method_5_code 14 = .ok (.ifCond .eq 9, 3) := by decide +kernel
theorem d_Mo_add_23 : decode prog_14_method_5_code 23 = .ok (.aload_n 0, 1) := by decide +kernel
theorem d_Mo_add_24 : decode prog_14_method_5_code 24 = .ok (.iconst 0, 1) := by decide +kernel
theorem d_Mo_add_25 : decode prog_14_method_5_code 25 = .ok (.putfield 109, 3) := by decide +kernel
theorem d_Mo_add_28 : decode prog_14_method_5_code 28 = .ok (.aload_n 0, 1) := by decide +kernel
theorem d_Mo_add_29 : decode prog_14_method_5_code 29 = .ok (.getfield 11, 3) := by decide +kernel
theorem d_Mo_add_32 : decode prog_14_method_5_code 32 = .ok (.aload_n 0, 1) := by decide +kernel
theorem d_Mo_add_33 : decode prog_14_method_5_code 33 = .ok (.getfield 123, 3) := by decide +kernel
theorem d_Mo_add_36 : decode prog_14_method_5_code 36 = .ok (.iload_n 1, 1) := by decide +kernel
theorem d_Mo_add_37 : decode prog_14_method_5_code 37 = .ok (.iastore, 1) := by decide +kernel
theorem d_Mo_add_38 : decode prog_14_method_5_code 38 = .ok (.aload_n 0, 1) := by decide +kernel
theorem d_Mo_add_39 : decode prog_14_method_5_code 39 = .ok (.getfield 15, 3) := by decide +kernel
theorem d_Mo_add_4 : decode prog_14_method_5_code 4 = .ok (.sipush 200, 3) := by decide +kernel
theorem d_Mo_add_42 : decode prog_14_method_5_code 42 = .ok (.aload_n 0, 1) := by decide +kernel
theorem d_Mo_add_43 : decode prog_14_method_5_code 43 = .ok (.getfield 123, 3) := by decide +kernel
theorem d_Mo_add_46 : decode prog_14_method_5_code 46 = .ok (.iload_n 2, 1) := by decide +kernel
theorem d_Mo_add_47 : decode prog_14_method_5_code 47 = .ok (.iastore, 1) := by decide +kernel
theorem d_Mo_add_48 : decode prog_14_method_5_code 48 = .ok (.aload_n 0, 1) := by decide +kernel
theorem d_Mo_add_49 : decode prog_14_method_5_code 49 = .ok (.getfield 18, 3) := by decide +kernel
theorem d_Mo_add_52 : decode prog_14_method_5_code 52 = .ok (.aload_n 0, 1) := by decide +kernel
theorem d_Mo_add_53 : decode prog_14_method_5_code 53 = .ok (.getfield 123, 3) := by decide +kernel
theorem d_Mo_add_56 : decode prog_14_method_5_code 56 = .ok (.iload_n 3, 1) := by decide +kernel
theorem d_Mo_add_57 : decode prog_14_method_5_code 57 = .ok (.iastore, 1) := by decide +kernel
theorem d_Mo_add_58 : decode prog_14_method_5_code 58 = .ok (.aload_n 0, 1) := by decide +kernel
theorem d_Mo_add_59 : decode prog_14_method_5_code 59 = .ok (.getfield 21, 3) := by decide +kernel
theorem d_Mo_add_62 : decode prog_14_method_5_code 62 = .ok (.aload_n 0, 1) := by decide +kernel
theorem d_Mo_add_63 : decode prog_14_method_5_code 63 = .ok (.getfield 123, 3) := by decide +kernel
theorem d_Mo_add_66 : decode prog_14_method_5_code 66 = .ok (.iload 4, 2) := by decide +kernel
theorem d_Mo_add_68 : decode prog_14_method_5_code 68 = .ok (.iastore, 1) := by decide +kernel
theorem d_Mo_add_69 : decode prog_14_method_5_code 69 = .ok (.aload_n 0, 1) := by decide +kernel
theorem d_Mo_add_7 : decode prog_14_method_5_code 7 = .ok (.if_icmp .eq 10, 3) := by decide +kernel
theorem d_Mo_add_70 : decode prog_14_method_5_code 70 = .ok (.getfield 24, 3) := by decide +kernel
theorem d_Mo_add_73 : decode prog_14_method_5_code 73 = .ok (.aload_n 0, 1) := by decide +kernel
theorem d_Mo_add_74 : decode prog_14_method_5_code 74 = .ok (.getfield 123, 3) := by decide +kernel
theorem d_Mo_add_77 : decode prog_14_method_5_code 77 = .ok (.iload 5, 2) := by decide +kernel
theorem d_Mo_add_79 : decode prog_14_method_5_code 79 = .ok (.iastore, 1) := by decide +kernel
theorem d_Mo_add_80 : decode prog_14_method_5_code 80 = .ok (.aload_n 0, 1) := by decide +kernel
theorem d_Mo_add_81 : decode prog_14_method_5_code 81 = .ok (.dup, 1) := by decide +kernel
theorem d_Mo_add_82 : decode prog_14_method_5_code 82 = .ok (.getfield 123, 3) := by decide +kernel
theorem d_Mo_add_85 : decode prog_14_method_5_code 85 = .ok (.iconst 1, 1) := by decide +kernel
theorem d_Mo_add_86 : decode prog_14_method_5_code 86 = .ok (.iadd, 1) := by decide +kernel
theorem d_Mo_add_87 : decode prog_14_method_5_code 87 = .ok (.putfield 123, 3) := by decide +kernel
theorem d_Mo_add_90 : decode prog_14_method_5_code 90 = .ok (.aload_n 0, 1) := by decide +kernel
theorem d_Mo_add_91 : decode prog_14_method_5_code 91 = .ok (.getfield 123, 3) := by decide +kernel
theorem d_Mo_add_94 : decode prog_14_method_5_code 94 = .ok (.iconst 1, 1) := by decide +kernel
theorem d_Mo_add_95 : decode prog_14_method_5_code 95 = .ok (.isub, 1) := by decide +kernel
theorem d_Mo_add_96 : decode prog_14_method_5_code 96 = .ok (.ireturn, 1) := by decide +kernel
theorem d_Mo_check_0 : decode prog_14_method_48_code 0 = .ok (.aload_n 0, 1) := by decide +kernel
theorem d_Mo_check_1 : decode prog_14_method_48_code 1 = .ok (.getfield 123, 3) := by decide +kernel
theorem d_Mo_check_14 : decode prog_14_method_48_code 14 = .ok (.aload_n 0, 1) := by decide +kernel
theorem d_Mo_check_15 : decode prog_14_method_48_code 15 = .ok (.iconst 1, 1) := by decide +kernel
theorem d_Mo_check_16 : decode prog_14_method_48_code 16 = .ok (.invokevirtual 112, 3) := by decide +kernel
theorem d_Mo_check_19 : decode prog_14_method_48_code 19 = .ok (.ireturn, 1) := by decide +kernel
theorem d_Mo_check_4 : decode prog_14_method_48_code 4 = .ok (.ifCond .eq 10, 3) := by decide +kernel
theorem d_Mo_clear_0 : decode prog_14_method_69_code 0 = .ok (.aload_n 0, 1) := by decide +kernel
theorem d_Mo_clear_1 : decode prog_14_method_69_code 1 = .ok (.iconst 0, 1) := by decide +kernel
theorem d_Mo_clear_10 : decode prog_14_method_69_code 10 = .ok (.aload_n 0, 1) := by decide +kernel
theorem d_Mo_clear_11 : decode prog_14_method_69_code 11 = .ok (.iconst 0, 1) := by decide +kernel
theorem d_Mo_clear_12 : decode prog_14_method_69_code 12 = .ok (.putfield 116, 3) := by decide +kernel
theorem d_Mo_clear_15 : decode prog_14_method_69_code 15 = .ok (.aload_n 0, 1) := by decide +kernel
theorem d_Mo_clear_16 : decode prog_14_method_69_code 16 = .ok (.iconst 0, 1) := by decide +kernel
theorem d_Mo_clear_17 : decode prog_14_method_69_code 17 = .ok (.putfield 119, 3) := by decide +kernel
theorem d_Mo_clear_2 : decode prog_14_method_69_code 2 = .ok (.putfield 109, 3) := by decide +kernel
theorem d_Mo_clear_20 : decode prog_14_method_69_code 20 = .ok (.aload_n 0, 1) := by decide +kernel
theorem d_Mo_clear_21 : decode prog_14_method_69_code 21 = .ok (.iconst 0, 1) := by decide +kernel
theorem d_Mo_clear_22 : decode prog_14_method_69_code 22 = .ok (.putfield 339, 3) := by decide +kernel
theorem d_Mo_clear_25 : decode prog_14_method_69_code 25 = .ok (.aload_n 0, 1) := by decide +kernel
