theorem d_M_at_2 : decode prog_6_method_48_code 2 = .ok (.ifCond .lt 11, 3) := by decide +kernel
theorem d_M_at_13 : decode prog_6_method_48_code 13 = .ok (.iconst 1, 1) := by decide +kernel
theorem d_M_at_14 : decode prog_6_method_48_code 14 = .ok (.goto 4, 3) := by decide +kernel
theorem d_M_at_18 : decode prog_6_method_48_code 18 = .ok (.putfield 82, 3) := by decide +kernel
theorem d_M_at_21 : decode prog_6_method_48_code 21 = .ok (.aload_n 0, 1) := by decide +kernel
theorem d_M_at_22 : decode prog_6_method_48_code 22 = .ok (.getfield 82, 3) := by decide +kernel
theorem d_M_at_25 : decode prog_6_method_48_code 25 = .ok (.ifCond .ne 11, 3) := by decide +kernel
theorem d_M_at_36 : decode prog_6_method_48_code 36 = .ok (.iconst 0, 1) := by decide +kernel
theorem d_M_at_37 : decode prog_6_method_48_code 37 = .ok (.ireturn, 1) := by decide +kernel
theorem d_M_at_5 : decode prog_6_method_48_code 5 = .ok (.iload_n 1, 1) := by decide +kernel
theorem d_M_at_6 : decode prog_6_method_48_code 6 = .ok (.aload_n 0, 1) := by decide +kernel
theorem d_M_at_7 : decode prog_6_method_48_code 7 = .ok (.invokevirtual 123, 3) := by decide +kernel
theorem d_M_at_10 : decode prog_6_method_48_code 10 = .ok (.if_icmp .lt 7, 3) := by decide +kernel
theorem d_L_law_621 : decode code 621 = .ok (.istore 6, 2) := by decide +kernel
theorem d_L_law_623 : decode code 623 = .ok (.aload_n 2, 1) := by decide +kernel
theorem d_L_law_624 : decode code 624 = .ok (.invokevirtual 81, 3) := by decide +kernel
theorem d_L_law_627 : decode code 627 = .ok (.iload 5, 2) := by decide +kernel
theorem d_L_law_629 : decode code 629 = .ok (.if_icmp .eq 5, 3) := by decide +kernel
theorem d_L_law_634 : decode code 634 = .ok (.iload 5, 2) := by decide +kernel
theorem d_L_law_636 : decode code 636 = .ok (.ifCond .ne 15, 3) := by decide +kernel
theorem d_L_law_651 : decode code 651 = .ok (.goto 183, 3) := by decide +kernel
theorem d_L_law_654 : decode code 654 = .ok (.aload_n 1, 1) := by decide +kernel
theorem d_L_law_655 : decode code 655 = .ok (.aload_n 0, 1) := by decide +kernel
theorem d_L_law_656 : decode code 656 = .ok (.iload 4, 2) := by decide +kernel
theorem d_L_law_658 : decode code 658 = .ok (.iconst 1, 1) := by decide +kernel
theorem d_L_law_659 : decode code 659 = .ok (.iadd, 1) := by decide +kernel
theorem d_L_law_660 : decode code 660 = .ok (.iaload, 1) := by decide +kernel
theorem d_L_law_661 : decode code 661 = .ok (.aload_n 0, 1) := by decide +kernel
theorem d_L_law_662 : decode code 662 = .ok (.iload 4, 2) := by decide +kernel
theorem d_L_law_664 : decode code 664 = .ok (.iconst 2, 1) := by decide +kernel
theorem d_L_law_665 : decode code 665 = .ok (.iadd, 1) := by decide +kernel
theorem d_L_law_666 : decode code 666 = .ok (.iaload, 1) := by decide +kernel
theorem d_L_law_667 : decode code 667 = .ok (.aload_n 3, 1) := by decide +kernel
theorem d_L_law_668 : decode code 668 = .ok (.invokestatic 123, 3) := by decide +kernel
theorem d_L_line_0 : decode method_13_code 0 = .ok (.aload_n 3, 1) := by decide +kernel
theorem d_L_line_1 : decode method_13_code 1 = .ok (.iconst 0, 1) := by decide +kernel
theorem d_L_line_2 : decode method_13_code 2 = .ok (.aload_n 0, 1) := by decide +kernel
theorem d_L_line_3 : decode method_13_code 3 = .ok (.iload_n 1, 1) := by decide +kernel
theorem d_L_line_4 : decode method_13_code 4 = .ok (.iload_n 2, 1) := by decide +kernel
theorem d_L_line_5 : decode method_13_code 5 = .ok (.invokevirtual 52, 3) := by decide +kernel
theorem d_D_line_0 : decode prog_1_method_16_code 0 = .ok (.iload_n 1, 1) := by decide +kernel
theorem d_D_line_1 : decode prog_1_method_16_code 1 = .ok (.tableswitch 70 0 3 #[31, 43, 54, 60], 31) := by decide +kernel
theorem d_D_line_32 : decode prog_1_method_16_code 32 = .ok (.aload_n 0, 1) := by decide +kernel
theorem d_D_line_33 : decode prog_1_method_16_code 33 = .ok (.aload_n 0, 1) := by decide +kernel
theorem d_D_line_34 : decode prog_1_method_16_code 34 = .ok (.getfield 19, 3) := by decide +kernel
theorem d_D_line_37 : decode prog_1_method_16_code 37 = .ok (.arraylength, 1) := by decide +kernel
theorem d_D_line_38 : decode prog_1_method_16_code 38 = .ok (.invokevirtual 146, 3) := by decide +kernel
theorem d_D_breaksBefore_0 : decode prog_1_method_29_code 0 = .ok (.iconst 0, 1) := by decide +kernel
theorem d_D_breaksBefore_1 : decode prog_1_method_29_code 1 = .ok (.istore_n 2, 1) := by decide +kernel
theorem d_D_breaksBefore_2 : decode prog_1_method_29_code 2 = .ok (.iconst 0, 1) := by decide +kernel
theorem d_D_breaksBefore_3 : decode prog_1_method_29_code 3 = .ok (.istore_n 3, 1) := by decide +kernel
theorem d_D_breaksBefore_4 : decode prog_1_method_29_code 4 = .ok (.iload_n 3, 1) := by decide +kernel
theorem d_D_breaksBefore_5 : decode prog_1_method_29_code 5 = .ok (.iload_n 1, 1) := by decide +kernel
theorem d_D_breaksBefore_6 : decode prog_1_method_29_code 6 = .ok (.if_icmp .ge 23, 3) := by decide +kernel
theorem d_D_breaksBefore_29 : decode prog_1_method_29_code 29 = .ok (.iload_n 2, 1) := by decide +kernel
theorem d_D_breaksBefore_30 : decode prog_1_method_29_code 30 = .ok (.ireturn, 1) := by decide +kernel
theorem d_D_line_41 : decode prog_1_method_16_code 41 = .ok (.iconst 1, 1) := by decide +kernel
theorem d_D_line_42 : decode prog_1_method_16_code 42 = .ok (.iadd, 1) := by decide +kernel
theorem d_D_line_43 : decode prog_1_method_16_code 43 = .ok (.ireturn, 1) := by decide +kernel
theorem d_L_line_8 : decode method_13_code 8 = .ok (.i2l, 1) := by decide +kernel
theorem d_L_line_9 : decode method_13_code 9 = .ok (.lastore, 1) := by decide +kernel
theorem d_L_line_10 : decode method_13_code 10 = .ok (.goto 11, 3) := by decide +kernel
theorem d_L_line_21 : decode method_13_code 21 = .ok (.iconst 0, 1) := by decide +kernel
theorem d_L_line_22 : decode method_13_code 22 = .ok (.ireturn, 1) := by decide +kernel
theorem d_L_law_671 : decode code 671 = .ok (.istore 5, 2) := by decide +kernel
theorem d_L_law_673 : decode code 673 = .ok (.aload_n 2, 1) := by decide +kernel
theorem d_L_law_674 : decode code 674 = .ok (.aload_n 0, 1) := by decide +kernel
theorem d_L_law_675 : decode code 675 = .ok (.iload 4, 2) := by decide +kernel
theorem d_L_law_677 : decode code 677 = .ok (.iconst 1, 1) := by decide +kernel
theorem d_L_law_678 : decode code 678 = .ok (.iadd, 1) := by decide +kernel
theorem d_L_law_679 : decode code 679 = .ok (.iaload, 1) := by decide +kernel
theorem d_L_law_680 : decode code 680 = .ok (.aload_n 0, 1) := by decide +kernel
theorem d_L_law_681 : decode code 681 = .ok (.iload 4, 2) := by decide +kernel
theorem d_L_law_683 : decode code 683 = .ok (.iconst 2, 1) := by decide +kernel
theorem d_L_law_684 : decode code 684 = .ok (.iadd, 1) := by decide +kernel
theorem d_L_law_685 : decode code 685 = .ok (.iaload, 1) := by decide +kernel
theorem d_L_law_686 : decode code 686 = .ok (.invokevirtual 126, 3) := by decide +kernel
theorem d_M_line_0 : decode prog_6_method_51_code 0 = .ok (.aload_n 0, 1) := by decide +kernel
theorem d_M_line_1 : decode prog_6_method_51_code 1 = .ok (.aload_n 0, 1) := by decide +kernel
theorem d_M_line_2 : decode prog_6_method_51_code 2 = .ok (.invokevirtual 123, 3) := by decide +kernel
theorem d_M_line_5 : decode prog_6_method_51_code 5 = .ok (.invokevirtual 238, 3) := by decide +kernel
theorem d_M_breaks_0 : decode prog_6_method_49_code 0 = .ok (.iconst 0, 1) := by decide +kernel
theorem d_M_breaks_1 : decode prog_6_method_49_code 1 = .ok (.istore_n 2, 1) := by decide +kernel
theorem d_M_breaks_2 : decode prog_6_method_49_code 2 = .ok (.iconst 0, 1) := by decide +kernel
theorem d_M_breaks_3 : decode prog_6_method_49_code 3 = .ok (.istore_n 3, 1) := by decide +kernel
theorem d_M_breaks_4 : decode prog_6_method_49_code 4 = .ok (.iload_n 3, 1) := by decide +kernel
theorem d_M_breaks_5 : decode prog_6_method_49_code 5 = .ok (.iload_n 1, 1) := by decide +kernel
theorem d_M_breaks_6 : decode prog_6_method_49_code 6 = .ok (.if_icmp .ge 27, 3) := by decide +kernel
theorem d_M_breaks_33 : decode prog_6_method_49_code 33 = .ok (.iload_n 2, 1) := by decide +kernel
theorem d_M_breaks_34 : decode prog_6_method_49_code 34 = .ok (.ireturn, 1) := by decide +kernel
theorem d_M_line_8 : decode prog_6_method_51_code 8 = .ok (.iconst 1, 1) := by decide +kernel
theorem d_M_line_9 : decode prog_6_method_51_code 9 = .ok (.iadd, 1) := by decide +kernel
theorem d_M_line_10 : decode prog_6_method_51_code 10 = .ok (.istore_n 3, 1) := by decide +kernel
theorem d_M_line_11 : decode prog_6_method_51_code 11 = .ok (.iload_n 1, 1) := by decide +kernel
theorem d_M_line_12 : decode prog_6_method_51_code 12 = .ok (.ifCond .eq 32, 3) := by decide +kernel
theorem d_M_line_44 : decode prog_6_method_51_code 44 = .ok (.iconst 1, 1) := by decide +kernel
theorem d_M_line_45 : decode prog_6_method_51_code 45 = .ok (.goto 4, 3) := by decide +kernel
theorem d_M_line_49 : decode prog_6_method_51_code 49 = .ok (.istore 4, 2) := by decide +kernel
theorem d_M_line_51 : decode prog_6_method_51_code 51 = .ok (.aload_n 0, 1) := by decide +kernel
theorem d_M_line_52 : decode prog_6_method_51_code 52 = .ok (.iload_n 1, 1) := by decide +kernel
theorem d_M_line_53 : decode prog_6_method_51_code 53 = .ok (.ifCond .lt 8, 3) := by decide +kernel
theorem d_M_line_56 : decode prog_6_method_51_code 56 = .ok (.iload_n 1, 1) := by decide +kernel
theorem d_M_line_57 : decode prog_6_method_51_code 57 = .ok (.iconst 3, 1) := by decide +kernel
theorem d_M_line_58 : decode prog_6_method_51_code 58 = .ok (.if_icmp .le 7, 3) := by decide +kernel
theorem d_M_line_65 : decode prog_6_method_51_code 65 = .ok (.iload 4, 2) := by decide +kernel
theorem d_M_line_67 : decode prog_6_method_51_code 67 = .ok (.ifCond .ne 7, 3) := by decide +kernel
theorem d_M_line_74 : decode prog_6_method_51_code 74 = .ok (.iconst 0, 1) := by decide +kernel
theorem d_M_line_75 : decode prog_6_method_51_code 75 = .ok (.putfield 82, 3) := by decide +kernel
theorem d_M_line_78 : decode prog_6_method_51_code 78 = .ok (.aload_n 0, 1) := by decide +kernel
theorem d_M_line_79 : decode prog_6_method_51_code 79 = .ok (.getfield 82, 3) := by decide +kernel
theorem d_M_line_82 : decode prog_6_method_51_code 82 = .ok (.ifCond .le 5, 3) := by decide +kernel
theorem d_M_line_87 : decode prog_6_method_51_code 87 = .ok (.iload_n 1, 1) := by decide +kernel
theorem d_M_line_88 : decode prog_6_method_51_code 88 = .ok (.iconst 2, 1) := by decide +kernel
theorem d_M_line_89 : decode prog_6_method_51_code 89 = .ok (.if_icmp .ge 17, 3) := by decide +kernel
theorem d_M_line_92 : decode prog_6_method_51_code 92 = .ok (.iload_n 1, 1) := by decide +kernel
theorem d_M_line_93 : decode prog_6_method_51_code 93 = .ok (.ifCond .ne 7, 3) := by decide +kernel
theorem d_M_line_96 : decode prog_6_method_51_code 96 = .ok (.iload_n 3, 1) := by decide +kernel
theorem d_M_line_97 : decode prog_6_method_51_code 97 = .ok (.goto 8, 3) := by decide +kernel
theorem d_M_line_105 : decode prog_6_method_51_code 105 = .ok (.ireturn, 1) := by decide +kernel
theorem d_L_law_689 : decode code 689 = .ok (.istore 6, 2) := by decide +kernel
theorem d_L_law_691 : decode code 691 = .ok (.aload_n 2, 1) := by decide +kernel
theorem d_L_law_692 : decode code 692 = .ok (.invokevirtual 81, 3) := by decide +kernel
theorem d_L_law_695 : decode code 695 = .ok (.iload 5, 2) := by decide +kernel
theorem d_L_law_697 : decode code 697 = .ok (.if_icmp .eq 5, 3) := by decide +kernel
theorem d_L_law_702 : decode code 702 = .ok (.iload 5, 2) := by decide +kernel
theorem d_L_law_704 : decode code 704 = .ok (.ifCond .ne 15, 3) := by decide +kernel
theorem d_L_law_707 : decode code 707 = .ok (.aload_n 3, 1) := by decide +kernel
theorem d_L_law_708 : decode code 708 = .ok (.iconst 0, 1) := by decide +kernel
theorem d_L_law_709 : decode code 709 = .ok (.laload, 1) := by decide +kernel
theorem d_L_law_710 : decode code 710 = .ok (.iload 6, 2) := by decide +kernel
theorem d_L_law_712 : decode code 712 = .ok (.i2l, 1) := by decide +kernel
theorem d_L_law_713 : decode code 713 = .ok (.lcmp, 1) := by decide +kernel
theorem d_L_law_714 : decode code 714 = .ok (.ifCond .eq 5, 3) := by decide +kernel
theorem d_L_law_719 : decode code 719 = .ok (.goto 115, 3) := by decide +kernel
theorem d_D_line_44 : decode prog_1_method_16_code 44 = .ok (.aload_n 0, 1) := by decide +kernel
theorem d_D_line_45 : decode prog_1_method_16_code 45 = .ok (.iload_n 2, 1) := by decide +kernel
theorem d_D_line_46 : decode prog_1_method_16_code 46 = .ok (.invokevirtual 88, 3) := by decide +kernel
theorem d_D_line_49 : decode prog_1_method_16_code 49 = .ok (.aload_n 0, 1) := by decide +kernel
theorem d_D_line_50 : decode prog_1_method_16_code 50 = .ok (.iload_n 2, 1) := by decide +kernel
theorem d_D_line_51 : decode prog_1_method_16_code 51 = .ok (.invokevirtual 146, 3) := by decide +kernel
theorem d_D_line_54 : decode prog_1_method_16_code 54 = .ok (.ireturn, 1) := by decide +kernel
theorem d_M_line_15 : decode prog_6_method_51_code 15 = .ok (.iload_n 1, 1) := by decide +kernel
theorem d_M_line_16 : decode prog_6_method_51_code 16 = .ok (.iconst 1, 1) := by decide +kernel
theorem d_M_line_17 : decode prog_6_method_51_code 17 = .ok (.if_icmp .ne 18, 3) := by decide +kernel
theorem d_M_line_20 : decode prog_6_method_51_code 20 = .ok (.iload_n 2, 1) := by decide +kernel
theorem d_M_line_21 : decode prog_6_method_51_code 21 = .ok (.ifCond .lt 27, 3) := by decide +kernel
theorem d_M_line_24 : decode prog_6_method_51_code 24 = .ok (.iload_n 2, 1) := by decide +kernel
theorem d_M_line_25 : decode prog_6_method_51_code 25 = .ok (.aload_n 0, 1) := by decide +kernel
theorem d_M_line_26 : decode prog_6_method_51_code 26 = .ok (.invokevirtual 123, 3) := by decide +kernel
theorem d_M_line_29 : decode prog_6_method_51_code 29 = .ok (.if_icmp .gt 19, 3) := by decide +kernel
theorem d_M_line_32 : decode prog_6_method_51_code 32 = .ok (.goto 12, 3) := by decide +kernel
theorem d_M_line_100 : decode prog_6_method_51_code 100 = .ok (.aload_n 0, 1) := by decide +kernel
theorem d_M_line_101 : decode prog_6_method_51_code 101 = .ok (.iload_n 2, 1) := by decide +kernel
theorem d_M_line_102 : decode prog_6_method_51_code 102 = .ok (.invokevirtual 238, 3) := by decide +kernel
theorem d_L_line_17 : decode method_13_code 17 = .ok (.astore 4, 2) := by decide +kernel
theorem d_L_line_19 : decode method_13_code 19 = .ok (.iconst 2, 1) := by decide +kernel
theorem d_L_line_20 : decode method_13_code 20 = .ok (.ireturn, 1) := by decide +kernel
theorem d_M_line_48 : decode prog_6_method_51_code 48 = .ok (.iconst 0, 1) := by decide +kernel
theorem d_M_line_70 : decode prog_6_method_51_code 70 = .ok (.iconst 2, 1) := by decide +kernel
theorem d_M_line_71 : decode prog_6_method_51_code 71 = .ok (.goto 4, 3) := by decide +kernel
theorem d_M_line_85 : decode prog_6_method_51_code 85 = .ok (.iconst 0, 1) := by decide +kernel
theorem d_M_line_86 : decode prog_6_method_51_code 86 = .ok (.ireturn, 1) := by decide +kernel
theorem d_D_line_55 : decode prog_1_method_16_code 55 = .ok (.aload_n 0, 1) := by decide +kernel
theorem d_D_line_56 : decode prog_1_method_16_code 56 = .ok (.iload_n 2, 1) := by decide +kernel
theorem d_D_line_57 : decode prog_1_method_16_code 57 = .ok (.invokevirtual 149, 3) := by decide +kernel
theorem d_D_lineBegin_0 : decode prog_1_method_30_code 0 = .ok (.iload_n 1, 1) := by decide +kernel
theorem d_D_lineBegin_1 : decode prog_1_method_30_code 1 = .ok (.ifCond .ne 5, 3) := by decide +kernel
theorem d_D_lineBegin_4 : decode prog_1_method_30_code 4 = .ok (.iconst 0, 1) := by decide +kernel
theorem d_D_lineBegin_5 : decode prog_1_method_30_code 5 = .ok (.ireturn, 1) := by decide +kernel
theorem d_D_line_60 : decode prog_1_method_16_code 60 = .ok (.ireturn, 1) := by decide +kernel
theorem d_M_line_35 : decode prog_6_method_51_code 35 = .ok (.iload_n 2, 1) := by decide +kernel
theorem d_M_line_36 : decode prog_6_method_51_code 36 = .ok (.ifCond .lt 12, 3) := by decide +kernel
theorem d_M_line_39 : decode prog_6_method_51_code 39 = .ok (.iload_n 2, 1) := by decide +kernel
theorem d_M_line_40 : decode prog_6_method_51_code 40 = .ok (.iload_n 3, 1) := by decide +kernel
theorem d_M_line_41 : decode prog_6_method_51_code 41 = .ok (.if_icmp .ge 7, 3) := by decide +kernel
theorem d_M_line_106 : decode prog_6_method_51_code 106 = .ok (.aload_n 0, 1) := by decide +kernel
theorem d_M_line_107 : decode prog_6_method_51_code 107 = .ok (.iload_n 2, 1) := by decide +kernel
theorem d_M_line_108 : decode prog_6_method_51_code 108 = .ok (.invokevirtual 241, 3) := by decide +kernel
theorem d_M_lineStart_0 : decode prog_6_method_50_code 0 = .ok (.iconst 0, 1) := by decide +kernel
theorem d_M_lineStart_1 : decode prog_6_method_50_code 1 = .ok (.istore_n 2, 1) := by decide +kernel
theorem d_M_lineStart_2 : decode prog_6_method_50_code 2 = .ok (.aload_n 0, 1) := by decide +kernel
theorem d_M_lineStart_3 : decode prog_6_method_50_code 3 = .ok (.iload_n 2, 1) := by decide +kernel
theorem d_M_lineStart_4 : decode prog_6_method_50_code 4 = .ok (.invokevirtual 238, 3) := by decide +kernel
theorem d_M_lineStart_7 : decode prog_6_method_50_code 7 = .ok (.iload_n 1, 1) := by decide +kernel
theorem d_M_lineStart_8 : decode prog_6_method_50_code 8 = .ok (.if_icmp .ge 9, 3) := by decide +kernel
theorem d_M_lineStart_17 : decode prog_6_method_50_code 17 = .ok (.iload_n 2, 1) := by decide +kernel
theorem d_M_lineStart_18 : decode prog_6_method_50_code 18 = .ok (.ireturn, 1) := by decide +kernel
theorem d_M_line_111 : decode prog_6_method_51_code 111 = .ok (.istore 5, 2) := by decide +kernel
theorem d_M_line_113 : decode prog_6_method_51_code 113 = .ok (.iload 5, 2) := by decide +kernel
theorem d_M_line_115 : decode prog_6_method_51_code 115 = .ok (.istore 6, 2) := by decide +kernel
theorem d_M_line_117 : decode prog_6_method_51_code 117 = .ok (.iload 6, 2) := by decide +kernel
theorem d_M_line_119 : decode prog_6_method_51_code 119 = .ok (.aload_n 0, 1) := by decide +kernel
theorem d_M_line_120 : decode prog_6_method_51_code 120 = .ok (.invokevirtual 123, 3) := by decide +kernel
theorem d_M_line_123 : decode prog_6_method_51_code 123 = .ok (.if_icmp .ge 20, 3) := by decide +kernel
theorem d_M_line_143 : decode prog_6_method_51_code 143 = .ok (.iload_n 1, 1) := by decide +kernel
theorem d_M_line_144 : decode prog_6_method_51_code 144 = .ok (.iconst 2, 1) := by decide +kernel
theorem d_M_line_145 : decode prog_6_method_51_code 145 = .ok (.if_icmp .ne 8, 3) := by decide +kernel
theorem d_M_line_148 : decode prog_6_method_51_code 148 = .ok (.iload 5, 2) := by decide +kernel
theorem d_M_line_150 : decode prog_6_method_51_code 150 = .ok (.goto 8, 3) := by decide +kernel
theorem d_M_line_158 : decode prog_6_method_51_code 158 = .ok (.ireturn, 1) := by decide +kernel
theorem d_D_lineBegin_6 : decode prog_1_method_30_code 6 = .ok (.iconst 0, 1) := by decide +kernel
theorem d_D_lineBegin_7 : decode prog_1_method_30_code 7 = .ok (.istore_n 2, 1) := by decide +kernel
theorem d_D_lineBegin_8 : decode prog_1_method_30_code 8 = .ok (.iconst 0, 1) := by decide +kernel
theorem d_D_lineBegin_9 : decode prog_1_method_30_code 9 = .ok (.istore_n 3, 1) := by decide +kernel
theorem d_D_lineBegin_10 : decode prog_1_method_30_code 10 = .ok (.iload_n 3, 1) := by decide +kernel
theorem d_D_lineBegin_11 : decode prog_1_method_30_code 11 = .ok (.aload_n 0, 1) := by decide +kernel
theorem d_D_lineBegin_12 : decode prog_1_method_30_code 12 = .ok (.getfield 19, 3) := by decide +kernel
theorem d_D_lineBegin_15 : decode prog_1_method_30_code 15 = .ok (.arraylength, 1) := by decide +kernel
theorem d_D_lineBegin_16 : decode prog_1_method_30_code 16 = .ok (.if_icmp .ge 32, 3) := by decide +kernel
theorem d_D_lineBegin_48 : decode prog_1_method_30_code 48 = .ok (.new 143, 3) := by decide +kernel
theorem d_D_lineBegin_51 : decode prog_1_method_30_code 51 = .ok (.dup, 1) := by decide +kernel
theorem d_D_lineBegin_52 : decode prog_1_method_30_code 52 = .ok (.invokespecial 145, 3) := by decide +kernel
theorem d_D_lineBegin_55 : decode prog_1_method_30_code 55 = .ok (.athrow, 1) := by decide +kernel
theorem d_D_line_61 : decode prog_1_method_16_code 61 = .ok (.aload_n 0, 1) := by decide +kernel
theorem d_D_line_62 : decode prog_1_method_16_code 62 = .ok (.aload_n 0, 1) := by decide +kernel
theorem d_D_line_63 : decode prog_1_method_16_code 63 = .ok (.iload_n 2, 1) := by decide +kernel
theorem d_D_line_64 : decode prog_1_method_16_code 64 = .ok (.invokevirtual 149, 3) := by decide +kernel
theorem d_D_line_67 : decode prog_1_method_16_code 67 = .ok (.invokevirtual 152, 3) := by decide +kernel
theorem d_D_lineSize_0 : decode prog_1_method_31_code 0 = .ok (.iconst 0, 1) := by decide +kernel
theorem d_D_lineSize_1 : decode prog_1_method_31_code 1 = .ok (.istore_n 2, 1) := by decide +kernel
theorem d_D_lineSize_2 : decode prog_1_method_31_code 2 = .ok (.iload_n 1, 1) := by decide +kernel
theorem d_D_lineSize_3 : decode prog_1_method_31_code 3 = .ok (.istore_n 3, 1) := by decide +kernel
theorem d_D_lineSize_4 : decode prog_1_method_31_code 4 = .ok (.iload_n 3, 1) := by decide +kernel
theorem d_D_lineSize_5 : decode prog_1_method_31_code 5 = .ok (.aload_n 0, 1) := by decide +kernel
theorem d_D_lineSize_6 : decode prog_1_method_31_code 6 = .ok (.getfield 19, 3) := by decide +kernel
theorem d_D_lineSize_9 : decode prog_1_method_31_code 9 = .ok (.arraylength, 1) := by decide +kernel
theorem d_D_lineSize_10 : decode prog_1_method_31_code 10 = .ok (.if_icmp .ge 23, 3) := by decide +kernel
theorem d_D_lineSize_33 : decode prog_1_method_31_code 33 = .ok (.iload_n 2, 1) := by decide +kernel
theorem d_D_lineSize_34 : decode prog_1_method_31_code 34 = .ok (.ireturn, 1) := by decide +kernel
theorem d_D_line_70 : decode prog_1_method_16_code 70 = .ok (.ireturn, 1) := by decide +kernel
theorem d_M_line_153 : decode prog_6_method_51_code 153 = .ok (.iload 6, 2) := by decide +kernel
theorem d_M_line_155 : decode prog_6_method_51_code 155 = .ok (.iload 5, 2) := by decide +kernel
theorem d_M_line_157 : decode prog_6_method_51_code 157 = .ok (.isub, 1) := by decide +kernel
theorem d_D_line_71 : decode prog_1_method_16_code 71 = .ok (.new 96, 3) := by decide +kernel
theorem d_D_line_74 : decode prog_1_method_16_code 74 = .ok (.dup, 1) := by decide +kernel
theorem d_D_line_75 : decode prog_1_method_16_code 75 = .ok (.invokespecial 98, 3) := by decide +kernel
theorem d_D_line_78 : decode prog_1_method_16_code 78 = .ok (.athrow, 1) := by decide +kernel
theorem d_L_line_13 : decode method_13_code 13 = .ok (.astore 4, 2) := by decide +kernel
theorem d_L_line_15 : decode method_13_code 15 = .ok (.iconst 1, 1) := by decide +kernel
theorem d_L_line_16 : decode method_13_code 16 = .ok (.ireturn, 1) := by decide +kernel
theorem d_M_line_61 : decode prog_6_method_51_code 61 = .ok (.iconst 1, 1) := by decide +kernel
theorem d_M_line_62 : decode prog_6_method_51_code 62 = .ok (.goto 13, 3) := by decide +kernel
theorem d_L_law_722 : decode code 722 = .ok (.aload_n 1, 1) := by decide +kernel
theorem d_L_law_723 : decode code 723 = .ok (.aload_n 0, 1) := by decide +kernel
theorem d_L_law_724 : decode code 724 = .ok (.iload 4, 2) := by decide +kernel
theorem d_L_law_726 : decode code 726 = .ok (.iconst 1, 1) := by decide +kernel
theorem d_L_law_727 : decode code 727 = .ok (.iadd, 1) := by decide +kernel
theorem d_L_law_728 : decode code 728 = .ok (.iaload, 1) := by decide +kernel
theorem d_L_law_729 : decode code 729 = .ok (.aload_n 3, 1) := by decide +kernel
theorem d_L_law_730 : decode code 730 = .ok (.invokestatic 127, 3) := by decide +kernel
theorem d_L_figure_0 : decode method_14_code 0 = .ok (.aload_n 2, 1) := by decide +kernel
theorem d_L_figure_1 : decode method_14_code 1 = .ok (.iconst 0, 1) := by decide +kernel
theorem d_L_figure_2 : decode method_14_code 2 = .ok (.aload_n 0, 1) := by decide +kernel
theorem d_L_figure_3 : decode method_14_code 3 = .ok (.iload_n 1, 1) := by decide +kernel
theorem d_L_figure_4 : decode method_14_code 4 = .ok (.invokevirtual 56, 3) := by decide +kernel
theorem d_D_figure_0 : decode prog_1_method_17_code 0 = .ok (.iload_n 1, 1) := by decide +kernel
theorem d_D_figure_1 : decode prog_1_method_17_code 1 = .ok (.tableswitch 60 0 4 #[35, 40, 45, 50, 55], 35) := by decide +kernel
theorem d_D_figure_36 : decode prog_1_method_17_code 36 = .ok (.aload_n 0, 1) := by decide +kernel
theorem d_D_figure_37 : decode prog_1_method_17_code 37 = .ok (.getfield 73, 3) := by decide +kernel
theorem d_D_figure_40 : decode prog_1_method_17_code 40 = .ok (.ireturn, 1) := by decide +kernel
theorem d_L_figure_7 : decode method_14_code 7 = .ok (.i2l, 1) := by decide +kernel
theorem d_L_figure_8 : decode method_14_code 8 = .ok (.lastore, 1) := by decide +kernel
theorem d_L_figure_9 : decode method_14_code 9 = .ok (.goto 6, 3) := by decide +kernel
theorem d_L_figure_15 : decode method_14_code 15 = .ok (.iconst 0, 1) := by decide +kernel
theorem d_L_figure_16 : decode method_14_code 16 = .ok (.ireturn, 1) := by decide +kernel
theorem d_L_law_733 : decode code 733 = .ok (.istore 5, 2) := by decide +kernel
theorem d_L_law_735 : decode code 735 = .ok (.aload_n 2, 1) := by decide +kernel
theorem d_L_law_736 : decode code 736 = .ok (.aload_n 0, 1) := by decide +kernel
theorem d_L_law_737 : decode code 737 = .ok (.iload 4, 2) := by decide +kernel
theorem d_L_law_739 : decode code 739 = .ok (.iconst 1, 1) := by decide +kernel
theorem d_L_law_740 : decode code 740 = .ok (.iadd, 1) := by decide +kernel
theorem d_L_law_741 : decode code 741 = .ok (.iaload, 1) := by decide +kernel
theorem d_L_law_742 : decode code 742 = .ok (.invokevirtual 129, 3) := by decide +kernel
theorem d_M_figure_0 : decode prog_6_method_52_code 0 = .ok (.aload_n 0, 1) := by decide +kernel
theorem d_M_figure_1 : decode prog_6_method_52_code 1 = .ok (.iload_n 1, 1) := by decide +kernel
theorem d_M_figure_2 : decode prog_6_method_52_code 2 = .ok (.ifCond .lt 8, 3) := by decide +kernel
theorem d_M_figure_5 : decode prog_6_method_52_code 5 = .ok (.iload_n 1, 1) := by decide +kernel
theorem d_M_figure_6 : decode prog_6_method_52_code 6 = .ok (.iconst 4, 1) := by decide +kernel
theorem d_M_figure_7 : decode prog_6_method_52_code 7 = .ok (.if_icmp .le 7, 3) := by decide +kernel
theorem d_M_figure_14 : decode prog_6_method_52_code 14 = .ok (.iconst 0, 1) := by decide +kernel
theorem d_M_figure_15 : decode prog_6_method_52_code 15 = .ok (.putfield 82, 3) := by decide +kernel
theorem d_M_figure_18 : decode prog_6_method_52_code 18 = .ok (.aload_n 0, 1) := by decide +kernel
theorem d_M_figure_19 : decode prog_6_method_52_code 19 = .ok (.getfield 82, 3) := by decide +kernel
theorem d_M_figure_22 : decode prog_6_method_52_code 22 = .ok (.ifCond .le 7, 3) := by decide +kernel
theorem d_M_figure_29 : decode prog_6_method_52_code 29 = .ok (.iload_n 1, 1) := by decide +kernel
theorem d_M_figure_30 : decode prog_6_method_52_code 30 = .ok (.ifCond .ne 10, 3) := by decide +kernel
theorem d_M_figure_33 : decode prog_6_method_52_code 33 = .ok (.aload_n 0, 1) := by decide +kernel
theorem d_M_figure_34 : decode prog_6_method_52_code 34 = .ok (.getfield 92, 3) := by decide +kernel
theorem d_M_figure_37 : decode prog_6_method_52_code 37 = .ok (.goto 43, 3) := by decide +kernel
theorem d_M_figure_80 : decode prog_6_method_52_code 80 = .ok (.ireturn, 1) := by decide +kernel
theorem d_L_law_745 : decode code 745 = .ok (.istore 6, 2) := by decide +kernel
theorem d_L_law_747 : decode code 747 = .ok (.aload_n 2, 1) := by decide +kernel
theorem d_L_law_748 : decode code 748 = .ok (.invokevirtual 81, 3) := by decide +kernel
theorem d_L_law_751 : decode code 751 = .ok (.iload 5, 2) := by decide +kernel
theorem d_L_law_753 : decode code 753 = .ok (.if_icmp .eq 5, 3) := by decide +kernel
theorem d_L_law_758 : decode code 758 = .ok (.iload 5, 2) := by decide +kernel
theorem d_L_law_760 : decode code 760 = .ok (.ifCond .ne 15, 3) := by decide +kernel
theorem d_L_law_763 : decode code 763 = .ok (.aload_n 3, 1) := by decide +kernel
theorem d_L_law_764 : decode code 764 = .ok (.iconst 0, 1) := by decide +kernel
theorem d_L_law_765 : decode code 765 = .ok (.laload, 1) := by decide +kernel
theorem d_L_law_766 : decode code 766 = .ok (.iload 6, 2) := by decide +kernel
theorem d_L_law_768 : decode code 768 = .ok (.i2l, 1) := by decide +kernel
theorem d_L_law_769 : decode code 769 = .ok (.lcmp, 1) := by decide +kernel
theorem d_L_law_770 : decode code 770 = .ok (.ifCond .eq 5, 3) := by decide +kernel
theorem d_L_law_775 : decode code 775 = .ok (.goto 59, 3) := by decide +kernel
theorem d_D_figure_41 : decode prog_1_method_17_code 41 = .ok (.aload_n 0, 1) := by decide +kernel
theorem d_D_figure_42 : decode prog_1_method_17_code 42 = .ok (.getfield 25, 3) := by decide +kernel
theorem d_D_figure_45 : decode prog_1_method_17_code 45 = .ok (.ireturn, 1) := by decide +kernel
theorem d_M_figure_40 : decode prog_6_method_52_code 40 = .ok (.iload_n 1, 1) := by decide +kernel
theorem d_M_figure_41 : decode prog_6_method_52_code 41 = .ok (.iconst 1, 1) := by decide +kernel
theorem d_M_figure_42 : decode prog_6_method_52_code 42 = .ok (.if_icmp .ne 10, 3) := by decide +kernel
theorem d_M_figure_45 : decode prog_6_method_52_code 45 = .ok (.aload_n 0, 1) := by decide +kernel
theorem d_M_figure_46 : decode prog_6_method_52_code 46 = .ok (.getfield 13, 3) := by decide +kernel
theorem d_M_figure_49 : decode prog_6_method_52_code 49 = .ok (.goto 31, 3) := by decide +kernel
theorem d_D_figure_46 : decode prog_1_method_17_code 46 = .ok (.aload_n 0, 1) := by decide +kernel
theorem d_D_figure_47 : decode prog_1_method_17_code 47 = .ok (.getfield 76, 3) := by decide +kernel
theorem d_D_figure_50 : decode prog_1_method_17_code 50 = .ok (.ireturn, 1) := by decide +kernel
theorem d_M_figure_52 : decode prog_6_method_52_code 52 = .ok (.iload_n 1, 1) := by decide +kernel
theorem d_M_figure_53 : decode prog_6_method_52_code 53 = .ok (.iconst 2, 1) := by decide +kernel
theorem d_M_figure_54 : decode prog_6_method_52_code 54 = .ok (.if_icmp .ne 10, 3) := by decide +kernel
theorem d_M_figure_57 : decode prog_6_method_52_code 57 = .ok (.aload_n 0, 1) := by decide +kernel
theorem d_M_figure_58 : decode prog_6_method_52_code 58 = .ok (.getfield 95, 3) := by decide +kernel
theorem d_M_figure_61 : decode prog_6_method_52_code 61 = .ok (.goto 19, 3) := by decide +kernel
theorem d_D_figure_51 : decode prog_1_method_17_code 51 = .ok (.aload_n 0, 1) := by decide +kernel
theorem d_D_figure_52 : decode prog_1_method_17_code 52 = .ok (.getfield 29, 3) := by decide +kernel
theorem d_D_figure_55 : decode prog_1_method_17_code 55 = .ok (.ireturn, 1) := by decide +kernel
theorem d_M_figure_64 : decode prog_6_method_52_code 64 = .ok (.iload_n 1, 1) := by decide +kernel
theorem d_M_figure_65 : decode prog_6_method_52_code 65 = .ok (.iconst 3, 1) := by decide +kernel
theorem d_M_figure_66 : decode prog_6_method_52_code 66 = .ok (.if_icmp .ne 10, 3) := by decide +kernel
theorem d_M_figure_69 : decode prog_6_method_52_code 69 = .ok (.aload_n 0, 1) := by decide +kernel
theorem d_M_figure_70 : decode prog_6_method_52_code 70 = .ok (.getfield 33, 3) := by decide +kernel
theorem d_M_figure_73 : decode prog_6_method_52_code 73 = .ok (.goto 7, 3) := by decide +kernel
theorem d_D_figure_56 : decode prog_1_method_17_code 56 = .ok (.aload_n 0, 1) := by decide +kernel
theorem d_D_figure_57 : decode prog_1_method_17_code 57 = .ok (.getfield 56, 3) := by decide +kernel
theorem d_D_figure_60 : decode prog_1_method_17_code 60 = .ok (.ireturn, 1) := by decide +kernel
theorem d_M_figure_76 : decode prog_6_method_52_code 76 = .ok (.aload_n 0, 1) := by decide +kernel
theorem d_M_figure_77 : decode prog_6_method_52_code 77 = .ok (.getfield 89, 3) := by decide +kernel
theorem d_D_figure_61 : decode prog_1_method_17_code 61 = .ok (.new 96, 3) := by decide +kernel
theorem d_D_figure_64 : decode prog_1_method_17_code 64 = .ok (.dup, 1) := by decide +kernel
theorem d_D_figure_65 : decode prog_1_method_17_code 65 = .ok (.invokespecial 98, 3) := by decide +kernel
theorem d_D_figure_68 : decode prog_1_method_17_code 68 = .ok (.athrow, 1) := by decide +kernel
theorem d_L_figure_12 : decode method_14_code 12 = .ok (.astore_n 3, 1) := by decide +kernel
theorem d_L_figure_13 : decode method_14_code 13 = .ok (.iconst 1, 1) := by decide +kernel
theorem d_L_figure_14 : decode method_14_code 14 = .ok (.ireturn, 1) := by decide +kernel
theorem d_M_figure_10 : decode prog_6_method_52_code 10 = .ok (.iconst 1, 1) := by decide +kernel
theorem d_M_figure_11 : decode prog_6_method_52_code 11 = .ok (.goto 4, 3) := by decide +kernel
theorem d_M_figure_25 : decode prog_6_method_52_code 25 = .ok (.iconst 0, 1) := by decide +kernel
theorem d_M_figure_26 : decode prog_6_method_52_code 26 = .ok (.goto 54, 3) := by decide +kernel
theorem d_L_law_778 : decode code 778 = .ok (.aload_n 1, 1) := by decide +kernel
theorem d_L_law_779 : decode code 779 = .ok (.aload_n 0, 1) := by decide +kernel
theorem d_L_law_780 : decode code 780 = .ok (.iload 4, 2) := by decide +kernel
theorem d_L_law_782 : decode code 782 = .ok (.iconst 1, 1) := by decide +kernel
theorem d_L_law_783 : decode code 783 = .ok (.iadd, 1) := by decide +kernel
theorem d_L_law_784 : decode code 784 = .ok (.iaload, 1) := by decide +kernel
theorem d_L_law_785 : decode code 785 = .ok (.aload_n 3, 1) := by decide +kernel
theorem d_L_law_786 : decode code 786 = .ok (.invokestatic 130, 3) := by decide +kernel
theorem d_L_parent_0 : decode method_15_code 0 = .ok (.aload_n 2, 1) := by decide +kernel
theorem d_L_parent_1 : decode method_15_code 1 = .ok (.iconst 0, 1) := by decide +kernel
theorem d_L_parent_2 : decode method_15_code 2 = .ok (.aload_n 0, 1) := by decide +kernel
theorem d_L_parent_3 : decode method_15_code 3 = .ok (.iload_n 1, 1) := by decide +kernel
theorem d_L_parent_4 : decode method_15_code 4 = .ok (.invokevirtual 59, 3) := by decide +kernel
theorem d_D_parent_0 : decode prog_1_method_18_code 0 = .ok (.aload_n 0, 1) := by decide +kernel
theorem d_D_parent_1 : decode prog_1_method_18_code 1 = .ok (.iload_n 1, 1) := by decide +kernel
theorem d_D_parent_2 : decode prog_1_method_18_code 2 = .ok (.invokevirtual 140, 3) := by decide +kernel
theorem d_D_parent_5 : decode prog_1_method_18_code 5 = .ok (.aload_n 0, 1) := by decide +kernel
theorem d_D_parent_6 : decode prog_1_method_18_code 6 = .ok (.getfield 15, 3) := by decide +kernel
theorem d_D_parent_9 : decode prog_1_method_18_code 9 = .ok (.iload_n 1, 1) := by decide +kernel
theorem d_D_parent_10 : decode prog_1_method_18_code 10 = .ok (.aaload, 1) := by decide +kernel
theorem d_D_parent_11 : decode prog_1_method_18_code 11 = .ok (.getfield 131, 3) := by decide +kernel
theorem d_D_parent_14 : decode prog_1_method_18_code 14 = .ok (.ireturn, 1) := by decide +kernel
theorem d_L_parent_7 : decode method_15_code 7 = .ok (.i2l, 1) := by decide +kernel
theorem d_L_parent_8 : decode method_15_code 8 = .ok (.lastore, 1) := by decide +kernel
theorem d_L_parent_9 : decode method_15_code 9 = .ok (.goto 6, 3) := by decide +kernel
theorem d_L_parent_15 : decode method_15_code 15 = .ok (.iconst 0, 1) := by decide +kernel
theorem d_L_parent_16 : decode method_15_code 16 = .ok (.ireturn, 1) := by decide +kernel
theorem d_L_law_789 : decode code 789 = .ok (.istore 5, 2) := by decide +kernel
theorem d_L_law_791 : decode code 791 = .ok (.aload_n 2, 1) := by decide +kernel
theorem d_L_law_792 : decode code 792 = .ok (.aload_n 0, 1) := by decide +kernel
theorem d_L_law_793 : decode code 793 = .ok (.iload 4, 2) := by decide +kernel
theorem d_L_law_795 : decode code 795 = .ok (.iconst 1, 1) := by decide +kernel
theorem d_L_law_796 : decode code 796 = .ok (.iadd, 1) := by decide +kernel
theorem d_L_law_797 : decode code 797 = .ok (.iaload, 1) := by decide +kernel
theorem d_L_law_798 : decode code 798 = .ok (.invokevirtual 132, 3) := by decide +kernel
theorem d_M_parent_0 : decode prog_6_method_53_code 0 = .ok (.aload_n 0, 1) := by decide +kernel
theorem d_M_parent_1 : decode prog_6_method_53_code 1 = .ok (.iload_n 1, 1) := by decide +kernel
theorem d_M_parent_2 : decode prog_6_method_53_code 2 = .ok (.ifCond .lt 11, 3) := by decide +kernel
theorem d_M_parent_5 : decode prog_6_method_53_code 5 = .ok (.iload_n 1, 1) := by decide +kernel
theorem d_M_parent_6 : decode prog_6_method_53_code 6 = .ok (.aload_n 0, 1) := by decide +kernel
theorem d_M_parent_7 : decode prog_6_method_53_code 7 = .ok (.getfield 13, 3) := by decide +kernel
theorem d_M_parent_10 : decode prog_6_method_53_code 10 = .ok (.if_icmp .lt 7, 3) := by decide +kernel
theorem d_M_parent_17 : decode prog_6_method_53_code 17 = .ok (.iconst 0, 1) := by decide +kernel
theorem d_M_parent_18 : decode prog_6_method_53_code 18 = .ok (.putfield 82, 3) := by decide +kernel
theorem d_M_parent_21 : decode prog_6_method_53_code 21 = .ok (.aload_n 0, 1) := by decide +kernel
theorem d_M_parent_22 : decode prog_6_method_53_code 22 = .ok (.getfield 82, 3) := by decide +kernel
theorem d_M_parent_25 : decode prog_6_method_53_code 25 = .ok (.ifCond .ne 12, 3) := by decide +kernel
theorem d_M_parent_28 : decode prog_6_method_53_code 28 = .ok (.aload_n 0, 1) := by decide +kernel
theorem d_M_parent_29 : decode prog_6_method_53_code 29 = .ok (.getfield 27, 3) := by decide +kernel
theorem d_M_parent_32 : decode prog_6_method_53_code 32 = .ok (.iload_n 1, 1) := by decide +kernel
theorem d_M_parent_33 : decode prog_6_method_53_code 33 = .ok (.iaload, 1) := by decide +kernel
theorem d_M_parent_34 : decode prog_6_method_53_code 34 = .ok (.goto 4, 3) := by decide +kernel
