theorem d_D_collectMatches_42 : decode prog_1_method_26_code 42 = .ok (.getfield 53, 3) := by decide +kernel
theorem d_D_collectMatches_45 : decode prog_1_method_26_code 45 = .ok (.iload_n 2, 1) := by decide +kernel
theorem d_D_collectMatches_46 : decode prog_1_method_26_code 46 = .ok (.aload_n 0, 1) := by decide +kernel
theorem d_D_collectMatches_47 : decode prog_1_method_26_code 47 = .ok (.getfield 42, 3) := by decide +kernel
theorem d_D_collectMatches_50 : decode prog_1_method_26_code 50 = .ok (.getfield 117, 3) := by decide +kernel
theorem d_D_collectMatches_53 : decode prog_1_method_26_code 53 = .ok (.iastore, 1) := by decide +kernel
theorem d_D_collectMatches_54 : decode prog_1_method_26_code 54 = .ok (.aload_n 0, 1) := by decide +kernel
theorem d_D_collectMatches_55 : decode prog_1_method_26_code 55 = .ok (.getfield 42, 3) := by decide +kernel
theorem d_D_collectMatches_58 : decode prog_1_method_26_code 58 = .ok (.getfield 117, 3) := by decide +kernel
theorem d_D_collectMatches_61 : decode prog_1_method_26_code 61 = .ok (.istore_n 1, 1) := by decide +kernel
theorem d_D_collectMatches_62 : decode prog_1_method_26_code 62 = .ok (.iinc 2 1, 3) := by decide +kernel
theorem d_D_collectMatches_65 : decode prog_1_method_26_code 65 = .ok (.goto (-61), 3) := by decide +kernel
theorem d_D_collectMatches_26 : decode prog_1_method_26_code 26 = .ok (.iload_n 2, 1) := by decide +kernel
theorem d_D_collectMatches_27 : decode prog_1_method_26_code 27 = .ok (.ireturn, 1) := by decide +kernel
theorem d_D_fault_0 : decode prog_1_method_8_code 0 = .ok (.aload_n 0, 1) := by decide +kernel
theorem d_D_fault_1 : decode prog_1_method_8_code 1 = .ok (.getfield 46, 3) := by decide +kernel
theorem d_D_fault_4 : decode prog_1_method_8_code 4 = .ok (.ireturn, 1) := by decide +kernel
theorem d_D_figure_0 : decode prog_1_method_17_code 0 = .ok (.iload_n 1, 1) := by decide +kernel
theorem d_D_figure_1 : decode prog_1_method_17_code 1 = .ok (.tableswitch 60 0 4 #[35, 40, 45, 50, 55], 35) := by decide +kernel
theorem d_D_figure_36 : decode prog_1_method_17_code 36 = .ok (.aload_n 0, 1) := by decide +kernel
theorem d_D_figure_37 : decode prog_1_method_17_code 37 = .ok (.getfield 73, 3) := by decide +kernel
theorem d_D_figure_40 : decode prog_1_method_17_code 40 = .ok (.ireturn, 1) := by decide +kernel
theorem d_D_figure_41 : decode prog_1_method_17_code 41 = .ok (.aload_n 0, 1) := by decide +kernel
theorem d_D_figure_42 : decode prog_1_method_17_code 42 = .ok (.getfield 25, 3) := by decide +kernel
theorem d_D_figure_45 : decode prog_1_method_17_code 45 = .ok (.ireturn, 1) := by decide +kernel
theorem d_D_figure_46 : decode prog_1_method_17_code 46 = .ok (.aload_n 0, 1) := by decide +kernel
theorem d_D_figure_47 : decode prog_1_method_17_code 47 = .ok (.getfield 76, 3) := by decide +kernel
theorem d_D_figure_50 : decode prog_1_method_17_code 50 = .ok (.ireturn, 1) := by decide +kernel
theorem d_D_figure_51 : decode prog_1_method_17_code 51 = .ok (.aload_n 0, 1) := by decide +kernel
theorem d_D_figure_52 : decode prog_1_method_17_code 52 = .ok (.getfield 29, 3) := by decide +kernel
theorem d_D_figure_55 : decode prog_1_method_17_code 55 = .ok (.ireturn, 1) := by decide +kernel
theorem d_D_figure_56 : decode prog_1_method_17_code 56 = .ok (.aload_n 0, 1) := by decide +kernel
theorem d_D_figure_57 : decode prog_1_method_17_code 57 = .ok (.getfield 56, 3) := by decide +kernel
theorem d_D_figure_60 : decode prog_1_method_17_code 60 = .ok (.ireturn, 1) := by decide +kernel
theorem d_D_figure_61 : decode prog_1_method_17_code 61 = .ok (.new 96, 3) := by decide +kernel
theorem d_D_figure_64 : decode prog_1_method_17_code 64 = .ok (.dup, 1) := by decide +kernel
theorem d_D_figure_65 : decode prog_1_method_17_code 65 = .ok (.invokespecial 98, 3) := by decide +kernel
theorem d_D_figure_68 : decode prog_1_method_17_code 68 = .ok (.athrow, 1) := by decide +kernel
theorem d_D_find_0 : decode prog_1_method_9_code 0 = .ok (.aload_n 0, 1) := by decide +kernel
theorem d_D_find_1 : decode prog_1_method_9_code 1 = .ok (.getfield 103, 3) := by decide +kernel
theorem d_D_find_4 : decode prog_1_method_9_code 4 = .ok (.ifCond .ne 11, 3) := by decide +kernel
theorem d_D_find_15 : decode prog_1_method_9_code 15 = .ok (.aload_n 0, 1) := by decide +kernel
theorem d_D_find_16 : decode prog_1_method_9_code 16 = .ok (.iload_n 1, 1) := by decide +kernel
theorem d_D_find_17 : decode prog_1_method_9_code 17 = .ok (.invokevirtual 88, 3) := by decide +kernel
theorem d_D_requirePlace_0 : decode prog_1_method_19_code 0 = .ok (.iload_n 1, 1) := by decide +kernel
theorem d_D_requirePlace_1 : decode prog_1_method_19_code 1 = .ok (.ifCond .lt 12, 3) := by decide +kernel
theorem d_D_requirePlace_4 : decode prog_1_method_19_code 4 = .ok (.iload_n 1, 1) := by decide +kernel
theorem d_D_requirePlace_5 : decode prog_1_method_19_code 5 = .ok (.aload_n 0, 1) := by decide +kernel
theorem d_D_requirePlace_6 : decode prog_1_method_19_code 6 = .ok (.getfield 19, 3) := by decide +kernel
theorem d_D_requirePlace_9 : decode prog_1_method_19_code 9 = .ok (.arraylength, 1) := by decide +kernel
theorem d_D_requirePlace_10 : decode prog_1_method_19_code 10 = .ok (.if_icmp .le 11, 3) := by decide +kernel
theorem d_D_requirePlace_21 : decode prog_1_method_19_code 21 = .ok (.return_, 1) := by decide +kernel
theorem d_D_requirePlace_13 : decode prog_1_method_19_code 13 = .ok (.new 143, 3) := by decide +kernel
theorem d_D_requirePlace_16 : decode prog_1_method_19_code 16 = .ok (.dup, 1) := by decide +kernel
theorem d_D_requirePlace_17 : decode prog_1_method_19_code 17 = .ok (.invokespecial 145, 3) := by decide +kernel
theorem d_D_requirePlace_20 : decode prog_1_method_19_code 20 = .ok (.athrow, 1) := by decide +kernel
theorem d_D_find_20 : decode prog_1_method_9_code 20 = .ok (.aload_n 0, 1) := by decide +kernel
theorem d_D_find_21 : decode prog_1_method_9_code 21 = .ok (.getfield 42, 3) := by decide +kernel
theorem d_D_find_24 : decode prog_1_method_9_code 24 = .ok (.aload_n 0, 1) := by decide +kernel
theorem d_D_find_25 : decode prog_1_method_9_code 25 = .ok (.getfield 19, 3) := by decide +kernel
theorem d_D_find_28 : decode prog_1_method_9_code 28 = .ok (.iload_n 1, 1) := by decide +kernel
theorem d_D_find_29 : decode prog_1_method_9_code 29 = .ok (.invokevirtual 107, 3) := by decide +kernel
theorem d_D_find_32 : decode prog_1_method_9_code 32 = .ok (.ifCond .ne 11, 3) := by decide +kernel
theorem d_D_find_43 : decode prog_1_method_9_code 43 = .ok (.aload_n 0, 1) := by decide +kernel
theorem d_D_find_44 : decode prog_1_method_9_code 44 = .ok (.aload_n 0, 1) := by decide +kernel
theorem d_D_find_45 : decode prog_1_method_9_code 45 = .ok (.getfield 42, 3) := by decide +kernel
theorem d_D_find_48 : decode prog_1_method_9_code 48 = .ok (.getfield 114, 3) := by decide +kernel
theorem d_D_find_51 : decode prog_1_method_9_code 51 = .ok (.putfield 29, 3) := by decide +kernel
theorem d_D_find_54 : decode prog_1_method_9_code 54 = .ok (.aload_n 0, 1) := by decide +kernel
theorem d_D_find_55 : decode prog_1_method_9_code 55 = .ok (.aload_n 0, 1) := by decide +kernel
theorem d_D_find_56 : decode prog_1_method_9_code 56 = .ok (.getfield 42, 3) := by decide +kernel
theorem d_D_find_59 : decode prog_1_method_9_code 59 = .ok (.getfield 117, 3) := by decide +kernel
theorem d_D_find_62 : decode prog_1_method_9_code 62 = .ok (.putfield 76, 3) := by decide +kernel
theorem d_D_find_65 : decode prog_1_method_9_code 65 = .ok (.aload_n 0, 1) := by decide +kernel
theorem d_D_find_66 : decode prog_1_method_9_code 66 = .ok (.getfield 29, 3) := by decide +kernel
theorem d_D_find_69 : decode prog_1_method_9_code 69 = .ok (.ireturn, 1) := by decide +kernel
theorem d_D_find_35 : decode prog_1_method_9_code 35 = .ok (.new 111, 3) := by decide +kernel
theorem d_D_find_7 : decode prog_1_method_9_code 7 = .ok (.new 66, 3) := by decide +kernel
theorem d_D_find_10 : decode prog_1_method_9_code 10 = .ok (.dup, 1) := by decide +kernel
theorem d_D_find_11 : decode prog_1_method_9_code 11 = .ok (.invokespecial 68, 3) := by decide +kernel
theorem d_D_find_14 : decode prog_1_method_9_code 14 = .ok (.athrow, 1) := by decide +kernel
theorem d_D_find_38 : decode prog_1_method_9_code 38 = .ok (.dup, 1) := by decide +kernel
theorem d_D_find_39 : decode prog_1_method_9_code 39 = .ok (.invokespecial 113, 3) := by decide +kernel
theorem d_D_find_42 : decode prog_1_method_9_code 42 = .ok (.athrow, 1) := by decide +kernel
theorem d_D_go_0 : decode prog_1_method_6_code 0 = .ok (.aload_n 0, 1) := by decide +kernel
theorem d_D_go_1 : decode prog_1_method_6_code 1 = .ok (.iload_n 1, 1) := by decide +kernel
theorem d_D_go_2 : decode prog_1_method_6_code 2 = .ok (.invokevirtual 88, 3) := by decide +kernel
theorem d_D_go_5 : decode prog_1_method_6_code 5 = .ok (.iload_n 2, 1) := by decide +kernel
theorem d_D_go_6 : decode prog_1_method_6_code 6 = .ok (.ifCond .ne 11, 3) := by decide +kernel
theorem d_D_go_17 : decode prog_1_method_6_code 17 = .ok (.aload_n 0, 1) := by decide +kernel
theorem d_D_go_18 : decode prog_1_method_6_code 18 = .ok (.getfield 29, 3) := by decide +kernel
theorem d_D_go_21 : decode prog_1_method_6_code 21 = .ok (.iconst (-1), 1) := by decide +kernel
theorem d_D_go_22 : decode prog_1_method_6_code 22 = .ok (.if_icmp .ne 11, 3) := by decide +kernel
theorem d_D_go_25 : decode prog_1_method_6_code 25 = .ok (.aload_n 0, 1) := by decide +kernel
theorem d_D_go_26 : decode prog_1_method_6_code 26 = .ok (.aload_n 0, 1) := by decide +kernel
theorem d_D_go_27 : decode prog_1_method_6_code 27 = .ok (.getfield 76, 3) := by decide +kernel
theorem d_D_go_30 : decode prog_1_method_6_code 30 = .ok (.putfield 29, 3) := by decide +kernel
theorem d_D_go_9 : decode prog_1_method_6_code 9 = .ok (.aload_n 0, 1) := by decide +kernel
theorem d_D_go_10 : decode prog_1_method_6_code 10 = .ok (.iconst (-1), 1) := by decide +kernel
theorem d_D_go_11 : decode prog_1_method_6_code 11 = .ok (.putfield 29, 3) := by decide +kernel
theorem d_D_go_14 : decode prog_1_method_6_code 14 = .ok (.goto 19, 3) := by decide +kernel
theorem d_D_go_33 : decode prog_1_method_6_code 33 = .ok (.aload_n 0, 1) := by decide +kernel
theorem d_D_go_34 : decode prog_1_method_6_code 34 = .ok (.iload_n 1, 1) := by decide +kernel
theorem d_D_go_35 : decode prog_1_method_6_code 35 = .ok (.putfield 76, 3) := by decide +kernel
theorem d_D_go_38 : decode prog_1_method_6_code 38 = .ok (.aload_n 0, 1) := by decide +kernel
theorem d_D_go_39 : decode prog_1_method_6_code 39 = .ok (.getfield 29, 3) := by decide +kernel
theorem d_D_go_42 : decode prog_1_method_6_code 42 = .ok (.aload_n 0, 1) := by decide +kernel
theorem d_D_go_43 : decode prog_1_method_6_code 43 = .ok (.getfield 76, 3) := by decide +kernel
theorem d_D_go_46 : decode prog_1_method_6_code 46 = .ok (.if_icmp .ne 8, 3) := by decide +kernel
theorem d_D_go_49 : decode prog_1_method_6_code 49 = .ok (.aload_n 0, 1) := by decide +kernel
theorem d_D_go_50 : decode prog_1_method_6_code 50 = .ok (.iconst (-1), 1) := by decide +kernel
theorem d_D_go_51 : decode prog_1_method_6_code 51 = .ok (.putfield 29, 3) := by decide +kernel
theorem d_D_go_54 : decode prog_1_method_6_code 54 = .ok (.return_, 1) := by decide +kernel
theorem d_D_length_0 : decode prog_1_method_14_code 0 = .ok (.aload_n 0, 1) := by decide +kernel
theorem d_D_length_1 : decode prog_1_method_14_code 1 = .ok (.getfield 19, 3) := by decide +kernel
theorem d_D_length_4 : decode prog_1_method_14_code 4 = .ok (.arraylength, 1) := by decide +kernel
theorem d_D_length_5 : decode prog_1_method_14_code 5 = .ok (.ireturn, 1) := by decide +kernel
theorem d_D_line_0 : decode prog_1_method_16_code 0 = .ok (.iload_n 1, 1) := by decide +kernel
theorem d_D_line_1 : decode prog_1_method_16_code 1 = .ok (.tableswitch 70 0 3 #[31, 43, 54, 60], 31) := by decide +kernel
theorem d_D_line_32 : decode prog_1_method_16_code 32 = .ok (.aload_n 0, 1) := by decide +kernel
theorem d_D_line_33 : decode prog_1_method_16_code 33 = .ok (.aload_n 0, 1) := by decide +kernel
theorem d_D_line_34 : decode prog_1_method_16_code 34 = .ok (.getfield 19, 3) := by decide +kernel
theorem d_D_line_37 : decode prog_1_method_16_code 37 = .ok (.arraylength, 1) := by decide +kernel
theorem d_D_line_38 : decode prog_1_method_16_code 38 = .ok (.invokevirtual 146, 3) := by decide +kernel
theorem d_D_line_41 : decode prog_1_method_16_code 41 = .ok (.iconst 1, 1) := by decide +kernel
theorem d_D_line_42 : decode prog_1_method_16_code 42 = .ok (.iadd, 1) := by decide +kernel
theorem d_D_line_43 : decode prog_1_method_16_code 43 = .ok (.ireturn, 1) := by decide +kernel
theorem d_D_line_44 : decode prog_1_method_16_code 44 = .ok (.aload_n 0, 1) := by decide +kernel
theorem d_D_line_45 : decode prog_1_method_16_code 45 = .ok (.iload_n 2, 1) := by decide +kernel
theorem d_D_line_46 : decode prog_1_method_16_code 46 = .ok (.invokevirtual 88, 3) := by decide +kernel
theorem d_D_line_49 : decode prog_1_method_16_code 49 = .ok (.aload_n 0, 1) := by decide +kernel
theorem d_D_line_50 : decode prog_1_method_16_code 50 = .ok (.iload_n 2, 1) := by decide +kernel
theorem d_D_line_51 : decode prog_1_method_16_code 51 = .ok (.invokevirtual 146, 3) := by decide +kernel
theorem d_D_line_54 : decode prog_1_method_16_code 54 = .ok (.ireturn, 1) := by decide +kernel
theorem d_D_line_55 : decode prog_1_method_16_code 55 = .ok (.aload_n 0, 1) := by decide +kernel
theorem d_D_line_56 : decode prog_1_method_16_code 56 = .ok (.iload_n 2, 1) := by decide +kernel
theorem d_D_line_57 : decode prog_1_method_16_code 57 = .ok (.invokevirtual 149, 3) := by decide +kernel
theorem d_D_lineBegin_0 : decode prog_1_method_30_code 0 = .ok (.iload_n 1, 1) := by decide +kernel
theorem d_D_lineBegin_1 : decode prog_1_method_30_code 1 = .ok (.ifCond .ne 5, 3) := by decide +kernel
theorem d_D_lineBegin_6 : decode prog_1_method_30_code 6 = .ok (.iconst 0, 1) := by decide +kernel
theorem d_D_lineBegin_7 : decode prog_1_method_30_code 7 = .ok (.istore_n 2, 1) := by decide +kernel
theorem d_D_lineBegin_8 : decode prog_1_method_30_code 8 = .ok (.iconst 0, 1) := by decide +kernel
theorem d_D_lineBegin_9 : decode prog_1_method_30_code 9 = .ok (.istore_n 3, 1) := by decide +kernel
theorem d_D_lineBegin_4 : decode prog_1_method_30_code 4 = .ok (.iconst 0, 1) := by decide +kernel
theorem d_D_lineBegin_5 : decode prog_1_method_30_code 5 = .ok (.ireturn, 1) := by decide +kernel
theorem d_D_lineBegin_10 : decode prog_1_method_30_code 10 = .ok (.iload_n 3, 1) := by decide +kernel
theorem d_D_lineBegin_11 : decode prog_1_method_30_code 11 = .ok (.aload_n 0, 1) := by decide +kernel
theorem d_D_lineBegin_12 : decode prog_1_method_30_code 12 = .ok (.getfield 19, 3) := by decide +kernel
theorem d_D_lineBegin_15 : decode prog_1_method_30_code 15 = .ok (.arraylength, 1) := by decide +kernel
theorem d_D_lineBegin_16 : decode prog_1_method_30_code 16 = .ok (.if_icmp .ge 32, 3) := by decide +kernel
theorem d_D_lineBegin_48 : decode prog_1_method_30_code 48 = .ok (.new 143, 3) := by decide +kernel
theorem d_D_lineBegin_19 : decode prog_1_method_30_code 19 = .ok (.aload_n 0, 1) := by decide +kernel
theorem d_D_lineBegin_20 : decode prog_1_method_30_code 20 = .ok (.getfield 19, 3) := by decide +kernel
theorem d_D_lineBegin_23 : decode prog_1_method_30_code 23 = .ok (.iload_n 3, 1) := by decide +kernel
theorem d_D_lineBegin_24 : decode prog_1_method_30_code 24 = .ok (.caload, 1) := by decide +kernel
theorem d_D_lineBegin_25 : decode prog_1_method_30_code 25 = .ok (.bipush 10, 2) := by decide +kernel
theorem d_D_lineBegin_27 : decode prog_1_method_30_code 27 = .ok (.if_icmp .ne 15, 3) := by decide +kernel
theorem d_D_lineBegin_30 : decode prog_1_method_30_code 30 = .ok (.iinc 2 1, 3) := by decide +kernel
theorem d_D_lineBegin_33 : decode prog_1_method_30_code 33 = .ok (.iload_n 2, 1) := by decide +kernel
theorem d_D_lineBegin_34 : decode prog_1_method_30_code 34 = .ok (.iload_n 1, 1) := by decide +kernel
theorem d_D_lineBegin_35 : decode prog_1_method_30_code 35 = .ok (.if_icmp .ne 7, 3) := by decide +kernel
theorem d_D_lineBegin_38 : decode prog_1_method_30_code 38 = .ok (.iload_n 3, 1) := by decide +kernel
theorem d_D_lineBegin_39 : decode prog_1_method_30_code 39 = .ok (.iconst 1, 1) := by decide +kernel
theorem d_D_lineBegin_40 : decode prog_1_method_30_code 40 = .ok (.iadd, 1) := by decide +kernel
theorem d_D_lineBegin_41 : decode prog_1_method_30_code 41 = .ok (.ireturn, 1) := by decide +kernel
theorem d_D_lineBegin_42 : decode prog_1_method_30_code 42 = .ok (.iinc 3 1, 3) := by decide +kernel
theorem d_D_lineBegin_45 : decode prog_1_method_30_code 45 = .ok (.goto (-35), 3) := by decide +kernel
theorem d_D_lineBegin_51 : decode prog_1_method_30_code 51 = .ok (.dup, 1) := by decide +kernel
theorem d_D_lineBegin_52 : decode prog_1_method_30_code 52 = .ok (.invokespecial 145, 3) := by decide +kernel
theorem d_D_lineBegin_55 : decode prog_1_method_30_code 55 = .ok (.athrow, 1) := by decide +kernel
theorem d_D_line_60 : decode prog_1_method_16_code 60 = .ok (.ireturn, 1) := by decide +kernel
theorem d_D_line_61 : decode prog_1_method_16_code 61 = .ok (.aload_n 0, 1) := by decide +kernel
theorem d_D_line_62 : decode prog_1_method_16_code 62 = .ok (.aload_n 0, 1) := by decide +kernel
theorem d_D_line_63 : decode prog_1_method_16_code 63 = .ok (.iload_n 2, 1) := by decide +kernel
theorem d_D_line_64 : decode prog_1_method_16_code 64 = .ok (.invokevirtual 149, 3) := by decide +kernel
theorem d_D_line_67 : decode prog_1_method_16_code 67 = .ok (.invokevirtual 152, 3) := by decide +kernel
theorem d_D_lineSize_0 : decode prog_1_method_31_code 0 = .ok (.iconst 0, 1) := by decide +kernel
theorem d_D_lineSize_1 : decode prog_1_method_31_code 1 = .ok (.istore_n 2, 1) := by decide +kernel
theorem d_D_lineSize_2 : decode prog_1_method_31_code 2 = .ok (.iload_n 1, 1) := by decide +kernel
theorem d_D_lineSize_3 : decode prog_1_method_31_code 3 = .ok (.istore_n 3, 1) := by decide +kernel
theorem d_D_lineSize_4 : decode prog_1_method_31_code 4 = .ok (.iload_n 3, 1) := by decide +kernel
theorem d_D_lineSize_5 : decode prog_1_method_31_code 5 = .ok (.aload_n 0, 1) := by decide +kernel
theorem d_D_lineSize_6 : decode prog_1_method_31_code 6 = .ok (.getfield 19, 3) := by decide +kernel
theorem d_D_lineSize_9 : decode prog_1_method_31_code 9 = .ok (.arraylength, 1) := by decide +kernel
theorem d_D_lineSize_10 : decode prog_1_method_31_code 10 = .ok (.if_icmp .ge 23, 3) := by decide +kernel
theorem d_D_lineSize_13 : decode prog_1_method_31_code 13 = .ok (.aload_n 0, 1) := by decide +kernel
theorem d_D_lineSize_14 : decode prog_1_method_31_code 14 = .ok (.getfield 19, 3) := by decide +kernel
theorem d_D_lineSize_17 : decode prog_1_method_31_code 17 = .ok (.iload_n 3, 1) := by decide +kernel
theorem d_D_lineSize_18 : decode prog_1_method_31_code 18 = .ok (.caload, 1) := by decide +kernel
theorem d_D_lineSize_19 : decode prog_1_method_31_code 19 = .ok (.bipush 10, 2) := by decide +kernel
theorem d_D_lineSize_21 : decode prog_1_method_31_code 21 = .ok (.if_icmp .eq 12, 3) := by decide +kernel
theorem d_D_lineSize_24 : decode prog_1_method_31_code 24 = .ok (.iinc 2 1, 3) := by decide +kernel
theorem d_D_lineSize_27 : decode prog_1_method_31_code 27 = .ok (.iinc 3 1, 3) := by decide +kernel
theorem d_D_lineSize_30 : decode prog_1_method_31_code 30 = .ok (.goto (-26), 3) := by decide +kernel
theorem d_D_lineSize_33 : decode prog_1_method_31_code 33 = .ok (.iload_n 2, 1) := by decide +kernel
theorem d_D_lineSize_34 : decode prog_1_method_31_code 34 = .ok (.ireturn, 1) := by decide +kernel
theorem d_D_line_70 : decode prog_1_method_16_code 70 = .ok (.ireturn, 1) := by decide +kernel
theorem d_D_line_71 : decode prog_1_method_16_code 71 = .ok (.new 96, 3) := by decide +kernel
theorem d_D_line_74 : decode prog_1_method_16_code 74 = .ok (.dup, 1) := by decide +kernel
theorem d_D_line_75 : decode prog_1_method_16_code 75 = .ok (.invokespecial 98, 3) := by decide +kernel
theorem d_D_line_78 : decode prog_1_method_16_code 78 = .ok (.athrow, 1) := by decide +kernel
theorem d_D_requireState_0 : decode prog_1_method_20_code 0 = .ok (.iload_n 1, 1) := by decide +kernel
theorem d_D_requireState_1 : decode prog_1_method_20_code 1 = .ok (.ifCond .lt 11, 3) := by decide +kernel
theorem d_D_requireState_4 : decode prog_1_method_20_code 4 = .ok (.iload_n 1, 1) := by decide +kernel
theorem d_D_requireState_5 : decode prog_1_method_20_code 5 = .ok (.aload_n 0, 1) := by decide +kernel
theorem d_D_requireState_6 : decode prog_1_method_20_code 6 = .ok (.getfield 25, 3) := by decide +kernel
theorem d_D_requireState_9 : decode prog_1_method_20_code 9 = .ok (.if_icmp .lt 11, 3) := by decide +kernel
theorem d_D_requireState_20 : decode prog_1_method_20_code 20 = .ok (.return_, 1) := by decide +kernel
theorem d_D_requireState_12 : decode prog_1_method_20_code 12 = .ok (.new 96, 3) := by decide +kernel
theorem d_D_requireState_15 : decode prog_1_method_20_code 15 = .ok (.dup, 1) := by decide +kernel
theorem d_D_requireState_16 : decode prog_1_method_20_code 16 = .ok (.invokespecial 98, 3) := by decide +kernel
theorem d_D_requireState_19 : decode prog_1_method_20_code 19 = .ok (.athrow, 1) := by decide +kernel
theorem d_D_selectionEnd_0 : decode prog_1_method_22_code 0 = .ok (.aload_n 0, 1) := by decide +kernel
theorem d_D_selectionEnd_1 : decode prog_1_method_22_code 1 = .ok (.getfield 29, 3) := by decide +kernel
theorem d_D_selectionEnd_4 : decode prog_1_method_22_code 4 = .ok (.iconst (-1), 1) := by decide +kernel
theorem d_D_selectionEnd_5 : decode prog_1_method_22_code 5 = .ok (.if_icmp .ne 10, 3) := by decide +kernel
theorem d_D_selectionEnd_15 : decode prog_1_method_22_code 15 = .ok (.aload_n 0, 1) := by decide +kernel
theorem d_D_selectionEnd_16 : decode prog_1_method_22_code 16 = .ok (.getfield 29, 3) := by decide +kernel
theorem d_D_selectionEnd_19 : decode prog_1_method_22_code 19 = .ok (.aload_n 0, 1) := by decide +kernel
theorem d_D_selectionEnd_20 : decode prog_1_method_22_code 20 = .ok (.getfield 76, 3) := by decide +kernel
theorem d_D_selectionEnd_23 : decode prog_1_method_22_code 23 = .ok (.invokestatic 79, 3) := by decide +kernel
theorem d_D_selectionEnd_8 : decode prog_1_method_22_code 8 = .ok (.aload_n 0, 1) := by decide +kernel
theorem d_D_selectionEnd_9 : decode prog_1_method_22_code 9 = .ok (.getfield 76, 3) := by decide +kernel
theorem d_D_selectionEnd_12 : decode prog_1_method_22_code 12 = .ok (.goto 14, 3) := by decide +kernel
theorem d_D_selectionEnd_26 : decode prog_1_method_22_code 26 = .ok (.ireturn, 1) := by decide +kernel
theorem d_D_selectionStart_0 : decode prog_1_method_21_code 0 = .ok (.aload_n 0, 1) := by decide +kernel
theorem d_D_selectionStart_1 : decode prog_1_method_21_code 1 = .ok (.getfield 29, 3) := by decide +kernel
theorem d_D_selectionStart_4 : decode prog_1_method_21_code 4 = .ok (.iconst (-1), 1) := by decide +kernel
theorem d_D_selectionStart_5 : decode prog_1_method_21_code 5 = .ok (.if_icmp .ne 10, 3) := by decide +kernel
theorem d_D_selectionStart_15 : decode prog_1_method_21_code 15 = .ok (.aload_n 0, 1) := by decide +kernel
theorem d_D_selectionStart_16 : decode prog_1_method_21_code 16 = .ok (.getfield 29, 3) := by decide +kernel
theorem d_D_selectionStart_19 : decode prog_1_method_21_code 19 = .ok (.aload_n 0, 1) := by decide +kernel
theorem d_D_selectionStart_20 : decode prog_1_method_21_code 20 = .ok (.getfield 76, 3) := by decide +kernel
theorem d_D_selectionStart_23 : decode prog_1_method_21_code 23 = .ok (.invokestatic 85, 3) := by decide +kernel
theorem d_D_selectionStart_8 : decode prog_1_method_21_code 8 = .ok (.aload_n 0, 1) := by decide +kernel
theorem d_D_selectionStart_9 : decode prog_1_method_21_code 9 = .ok (.getfield 76, 3) := by decide +kernel
theorem d_D_selectionStart_12 : decode prog_1_method_21_code 12 = .ok (.goto 14, 3) := by decide +kernel
theorem d_D_selectionStart_26 : decode prog_1_method_21_code 26 = .ok (.ireturn, 1) := by decide +kernel
theorem d_D_sizeWithSlipIn_0 : decode prog_1_method_27_code 0 = .ok (.aload_n 0, 1) := by decide +kernel
theorem d_D_sizeWithSlipIn_1 : decode prog_1_method_27_code 1 = .ok (.getfield 19, 3) := by decide +kernel
theorem d_D_sizeWithSlipIn_4 : decode prog_1_method_27_code 4 = .ok (.arraylength, 1) := by decide +kernel
theorem d_D_sizeWithSlipIn_5 : decode prog_1_method_27_code 5 = .ok (.iload_n 1, 1) := by decide +kernel
theorem d_D_sizeWithSlipIn_6 : decode prog_1_method_27_code 6 = .ok (.aload_n 0, 1) := by decide +kernel
theorem d_D_sizeWithSlipIn_7 : decode prog_1_method_27_code 7 = .ok (.getfield 56, 3) := by decide +kernel
theorem d_D_sizeWithSlipIn_10 : decode prog_1_method_27_code 10 = .ok (.imul, 1) := by decide +kernel
theorem d_D_sizeWithSlipIn_11 : decode prog_1_method_27_code 11 = .ok (.iadd, 1) := by decide +kernel
theorem d_D_sizeWithSlipIn_12 : decode prog_1_method_27_code 12 = .ok (.istore_n 2, 1) := by decide +kernel
theorem d_D_sizeWithSlipIn_13 : decode prog_1_method_27_code 13 = .ok (.iconst 0, 1) := by decide +kernel
theorem d_D_sizeWithSlipIn_14 : decode prog_1_method_27_code 14 = .ok (.istore_n 3, 1) := by decide +kernel
theorem d_D_sizeWithSlipIn_15 : decode prog_1_method_27_code 15 = .ok (.iload_n 3, 1) := by decide +kernel
theorem d_D_sizeWithSlipIn_16 : decode prog_1_method_27_code 16 = .ok (.iload_n 1, 1) := by decide +kernel
theorem d_D_sizeWithSlipIn_17 : decode prog_1_method_27_code 17 = .ok (.if_icmp .ge 25, 3) := by decide +kernel
theorem d_D_sizeWithSlipIn_42 : decode prog_1_method_27_code 42 = .ok (.iload_n 2, 1) := by decide +kernel
theorem d_D_sizeWithSlipIn_43 : decode prog_1_method_27_code 43 = .ok (.ireturn, 1) := by decide +kernel
theorem d_D_sizeWithSlipIn_20 : decode prog_1_method_27_code 20 = .ok (.iload_n 2, 1) := by decide +kernel
theorem d_D_sizeWithSlipIn_21 : decode prog_1_method_27_code 21 = .ok (.aload_n 0, 1) := by decide +kernel
theorem d_D_sizeWithSlipIn_22 : decode prog_1_method_27_code 22 = .ok (.getfield 53, 3) := by decide +kernel
theorem d_D_sizeWithSlipIn_25 : decode prog_1_method_27_code 25 = .ok (.iload_n 3, 1) := by decide +kernel
theorem d_D_sizeWithSlipIn_26 : decode prog_1_method_27_code 26 = .ok (.iaload, 1) := by decide +kernel
theorem d_D_sizeWithSlipIn_27 : decode prog_1_method_27_code 27 = .ok (.aload_n 0, 1) := by decide +kernel
theorem d_D_sizeWithSlipIn_28 : decode prog_1_method_27_code 28 = .ok (.getfield 49, 3) := by decide +kernel
theorem d_D_sizeWithSlipIn_31 : decode prog_1_method_27_code 31 = .ok (.iload_n 3, 1) := by decide +kernel
theorem d_D_sizeWithSlipIn_32 : decode prog_1_method_27_code 32 = .ok (.iaload, 1) := by decide +kernel
theorem d_D_sizeWithSlipIn_33 : decode prog_1_method_27_code 33 = .ok (.isub, 1) := by decide +kernel
theorem d_D_sizeWithSlipIn_34 : decode prog_1_method_27_code 34 = .ok (.isub, 1) := by decide +kernel
theorem d_D_sizeWithSlipIn_35 : decode prog_1_method_27_code 35 = .ok (.istore_n 2, 1) := by decide +kernel
theorem d_D_sizeWithSlipIn_36 : decode prog_1_method_27_code 36 = .ok (.iinc 3 1, 3) := by decide +kernel
theorem d_D_sizeWithSlipIn_39 : decode prog_1_method_27_code 39 = .ok (.goto (-24), 3) := by decide +kernel
theorem d_D_type_0 : decode prog_1_method_2_code 0 = .ok (.iload_n 1, 1) := by decide +kernel
theorem d_D_type_1 : decode prog_1_method_2_code 1 = .ok (.bipush 10, 2) := by decide +kernel
theorem d_D_type_3 : decode prog_1_method_2_code 3 = .ok (.if_icmp .eq 15, 3) := by decide +kernel
theorem d_D_type_6 : decode prog_1_method_2_code 6 = .ok (.iload_n 1, 1) := by decide +kernel
theorem d_D_type_7 : decode prog_1_method_2_code 7 = .ok (.bipush 32, 2) := by decide +kernel
theorem d_D_type_9 : decode prog_1_method_2_code 9 = .ok (.if_icmp .lt 13, 3) := by decide +kernel
theorem d_D_type_12 : decode prog_1_method_2_code 12 = .ok (.iload_n 1, 1) := by decide +kernel
theorem d_D_type_13 : decode prog_1_method_2_code 13 = .ok (.bipush 126, 2) := by decide +kernel
theorem d_D_type_15 : decode prog_1_method_2_code 15 = .ok (.if_icmp .gt 7, 3) := by decide +kernel
theorem d_D_type_18 : decode prog_1_method_2_code 18 = .ok (.iconst 1, 1) := by decide +kernel
theorem d_D_type_19 : decode prog_1_method_2_code 19 = .ok (.goto 4, 3) := by decide +kernel
theorem d_D_type_22 : decode prog_1_method_2_code 22 = .ok (.iconst 0, 1) := by decide +kernel
theorem d_D_type_23 : decode prog_1_method_2_code 23 = .ok (.istore_n 2, 1) := by decide +kernel
theorem d_D_type_24 : decode prog_1_method_2_code 24 = .ok (.iload_n 2, 1) := by decide +kernel
theorem d_D_type_25 : decode prog_1_method_2_code 25 = .ok (.ifCond .eq 12, 3) := by decide +kernel
theorem d_D_type_28 : decode prog_1_method_2_code 28 = .ok (.aload_n 0, 1) := by decide +kernel
theorem d_D_type_29 : decode prog_1_method_2_code 29 = .ok (.getfield 56, 3) := by decide +kernel
theorem d_D_type_32 : decode prog_1_method_2_code 32 = .ok (.bipush 24, 2) := by decide +kernel
theorem d_D_type_34 : decode prog_1_method_2_code 34 = .ok (.if_icmp .ne 5, 3) := by decide +kernel
theorem d_D_type_39 : decode prog_1_method_2_code 39 = .ok (.aload_n 0, 1) := by decide +kernel
theorem d_D_type_40 : decode prog_1_method_2_code 40 = .ok (.getfield 9, 3) := by decide +kernel
theorem d_D_type_43 : decode prog_1_method_2_code 43 = .ok (.aload_n 0, 1) := by decide +kernel
theorem d_D_type_44 : decode prog_1_method_2_code 44 = .ok (.getfield 56, 3) := by decide +kernel
theorem d_D_type_47 : decode prog_1_method_2_code 47 = .ok (.iload_n 1, 1) := by decide +kernel
theorem d_D_type_48 : decode prog_1_method_2_code 48 = .ok (.castore, 1) := by decide +kernel
theorem d_D_type_49 : decode prog_1_method_2_code 49 = .ok (.aload_n 0, 1) := by decide +kernel
theorem d_D_type_50 : decode prog_1_method_2_code 50 = .ok (.dup, 1) := by decide +kernel
theorem d_D_type_51 : decode prog_1_method_2_code 51 = .ok (.getfield 56, 3) := by decide +kernel
theorem d_D_type_54 : decode prog_1_method_2_code 54 = .ok (.iconst 1, 1) := by decide +kernel
theorem d_D_type_55 : decode prog_1_method_2_code 55 = .ok (.iadd, 1) := by decide +kernel
theorem d_D_type_56 : decode prog_1_method_2_code 56 = .ok (.putfield 56, 3) := by decide +kernel
theorem d_D_type_59 : decode prog_1_method_2_code 59 = .ok (.iconst 1, 1) := by decide +kernel
theorem d_D_type_60 : decode prog_1_method_2_code 60 = .ok (.ireturn, 1) := by decide +kernel
theorem d_D_type_37 : decode prog_1_method_2_code 37 = .ok (.iconst 0, 1) := by decide +kernel
theorem d_D_type_38 : decode prog_1_method_2_code 38 = .ok (.ireturn, 1) := by decide +kernel
theorem d_D_wipe_0 : decode prog_1_method_3_code 0 = .ok (.aload_n 0, 1) := by decide +kernel
theorem d_D_wipe_1 : decode prog_1_method_3_code 1 = .ok (.getfield 56, 3) := by decide +kernel
theorem d_D_wipe_4 : decode prog_1_method_3_code 4 = .ok (.istore_n 1, 1) := by decide +kernel
theorem d_D_wipe_5 : decode prog_1_method_3_code 5 = .ok (.aload_n 0, 1) := by decide +kernel
theorem d_D_wipe_6 : decode prog_1_method_3_code 6 = .ok (.iconst 0, 1) := by decide +kernel
theorem d_D_wipe_7 : decode prog_1_method_3_code 7 = .ok (.putfield 56, 3) := by decide +kernel
theorem d_D_wipe_10 : decode prog_1_method_3_code 10 = .ok (.iload_n 1, 1) := by decide +kernel
theorem d_D_wipe_11 : decode prog_1_method_3_code 11 = .ok (.ireturn, 1) := by decide +kernel
theorem d_A_addNode_0 : decode prog_2_method_2_code 0 = .ok (.aload_n 0, 1) := by decide +kernel
theorem d_A_addNode_1 : decode prog_2_method_2_code 1 = .ok (.getfield 28, 3) := by decide +kernel
theorem d_A_addNode_4 : decode prog_2_method_2_code 4 = .ok (.istore_n 2, 1) := by decide +kernel
theorem d_A_addNode_5 : decode prog_2_method_2_code 5 = .ok (.aload_n 0, 1) := by decide +kernel
theorem d_A_addNode_6 : decode prog_2_method_2_code 6 = .ok (.getfield 11, 3) := by decide +kernel
theorem d_A_addNode_9 : decode prog_2_method_2_code 9 = .ok (.iload_n 2, 1) := by decide +kernel
theorem d_A_addNode_10 : decode prog_2_method_2_code 10 = .ok (.iload_n 1, 1) := by decide +kernel
theorem d_A_addNode_11 : decode prog_2_method_2_code 11 = .ok (.iastore, 1) := by decide +kernel
theorem d_A_addNode_12 : decode prog_2_method_2_code 12 = .ok (.aload_n 0, 1) := by decide +kernel
theorem d_A_addNode_13 : decode prog_2_method_2_code 13 = .ok (.getfield 15, 3) := by decide +kernel
theorem d_A_addNode_16 : decode prog_2_method_2_code 16 = .ok (.iload_n 2, 1) := by decide +kernel
theorem d_A_addNode_17 : decode prog_2_method_2_code 17 = .ok (.iconst (-1), 1) := by decide +kernel
theorem d_A_addNode_18 : decode prog_2_method_2_code 18 = .ok (.iastore, 1) := by decide +kernel
theorem d_A_addNode_19 : decode prog_2_method_2_code 19 = .ok (.aload_n 0, 1) := by decide +kernel
theorem d_A_addNode_20 : decode prog_2_method_2_code 20 = .ok (.getfield 18, 3) := by decide +kernel
theorem d_A_addNode_23 : decode prog_2_method_2_code 23 = .ok (.iload_n 2, 1) := by decide +kernel
theorem d_A_addNode_24 : decode prog_2_method_2_code 24 = .ok (.iconst (-1), 1) := by decide +kernel
theorem d_A_addNode_25 : decode prog_2_method_2_code 25 = .ok (.iastore, 1) := by decide +kernel
theorem d_A_addNode_26 : decode prog_2_method_2_code 26 = .ok (.aload_n 0, 1) := by decide +kernel
theorem d_A_addNode_27 : decode prog_2_method_2_code 27 = .ok (.getfield 21, 3) := by decide +kernel
theorem d_A_addNode_30 : decode prog_2_method_2_code 30 = .ok (.iload_n 2, 1) := by decide +kernel
theorem d_A_addNode_31 : decode prog_2_method_2_code 31 = .ok (.lconst 0, 1) := by decide +kernel
theorem d_A_addNode_32 : decode prog_2_method_2_code 32 = .ok (.lastore, 1) := by decide +kernel
theorem d_A_addNode_33 : decode prog_2_method_2_code 33 = .ok (.aload_n 0, 1) := by decide +kernel
theorem d_A_addNode_34 : decode prog_2_method_2_code 34 = .ok (.getfield 25, 3) := by decide +kernel
theorem d_A_addNode_37 : decode prog_2_method_2_code 37 = .ok (.iload_n 2, 1) := by decide +kernel
theorem d_A_addNode_38 : decode prog_2_method_2_code 38 = .ok (.lconst 0, 1) := by decide +kernel
theorem d_A_addNode_39 : decode prog_2_method_2_code 39 = .ok (.lastore, 1) := by decide +kernel
theorem d_A_addNode_40 : decode prog_2_method_2_code 40 = .ok (.aload_n 0, 1) := by decide +kernel
theorem d_A_addNode_41 : decode prog_2_method_2_code 41 = .ok (.dup, 1) := by decide +kernel
theorem d_A_addNode_42 : decode prog_2_method_2_code 42 = .ok (.getfield 28, 3) := by decide +kernel
theorem d_A_addNode_45 : decode prog_2_method_2_code 45 = .ok (.iconst 1, 1) := by decide +kernel
theorem d_A_addNode_46 : decode prog_2_method_2_code 46 = .ok (.iadd, 1) := by decide +kernel
theorem d_A_addNode_47 : decode prog_2_method_2_code 47 = .ok (.putfield 28, 3) := by decide +kernel
theorem d_A_addNode_50 : decode prog_2_method_2_code 50 = .ok (.iload_n 2, 1) := by decide +kernel
theorem d_A_addNode_51 : decode prog_2_method_2_code 51 = .ok (.ireturn, 1) := by decide +kernel
theorem d_A_takeCodes_0 : decode prog_2_method_3_code 0 = .ok (.iload_n 2, 1) := by decide +kernel
theorem d_A_takeCodes_1 : decode prog_2_method_3_code 1 = .ok (.istore 4, 2) := by decide +kernel
theorem d_A_takeCodes_3 : decode prog_2_method_3_code 3 = .ok (.iload 4, 2) := by decide +kernel
theorem d_A_takeCodes_5 : decode prog_2_method_3_code 5 = .ok (.iload_n 3, 1) := by decide +kernel
theorem d_A_takeCodes_6 : decode prog_2_method_3_code 6 = .ok (.if_icmp .gt 48, 3) := by decide +kernel
theorem d_A_takeCodes_54 : decode prog_2_method_3_code 54 = .ok (.return_, 1) := by decide +kernel
theorem d_A_takeCodes_9 : decode prog_2_method_3_code 9 = .ok (.iload 4, 2) := by decide +kernel
theorem d_A_takeCodes_11 : decode prog_2_method_3_code 11 = .ok (.bipush 64, 2) := by decide +kernel
theorem d_A_takeCodes_13 : decode prog_2_method_3_code 13 = .ok (.if_icmp .ge 19, 3) := by decide +kernel
theorem d_A_takeCodes_32 : decode prog_2_method_3_code 32 = .ok (.aload_n 0, 1) := by decide +kernel
theorem d_A_takeCodes_33 : decode prog_2_method_3_code 33 = .ok (.getfield 25, 3) := by decide +kernel
theorem d_A_takeCodes_36 : decode prog_2_method_3_code 36 = .ok (.iload_n 1, 1) := by decide +kernel
theorem d_A_takeCodes_37 : decode prog_2_method_3_code 37 = .ok (.dup2, 1) := by decide +kernel
theorem d_A_takeCodes_38 : decode prog_2_method_3_code 38 = .ok (.laload, 1) := by decide +kernel
theorem d_A_takeCodes_39 : decode prog_2_method_3_code 39 = .ok (.lconst 1, 1) := by decide +kernel
theorem d_A_takeCodes_40 : decode prog_2_method_3_code 40 = .ok (.iload 4, 2) := by decide +kernel
theorem d_A_takeCodes_42 : decode prog_2_method_3_code 42 = .ok (.bipush 64, 2) := by decide +kernel
theorem d_A_takeCodes_44 : decode prog_2_method_3_code 44 = .ok (.isub, 1) := by decide +kernel
theorem d_A_takeCodes_45 : decode prog_2_method_3_code 45 = .ok (.lshl, 1) := by decide +kernel
theorem d_A_takeCodes_46 : decode prog_2_method_3_code 46 = .ok (.lor, 1) := by decide +kernel
theorem d_A_takeCodes_47 : decode prog_2_method_3_code 47 = .ok (.lastore, 1) := by decide +kernel
theorem d_A_takeCodes_16 : decode prog_2_method_3_code 16 = .ok (.aload_n 0, 1) := by decide +kernel
theorem d_A_takeCodes_17 : decode prog_2_method_3_code 17 = .ok (.getfield 21, 3) := by decide +kernel
theorem d_A_takeCodes_20 : decode prog_2_method_3_code 20 = .ok (.iload_n 1, 1) := by decide +kernel
theorem d_A_takeCodes_21 : decode prog_2_method_3_code 21 = .ok (.dup2, 1) := by decide +kernel
theorem d_A_takeCodes_22 : decode prog_2_method_3_code 22 = .ok (.laload, 1) := by decide +kernel
theorem d_A_takeCodes_23 : decode prog_2_method_3_code 23 = .ok (.lconst 1, 1) := by decide +kernel
theorem d_A_takeCodes_24 : decode prog_2_method_3_code 24 = .ok (.iload 4, 2) := by decide +kernel
theorem d_A_takeCodes_26 : decode prog_2_method_3_code 26 = .ok (.lshl, 1) := by decide +kernel
theorem d_A_takeCodes_27 : decode prog_2_method_3_code 27 = .ok (.lor, 1) := by decide +kernel
theorem d_A_takeCodes_28 : decode prog_2_method_3_code 28 = .ok (.lastore, 1) := by decide +kernel
theorem d_A_takeCodes_29 : decode prog_2_method_3_code 29 = .ok (.goto 19, 3) := by decide +kernel
theorem d_A_takeCodes_48 : decode prog_2_method_3_code 48 = .ok (.iinc 4 1, 3) := by decide +kernel
theorem d_A_takeCodes_51 : decode prog_2_method_3_code 51 = .ok (.goto (-48), 3) := by decide +kernel
theorem d_A_takeOtherCodes_0 : decode prog_2_method_4_code 0 = .ok (.aload_n 0, 1) := by decide +kernel
theorem d_A_takeOtherCodes_1 : decode prog_2_method_4_code 1 = .ok (.getfield 21, 3) := by decide +kernel
theorem d_A_takeOtherCodes_4 : decode prog_2_method_4_code 4 = .ok (.iload_n 1, 1) := by decide +kernel
theorem d_A_takeOtherCodes_5 : decode prog_2_method_4_code 5 = .ok (.aload_n 0, 1) := by decide +kernel
theorem d_A_takeOtherCodes_6 : decode prog_2_method_4_code 6 = .ok (.getfield 21, 3) := by decide +kernel
theorem d_A_takeOtherCodes_9 : decode prog_2_method_4_code 9 = .ok (.iload_n 1, 1) := by decide +kernel
theorem d_A_takeOtherCodes_10 : decode prog_2_method_4_code 10 = .ok (.laload, 1) := by decide +kernel
theorem d_A_takeOtherCodes_11 : decode prog_2_method_4_code 11 = .ok (.ldc2_w 32, 3) := by decide +kernel
theorem d_A_takeOtherCodes_14 : decode prog_2_method_4_code 14 = .ok (.lxor, 1) := by decide +kernel
theorem d_A_takeOtherCodes_15 : decode prog_2_method_4_code 15 = .ok (.lastore, 1) := by decide +kernel
theorem d_A_takeOtherCodes_16 : decode prog_2_method_4_code 16 = .ok (.aload_n 0, 1) := by decide +kernel
theorem d_A_takeOtherCodes_17 : decode prog_2_method_4_code 17 = .ok (.getfield 25, 3) := by decide +kernel
theorem d_A_takeOtherCodes_20 : decode prog_2_method_4_code 20 = .ok (.iload_n 1, 1) := by decide +kernel
theorem d_A_takeOtherCodes_21 : decode prog_2_method_4_code 21 = .ok (.aload_n 0, 1) := by decide +kernel
theorem d_A_takeOtherCodes_22 : decode prog_2_method_4_code 22 = .ok (.getfield 25, 3) := by decide +kernel
theorem d_A_takeOtherCodes_25 : decode prog_2_method_4_code 25 = .ok (.iload_n 1, 1) := by decide +kernel
theorem d_A_takeOtherCodes_26 : decode prog_2_method_4_code 26 = .ok (.laload, 1) := by decide +kernel
theorem d_A_takeOtherCodes_27 : decode prog_2_method_4_code 27 = .ok (.ldc2_w 32, 3) := by decide +kernel
theorem d_A_takeOtherCodes_30 : decode prog_2_method_4_code 30 = .ok (.lxor, 1) := by decide +kernel
