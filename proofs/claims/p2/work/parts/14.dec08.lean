theorem d_D_find_42 : decode prog_1_method_9_code 42 = .ok (.athrow, 1) := by decide +kernel
theorem d_D_go_0 : decode prog_1_method_6_code 0 = .ok (.aload_n 0, 1) := by decide +kernel
theorem d_D_go_1 : decode prog_1_method_6_code 1 = .ok (.iload_n 1, 1) := by decide +kernel
theorem d_D_go_2 : decode prog_1_method_6_code 2 = .ok (.invokevirtual 88, 3) := by decide +kernel
theorem d_D_go_5 : decode prog_1_method_6_code 5 = .ok (.iload_n 2, 1) := by decide +kernel
theorem d_D_go_6 : decode prog_1_method_6_code 6 = .ok (.ifCond .ne 11, 3) := by decide +kernel
theorem d_D_go_17 : decode prog_1_method_6_code 17 = .ok (.aload_n 0, 1) := by decide +kernel
theorem d_D_go_18 : decode prog_1_method_6_code 18 = .ok (.getfield 29, 3) := by decide +kernel
theorem d_D_go_21 : decode prog_1_method_6_code 21 = .ok (.iconst (-1), 1) := by decide +kernel
theorem d_D_go_22 : decode prog_1_method_6_code 22 = .ok (.if_icmp .ne 11, 3) := by decide +kernel
theorem d_D_go_25 : decode prog_1_method_6_code 25 = .ok (.aload_n 0, 1) := by decide +kernel
theorem d_D_go_26 : decode prog_1_method_6_code 26 = .ok (.aload_n 0, 1) := by decide +kernel
theorem d_D_go_27 : decode prog_1_method_6_code 27 = .ok (.getfield 76, 3) := by decide +kernel
theorem d_D_go_30 : decode prog_1_method_6_code 30 = .ok (.putfield 29, 3) := by decide +kernel
theorem d_D_go_9 : decode prog_1_method_6_code 9 = .ok (.aload_n 0, 1) := by decide +kernel
theorem d_D_go_10 : decode prog_1_method_6_code 10 = .ok (.iconst (-1), 1) := by decide +kernel
theorem d_D_go_11 : decode prog_1_method_6_code 11 = .ok (.putfield 29, 3) := by decide +kernel
theorem d_D_go_14 : decode prog_1_method_6_code 14 = .ok (.goto 19, 3) := by decide +kernel
theorem d_D_go_33 : decode prog_1_method_6_code 33 = .ok (.aload_n 0, 1) := by decide +kernel
theorem d_D_go_34 : decode prog_1_method_6_code 34 = .ok (.iload_n 1, 1) := by decide +kernel
theorem d_D_go_35 : decode prog_1_method_6_code 35 = .ok (.putfield 76, 3) := by decide +kernel
theorem d_D_go_38 : decode prog_1_method_6_code 38 = .ok (.aload_n 0, 1) := by decide +kernel
theorem d_D_go_39 : decode prog_1_method_6_code 39 = .ok (.getfield 29, 3) := by decide +kernel
theorem d_D_go_42 : decode prog_1_method_6_code 42 = .ok (.aload_n 0, 1) := by decide +kernel
theorem d_D_go_43 : decode prog_1_method_6_code 43 = .ok (.getfield 76, 3) := by decide +kernel
theorem d_D_go_46 : decode prog_1_method_6_code 46 = .ok (.if_icmp .ne 8, 3) := by decide +kernel
theorem d_D_go_49 : decode prog_1_method_6_code 49 = .ok (.aload_n 0, 1) := by decide +kernel
theorem d_D_go_50 : decode prog_1_method_6_code 50 = .ok (.iconst (-1), 1) := by decide +kernel
theorem d_D_go_51 : decode prog_1_method_6_code 51 = .ok (.putfield 29, 3) := by decide +kernel
theorem d_D_go_54 : decode prog_1_method_6_code 54 = .ok (.return_, 1) := by decide +kernel
theorem d_D_jump_0 : decode prog_1_method_13_code 0 = .ok (.aload_n 0, 1) := by decide +kernel
theorem d_D_jump_1 : decode prog_1_method_13_code 1 = .ok (.iload_n 1, 1) := by decide +kernel
theorem d_D_jump_2 : decode prog_1_method_13_code 2 = .ok (.invokevirtual 140, 3) := by decide +kernel
theorem d_D_requireState_0 : decode prog_1_method_20_code 0 = .ok (.iload_n 1, 1) := by decide +kernel
theorem d_D_requireState_1 : decode prog_1_method_20_code 1 = .ok (.ifCond .lt 11, 3) := by decide +kernel
theorem d_D_requireState_4 : decode prog_1_method_20_code 4 = .ok (.iload_n 1, 1) := by decide +kernel
theorem d_D_requireState_5 : decode prog_1_method_20_code 5 = .ok (.aload_n 0, 1) := by decide +kernel
theorem d_D_requireState_6 : decode prog_1_method_20_code 6 = .ok (.getfield 25, 3) := by decide +kernel
theorem d_D_requireState_9 : decode prog_1_method_20_code 9 = .ok (.if_icmp .lt 11, 3) := by decide +kernel
theorem d_D_requireState_20 : decode prog_1_method_20_code 20 = .ok (.return_, 1) := by decide +kernel
theorem d_D_requireState_12 : decode prog_1_method_20_code 12 = .ok (.new 96, 3) := by decide +kernel
theorem d_D_requireState_15 : decode prog_1_method_20_code 15 = .ok (.dup, 1) := by decide +kernel
theorem d_D_requireState_16 : decode prog_1_method_20_code 16 = .ok (.invokespecial 98, 3) := by decide +kernel
theorem d_D_requireState_19 : decode prog_1_method_20_code 19 = .ok (.athrow, 1) := by decide +kernel
theorem d_D_jump_5 : decode prog_1_method_13_code 5 = .ok (.aload_n 0, 1) := by decide +kernel
theorem d_D_jump_6 : decode prog_1_method_13_code 6 = .ok (.iload_n 1, 1) := by decide +kernel
theorem d_D_jump_7 : decode prog_1_method_13_code 7 = .ok (.invokevirtual 134, 3) := by decide +kernel
theorem d_D_moveTo_0 : decode prog_1_method_23_code 0 = .ok (.aload_n 0, 1) := by decide +kernel
theorem d_D_moveTo_1 : decode prog_1_method_23_code 1 = .ok (.getfield 15, 3) := by decide +kernel
theorem d_D_moveTo_4 : decode prog_1_method_23_code 4 = .ok (.aload_n 0, 1) := by decide +kernel
theorem d_D_moveTo_5 : decode prog_1_method_23_code 5 = .ok (.getfield 73, 3) := by decide +kernel
theorem d_D_moveTo_8 : decode prog_1_method_23_code 8 = .ok (.aaload, 1) := by decide +kernel
theorem d_D_moveTo_9 : decode prog_1_method_23_code 9 = .ok (.aload_n 0, 1) := by decide +kernel
theorem d_D_moveTo_10 : decode prog_1_method_23_code 10 = .ok (.getfield 76, 3) := by decide +kernel
theorem d_D_moveTo_13 : decode prog_1_method_23_code 13 = .ok (.putfield 155, 3) := by decide +kernel
theorem d_D_moveTo_16 : decode prog_1_method_23_code 16 = .ok (.aload_n 0, 1) := by decide +kernel
theorem d_D_moveTo_17 : decode prog_1_method_23_code 17 = .ok (.getfield 15, 3) := by decide +kernel
theorem d_D_moveTo_20 : decode prog_1_method_23_code 20 = .ok (.iload_n 1, 1) := by decide +kernel
theorem d_D_moveTo_21 : decode prog_1_method_23_code 21 = .ok (.aaload, 1) := by decide +kernel
theorem d_D_moveTo_22 : decode prog_1_method_23_code 22 = .ok (.astore_n 2, 1) := by decide +kernel
theorem d_D_moveTo_23 : decode prog_1_method_23_code 23 = .ok (.aload_n 0, 1) := by decide +kernel
theorem d_D_moveTo_24 : decode prog_1_method_23_code 24 = .ok (.iload_n 1, 1) := by decide +kernel
theorem d_D_moveTo_25 : decode prog_1_method_23_code 25 = .ok (.putfield 73, 3) := by decide +kernel
theorem d_D_moveTo_28 : decode prog_1_method_23_code 28 = .ok (.aload_n 0, 1) := by decide +kernel
theorem d_D_moveTo_29 : decode prog_1_method_23_code 29 = .ok (.aload_n 2, 1) := by decide +kernel
theorem d_D_moveTo_30 : decode prog_1_method_23_code 30 = .ok (.getfield 158, 3) := by decide +kernel
theorem d_D_moveTo_33 : decode prog_1_method_23_code 33 = .ok (.putfield 19, 3) := by decide +kernel
theorem d_D_moveTo_36 : decode prog_1_method_23_code 36 = .ok (.aload_n 0, 1) := by decide +kernel
theorem d_D_moveTo_37 : decode prog_1_method_23_code 37 = .ok (.aload_n 2, 1) := by decide +kernel
theorem d_D_moveTo_38 : decode prog_1_method_23_code 38 = .ok (.getfield 155, 3) := by decide +kernel
theorem d_D_moveTo_41 : decode prog_1_method_23_code 41 = .ok (.putfield 76, 3) := by decide +kernel
theorem d_D_moveTo_44 : decode prog_1_method_23_code 44 = .ok (.aload_n 0, 1) := by decide +kernel
theorem d_D_moveTo_45 : decode prog_1_method_23_code 45 = .ok (.iconst (-1), 1) := by decide +kernel
theorem d_D_moveTo_46 : decode prog_1_method_23_code 46 = .ok (.putfield 29, 3) := by decide +kernel
theorem d_D_moveTo_49 : decode prog_1_method_23_code 49 = .ok (.aload_n 2, 1) := by decide +kernel
theorem d_D_moveTo_50 : decode prog_1_method_23_code 50 = .ok (.getfield 131, 3) := by decide +kernel
theorem d_D_moveTo_53 : decode prog_1_method_23_code 53 = .ok (.iconst (-1), 1) := by decide +kernel
theorem d_D_moveTo_54 : decode prog_1_method_23_code 54 = .ok (.if_icmp .eq 16, 3) := by decide +kernel
theorem d_D_moveTo_57 : decode prog_1_method_23_code 57 = .ok (.aload_n 0, 1) := by decide +kernel
theorem d_D_moveTo_58 : decode prog_1_method_23_code 58 = .ok (.getfield 15, 3) := by decide +kernel
theorem d_D_moveTo_61 : decode prog_1_method_23_code 61 = .ok (.aload_n 2, 1) := by decide +kernel
theorem d_D_moveTo_62 : decode prog_1_method_23_code 62 = .ok (.getfield 131, 3) := by decide +kernel
theorem d_D_moveTo_65 : decode prog_1_method_23_code 65 = .ok (.aaload, 1) := by decide +kernel
theorem d_D_moveTo_66 : decode prog_1_method_23_code 66 = .ok (.iload_n 1, 1) := by decide +kernel
theorem d_D_moveTo_67 : decode prog_1_method_23_code 67 = .ok (.putfield 137, 3) := by decide +kernel
theorem d_D_moveTo_70 : decode prog_1_method_23_code 70 = .ok (.return_, 1) := by decide +kernel
theorem d_D_jump_10 : decode prog_1_method_13_code 10 = .ok (.return_, 1) := by decide +kernel
theorem d_D_length_0 : decode prog_1_method_14_code 0 = .ok (.aload_n 0, 1) := by decide +kernel
theorem d_D_length_1 : decode prog_1_method_14_code 1 = .ok (.getfield 19, 3) := by decide +kernel
theorem d_D_length_4 : decode prog_1_method_14_code 4 = .ok (.arraylength, 1) := by decide +kernel
theorem d_D_length_5 : decode prog_1_method_14_code 5 = .ok (.ireturn, 1) := by decide +kernel
theorem d_D_line_0 : decode prog_1_method_16_code 0 = .ok (.iload_n 1, 1) := by decide +kernel
theorem d_D_line_1 : decode prog_1_method_16_code 1 = .ok (.tableswitch 70 0 3 #[31, 43, 54, 60], 31) := by decide +kernel
theorem d_D_line_32 : decode prog_1_method_16_code 32 = .ok (.aload_n 0, 1) := by decide +kernel
theorem d_D_line_33 : decode prog_1_method_16_code 33 = .ok (.aload_n 0, 1) := by decide +kernel
theorem d_D_line_34 : decode prog_1_method_16_code 34 = .ok (.getfield 19, 3) := by decide +kernel
theorem d_D_line_37 : decode prog_1_method_16_code 37 = .ok (.arraylength, 1) := by decide +kernel
theorem d_D_line_38 : decode prog_1_method_16_code 38 = .ok (.invokevirtual 146, 3) := by decide +kernel
theorem d_D_line_41 : decode prog_1_method_16_code 41 = .ok (.iconst 1, 1) := by decide +kernel
theorem d_D_line_42 : decode prog_1_method_16_code 42 = .ok (.iadd, 1) := by decide +kernel
theorem d_D_line_43 : decode prog_1_method_16_code 43 = .ok (.ireturn, 1) := by decide +kernel
theorem d_D_line_44 : decode prog_1_method_16_code 44 = .ok (.aload_n 0, 1) := by decide +kernel
theorem d_D_line_45 : decode prog_1_method_16_code 45 = .ok (.iload_n 2, 1) := by decide +kernel
theorem d_D_line_46 : decode prog_1_method_16_code 46 = .ok (.invokevirtual 88, 3) := by decide +kernel
theorem d_D_line_49 : decode prog_1_method_16_code 49 = .ok (.aload_n 0, 1) := by decide +kernel
theorem d_D_line_50 : decode prog_1_method_16_code 50 = .ok (.iload_n 2, 1) := by decide +kernel
theorem d_D_line_51 : decode prog_1_method_16_code 51 = .ok (.invokevirtual 146, 3) := by decide +kernel
theorem d_D_line_54 : decode prog_1_method_16_code 54 = .ok (.ireturn, 1) := by decide +kernel
theorem d_D_line_55 : decode prog_1_method_16_code 55 = .ok (.aload_n 0, 1) := by decide +kernel
theorem d_D_line_56 : decode prog_1_method_16_code 56 = .ok (.iload_n 2, 1) := by decide +kernel
theorem d_D_line_57 : decode prog_1_method_16_code 57 = .ok (.invokevirtual 149, 3) := by decide +kernel
theorem d_D_lineBegin_0 : decode prog_1_method_30_code 0 = .ok (.iload_n 1, 1) := by decide +kernel
theorem d_D_lineBegin_1 : decode prog_1_method_30_code 1 = .ok (.ifCond .ne 5, 3) := by decide +kernel
theorem d_D_lineBegin_6 : decode prog_1_method_30_code 6 = .ok (.iconst 0, 1) := by decide +kernel
theorem d_D_lineBegin_7 : decode prog_1_method_30_code 7 = .ok (.istore_n 2, 1) := by decide +kernel
theorem d_D_lineBegin_8 : decode prog_1_method_30_code 8 = .ok (.iconst 0, 1) := by decide +kernel
theorem d_D_lineBegin_9 : decode prog_1_method_30_code 9 = .ok (.istore_n 3, 1) := by decide +kernel
theorem d_D_lineBegin_4 : decode prog_1_method_30_code 4 = .ok (.iconst 0, 1) := by decide +kernel
theorem d_D_lineBegin_5 : decode prog_1_method_30_code 5 = .ok (.ireturn, 1) := by decide +kernel
theorem d_D_lineBegin_10 : decode prog_1_method_30_code 10 = .ok (.iload_n 3, 1) := by decide +kernel
theorem d_D_lineBegin_11 : decode prog_1_method_30_code 11 = .ok (.aload_n 0, 1) := by decide +kernel
theorem d_D_lineBegin_12 : decode prog_1_method_30_code 12 = .ok (.getfield 19, 3) := by decide +kernel
theorem d_D_lineBegin_15 : decode prog_1_method_30_code 15 = .ok (.arraylength, 1) := by decide +kernel
theorem d_D_lineBegin_16 : decode prog_1_method_30_code 16 = .ok (.if_icmp .ge 32, 3) := by decide +kernel
theorem d_D_lineBegin_48 : decode prog_1_method_30_code 48 = .ok (.new 143, 3) := by decide +kernel
theorem d_D_lineBegin_19 : decode prog_1_method_30_code 19 = .ok (.aload_n 0, 1) := by decide +kernel
theorem d_D_lineBegin_20 : decode prog_1_method_30_code 20 = .ok (.getfield 19, 3) := by decide +kernel
theorem d_D_lineBegin_23 : decode prog_1_method_30_code 23 = .ok (.iload_n 3, 1) := by decide +kernel
theorem d_D_lineBegin_24 : decode prog_1_method_30_code 24 = .ok (.caload, 1) := by decide +kernel
theorem d_D_lineBegin_25 : decode prog_1_method_30_code 25 = .ok (.bipush 10, 2) := by decide +kernel
theorem d_D_lineBegin_27 : decode prog_1_method_30_code 27 = .ok (.if_icmp .ne 15, 3) := by decide +kernel
theorem d_D_lineBegin_30 : decode prog_1_method_30_code 30 = .ok (.iinc 2 1, 3) := by decide +kernel
theorem d_D_lineBegin_33 : decode prog_1_method_30_code 33 = .ok (.iload_n 2, 1) := by decide +kernel
theorem d_D_lineBegin_34 : decode prog_1_method_30_code 34 = .ok (.iload_n 1, 1) := by decide +kernel
theorem d_D_lineBegin_35 : decode prog_1_method_30_code 35 = .ok (.if_icmp .ne 7, 3) := by decide +kernel
theorem d_D_lineBegin_38 : decode prog_1_method_30_code 38 = .ok (.iload_n 3, 1) := by decide +kernel
theorem d_D_lineBegin_39 : decode prog_1_method_30_code 39 = .ok (.iconst 1, 1) := by decide +kernel
theorem d_D_lineBegin_40 : decode prog_1_method_30_code 40 = .ok (.iadd, 1) := by decide +kernel
theorem d_D_lineBegin_41 : decode prog_1_method_30_code 41 = .ok (.ireturn, 1) := by decide +kernel
theorem d_D_lineBegin_42 : decode prog_1_method_30_code 42 = .ok (.iinc 3 1, 3) := by decide +kernel
theorem d_D_lineBegin_45 : decode prog_1_method_30_code 45 = .ok (.goto (-35), 3) := by decide +kernel
theorem d_D_lineBegin_51 : decode prog_1_method_30_code 51 = .ok (.dup, 1) := by decide +kernel
theorem d_D_lineBegin_52 : decode prog_1_method_30_code 52 = .ok (.invokespecial 145, 3) := by decide +kernel
theorem d_D_lineBegin_55 : decode prog_1_method_30_code 55 = .ok (.athrow, 1) := by decide +kernel
theorem d_D_line_60 : decode prog_1_method_16_code 60 = .ok (.ireturn, 1) := by decide +kernel
theorem d_D_line_61 : decode prog_1_method_16_code 61 = .ok (.aload_n 0, 1) := by decide +kernel
theorem d_D_line_62 : decode prog_1_method_16_code 62 = .ok (.aload_n 0, 1) := by decide +kernel
theorem d_D_line_63 : decode prog_1_method_16_code 63 = .ok (.iload_n 2, 1) := by decide +kernel
theorem d_D_line_64 : decode prog_1_method_16_code 64 = .ok (.invokevirtual 149, 3) := by decide +kernel
theorem d_D_line_67 : decode prog_1_method_16_code 67 = .ok (.invokevirtual 152, 3) := by decide +kernel
theorem d_D_lineSize_0 : decode prog_1_method_31_code 0 = .ok (.iconst 0, 1) := by decide +kernel
theorem d_D_lineSize_1 : decode prog_1_method_31_code 1 = .ok (.istore_n 2, 1) := by decide +kernel
theorem d_D_lineSize_2 : decode prog_1_method_31_code 2 = .ok (.iload_n 1, 1) := by decide +kernel
theorem d_D_lineSize_3 : decode prog_1_method_31_code 3 = .ok (.istore_n 3, 1) := by decide +kernel
theorem d_D_lineSize_4 : decode prog_1_method_31_code 4 = .ok (.iload_n 3, 1) := by decide +kernel
theorem d_D_lineSize_5 : decode prog_1_method_31_code 5 = .ok (.aload_n 0, 1) := by decide +kernel
theorem d_D_lineSize_6 : decode prog_1_method_31_code 6 = .ok (.getfield 19, 3) := by decide +kernel
theorem d_D_lineSize_9 : decode prog_1_method_31_code 9 = .ok (.arraylength, 1) := by decide +kernel
theorem d_D_lineSize_10 : decode prog_1_method_31_code 10 = .ok (.if_icmp .ge 23, 3) := by decide +kernel
theorem d_D_lineSize_13 : decode prog_1_method_31_code 13 = .ok (.aload_n 0, 1) := by decide +kernel
theorem d_D_lineSize_14 : decode prog_1_method_31_code 14 = .ok (.getfield 19, 3) := by decide +kernel
theorem d_D_lineSize_17 : decode prog_1_method_31_code 17 = .ok (.iload_n 3, 1) := by decide +kernel
theorem d_D_lineSize_18 : decode prog_1_method_31_code 18 = .ok (.caload, 1) := by decide +kernel
theorem d_D_lineSize_19 : decode prog_1_method_31_code 19 = .ok (.bipush 10, 2) := by decide +kernel
theorem d_D_lineSize_21 : decode prog_1_method_31_code 21 = .ok (.if_icmp .eq 12, 3) := by decide +kernel
theorem d_D_lineSize_24 : decode prog_1_method_31_code 24 = .ok (.iinc 2 1, 3) := by decide +kernel
theorem d_D_lineSize_27 : decode prog_1_method_31_code 27 = .ok (.iinc 3 1, 3) := by decide +kernel
theorem d_D_lineSize_30 : decode prog_1_method_31_code 30 = .ok (.goto (-26), 3) := by decide +kernel
theorem d_D_lineSize_33 : decode prog_1_method_31_code 33 = .ok (.iload_n 2, 1) := by decide +kernel
theorem d_D_lineSize_34 : decode prog_1_method_31_code 34 = .ok (.ireturn, 1) := by decide +kernel
theorem d_D_line_70 : decode prog_1_method_16_code 70 = .ok (.ireturn, 1) := by decide +kernel
theorem d_D_line_71 : decode prog_1_method_16_code 71 = .ok (.new 96, 3) := by decide +kernel
theorem d_D_line_74 : decode prog_1_method_16_code 74 = .ok (.dup, 1) := by decide +kernel
theorem d_D_line_75 : decode prog_1_method_16_code 75 = .ok (.invokespecial 98, 3) := by decide +kernel
theorem d_D_line_78 : decode prog_1_method_16_code 78 = .ok (.athrow, 1) := by decide +kernel
theorem d_D_parent_0 : decode prog_1_method_18_code 0 = .ok (.aload_n 0, 1) := by decide +kernel
theorem d_D_parent_1 : decode prog_1_method_18_code 1 = .ok (.iload_n 1, 1) := by decide +kernel
theorem d_D_parent_2 : decode prog_1_method_18_code 2 = .ok (.invokevirtual 140, 3) := by decide +kernel
theorem d_D_parent_5 : decode prog_1_method_18_code 5 = .ok (.aload_n 0, 1) := by decide +kernel
theorem d_D_parent_6 : decode prog_1_method_18_code 6 = .ok (.getfield 15, 3) := by decide +kernel
theorem d_D_parent_9 : decode prog_1_method_18_code 9 = .ok (.iload_n 1, 1) := by decide +kernel
theorem d_D_parent_10 : decode prog_1_method_18_code 10 = .ok (.aaload, 1) := by decide +kernel
theorem d_D_parent_11 : decode prog_1_method_18_code 11 = .ok (.getfield 131, 3) := by decide +kernel
theorem d_D_parent_14 : decode prog_1_method_18_code 14 = .ok (.ireturn, 1) := by decide +kernel
theorem d_D_redo_0 : decode prog_1_method_12_code 0 = .ok (.aload_n 0, 1) := by decide +kernel
theorem d_D_redo_1 : decode prog_1_method_12_code 1 = .ok (.getfield 15, 3) := by decide +kernel
theorem d_D_redo_4 : decode prog_1_method_12_code 4 = .ok (.aload_n 0, 1) := by decide +kernel
theorem d_D_redo_5 : decode prog_1_method_12_code 5 = .ok (.getfield 73, 3) := by decide +kernel
theorem d_D_redo_8 : decode prog_1_method_12_code 8 = .ok (.aaload, 1) := by decide +kernel
theorem d_D_redo_9 : decode prog_1_method_12_code 9 = .ok (.getfield 137, 3) := by decide +kernel
theorem d_D_redo_12 : decode prog_1_method_12_code 12 = .ok (.istore_n 1, 1) := by decide +kernel
theorem d_D_redo_13 : decode prog_1_method_12_code 13 = .ok (.iload_n 1, 1) := by decide +kernel
theorem d_D_redo_14 : decode prog_1_method_12_code 14 = .ok (.iconst (-1), 1) := by decide +kernel
theorem d_D_redo_15 : decode prog_1_method_12_code 15 = .ok (.if_icmp .ne 11, 3) := by decide +kernel
theorem d_D_redo_26 : decode prog_1_method_12_code 26 = .ok (.aload_n 0, 1) := by decide +kernel
theorem d_D_redo_27 : decode prog_1_method_12_code 27 = .ok (.iload_n 1, 1) := by decide +kernel
theorem d_D_redo_28 : decode prog_1_method_12_code 28 = .ok (.invokevirtual 134, 3) := by decide +kernel
theorem d_D_redo_31 : decode prog_1_method_12_code 31 = .ok (.aload_n 0, 1) := by decide +kernel
theorem d_D_redo_32 : decode prog_1_method_12_code 32 = .ok (.getfield 73, 3) := by decide +kernel
theorem d_D_redo_35 : decode prog_1_method_12_code 35 = .ok (.ireturn, 1) := by decide +kernel
theorem d_D_redo_18 : decode prog_1_method_12_code 18 = .ok (.new 111, 3) := by decide +kernel
theorem d_D_redo_21 : decode prog_1_method_12_code 21 = .ok (.dup, 1) := by decide +kernel
theorem d_D_redo_22 : decode prog_1_method_12_code 22 = .ok (.invokespecial 113, 3) := by decide +kernel
theorem d_D_redo_25 : decode prog_1_method_12_code 25 = .ok (.athrow, 1) := by decide +kernel
theorem d_D_selectionEnd_0 : decode prog_1_method_22_code 0 = .ok (.aload_n 0, 1) := by decide +kernel
theorem d_D_selectionEnd_1 : decode prog_1_method_22_code 1 = .ok (.getfield 29, 3) := by decide +kernel
theorem d_D_selectionEnd_4 : decode prog_1_method_22_code 4 = .ok (.iconst (-1), 1) := by decide +kernel
theorem d_D_selectionEnd_5 : decode prog_1_method_22_code 5 = .ok (.if_icmp .ne 10, 3) := by decide +kernel
theorem d_D_selectionEnd_15 : decode prog_1_method_22_code 15 = .ok (.aload_n 0, 1) := by decide +kernel
theorem d_D_selectionEnd_16 : decode prog_1_method_22_code 16 = .ok (.getfield 29, 3) := by decide +kernel
theorem d_D_selectionEnd_19 : decode prog_1_method_22_code 19 = .ok (.aload_n 0, 1) := by decide +kernel
theorem d_D_selectionEnd_20 : decode prog_1_method_22_code 20 = .ok (.getfield 76, 3) := by decide +kernel
theorem d_D_selectionEnd_23 : decode prog_1_method_22_code 23 = .ok (.invokestatic 79, 3) := by decide +kernel
theorem d_D_selectionEnd_8 : decode prog_1_method_22_code 8 = .ok (.aload_n 0, 1) := by decide +kernel
theorem d_D_selectionEnd_9 : decode prog_1_method_22_code 9 = .ok (.getfield 76, 3) := by decide +kernel
theorem d_D_selectionEnd_12 : decode prog_1_method_22_code 12 = .ok (.goto 14, 3) := by decide +kernel
theorem d_D_selectionEnd_26 : decode prog_1_method_22_code 26 = .ok (.ireturn, 1) := by decide +kernel
theorem d_D_selectionStart_0 : decode prog_1_method_21_code 0 = .ok (.aload_n 0, 1) := by decide +kernel
theorem d_D_selectionStart_1 : decode prog_1_method_21_code 1 = .ok (.getfield 29, 3) := by decide +kernel
theorem d_D_selectionStart_4 : decode prog_1_method_21_code 4 = .ok (.iconst (-1), 1) := by decide +kernel
theorem d_D_selectionStart_5 : decode prog_1_method_21_code 5 = .ok (.if_icmp .ne 10, 3) := by decide +kernel
theorem d_D_selectionStart_15 : decode prog_1_method_21_code 15 = .ok (.aload_n 0, 1) := by decide +kernel
theorem d_D_selectionStart_16 : decode prog_1_method_21_code 16 = .ok (.getfield 29, 3) := by decide +kernel
theorem d_D_selectionStart_19 : decode prog_1_method_21_code 19 = .ok (.aload_n 0, 1) := by decide +kernel
theorem d_D_selectionStart_20 : decode prog_1_method_21_code 20 = .ok (.getfield 76, 3) := by decide +kernel
theorem d_D_selectionStart_23 : decode prog_1_method_21_code 23 = .ok (.invokestatic 85, 3) := by decide +kernel
theorem d_D_selectionStart_8 : decode prog_1_method_21_code 8 = .ok (.aload_n 0, 1) := by decide +kernel
theorem d_D_selectionStart_9 : decode prog_1_method_21_code 9 = .ok (.getfield 76, 3) := by decide +kernel
theorem d_D_selectionStart_12 : decode prog_1_method_21_code 12 = .ok (.goto 14, 3) := by decide +kernel
theorem d_D_selectionStart_26 : decode prog_1_method_21_code 26 = .ok (.ireturn, 1) := by decide +kernel
theorem d_D_sizeWithSlipIn_0 : decode prog_1_method_27_code 0 = .ok (.aload_n 0, 1) := by decide +kernel
theorem d_D_sizeWithSlipIn_1 : decode prog_1_method_27_code 1 = .ok (.getfield 19, 3) := by decide +kernel
theorem d_D_sizeWithSlipIn_4 : decode prog_1_method_27_code 4 = .ok (.arraylength, 1) := by decide +kernel
theorem d_D_sizeWithSlipIn_5 : decode prog_1_method_27_code 5 = .ok (.iload_n 1, 1) := by decide +kernel
theorem d_D_sizeWithSlipIn_6 : decode prog_1_method_27_code 6 = .ok (.aload_n 0, 1) := by decide +kernel
theorem d_D_sizeWithSlipIn_7 : decode prog_1_method_27_code 7 = .ok (.getfield 56, 3) := by decide +kernel
theorem d_D_sizeWithSlipIn_10 : decode prog_1_method_27_code 10 = .ok (.imul, 1) := by decide +kernel
theorem d_D_sizeWithSlipIn_11 : decode prog_1_method_27_code 11 = .ok (.iadd, 1) := by decide +kernel
theorem d_D_sizeWithSlipIn_12 : decode prog_1_method_27_code 12 = .ok (.istore_n 2, 1) := by decide +kernel
theorem d_D_sizeWithSlipIn_13 : decode prog_1_method_27_code 13 = .ok (.iconst 0, 1) := by decide +kernel
theorem d_D_sizeWithSlipIn_14 : decode prog_1_method_27_code 14 = .ok (.istore_n 3, 1) := by decide +kernel
theorem d_D_sizeWithSlipIn_15 : decode prog_1_method_27_code 15 = .ok (.iload_n 3, 1) := by decide +kernel
theorem d_D_sizeWithSlipIn_16 : decode prog_1_method_27_code 16 = .ok (.iload_n 1, 1) := by decide +kernel
theorem d_D_sizeWithSlipIn_17 : decode prog_1_method_27_code 17 = .ok (.if_icmp .ge 25, 3) := by decide +kernel
theorem d_D_sizeWithSlipIn_42 : decode prog_1_method_27_code 42 = .ok (.iload_n 2, 1) := by decide +kernel
theorem d_D_sizeWithSlipIn_43 : decode prog_1_method_27_code 43 = .ok (.ireturn, 1) := by decide +kernel
theorem d_D_sizeWithSlipIn_20 : decode prog_1_method_27_code 20 = .ok (.iload_n 2, 1) := by decide +kernel
theorem d_D_sizeWithSlipIn_21 : decode prog_1_method_27_code 21 = .ok (.aload_n 0, 1) := by decide +kernel
theorem d_D_sizeWithSlipIn_22 : decode prog_1_method_27_code 22 = .ok (.getfield 53, 3) := by decide +kernel
theorem d_D_sizeWithSlipIn_25 : decode prog_1_method_27_code 25 = .ok (.iload_n 3, 1) := by decide +kernel
theorem d_D_sizeWithSlipIn_26 : decode prog_1_method_27_code 26 = .ok (.iaload, 1) := by decide +kernel
theorem d_D_sizeWithSlipIn_27 : decode prog_1_method_27_code 27 = .ok (.aload_n 0, 1) := by decide +kernel
theorem d_D_sizeWithSlipIn_28 : decode prog_1_method_27_code 28 = .ok (.getfield 49, 3) := by decide +kernel
theorem d_D_sizeWithSlipIn_31 : decode prog_1_method_27_code 31 = .ok (.iload_n 3, 1) := by decide +kernel
theorem d_D_sizeWithSlipIn_32 : decode prog_1_method_27_code 32 = .ok (.iaload, 1) := by decide +kernel
theorem d_D_sizeWithSlipIn_33 : decode prog_1_method_27_code 33 = .ok (.isub, 1) := by decide +kernel
theorem d_D_sizeWithSlipIn_34 : decode prog_1_method_27_code 34 = .ok (.isub, 1) := by decide +kernel
theorem d_D_sizeWithSlipIn_35 : decode prog_1_method_27_code 35 = .ok (.istore_n 2, 1) := by decide +kernel
theorem d_D_sizeWithSlipIn_36 : decode prog_1_method_27_code 36 = .ok (.iinc 3 1, 3) := by decide +kernel
theorem d_D_sizeWithSlipIn_39 : decode prog_1_method_27_code 39 = .ok (.goto (-24), 3) := by decide +kernel
theorem d_D_type_0 : decode prog_1_method_2_code 0 = .ok (.iload_n 1, 1) := by decide +kernel
theorem d_D_type_1 : decode prog_1_method_2_code 1 = .ok (.bipush 10, 2) := by decide +kernel
theorem d_D_type_3 : decode prog_1_method_2_code 3 = .ok (.if_icmp .eq 15, 3) := by decide +kernel
theorem d_D_type_6 : decode prog_1_method_2_code 6 = .ok (.iload_n 1, 1) := by decide +kernel
theorem d_D_type_7 : decode prog_1_method_2_code 7 = .ok (.bipush 32, 2) := by decide +kernel
theorem d_D_type_9 : decode prog_1_method_2_code 9 = .ok (.if_icmp .lt 13, 3) := by decide +kernel
theorem d_D_type_12 : decode prog_1_method_2_code 12 = .ok (.iload_n 1, 1) := by decide +kernel
theorem d_D_type_13 : decode prog_1_method_2_code 13 = .ok (.bipush 126, 2) := by decide +kernel
theorem d_D_type_15 : decode prog_1_method_2_code 15 = .ok (.if_icmp .gt 7, 3) := by decide +kernel
theorem d_D_type_18 : decode prog_1_method_2_code 18 = .ok (.iconst 1, 1) := by decide +kernel
theorem d_D_type_19 : decode prog_1_method_2_code 19 = .ok (.goto 4, 3) := by decide +kernel
theorem d_D_type_22 : decode prog_1_method_2_code 22 = .ok (.iconst 0, 1) := by decide +kernel
theorem d_D_type_23 : decode prog_1_method_2_code 23 = .ok (.istore_n 2, 1) := by decide +kernel
theorem d_D_type_24 : decode prog_1_method_2_code 24 = .ok (.iload_n 2, 1) := by decide +kernel
theorem d_D_type_25 : decode prog_1_method_2_code 25 = .ok (.ifCond .eq 12, 3) := by decide +kernel
theorem d_D_type_28 : decode prog_1_method_2_code 28 = .ok (.aload_n 0, 1) := by decide +kernel
theorem d_D_type_29 : decode prog_1_method_2_code 29 = .ok (.getfield 56, 3) := by decide +kernel
theorem d_D_type_32 : decode prog_1_method_2_code 32 = .ok (.bipush 24, 2) := by decide +kernel
theorem d_D_type_34 : decode prog_1_method_2_code 34 = .ok (.if_icmp .ne 5, 3) := by decide +kernel
theorem d_D_type_39 : decode prog_1_method_2_code 39 = .ok (.aload_n 0, 1) := by decide +kernel
theorem d_D_type_40 : decode prog_1_method_2_code 40 = .ok (.getfield 9, 3) := by decide +kernel
theorem d_D_type_43 : decode prog_1_method_2_code 43 = .ok (.aload_n 0, 1) := by decide +kernel
theorem d_D_type_44 : decode prog_1_method_2_code 44 = .ok (.getfield 56, 3) := by decide +kernel
theorem d_D_type_47 : decode prog_1_method_2_code 47 = .ok (.iload_n 1, 1) := by decide +kernel
theorem d_D_type_48 : decode prog_1_method_2_code 48 = .ok (.castore, 1) := by decide +kernel
theorem d_D_type_49 : decode prog_1_method_2_code 49 = .ok (.aload_n 0, 1) := by decide +kernel
theorem d_D_type_50 : decode prog_1_method_2_code 50 = .ok (.dup, 1) := by decide +kernel
theorem d_D_type_51 : decode prog_1_method_2_code 51 = .ok (.getfield 56, 3) := by decide +kernel
theorem d_D_type_54 : decode prog_1_method_2_code 54 = .ok (.iconst 1, 1) := by decide +kernel
theorem d_D_type_55 : decode prog_1_method_2_code 55 = .ok (.iadd, 1) := by decide +kernel
theorem d_D_type_56 : decode prog_1_method_2_code 56 = .ok (.putfield 56, 3) := by decide +kernel
theorem d_D_type_59 : decode prog_1_method_2_code 59 = .ok (.iconst 1, 1) := by decide +kernel
theorem d_D_type_60 : decode prog_1_method_2_code 60 = .ok (.ireturn, 1) := by decide +kernel
theorem d_D_type_37 : decode prog_1_method_2_code 37 = .ok (.iconst 0, 1) := by decide +kernel
theorem d_D_type_38 : decode prog_1_method_2_code 38 = .ok (.ireturn, 1) := by decide +kernel
theorem d_D_undo_0 : decode prog_1_method_11_code 0 = .ok (.aload_n 0, 1) := by decide +kernel
theorem d_D_undo_1 : decode prog_1_method_11_code 1 = .ok (.getfield 15, 3) := by decide +kernel
theorem d_D_undo_4 : decode prog_1_method_11_code 4 = .ok (.aload_n 0, 1) := by decide +kernel
theorem d_D_undo_5 : decode prog_1_method_11_code 5 = .ok (.getfield 73, 3) := by decide +kernel
theorem d_D_undo_8 : decode prog_1_method_11_code 8 = .ok (.aaload, 1) := by decide +kernel
theorem d_D_undo_9 : decode prog_1_method_11_code 9 = .ok (.getfield 131, 3) := by decide +kernel
theorem d_D_undo_12 : decode prog_1_method_11_code 12 = .ok (.istore_n 1, 1) := by decide +kernel
theorem d_D_undo_13 : decode prog_1_method_11_code 13 = .ok (.iload_n 1, 1) := by decide +kernel
theorem d_D_undo_14 : decode prog_1_method_11_code 14 = .ok (.iconst (-1), 1) := by decide +kernel
theorem d_D_undo_15 : decode prog_1_method_11_code 15 = .ok (.if_icmp .ne 11, 3) := by decide +kernel
theorem d_D_undo_26 : decode prog_1_method_11_code 26 = .ok (.aload_n 0, 1) := by decide +kernel
theorem d_D_undo_27 : decode prog_1_method_11_code 27 = .ok (.iload_n 1, 1) := by decide +kernel
theorem d_D_undo_28 : decode prog_1_method_11_code 28 = .ok (.invokevirtual 134, 3) := by decide +kernel
theorem d_D_undo_31 : decode prog_1_method_11_code 31 = .ok (.aload_n 0, 1) := by decide +kernel
theorem d_D_undo_32 : decode prog_1_method_11_code 32 = .ok (.getfield 73, 3) := by decide +kernel
theorem d_D_undo_35 : decode prog_1_method_11_code 35 = .ok (.ireturn, 1) := by decide +kernel
theorem d_D_undo_18 : decode prog_1_method_11_code 18 = .ok (.new 111, 3) := by decide +kernel
theorem d_D_undo_21 : decode prog_1_method_11_code 21 = .ok (.dup, 1) := by decide +kernel
theorem d_D_undo_22 : decode prog_1_method_11_code 22 = .ok (.invokespecial 113, 3) := by decide +kernel
theorem d_D_undo_25 : decode prog_1_method_11_code 25 = .ok (.athrow, 1) := by decide +kernel
theorem d_D_wipe_0 : decode prog_1_method_3_code 0 = .ok (.aload_n 0, 1) := by decide +kernel
theorem d_D_wipe_1 : decode prog_1_method_3_code 1 = .ok (.getfield 56, 3) := by decide +kernel
theorem d_D_wipe_4 : decode prog_1_method_3_code 4 = .ok (.istore_n 1, 1) := by decide +kernel
theorem d_D_wipe_5 : decode prog_1_method_3_code 5 = .ok (.aload_n 0, 1) := by decide +kernel
theorem d_D_wipe_6 : decode prog_1_method_3_code 6 = .ok (.iconst 0, 1) := by decide +kernel
theorem d_D_wipe_7 : decode prog_1_method_3_code 7 = .ok (.putfield 56, 3) := by decide +kernel
theorem d_D_wipe_10 : decode prog_1_method_3_code 10 = .ok (.iload_n 1, 1) := by decide +kernel
theorem d_D_wipe_11 : decode prog_1_method_3_code 11 = .ok (.ireturn, 1) := by decide +kernel
theorem d_S_init_0 : decode prog_4_method_1_code 0 = .ok (.aload_n 0, 1) := by decide +kernel
theorem d_S_init_1 : decode prog_4_method_1_code 1 = .ok (.invokespecial 3, 3) := by decide +kernel
theorem d_S_init_4 : decode prog_4_method_1_code 4 = .ok (.aload_n 0, 1) := by decide +kernel
theorem d_S_init_5 : decode prog_4_method_1_code 5 = .ok (.aload_n 1, 1) := by decide +kernel
theorem d_S_init_6 : decode prog_4_method_1_code 6 = .ok (.putfield 9, 3) := by decide +kernel
theorem d_S_init_9 : decode prog_4_method_1_code 9 = .ok (.aload_n 0, 1) := by decide +kernel
theorem d_S_init_10 : decode prog_4_method_1_code 10 = .ok (.iload_n 2, 1) := by decide +kernel
theorem d_S_init_11 : decode prog_4_method_1_code 11 = .ok (.putfield 15, 3) := by decide +kernel
theorem d_S_init_14 : decode prog_4_method_1_code 14 = .ok (.aload_n 0, 1) := by decide +kernel
theorem d_S_init_15 : decode prog_4_method_1_code 15 = .ok (.iload_n 3, 1) := by decide +kernel
theorem d_S_init_16 : decode prog_4_method_1_code 16 = .ok (.putfield 19, 3) := by decide +kernel
theorem d_S_init_19 : decode prog_4_method_1_code 19 = .ok (.aload_n 0, 1) := by decide +kernel
theorem d_S_init_20 : decode prog_4_method_1_code 20 = .ok (.iconst (-1), 1) := by decide +kernel
theorem d_S_init_21 : decode prog_4_method_1_code 21 = .ok (.putfield 22, 3) := by decide +kernel
theorem d_S_init_24 : decode prog_4_method_1_code 24 = .ok (.return_, 1) := by decide +kernel
theorem d_D_erase_0 : decode prog_1_method_5_code 0 = .ok (.aload_n 0, 1) := by decide +kernel
theorem d_D_erase_1 : decode prog_1_method_5_code 1 = .ok (.invokevirtual 59, 3) := by decide +kernel
theorem d_D_erase_4 : decode prog_1_method_5_code 4 = .ok (.istore_n 2, 1) := by decide +kernel
theorem d_D_erase_5 : decode prog_1_method_5_code 5 = .ok (.aload_n 0, 1) := by decide +kernel
theorem d_D_erase_6 : decode prog_1_method_5_code 6 = .ok (.invokevirtual 63, 3) := by decide +kernel
theorem d_D_erase_9 : decode prog_1_method_5_code 9 = .ok (.istore_n 3, 1) := by decide +kernel
theorem d_D_erase_10 : decode prog_1_method_5_code 10 = .ok (.iload_n 2, 1) := by decide +kernel
theorem d_D_erase_11 : decode prog_1_method_5_code 11 = .ok (.iload_n 3, 1) := by decide +kernel
theorem d_D_erase_12 : decode prog_1_method_5_code 12 = .ok (.if_icmp .ne 21, 3) := by decide +kernel
theorem d_D_erase_15 : decode prog_1_method_5_code 15 = .ok (.iload_n 1, 1) := by decide +kernel
theorem d_D_erase_16 : decode prog_1_method_5_code 16 = .ok (.ifCond .ge 17, 3) := by decide +kernel
theorem d_D_erase_19 : decode prog_1_method_5_code 19 = .ok (.iconst 0, 1) := by decide +kernel
theorem d_D_erase_20 : decode prog_1_method_5_code 20 = .ok (.aload_n 0, 1) := by decide +kernel
theorem d_D_erase_21 : decode prog_1_method_5_code 21 = .ok (.getfield 76, 3) := by decide +kernel
theorem d_D_erase_24 : decode prog_1_method_5_code 24 = .ok (.iload_n 1, 1) := by decide +kernel
theorem d_D_erase_25 : decode prog_1_method_5_code 25 = .ok (.iadd, 1) := by decide +kernel
theorem d_D_erase_26 : decode prog_1_method_5_code 26 = .ok (.invokestatic 79, 3) := by decide +kernel
theorem d_D_erase_29 : decode prog_1_method_5_code 29 = .ok (.istore_n 2, 1) := by decide +kernel
theorem d_D_erase_30 : decode prog_1_method_5_code 30 = .ok (.goto 28, 3) := by decide +kernel
theorem d_D_erase_33 : decode prog_1_method_5_code 33 = .ok (.iload_n 2, 1) := by decide +kernel
theorem d_D_erase_34 : decode prog_1_method_5_code 34 = .ok (.iload_n 3, 1) := by decide +kernel
theorem d_D_erase_35 : decode prog_1_method_5_code 35 = .ok (.if_icmp .ne 23, 3) := by decide +kernel
theorem d_D_erase_38 : decode prog_1_method_5_code 38 = .ok (.aload_n 0, 1) := by decide +kernel
theorem d_D_erase_39 : decode prog_1_method_5_code 39 = .ok (.getfield 76, 3) := by decide +kernel
theorem d_D_erase_42 : decode prog_1_method_5_code 42 = .ok (.iload_n 1, 1) := by decide +kernel
theorem d_D_erase_43 : decode prog_1_method_5_code 43 = .ok (.aload_n 0, 1) := by decide +kernel
theorem d_D_erase_44 : decode prog_1_method_5_code 44 = .ok (.getfield 19, 3) := by decide +kernel
theorem d_D_erase_47 : decode prog_1_method_5_code 47 = .ok (.arraylength, 1) := by decide +kernel
theorem d_D_erase_48 : decode prog_1_method_5_code 48 = .ok (.aload_n 0, 1) := by decide +kernel
theorem d_D_erase_49 : decode prog_1_method_5_code 49 = .ok (.getfield 76, 3) := by decide +kernel
theorem d_D_erase_52 : decode prog_1_method_5_code 52 = .ok (.isub, 1) := by decide +kernel
theorem d_D_erase_53 : decode prog_1_method_5_code 53 = .ok (.invokestatic 85, 3) := by decide +kernel
theorem d_D_erase_56 : decode prog_1_method_5_code 56 = .ok (.iadd, 1) := by decide +kernel
theorem d_D_erase_57 : decode prog_1_method_5_code 57 = .ok (.istore_n 3, 1) := by decide +kernel
theorem d_D_erase_58 : decode prog_1_method_5_code 58 = .ok (.iload_n 2, 1) := by decide +kernel
theorem d_D_erase_59 : decode prog_1_method_5_code 59 = .ok (.iload_n 3, 1) := by decide +kernel
theorem d_D_erase_60 : decode prog_1_method_5_code 60 = .ok (.if_icmp .ge 27, 3) := by decide +kernel
theorem d_D_erase_63 : decode prog_1_method_5_code 63 = .ok (.aload_n 0, 1) := by decide +kernel
theorem d_D_erase_64 : decode prog_1_method_5_code 64 = .ok (.getfield 25, 3) := by decide +kernel
theorem d_D_erase_67 : decode prog_1_method_5_code 67 = .ok (.bipush 40, 2) := by decide +kernel
theorem d_D_erase_69 : decode prog_1_method_5_code 69 = .ok (.if_icmp .ne 11, 3) := by decide +kernel
theorem d_D_erase_72 : decode prog_1_method_5_code 72 = .ok (.new 66, 3) := by decide +kernel
theorem d_D_erase_75 : decode prog_1_method_5_code 75 = .ok (.dup, 1) := by decide +kernel
theorem d_D_erase_76 : decode prog_1_method_5_code 76 = .ok (.invokespecial 68, 3) := by decide +kernel
theorem d_D_erase_79 : decode prog_1_method_5_code 79 = .ok (.athrow, 1) := by decide +kernel
theorem d_D_erase_80 : decode prog_1_method_5_code 80 = .ok (.aload_n 0, 1) := by decide +kernel
theorem d_D_erase_81 : decode prog_1_method_5_code 81 = .ok (.iload_n 2, 1) := by decide +kernel
theorem d_D_erase_82 : decode prog_1_method_5_code 82 = .ok (.iload_n 3, 1) := by decide +kernel
theorem d_D_erase_83 : decode prog_1_method_5_code 83 = .ok (.iconst 0, 1) := by decide +kernel
theorem d_D_erase_84 : decode prog_1_method_5_code 84 = .ok (.invokevirtual 69, 3) := by decide +kernel
theorem d_D_erase_87 : decode prog_1_method_5_code 87 = .ok (.iload_n 3, 1) := by decide +kernel
theorem d_D_erase_88 : decode prog_1_method_5_code 88 = .ok (.iload_n 2, 1) := by decide +kernel
theorem d_D_erase_89 : decode prog_1_method_5_code 89 = .ok (.isub, 1) := by decide +kernel
theorem d_D_erase_90 : decode prog_1_method_5_code 90 = .ok (.ireturn, 1) := by decide +kernel
theorem d_D_exchange_0 : decode prog_1_method_25_code 0 = .ok (.aload_n 0, 1) := by decide +kernel
theorem d_D_exchange_1 : decode prog_1_method_25_code 1 = .ok (.getfield 19, 3) := by decide +kernel
theorem d_D_exchange_4 : decode prog_1_method_25_code 4 = .ok (.arraylength, 1) := by decide +kernel
theorem d_D_exchange_5 : decode prog_1_method_25_code 5 = .ok (.iload_n 2, 1) := by decide +kernel
theorem d_D_exchange_6 : decode prog_1_method_25_code 6 = .ok (.iload_n 1, 1) := by decide +kernel
theorem d_D_exchange_7 : decode prog_1_method_25_code 7 = .ok (.isub, 1) := by decide +kernel
theorem d_D_exchange_8 : decode prog_1_method_25_code 8 = .ok (.isub, 1) := by decide +kernel
theorem d_D_exchange_9 : decode prog_1_method_25_code 9 = .ok (.iload_n 3, 1) := by decide +kernel
