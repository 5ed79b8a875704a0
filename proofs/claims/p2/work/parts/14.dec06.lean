theorem d_D_collectMatches_42 : decode prog_1_method_26_code 42 = .ok (.getfield 53, 3) := by decide +kernel
theorem d_D_collectMatches_45 : decode prog_1_method_26_code 45 = .ok (.iload_n 2, 1) := by decide +kernel
theorem d_D_collectMatches_46 : decode prog_1_method_26_code 46 = .ok (.aload_n 0, 1) := by decide +kernel
theorem d_D_collectMatches_47 : decode prog_1_method_26_code 47 = .ok (.getfield 42, 3) := by decide +kernel
theorem d_D_collectMatches_50 : decode prog_1_method_26_code 50 = .ok (.getfield 117, 3) := by decide +kernel
theorem d_D_collectMatches_53 : decode prog_1_method_26_code 53 = .ok (.iastore, 1) := by decide +kernel
theorem d_D_collectMatches_54 : decode prog_1_method_26_code 54 = .ok (.aload_n 0, 1) := by decide +kernel
theorem d_D_collectMatches_55 : decode prog_1_method_26_code 55 = .ok (.getfield 42, 3) := by decide +kernel
theorem d_D_collectMatches_58 : decode prog_1_method_26_code 58 = .ok (.getfield 117, 3) := by decide +kernel
theorem d_D_collectMatches_61 : decode prog_1_method_26_code 61 = .ok (.istore_n 1, 1) := by decide +kernel
theorem d_D_collectMatches_62 : decode prog_1_method_26_code 62 = .ok (.iinc 2 1, 3) := by decide +kernel
theorem d_D_collectMatches_65 : decode prog_1_method_26_code 65 = .ok (.goto (-61), 3) := by decide +kernel
theorem d_D_collectMatches_26 : decode prog_1_method_26_code 26 = .ok (.iload_n 2, 1) := by decide +kernel
theorem d_D_collectMatches_27 : decode prog_1_method_26_code 27 = .ok (.ireturn, 1) := by decide +kernel
theorem d_D_compile_0 : decode prog_1_method_7_code 0 = .ok (.aload_n 0, 1) := by decide +kernel
theorem d_D_compile_1 : decode prog_1_method_7_code 1 = .ok (.aload_n 0, 1) := by decide +kernel
theorem d_D_compile_2 : decode prog_1_method_7_code 2 = .ok (.getfield 35, 3) := by decide +kernel
theorem d_D_compile_5 : decode prog_1_method_7_code 5 = .ok (.aload_n 0, 1) := by decide +kernel
theorem d_D_compile_6 : decode prog_1_method_7_code 6 = .ok (.getfield 9, 3) := by decide +kernel
theorem d_D_compile_9 : decode prog_1_method_7_code 9 = .ok (.aload_n 0, 1) := by decide +kernel
theorem d_D_compile_10 : decode prog_1_method_7_code 10 = .ok (.getfield 56, 3) := by decide +kernel
theorem d_D_compile_13 : decode prog_1_method_7_code 13 = .ok (.invokevirtual 92, 3) := by decide +kernel
theorem d_P_read_0 : decode prog_3_method_3_code 0 = .ok (.aload_n 0, 1) := by decide +kernel
theorem d_P_read_1 : decode prog_3_method_3_code 1 = .ok (.aload_n 1, 1) := by decide +kernel
theorem d_P_read_2 : decode prog_3_method_3_code 2 = .ok (.putfield 31, 3) := by decide +kernel
theorem d_P_read_5 : decode prog_3_method_3_code 5 = .ok (.aload_n 0, 1) := by decide +kernel
theorem d_P_read_6 : decode prog_3_method_3_code 6 = .ok (.iload_n 2, 1) := by decide +kernel
theorem d_P_read_7 : decode prog_3_method_3_code 7 = .ok (.putfield 35, 3) := by decide +kernel
theorem d_P_read_10 : decode prog_3_method_3_code 10 = .ok (.aload_n 0, 1) := by decide +kernel
theorem d_P_read_11 : decode prog_3_method_3_code 11 = .ok (.iconst 0, 1) := by decide +kernel
theorem d_P_read_12 : decode prog_3_method_3_code 12 = .ok (.putfield 39, 3) := by decide +kernel
theorem d_P_read_15 : decode prog_3_method_3_code 15 = .ok (.aload_n 0, 1) := by decide +kernel
theorem d_P_read_16 : decode prog_3_method_3_code 16 = .ok (.iconst (-1), 1) := by decide +kernel
theorem d_P_read_17 : decode prog_3_method_3_code 17 = .ok (.putfield 42, 3) := by decide +kernel
theorem d_P_read_20 : decode prog_3_method_3_code 20 = .ok (.aload_n 0, 1) := by decide +kernel
theorem d_P_read_21 : decode prog_3_method_3_code 21 = .ok (.getfield 27, 3) := by decide +kernel
theorem d_P_read_24 : decode prog_3_method_3_code 24 = .ok (.iconst 0, 1) := by decide +kernel
theorem d_P_read_25 : decode prog_3_method_3_code 25 = .ok (.putfield 45, 3) := by decide +kernel
theorem d_P_read_28 : decode prog_3_method_3_code 28 = .ok (.aload_n 0, 1) := by decide +kernel
theorem d_P_read_29 : decode prog_3_method_3_code 29 = .ok (.iconst 0, 1) := by decide +kernel
theorem d_P_read_30 : decode prog_3_method_3_code 30 = .ok (.putfield 46, 3) := by decide +kernel
theorem d_P_read_33 : decode prog_3_method_3_code 33 = .ok (.aload_n 0, 1) := by decide +kernel
theorem d_P_read_34 : decode prog_3_method_3_code 34 = .ok (.iconst (-1), 1) := by decide +kernel
theorem d_P_read_35 : decode prog_3_method_3_code 35 = .ok (.invokevirtual 49, 3) := by decide +kernel
theorem d_P_openChoice_0 : decode prog_3_method_12_code 0 = .ok (.aload_n 0, 1) := by decide +kernel
theorem d_P_openChoice_1 : decode prog_3_method_12_code 1 = .ok (.getfield 27, 3) := by decide +kernel
theorem d_P_openChoice_4 : decode prog_3_method_12_code 4 = .ok (.iconst 0, 1) := by decide +kernel
theorem d_P_openChoice_5 : decode prog_3_method_12_code 5 = .ok (.invokevirtual 113, 3) := by decide +kernel
theorem d_A_addNode_0 : decode prog_2_method_2_code 0 = .ok (.aload_n 0, 1) := by decide +kernel
theorem d_A_addNode_1 : decode prog_2_method_2_code 1 = .ok (.getfield 28, 3) := by decide +kernel
theorem d_A_addNode_4 : decode prog_2_method_2_code 4 = .ok (.istore_n 2, 1) := by decide +kernel
theorem d_A_addNode_5 : decode prog_2_method_2_code 5 = .ok (.aload_n 0, 1) := by decide +kernel
theorem d_A_addNode_6 : decode prog_2_method_2_code 6 = .ok (.getfield 11, 3) := by decide +kernel
theorem d_A_addNode_9 : decode prog_2_method_2_code 9 = .ok (.iload_n 2, 1) := by decide +kernel
theorem d_A_addNode_10 : decode prog_2_method_2_code 10 = .ok (.iload_n 1, 1) := by decide +kernel
theorem d_A_addNode_11 : decode prog_2_method_2_code 11 = .ok (.iastore, 1) := by decide +kernel
theorem d_A_addNode_12 : decode prog_2_method_2_code 12 = .ok (.aload_n 0, 1) := by decide +kernel
theorem d_A_addNode_13 : decode prog_2_method_2_code 13 = .ok (.getfield 15, 3) := by decide +kernel
theorem d_A_addNode_16 : decode prog_2_method_2_code 16 = .ok (.iload_n 2, 1) := by decide +kernel
theorem d_A_addNode_17 : decode prog_2_method_2_code 17 = .ok (.iconst (-1), 1) := by decide +kernel
theorem d_A_addNode_18 : decode prog_2_method_2_code 18 = .ok (.iastore, 1) := by decide +kernel
theorem d_A_addNode_19 : decode prog_2_method_2_code 19 = .ok (.aload_n 0, 1) := by decide +kernel
theorem d_A_addNode_20 : decode prog_2_method_2_code 20 = .ok (.getfield 18, 3) := by decide +kernel
theorem d_A_addNode_23 : decode prog_2_method_2_code 23 = .ok (.iload_n 2, 1) := by decide +kernel
theorem d_A_addNode_24 : decode prog_2_method_2_code 24 = .ok (.iconst (-1), 1) := by decide +kernel
theorem d_A_addNode_25 : decode prog_2_method_2_code 25 = .ok (.iastore, 1) := by decide +kernel
theorem d_A_addNode_26 : decode prog_2_method_2_code 26 = .ok (.aload_n 0, 1) := by decide +kernel
theorem d_A_addNode_27 : decode prog_2_method_2_code 27 = .ok (.getfield 21, 3) := by decide +kernel
theorem d_A_addNode_30 : decode prog_2_method_2_code 30 = .ok (.iload_n 2, 1) := by decide +kernel
theorem d_A_addNode_31 : decode prog_2_method_2_code 31 = .ok (.lconst 0, 1) := by decide +kernel
theorem d_A_addNode_32 : decode prog_2_method_2_code 32 = .ok (.lastore, 1) := by decide +kernel
theorem d_A_addNode_33 : decode prog_2_method_2_code 33 = .ok (.aload_n 0, 1) := by decide +kernel
theorem d_A_addNode_34 : decode prog_2_method_2_code 34 = .ok (.getfield 25, 3) := by decide +kernel
theorem d_A_addNode_37 : decode prog_2_method_2_code 37 = .ok (.iload_n 2, 1) := by decide +kernel
theorem d_A_addNode_38 : decode prog_2_method_2_code 38 = .ok (.lconst 0, 1) := by decide +kernel
theorem d_A_addNode_39 : decode prog_2_method_2_code 39 = .ok (.lastore, 1) := by decide +kernel
theorem d_A_addNode_40 : decode prog_2_method_2_code 40 = .ok (.aload_n 0, 1) := by decide +kernel
theorem d_A_addNode_41 : decode prog_2_method_2_code 41 = .ok (.dup, 1) := by decide +kernel
theorem d_A_addNode_42 : decode prog_2_method_2_code 42 = .ok (.getfield 28, 3) := by decide +kernel
theorem d_A_addNode_45 : decode prog_2_method_2_code 45 = .ok (.iconst 1, 1) := by decide +kernel
theorem d_A_addNode_46 : decode prog_2_method_2_code 46 = .ok (.iadd, 1) := by decide +kernel
theorem d_A_addNode_47 : decode prog_2_method_2_code 47 = .ok (.putfield 28, 3) := by decide +kernel
theorem d_A_addNode_50 : decode prog_2_method_2_code 50 = .ok (.iload_n 2, 1) := by decide +kernel
theorem d_A_addNode_51 : decode prog_2_method_2_code 51 = .ok (.ireturn, 1) := by decide +kernel
theorem d_P_openChoice_8 : decode prog_3_method_12_code 8 = .ok (.istore_n 2, 1) := by decide +kernel
theorem d_P_openChoice_9 : decode prog_3_method_12_code 9 = .ok (.aload_n 0, 1) := by decide +kernel
theorem d_P_openChoice_10 : decode prog_3_method_12_code 10 = .ok (.getfield 9, 3) := by decide +kernel
theorem d_P_openChoice_13 : decode prog_3_method_12_code 13 = .ok (.aload_n 0, 1) := by decide +kernel
theorem d_P_openChoice_14 : decode prog_3_method_12_code 14 = .ok (.getfield 46, 3) := by decide +kernel
theorem d_P_openChoice_17 : decode prog_3_method_12_code 17 = .ok (.iload_n 2, 1) := by decide +kernel
theorem d_P_openChoice_18 : decode prog_3_method_12_code 18 = .ok (.iastore, 1) := by decide +kernel
theorem d_P_openChoice_19 : decode prog_3_method_12_code 19 = .ok (.aload_n 0, 1) := by decide +kernel
theorem d_P_openChoice_20 : decode prog_3_method_12_code 20 = .ok (.getfield 15, 3) := by decide +kernel
theorem d_P_openChoice_23 : decode prog_3_method_12_code 23 = .ok (.aload_n 0, 1) := by decide +kernel
theorem d_P_openChoice_24 : decode prog_3_method_12_code 24 = .ok (.getfield 46, 3) := by decide +kernel
theorem d_P_openChoice_27 : decode prog_3_method_12_code 27 = .ok (.aload_n 0, 1) := by decide +kernel
theorem d_P_openChoice_28 : decode prog_3_method_12_code 28 = .ok (.getfield 27, 3) := by decide +kernel
theorem d_P_openChoice_31 : decode prog_3_method_12_code 31 = .ok (.iconst 0, 1) := by decide +kernel
theorem d_P_openChoice_32 : decode prog_3_method_12_code 32 = .ok (.invokevirtual 113, 3) := by decide +kernel
theorem d_P_openChoice_35 : decode prog_3_method_12_code 35 = .ok (.iastore, 1) := by decide +kernel
theorem d_P_openChoice_36 : decode prog_3_method_12_code 36 = .ok (.aload_n 0, 1) := by decide +kernel
theorem d_P_openChoice_37 : decode prog_3_method_12_code 37 = .ok (.getfield 21, 3) := by decide +kernel
theorem d_P_openChoice_40 : decode prog_3_method_12_code 40 = .ok (.aload_n 0, 1) := by decide +kernel
theorem d_P_openChoice_41 : decode prog_3_method_12_code 41 = .ok (.getfield 46, 3) := by decide +kernel
theorem d_P_openChoice_44 : decode prog_3_method_12_code 44 = .ok (.iload_n 1, 1) := by decide +kernel
theorem d_P_openChoice_45 : decode prog_3_method_12_code 45 = .ok (.iastore, 1) := by decide +kernel
theorem d_P_openChoice_46 : decode prog_3_method_12_code 46 = .ok (.aload_n 0, 1) := by decide +kernel
theorem d_P_openChoice_47 : decode prog_3_method_12_code 47 = .ok (.iload_n 2, 1) := by decide +kernel
theorem d_P_openChoice_48 : decode prog_3_method_12_code 48 = .ok (.invokevirtual 116, 3) := by decide +kernel
theorem d_P_beginRow_0 : decode prog_3_method_16_code 0 = .ok (.aload_n 0, 1) := by decide +kernel
theorem d_P_beginRow_1 : decode prog_3_method_16_code 1 = .ok (.getfield 18, 3) := by decide +kernel
theorem d_P_beginRow_4 : decode prog_3_method_16_code 4 = .ok (.aload_n 0, 1) := by decide +kernel
theorem d_P_beginRow_5 : decode prog_3_method_16_code 5 = .ok (.getfield 46, 3) := by decide +kernel
theorem d_P_beginRow_8 : decode prog_3_method_16_code 8 = .ok (.iload_n 1, 1) := by decide +kernel
theorem d_P_beginRow_9 : decode prog_3_method_16_code 9 = .ok (.iastore, 1) := by decide +kernel
theorem d_P_beginRow_10 : decode prog_3_method_16_code 10 = .ok (.aload_n 0, 1) := by decide +kernel
theorem d_P_beginRow_11 : decode prog_3_method_16_code 11 = .ok (.iconst (-1), 1) := by decide +kernel
theorem d_P_beginRow_12 : decode prog_3_method_16_code 12 = .ok (.putfield 126, 3) := by decide +kernel
theorem d_P_beginRow_15 : decode prog_3_method_16_code 15 = .ok (.aload_n 0, 1) := by decide +kernel
theorem d_P_beginRow_16 : decode prog_3_method_16_code 16 = .ok (.iconst (-1), 1) := by decide +kernel
theorem d_P_beginRow_17 : decode prog_3_method_16_code 17 = .ok (.putfield 129, 3) := by decide +kernel
theorem d_P_beginRow_20 : decode prog_3_method_16_code 20 = .ok (.aload_n 0, 1) := by decide +kernel
theorem d_P_beginRow_21 : decode prog_3_method_16_code 21 = .ok (.iload_n 1, 1) := by decide +kernel
theorem d_P_beginRow_22 : decode prog_3_method_16_code 22 = .ok (.putfield 62, 3) := by decide +kernel
theorem d_P_beginRow_25 : decode prog_3_method_16_code 25 = .ok (.return_, 1) := by decide +kernel
theorem d_P_openChoice_51 : decode prog_3_method_12_code 51 = .ok (.return_, 1) := by decide +kernel
theorem d_P_read_38 : decode prog_3_method_3_code 38 = .ok (.iconst 0, 1) := by decide +kernel
theorem d_P_read_39 : decode prog_3_method_3_code 39 = .ok (.istore_n 3, 1) := by decide +kernel
theorem d_P_read_40 : decode prog_3_method_3_code 40 = .ok (.iload_n 3, 1) := by decide +kernel
theorem d_P_read_41 : decode prog_3_method_3_code 41 = .ok (.aload_n 0, 1) := by decide +kernel
theorem d_P_read_42 : decode prog_3_method_3_code 42 = .ok (.getfield 35, 3) := by decide +kernel
theorem d_P_read_45 : decode prog_3_method_3_code 45 = .ok (.if_icmp .ge 32, 3) := by decide +kernel
theorem d_P_read_48 : decode prog_3_method_3_code 48 = .ok (.aload_n 0, 1) := by decide +kernel
theorem d_P_read_49 : decode prog_3_method_3_code 49 = .ok (.getfield 39, 3) := by decide +kernel
theorem d_P_read_52 : decode prog_3_method_3_code 52 = .ok (.aload_n 0, 1) := by decide +kernel
theorem d_P_read_53 : decode prog_3_method_3_code 53 = .ok (.getfield 35, 3) := by decide +kernel
theorem d_P_read_56 : decode prog_3_method_3_code 56 = .ok (.if_icmp .ge 21, 3) := by decide +kernel
theorem d_P_read_59 : decode prog_3_method_3_code 59 = .ok (.aload_n 0, 1) := by decide +kernel
theorem d_P_read_60 : decode prog_3_method_3_code 60 = .ok (.getfield 42, 3) := by decide +kernel
theorem d_P_read_63 : decode prog_3_method_3_code 63 = .ok (.iconst (-1), 1) := by decide +kernel
theorem d_P_read_64 : decode prog_3_method_3_code 64 = .ok (.if_icmp .ne 13, 3) := by decide +kernel
theorem d_P_read_67 : decode prog_3_method_3_code 67 = .ok (.aload_n 0, 1) := by decide +kernel
theorem d_P_read_68 : decode prog_3_method_3_code 68 = .ok (.invokevirtual 53, 3) := by decide +kernel
theorem d_P_readNext_0 : decode prog_3_method_5_code 0 = .ok (.aload_n 0, 1) := by decide +kernel
theorem d_P_readNext_1 : decode prog_3_method_5_code 1 = .ok (.getfield 31, 3) := by decide +kernel
theorem d_P_readNext_4 : decode prog_3_method_5_code 4 = .ok (.aload_n 0, 1) := by decide +kernel
theorem d_P_readNext_5 : decode prog_3_method_5_code 5 = .ok (.getfield 39, 3) := by decide +kernel
theorem d_P_readNext_8 : decode prog_3_method_5_code 8 = .ok (.caload, 1) := by decide +kernel
theorem d_P_readNext_9 : decode prog_3_method_5_code 9 = .ok (.istore_n 1, 1) := by decide +kernel
theorem d_P_readNext_10 : decode prog_3_method_5_code 10 = .ok (.iload_n 1, 1) := by decide +kernel
theorem d_P_readNext_11 : decode prog_3_method_5_code 11 = .ok (.lookupswitch 135 #[(40, 81), (41, 88), (42, 102), (43, 102), (63, 102), (91, 110), (92, 128), (93, 117), (124, 95)], 81) := by decide +kernel
theorem d_P_readNext_92 : decode prog_3_method_5_code 92 = .ok (.aload_n 0, 1) := by decide +kernel
theorem d_P_readNext_93 : decode prog_3_method_5_code 93 = .ok (.invokevirtual 71, 3) := by decide +kernel
theorem d_P_openGroup_0 : decode prog_3_method_13_code 0 = .ok (.aload_n 0, 1) := by decide +kernel
theorem d_P_openGroup_1 : decode prog_3_method_13_code 1 = .ok (.getfield 46, 3) := by decide +kernel
theorem d_P_openGroup_4 : decode prog_3_method_13_code 4 = .ok (.bipush 8, 2) := by decide +kernel
theorem d_P_openGroup_6 : decode prog_3_method_13_code 6 = .ok (.if_icmp .ne 12, 3) := by decide +kernel
theorem d_P_openGroup_18 : decode prog_3_method_13_code 18 = .ok (.aload_n 0, 1) := by decide +kernel
theorem d_P_openGroup_19 : decode prog_3_method_13_code 19 = .ok (.dup, 1) := by decide +kernel
theorem d_P_openGroup_20 : decode prog_3_method_13_code 20 = .ok (.getfield 46, 3) := by decide +kernel
theorem d_P_openGroup_23 : decode prog_3_method_13_code 23 = .ok (.iconst 1, 1) := by decide +kernel
theorem d_P_openGroup_24 : decode prog_3_method_13_code 24 = .ok (.iadd, 1) := by decide +kernel
theorem d_P_openGroup_25 : decode prog_3_method_13_code 25 = .ok (.putfield 46, 3) := by decide +kernel
theorem d_P_openGroup_28 : decode prog_3_method_13_code 28 = .ok (.aload_n 0, 1) := by decide +kernel
theorem d_P_openGroup_29 : decode prog_3_method_13_code 29 = .ok (.aload_n 0, 1) := by decide +kernel
theorem d_P_openGroup_30 : decode prog_3_method_13_code 30 = .ok (.getfield 62, 3) := by decide +kernel
theorem d_P_openGroup_33 : decode prog_3_method_13_code 33 = .ok (.invokevirtual 49, 3) := by decide +kernel
theorem d_P_openGroup_36 : decode prog_3_method_13_code 36 = .ok (.return_, 1) := by decide +kernel
theorem d_P_openGroup_9 : decode prog_3_method_13_code 9 = .ok (.aload_n 0, 1) := by decide +kernel
theorem d_P_openGroup_10 : decode prog_3_method_13_code 10 = .ok (.aload_n 0, 1) := by decide +kernel
theorem d_P_openGroup_11 : decode prog_3_method_13_code 11 = .ok (.getfield 39, 3) := by decide +kernel
theorem d_P_openGroup_14 : decode prog_3_method_13_code 14 = .ok (.putfield 42, 3) := by decide +kernel
theorem d_P_openGroup_17 : decode prog_3_method_13_code 17 = .ok (.return_, 1) := by decide +kernel
theorem d_P_readNext_96 : decode prog_3_method_5_code 96 = .ok (.goto 55, 3) := by decide +kernel
theorem d_P_readNext_99 : decode prog_3_method_5_code 99 = .ok (.aload_n 0, 1) := by decide +kernel
theorem d_P_readNext_100 : decode prog_3_method_5_code 100 = .ok (.invokevirtual 74, 3) := by decide +kernel
theorem d_P_closeGroup_0 : decode prog_3_method_14_code 0 = .ok (.aload_n 0, 1) := by decide +kernel
theorem d_P_closeGroup_1 : decode prog_3_method_14_code 1 = .ok (.getfield 46, 3) := by decide +kernel
theorem d_P_closeGroup_4 : decode prog_3_method_14_code 4 = .ok (.ifCond .ne 12, 3) := by decide +kernel
theorem d_P_closeGroup_16 : decode prog_3_method_14_code 16 = .ok (.aload_n 0, 1) := by decide +kernel
theorem d_P_closeGroup_17 : decode prog_3_method_14_code 17 = .ok (.getfield 9, 3) := by decide +kernel
theorem d_P_closeGroup_20 : decode prog_3_method_14_code 20 = .ok (.aload_n 0, 1) := by decide +kernel
theorem d_P_closeGroup_21 : decode prog_3_method_14_code 21 = .ok (.getfield 46, 3) := by decide +kernel
theorem d_P_closeGroup_24 : decode prog_3_method_14_code 24 = .ok (.iaload, 1) := by decide +kernel
theorem d_P_closeGroup_25 : decode prog_3_method_14_code 25 = .ok (.istore_n 1, 1) := by decide +kernel
theorem d_P_closeGroup_26 : decode prog_3_method_14_code 26 = .ok (.aload_n 0, 1) := by decide +kernel
theorem d_P_closeGroup_27 : decode prog_3_method_14_code 27 = .ok (.getfield 15, 3) := by decide +kernel
theorem d_P_closeGroup_30 : decode prog_3_method_14_code 30 = .ok (.aload_n 0, 1) := by decide +kernel
theorem d_P_closeGroup_31 : decode prog_3_method_14_code 31 = .ok (.getfield 46, 3) := by decide +kernel
theorem d_P_closeGroup_34 : decode prog_3_method_14_code 34 = .ok (.iaload, 1) := by decide +kernel
theorem d_P_closeGroup_35 : decode prog_3_method_14_code 35 = .ok (.istore_n 2, 1) := by decide +kernel
theorem d_P_closeGroup_36 : decode prog_3_method_14_code 36 = .ok (.aload_n 0, 1) := by decide +kernel
theorem d_P_closeGroup_37 : decode prog_3_method_14_code 37 = .ok (.getfield 27, 3) := by decide +kernel
theorem d_P_closeGroup_40 : decode prog_3_method_14_code 40 = .ok (.getfield 59, 3) := by decide +kernel
theorem d_P_closeGroup_43 : decode prog_3_method_14_code 43 = .ok (.aload_n 0, 1) := by decide +kernel
theorem d_P_closeGroup_44 : decode prog_3_method_14_code 44 = .ok (.getfield 62, 3) := by decide +kernel
theorem d_P_closeGroup_47 : decode prog_3_method_14_code 47 = .ok (.iload_n 2, 1) := by decide +kernel
theorem d_P_closeGroup_48 : decode prog_3_method_14_code 48 = .ok (.iastore, 1) := by decide +kernel
theorem d_P_closeGroup_49 : decode prog_3_method_14_code 49 = .ok (.aload_n 0, 1) := by decide +kernel
theorem d_P_closeGroup_50 : decode prog_3_method_14_code 50 = .ok (.aload_n 0, 1) := by decide +kernel
theorem d_P_closeGroup_51 : decode prog_3_method_14_code 51 = .ok (.getfield 21, 3) := by decide +kernel
theorem d_P_closeGroup_54 : decode prog_3_method_14_code 54 = .ok (.aload_n 0, 1) := by decide +kernel
theorem d_P_closeGroup_55 : decode prog_3_method_14_code 55 = .ok (.getfield 46, 3) := by decide +kernel
theorem d_P_closeGroup_58 : decode prog_3_method_14_code 58 = .ok (.iaload, 1) := by decide +kernel
theorem d_P_closeGroup_59 : decode prog_3_method_14_code 59 = .ok (.putfield 62, 3) := by decide +kernel
theorem d_P_closeGroup_62 : decode prog_3_method_14_code 62 = .ok (.aload_n 0, 1) := by decide +kernel
theorem d_P_closeGroup_63 : decode prog_3_method_14_code 63 = .ok (.dup, 1) := by decide +kernel
theorem d_P_closeGroup_64 : decode prog_3_method_14_code 64 = .ok (.getfield 46, 3) := by decide +kernel
theorem d_P_closeGroup_67 : decode prog_3_method_14_code 67 = .ok (.iconst 1, 1) := by decide +kernel
theorem d_P_closeGroup_68 : decode prog_3_method_14_code 68 = .ok (.isub, 1) := by decide +kernel
theorem d_P_closeGroup_69 : decode prog_3_method_14_code 69 = .ok (.putfield 46, 3) := by decide +kernel
theorem d_P_closeGroup_72 : decode prog_3_method_14_code 72 = .ok (.aload_n 0, 1) := by decide +kernel
theorem d_P_closeGroup_73 : decode prog_3_method_14_code 73 = .ok (.iload_n 1, 1) := by decide +kernel
theorem d_P_closeGroup_74 : decode prog_3_method_14_code 74 = .ok (.iload_n 2, 1) := by decide +kernel
theorem d_P_closeGroup_75 : decode prog_3_method_14_code 75 = .ok (.invokevirtual 119, 3) := by decide +kernel
theorem d_P_addPart_0 : decode prog_3_method_18_code 0 = .ok (.aload_n 0, 1) := by decide +kernel
theorem d_P_addPart_1 : decode prog_3_method_18_code 1 = .ok (.aload_n 0, 1) := by decide +kernel
theorem d_P_addPart_2 : decode prog_3_method_18_code 2 = .ok (.getfield 62, 3) := by decide +kernel
theorem d_P_addPart_5 : decode prog_3_method_18_code 5 = .ok (.putfield 126, 3) := by decide +kernel
theorem d_P_addPart_8 : decode prog_3_method_18_code 8 = .ok (.aload_n 0, 1) := by decide +kernel
theorem d_P_addPart_9 : decode prog_3_method_18_code 9 = .ok (.getfield 27, 3) := by decide +kernel
theorem d_P_addPart_12 : decode prog_3_method_18_code 12 = .ok (.getfield 59, 3) := by decide +kernel
theorem d_P_addPart_15 : decode prog_3_method_18_code 15 = .ok (.aload_n 0, 1) := by decide +kernel
theorem d_P_addPart_16 : decode prog_3_method_18_code 16 = .ok (.getfield 126, 3) := by decide +kernel
theorem d_P_addPart_19 : decode prog_3_method_18_code 19 = .ok (.iload_n 1, 1) := by decide +kernel
theorem d_P_addPart_20 : decode prog_3_method_18_code 20 = .ok (.iastore, 1) := by decide +kernel
theorem d_P_addPart_21 : decode prog_3_method_18_code 21 = .ok (.aload_n 0, 1) := by decide +kernel
theorem d_P_addPart_22 : decode prog_3_method_18_code 22 = .ok (.iload_n 1, 1) := by decide +kernel
theorem d_P_addPart_23 : decode prog_3_method_18_code 23 = .ok (.putfield 129, 3) := by decide +kernel
theorem d_P_addPart_26 : decode prog_3_method_18_code 26 = .ok (.aload_n 0, 1) := by decide +kernel
theorem d_P_addPart_27 : decode prog_3_method_18_code 27 = .ok (.iload_n 2, 1) := by decide +kernel
theorem d_P_addPart_28 : decode prog_3_method_18_code 28 = .ok (.putfield 62, 3) := by decide +kernel
theorem d_P_addPart_31 : decode prog_3_method_18_code 31 = .ok (.return_, 1) := by decide +kernel
theorem d_P_closeGroup_78 : decode prog_3_method_14_code 78 = .ok (.return_, 1) := by decide +kernel
theorem d_P_closeGroup_7 : decode prog_3_method_14_code 7 = .ok (.aload_n 0, 1) := by decide +kernel
theorem d_P_closeGroup_8 : decode prog_3_method_14_code 8 = .ok (.aload_n 0, 1) := by decide +kernel
theorem d_P_closeGroup_9 : decode prog_3_method_14_code 9 = .ok (.getfield 39, 3) := by decide +kernel
theorem d_P_closeGroup_12 : decode prog_3_method_14_code 12 = .ok (.putfield 42, 3) := by decide +kernel
theorem d_P_closeGroup_15 : decode prog_3_method_14_code 15 = .ok (.return_, 1) := by decide +kernel
theorem d_P_readNext_103 : decode prog_3_method_5_code 103 = .ok (.goto 48, 3) := by decide +kernel
theorem d_P_readNext_113 : decode prog_3_method_5_code 113 = .ok (.aload_n 0, 1) := by decide +kernel
theorem d_P_readNext_114 : decode prog_3_method_5_code 114 = .ok (.iload_n 1, 1) := by decide +kernel
theorem d_P_readNext_115 : decode prog_3_method_5_code 115 = .ok (.invokevirtual 80, 3) := by decide +kernel
theorem d_P_repeatPart_0 : decode prog_3_method_19_code 0 = .ok (.aload_n 0, 1) := by decide +kernel
theorem d_P_repeatPart_1 : decode prog_3_method_19_code 1 = .ok (.getfield 129, 3) := by decide +kernel
theorem d_P_repeatPart_4 : decode prog_3_method_19_code 4 = .ok (.iconst (-1), 1) := by decide +kernel
theorem d_P_repeatPart_5 : decode prog_3_method_19_code 5 = .ok (.if_icmp .ne 12, 3) := by decide +kernel
theorem d_P_repeatPart_17 : decode prog_3_method_19_code 17 = .ok (.aload_n 0, 1) := by decide +kernel
theorem d_P_repeatPart_18 : decode prog_3_method_19_code 18 = .ok (.getfield 27, 3) := by decide +kernel
theorem d_P_repeatPart_21 : decode prog_3_method_19_code 21 = .ok (.iconst 0, 1) := by decide +kernel
theorem d_P_repeatPart_22 : decode prog_3_method_19_code 22 = .ok (.invokevirtual 113, 3) := by decide +kernel
theorem d_P_repeatPart_25 : decode prog_3_method_19_code 25 = .ok (.istore_n 2, 1) := by decide +kernel
theorem d_P_repeatPart_26 : decode prog_3_method_19_code 26 = .ok (.aload_n 0, 1) := by decide +kernel
theorem d_P_repeatPart_27 : decode prog_3_method_19_code 27 = .ok (.getfield 27, 3) := by decide +kernel
theorem d_P_repeatPart_30 : decode prog_3_method_19_code 30 = .ok (.getfield 123, 3) := by decide +kernel
theorem d_P_repeatPart_33 : decode prog_3_method_19_code 33 = .ok (.iload_n 2, 1) := by decide +kernel
theorem d_P_repeatPart_34 : decode prog_3_method_19_code 34 = .ok (.aload_n 0, 1) := by decide +kernel
theorem d_P_repeatPart_35 : decode prog_3_method_19_code 35 = .ok (.getfield 129, 3) := by decide +kernel
theorem d_P_repeatPart_38 : decode prog_3_method_19_code 38 = .ok (.iastore, 1) := by decide +kernel
theorem d_P_repeatPart_39 : decode prog_3_method_19_code 39 = .ok (.iload_n 2, 1) := by decide +kernel
theorem d_P_repeatPart_40 : decode prog_3_method_19_code 40 = .ok (.istore_n 3, 1) := by decide +kernel
theorem d_P_repeatPart_41 : decode prog_3_method_19_code 41 = .ok (.iload_n 1, 1) := by decide +kernel
theorem d_P_repeatPart_42 : decode prog_3_method_19_code 42 = .ok (.bipush 63, 2) := by decide +kernel
theorem d_P_repeatPart_44 : decode prog_3_method_19_code 44 = .ok (.if_icmp .ne 22, 3) := by decide +kernel
theorem d_P_repeatPart_47 : decode prog_3_method_19_code 47 = .ok (.aload_n 0, 1) := by decide +kernel
theorem d_P_repeatPart_48 : decode prog_3_method_19_code 48 = .ok (.getfield 27, 3) := by decide +kernel
theorem d_P_repeatPart_51 : decode prog_3_method_19_code 51 = .ok (.iconst 0, 1) := by decide +kernel
theorem d_P_repeatPart_52 : decode prog_3_method_19_code 52 = .ok (.invokevirtual 113, 3) := by decide +kernel
theorem d_P_repeatPart_55 : decode prog_3_method_19_code 55 = .ok (.istore_n 3, 1) := by decide +kernel
theorem d_P_repeatPart_56 : decode prog_3_method_19_code 56 = .ok (.aload_n 0, 1) := by decide +kernel
theorem d_P_repeatPart_57 : decode prog_3_method_19_code 57 = .ok (.getfield 27, 3) := by decide +kernel
theorem d_P_repeatPart_60 : decode prog_3_method_19_code 60 = .ok (.getfield 59, 3) := by decide +kernel
theorem d_P_repeatPart_63 : decode prog_3_method_19_code 63 = .ok (.iload_n 2, 1) := by decide +kernel
theorem d_P_repeatPart_64 : decode prog_3_method_19_code 64 = .ok (.iload_n 3, 1) := by decide +kernel
theorem d_P_repeatPart_65 : decode prog_3_method_19_code 65 = .ok (.iastore, 1) := by decide +kernel
theorem d_P_repeatPart_8 : decode prog_3_method_19_code 8 = .ok (.aload_n 0, 1) := by decide +kernel
theorem d_P_repeatPart_9 : decode prog_3_method_19_code 9 = .ok (.aload_n 0, 1) := by decide +kernel
theorem d_P_repeatPart_10 : decode prog_3_method_19_code 10 = .ok (.getfield 39, 3) := by decide +kernel
theorem d_P_repeatPart_13 : decode prog_3_method_19_code 13 = .ok (.putfield 42, 3) := by decide +kernel
theorem d_P_repeatPart_16 : decode prog_3_method_19_code 16 = .ok (.return_, 1) := by decide +kernel
theorem d_P_repeatPart_66 : decode prog_3_method_19_code 66 = .ok (.aload_n 0, 1) := by decide +kernel
theorem d_P_repeatPart_67 : decode prog_3_method_19_code 67 = .ok (.getfield 27, 3) := by decide +kernel
theorem d_P_repeatPart_70 : decode prog_3_method_19_code 70 = .ok (.getfield 59, 3) := by decide +kernel
theorem d_P_repeatPart_73 : decode prog_3_method_19_code 73 = .ok (.aload_n 0, 1) := by decide +kernel
theorem d_P_repeatPart_74 : decode prog_3_method_19_code 74 = .ok (.getfield 62, 3) := by decide +kernel
theorem d_P_repeatPart_77 : decode prog_3_method_19_code 77 = .ok (.iload_n 3, 1) := by decide +kernel
theorem d_P_repeatPart_78 : decode prog_3_method_19_code 78 = .ok (.iastore, 1) := by decide +kernel
theorem d_P_repeatPart_79 : decode prog_3_method_19_code 79 = .ok (.aload_n 0, 1) := by decide +kernel
theorem d_P_repeatPart_80 : decode prog_3_method_19_code 80 = .ok (.iload_n 3, 1) := by decide +kernel
theorem d_P_repeatPart_81 : decode prog_3_method_19_code 81 = .ok (.putfield 62, 3) := by decide +kernel
theorem d_P_repeatPart_84 : decode prog_3_method_19_code 84 = .ok (.iload_n 1, 1) := by decide +kernel
theorem d_P_repeatPart_85 : decode prog_3_method_19_code 85 = .ok (.bipush 43, 2) := by decide +kernel
theorem d_P_repeatPart_87 : decode prog_3_method_19_code 87 = .ok (.if_icmp .eq 21, 3) := by decide +kernel
theorem d_P_repeatPart_90 : decode prog_3_method_19_code 90 = .ok (.aload_n 0, 1) := by decide +kernel
theorem d_P_repeatPart_91 : decode prog_3_method_19_code 91 = .ok (.getfield 27, 3) := by decide +kernel
theorem d_P_repeatPart_94 : decode prog_3_method_19_code 94 = .ok (.getfield 59, 3) := by decide +kernel
theorem d_P_repeatPart_97 : decode prog_3_method_19_code 97 = .ok (.aload_n 0, 1) := by decide +kernel
theorem d_P_repeatPart_98 : decode prog_3_method_19_code 98 = .ok (.getfield 126, 3) := by decide +kernel
theorem d_P_repeatPart_101 : decode prog_3_method_19_code 101 = .ok (.iload_n 2, 1) := by decide +kernel
theorem d_P_repeatPart_102 : decode prog_3_method_19_code 102 = .ok (.iastore, 1) := by decide +kernel
theorem d_P_repeatPart_103 : decode prog_3_method_19_code 103 = .ok (.aload_n 0, 1) := by decide +kernel
theorem d_P_repeatPart_104 : decode prog_3_method_19_code 104 = .ok (.iload_n 2, 1) := by decide +kernel
theorem d_P_repeatPart_105 : decode prog_3_method_19_code 105 = .ok (.putfield 129, 3) := by decide +kernel
theorem d_P_repeatPart_108 : decode prog_3_method_19_code 108 = .ok (.return_, 1) := by decide +kernel
theorem d_P_readNext_118 : decode prog_3_method_5_code 118 = .ok (.goto 33, 3) := by decide +kernel
theorem d_P_readNext_121 : decode prog_3_method_5_code 121 = .ok (.aload_n 0, 1) := by decide +kernel
theorem d_P_readNext_122 : decode prog_3_method_5_code 122 = .ok (.invokevirtual 84, 3) := by decide +kernel
theorem d_P_readSet_0 : decode prog_3_method_10_code 0 = .ok (.aload_n 0, 1) := by decide +kernel
theorem d_P_readSet_1 : decode prog_3_method_10_code 1 = .ok (.getfield 39, 3) := by decide +kernel
theorem d_P_readSet_4 : decode prog_3_method_10_code 4 = .ok (.iconst 1, 1) := by decide +kernel
theorem d_P_readSet_5 : decode prog_3_method_10_code 5 = .ok (.iadd, 1) := by decide +kernel
theorem d_P_readSet_6 : decode prog_3_method_10_code 6 = .ok (.aload_n 0, 1) := by decide +kernel
theorem d_P_readSet_7 : decode prog_3_method_10_code 7 = .ok (.getfield 35, 3) := by decide +kernel
theorem d_P_readSet_10 : decode prog_3_method_10_code 10 = .ok (.if_icmp .ge 23, 3) := by decide +kernel
theorem d_P_readSet_13 : decode prog_3_method_10_code 13 = .ok (.aload_n 0, 1) := by decide +kernel
theorem d_P_readSet_14 : decode prog_3_method_10_code 14 = .ok (.getfield 31, 3) := by decide +kernel
theorem d_P_readSet_17 : decode prog_3_method_10_code 17 = .ok (.aload_n 0, 1) := by decide +kernel
theorem d_P_readSet_18 : decode prog_3_method_10_code 18 = .ok (.getfield 39, 3) := by decide +kernel
theorem d_P_readSet_21 : decode prog_3_method_10_code 21 = .ok (.iconst 1, 1) := by decide +kernel
theorem d_P_readSet_22 : decode prog_3_method_10_code 22 = .ok (.iadd, 1) := by decide +kernel
theorem d_P_readSet_23 : decode prog_3_method_10_code 23 = .ok (.caload, 1) := by decide +kernel
theorem d_P_readSet_24 : decode prog_3_method_10_code 24 = .ok (.bipush 94, 2) := by decide +kernel
theorem d_P_readSet_26 : decode prog_3_method_10_code 26 = .ok (.if_icmp .ne 7, 3) := by decide +kernel
theorem d_P_readSet_29 : decode prog_3_method_10_code 29 = .ok (.iconst 1, 1) := by decide +kernel
theorem d_P_readSet_30 : decode prog_3_method_10_code 30 = .ok (.goto 4, 3) := by decide +kernel
theorem d_P_readSet_33 : decode prog_3_method_10_code 33 = .ok (.iconst 0, 1) := by decide +kernel
theorem d_P_readSet_34 : decode prog_3_method_10_code 34 = .ok (.istore_n 1, 1) := by decide +kernel
theorem d_P_readSet_35 : decode prog_3_method_10_code 35 = .ok (.aload_n 0, 1) := by decide +kernel
theorem d_P_readSet_36 : decode prog_3_method_10_code 36 = .ok (.dup, 1) := by decide +kernel
theorem d_P_readSet_37 : decode prog_3_method_10_code 37 = .ok (.getfield 39, 3) := by decide +kernel
theorem d_P_readSet_40 : decode prog_3_method_10_code 40 = .ok (.iload_n 1, 1) := by decide +kernel
theorem d_P_readSet_41 : decode prog_3_method_10_code 41 = .ok (.ifCond .eq 7, 3) := by decide +kernel
theorem d_P_readSet_48 : decode prog_3_method_10_code 48 = .ok (.iconst 1, 1) := by decide +kernel
theorem d_P_readSet_44 : decode prog_3_method_10_code 44 = .ok (.iconst 2, 1) := by decide +kernel
theorem d_P_readSet_45 : decode prog_3_method_10_code 45 = .ok (.goto 4, 3) := by decide +kernel
theorem d_P_readSet_49 : decode prog_3_method_10_code 49 = .ok (.iadd, 1) := by decide +kernel
theorem d_P_readSet_50 : decode prog_3_method_10_code 50 = .ok (.putfield 39, 3) := by decide +kernel
theorem d_P_readSet_53 : decode prog_3_method_10_code 53 = .ok (.aload_n 0, 1) := by decide +kernel
theorem d_P_readSet_54 : decode prog_3_method_10_code 54 = .ok (.getfield 39, 3) := by decide +kernel
theorem d_P_readSet_57 : decode prog_3_method_10_code 57 = .ok (.istore_n 2, 1) := by decide +kernel
theorem d_P_readSet_58 : decode prog_3_method_10_code 58 = .ok (.aload_n 0, 1) := by decide +kernel
theorem d_P_readSet_59 : decode prog_3_method_10_code 59 = .ok (.iconst 1, 1) := by decide +kernel
theorem d_P_readSet_60 : decode prog_3_method_10_code 60 = .ok (.invokevirtual 93, 3) := by decide +kernel
theorem d_P_addNodeAsPart_0 : decode prog_3_method_17_code 0 = .ok (.aload_n 0, 1) := by decide +kernel
theorem d_P_addNodeAsPart_1 : decode prog_3_method_17_code 1 = .ok (.getfield 27, 3) := by decide +kernel
theorem d_P_addNodeAsPart_4 : decode prog_3_method_17_code 4 = .ok (.iload_n 1, 1) := by decide +kernel
theorem d_P_addNodeAsPart_5 : decode prog_3_method_17_code 5 = .ok (.invokevirtual 113, 3) := by decide +kernel
theorem d_P_addNodeAsPart_8 : decode prog_3_method_17_code 8 = .ok (.istore_n 2, 1) := by decide +kernel
theorem d_P_addNodeAsPart_9 : decode prog_3_method_17_code 9 = .ok (.aload_n 0, 1) := by decide +kernel
theorem d_P_addNodeAsPart_10 : decode prog_3_method_17_code 10 = .ok (.iload_n 2, 1) := by decide +kernel
theorem d_P_addNodeAsPart_11 : decode prog_3_method_17_code 11 = .ok (.iload_n 2, 1) := by decide +kernel
theorem d_P_addNodeAsPart_12 : decode prog_3_method_17_code 12 = .ok (.invokevirtual 119, 3) := by decide +kernel
theorem d_P_addNodeAsPart_15 : decode prog_3_method_17_code 15 = .ok (.iload_n 2, 1) := by decide +kernel
theorem d_P_addNodeAsPart_16 : decode prog_3_method_17_code 16 = .ok (.ireturn, 1) := by decide +kernel
theorem d_P_readSet_63 : decode prog_3_method_10_code 63 = .ok (.istore_n 3, 1) := by decide +kernel
theorem d_P_readSet_64 : decode prog_3_method_10_code 64 = .ok (.iconst 0, 1) := by decide +kernel
theorem d_P_readSet_65 : decode prog_3_method_10_code 65 = .ok (.istore 4, 2) := by decide +kernel
theorem d_P_readSet_67 : decode prog_3_method_10_code 67 = .ok (.iload 4, 2) := by decide +kernel
theorem d_P_readSet_69 : decode prog_3_method_10_code 69 = .ok (.aload_n 0, 1) := by decide +kernel
theorem d_P_readSet_70 : decode prog_3_method_10_code 70 = .ok (.getfield 35, 3) := by decide +kernel
theorem d_P_readSet_73 : decode prog_3_method_10_code 73 = .ok (.if_icmp .ge 39, 3) := by decide +kernel
theorem d_P_readSet_76 : decode prog_3_method_10_code 76 = .ok (.aload_n 0, 1) := by decide +kernel
theorem d_P_readSet_77 : decode prog_3_method_10_code 77 = .ok (.getfield 39, 3) := by decide +kernel
theorem d_P_readSet_80 : decode prog_3_method_10_code 80 = .ok (.aload_n 0, 1) := by decide +kernel
theorem d_P_readSet_81 : decode prog_3_method_10_code 81 = .ok (.getfield 35, 3) := by decide +kernel
theorem d_P_readSet_84 : decode prog_3_method_10_code 84 = .ok (.if_icmp .ge 28, 3) := by decide +kernel
theorem d_P_readSet_87 : decode prog_3_method_10_code 87 = .ok (.aload_n 0, 1) := by decide +kernel
theorem d_P_readSet_88 : decode prog_3_method_10_code 88 = .ok (.getfield 31, 3) := by decide +kernel
theorem d_P_readSet_91 : decode prog_3_method_10_code 91 = .ok (.aload_n 0, 1) := by decide +kernel
theorem d_P_readSet_92 : decode prog_3_method_10_code 92 = .ok (.getfield 39, 3) := by decide +kernel
theorem d_P_readSet_95 : decode prog_3_method_10_code 95 = .ok (.caload, 1) := by decide +kernel
theorem d_P_readSet_96 : decode prog_3_method_10_code 96 = .ok (.bipush 93, 2) := by decide +kernel
theorem d_P_readSet_98 : decode prog_3_method_10_code 98 = .ok (.if_icmp .eq 14, 3) := by decide +kernel
theorem d_P_readSet_101 : decode prog_3_method_10_code 101 = .ok (.aload_n 0, 1) := by decide +kernel
theorem d_P_readSet_102 : decode prog_3_method_10_code 102 = .ok (.iload_n 3, 1) := by decide +kernel
theorem d_P_readSet_103 : decode prog_3_method_10_code 103 = .ok (.invokevirtual 110, 3) := by decide +kernel
theorem d_P_readRange_0 : decode prog_3_method_11_code 0 = .ok (.aload_n 0, 1) := by decide +kernel
theorem d_P_readRange_1 : decode prog_3_method_11_code 1 = .ok (.getfield 31, 3) := by decide +kernel
theorem d_P_readRange_4 : decode prog_3_method_11_code 4 = .ok (.aload_n 0, 1) := by decide +kernel
theorem d_P_readRange_5 : decode prog_3_method_11_code 5 = .ok (.getfield 39, 3) := by decide +kernel
theorem d_P_readRange_8 : decode prog_3_method_11_code 8 = .ok (.caload, 1) := by decide +kernel
theorem d_P_readRange_9 : decode prog_3_method_11_code 9 = .ok (.istore_n 2, 1) := by decide +kernel
theorem d_P_readRange_10 : decode prog_3_method_11_code 10 = .ok (.aload_n 0, 1) := by decide +kernel
theorem d_P_readRange_11 : decode prog_3_method_11_code 11 = .ok (.getfield 39, 3) := by decide +kernel
theorem d_P_readRange_14 : decode prog_3_method_11_code 14 = .ok (.iconst 2, 1) := by decide +kernel
theorem d_P_readRange_15 : decode prog_3_method_11_code 15 = .ok (.iadd, 1) := by decide +kernel
theorem d_P_readRange_16 : decode prog_3_method_11_code 16 = .ok (.aload_n 0, 1) := by decide +kernel
theorem d_P_readRange_17 : decode prog_3_method_11_code 17 = .ok (.getfield 35, 3) := by decide +kernel
theorem d_P_readRange_20 : decode prog_3_method_11_code 20 = .ok (.if_icmp .ge 54, 3) := by decide +kernel
theorem d_P_readRange_23 : decode prog_3_method_11_code 23 = .ok (.aload_n 0, 1) := by decide +kernel
theorem d_P_readRange_24 : decode prog_3_method_11_code 24 = .ok (.getfield 31, 3) := by decide +kernel
theorem d_P_readRange_27 : decode prog_3_method_11_code 27 = .ok (.aload_n 0, 1) := by decide +kernel
theorem d_P_readRange_28 : decode prog_3_method_11_code 28 = .ok (.getfield 39, 3) := by decide +kernel
theorem d_P_readRange_31 : decode prog_3_method_11_code 31 = .ok (.iconst 1, 1) := by decide +kernel
theorem d_P_readRange_32 : decode prog_3_method_11_code 32 = .ok (.iadd, 1) := by decide +kernel
theorem d_P_readRange_33 : decode prog_3_method_11_code 33 = .ok (.caload, 1) := by decide +kernel
theorem d_P_readRange_34 : decode prog_3_method_11_code 34 = .ok (.bipush 45, 2) := by decide +kernel
theorem d_P_readRange_36 : decode prog_3_method_11_code 36 = .ok (.if_icmp .ne 38, 3) := by decide +kernel
theorem d_P_readRange_39 : decode prog_3_method_11_code 39 = .ok (.aload_n 0, 1) := by decide +kernel
theorem d_P_readRange_40 : decode prog_3_method_11_code 40 = .ok (.getfield 31, 3) := by decide +kernel
