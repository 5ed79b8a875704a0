theorem d_A_addNode_11 : decode prog_2_method_2_code 11 = .ok (.iastore, 1) := by decide +kernel
theorem d_A_addNode_12 : decode prog_2_method_2_code 12 = .ok (.aload_n 0, 1) := by decide +kernel
theorem d_A_addNode_13 : decode prog_2_method_2_code 13 = .ok (.getfield 15, 3) := by decide +kernel
theorem d_A_addNode_16 : decode prog_2_method_2_code 16 = .ok (.iload_n 2, 1) := by decide +kernel
theorem d_A_addNode_17 : decode prog_2_method_2_code 17 = .ok (.iconst (-1), 1) := by decide +kernel
theorem d_A_addNode_18 : decode prog_2_method_2_code 18 = .ok (.iastore, 1) := by decide +kernel
theorem d_A_addNode_19 : decode prog_2_method_2_code 19 = .ok (.aload_n 0, 1) := by decide +kernel
theorem d_A_addNode_20 : decode prog_2_method_2_code 20 = .ok (.getfield 18, 3) := by decide +kernel
theorem d_A_addNode_23 : decode prog_2_method_2_code 23 = .ok (.iload_n 2, 1) := by decide +kernel
theorem d_A_addNode_24 : decode prog_2_method_2_code 24 = .ok (.iconst (-1), 1) := by decide +kernel
theorem d_A_addNode_25 : decode prog_2_method_2_code 25 = .ok (.iastore, 1) := by decide +kernel
theorem d_A_addNode_26 : decode prog_2_method_2_code 26 = .ok (.aload_n 0, 1) := by decide +kernel
theorem d_A_addNode_27 : decode prog_2_method_2_code 27 = .ok (.getfield 21, 3) := by decide +kernel
theorem d_A_addNode_30 : decode prog_2_method_2_code 30 = .ok (.iload_n 2, 1) := by decide +kernel
theorem d_A_addNode_31 : decode prog_2_method_2_code 31 = .ok (.lconst 0, 1) := by decide +kernel
theorem d_A_addNode_32 : decode prog_2_method_2_code 32 = .ok (.lastore, 1) := by decide +kernel
theorem d_A_addNode_33 : decode prog_2_method_2_code 33 = .ok (.aload_n 0, 1) := by decide +kernel
theorem d_A_addNode_34 : decode prog_2_method_2_code 34 = .ok (.getfield 25, 3) := by decide +kernel
theorem d_A_addNode_37 : decode prog_2_method_2_code 37 = .ok (.iload_n 2, 1) := by decide +kernel
theorem d_A_addNode_38 : decode prog_2_method_2_code 38 = .ok (.lconst 0, 1) := by decide +kernel
theorem d_A_addNode_39 : decode prog_2_method_2_code 39 = .ok (.lastore, 1) := by decide +kernel
theorem d_A_addNode_40 : decode prog_2_method_2_code 40 = .ok (.aload_n 0, 1) := by decide +kernel
theorem d_A_addNode_41 : decode prog_2_method_2_code 41 = .ok (.dup, 1) := by decide +kernel
theorem d_A_addNode_42 : decode prog_2_method_2_code 42 = .ok (.getfield 28, 3) := by decide +kernel
theorem d_A_addNode_45 : decode prog_2_method_2_code 45 = .ok (.iconst 1, 1) := by decide +kernel
theorem d_A_addNode_46 : decode prog_2_method_2_code 46 = .ok (.iadd, 1) := by decide +kernel
theorem d_A_addNode_47 : decode prog_2_method_2_code 47 = .ok (.putfield 28, 3) := by decide +kernel
theorem d_A_addNode_50 : decode prog_2_method_2_code 50 = .ok (.iload_n 2, 1) := by decide +kernel
theorem d_A_addNode_51 : decode prog_2_method_2_code 51 = .ok (.ireturn, 1) := by decide +kernel
theorem d_P_openChoice_8 : decode prog_3_method_12_code 8 = .ok (.istore_n 2, 1) := by decide +kernel
theorem d_P_openChoice_9 : decode prog_3_method_12_code 9 = .ok (.aload_n 0, 1) := by decide +kernel
theorem d_P_openChoice_10 : decode prog_3_method_12_code 10 = .ok (.getfield 9, 3) := by decide +kernel
theorem d_P_openChoice_13 : decode prog_3_method_12_code 13 = .ok (.aload_n 0, 1) := by decide +kernel
theorem d_P_openChoice_14 : decode prog_3_method_12_code 14 = .ok (.getfield 46, 3) := by decide +kernel
theorem d_P_openChoice_17 : decode prog_3_method_12_code 17 = .ok (.iload_n 2, 1) := by decide +kernel
theorem d_P_openChoice_18 : decode prog_3_method_12_code 18 = .ok (.iastore, 1) := by decide +kernel
theorem d_P_openChoice_19 : decode prog_3_method_12_code 19 = .ok (.aload_n 0, 1) := by decide +kernel
theorem d_P_openChoice_20 : decode prog_3_method_12_code 20 = .ok (.getfield 15, 3) := by decide +kernel
theorem d_P_openChoice_23 : decode prog_3_method_12_code 23 = .ok (.aload_n 0, 1) := by decide +kernel
theorem d_P_openChoice_24 : decode prog_3_method_12_code 24 = .ok (.getfield 46, 3) := by decide +kernel
theorem d_P_openChoice_27 : decode prog_3_method_12_code 27 = .ok (.aload_n 0, 1) := by decide +kernel
theorem d_P_openChoice_28 : decode prog_3_method_12_code 28 = .ok (.getfield 27, 3) := by decide +kernel
theorem d_P_openChoice_31 : decode prog_3_method_12_code 31 = .ok (.iconst 0, 1) := by decide +kernel
theorem d_P_openChoice_32 : decode prog_3_method_12_code 32 = .ok (.invokevirtual 113, 3) := by decide +kernel
theorem d_P_openChoice_35 : decode prog_3_method_12_code 35 = .ok (.iastore, 1) := by decide +kernel
theorem d_P_openChoice_36 : decode prog_3_method_12_code 36 = .ok (.aload_n 0, 1) := by decide +kernel
theorem d_P_openChoice_37 : decode prog_3_method_12_code 37 = .ok (.getfield 21, 3) := by decide +kernel
theorem d_P_openChoice_40 : decode prog_3_method_12_code 40 = .ok (.aload_n 0, 1) := by decide +kernel
theorem d_P_openChoice_41 : decode prog_3_method_12_code 41 = .ok (.getfield 46, 3) := by decide +kernel
theorem d_P_openChoice_44 : decode prog_3_method_12_code 44 = .ok (.iload_n 1, 1) := by decide +kernel
theorem d_P_openChoice_45 : decode prog_3_method_12_code 45 = .ok (.iastore, 1) := by decide +kernel
theorem d_P_openChoice_46 : decode prog_3_method_12_code 46 = .ok (.aload_n 0, 1) := by decide +kernel
theorem d_P_openChoice_47 : decode prog_3_method_12_code 47 = .ok (.iload_n 2, 1) := by decide +kernel
theorem d_P_openChoice_48 : decode prog_3_method_12_code 48 = .ok (.invokevirtual 116, 3) := by decide +kernel
theorem d_P_beginRow_0 : decode prog_3_method_16_code 0 = .ok (.aload_n 0, 1) := by decide +kernel
theorem d_P_beginRow_1 : decode prog_3_method_16_code 1 = .ok (.getfield 18, 3) := by decide +kernel
theorem d_P_beginRow_4 : decode prog_3_method_16_code 4 = .ok (.aload_n 0, 1) := by decide +kernel
theorem d_P_beginRow_5 : decode prog_3_method_16_code 5 = .ok (.getfield 46, 3) := by decide +kernel
theorem d_P_beginRow_8 : decode prog_3_method_16_code 8 = .ok (.iload_n 1, 1) := by decide +kernel
theorem d_P_beginRow_9 : decode prog_3_method_16_code 9 = .ok (.iastore, 1) := by decide +kernel
theorem d_P_beginRow_10 : decode prog_3_method_16_code 10 = .ok (.aload_n 0, 1) := by decide +kernel
theorem d_P_beginRow_11 : decode prog_3_method_16_code 11 = .ok (.iconst (-1), 1) := by decide +kernel
theorem d_P_beginRow_12 : decode prog_3_method_16_code 12 = .ok (.putfield 126, 3) := by decide +kernel
theorem d_P_beginRow_15 : decode prog_3_method_16_code 15 = .ok (.aload_n 0, 1) := by decide +kernel
theorem d_P_beginRow_16 : decode prog_3_method_16_code 16 = .ok (.iconst (-1), 1) := by decide +kernel
theorem d_P_beginRow_17 : decode prog_3_method_16_code 17 = .ok (.putfield 129, 3) := by decide +kernel
theorem d_P_beginRow_20 : decode prog_3_method_16_code 20 = .ok (.aload_n 0, 1) := by decide +kernel
theorem d_P_beginRow_21 : decode prog_3_method_16_code 21 = .ok (.iload_n 1, 1) := by decide +kernel
theorem d_P_beginRow_22 : decode prog_3_method_16_code 22 = .ok (.putfield 62, 3) := by decide +kernel
theorem d_P_beginRow_25 : decode prog_3_method_16_code 25 = .ok (.return_, 1) := by decide +kernel
theorem d_P_openChoice_51 : decode prog_3_method_12_code 51 = .ok (.return_, 1) := by decide +kernel
theorem d_P_read_38 : decode prog_3_method_3_code 38 = .ok (.iconst 0, 1) := by decide +kernel
theorem d_P_read_39 : decode prog_3_method_3_code 39 = .ok (.istore_n 3, 1) := by decide +kernel
theorem d_P_read_40 : decode prog_3_method_3_code 40 = .ok (.iload_n 3, 1) := by decide +kernel
theorem d_P_read_41 : decode prog_3_method_3_code 41 = .ok (.aload_n 0, 1) := by decide +kernel
theorem d_P_read_42 : decode prog_3_method_3_code 42 = .ok (.getfield 35, 3) := by decide +kernel
theorem d_P_read_45 : decode prog_3_method_3_code 45 = .ok (.if_icmp .ge 32, 3) := by decide +kernel
theorem d_P_read_77 : decode prog_3_method_3_code 77 = .ok (.aload_n 0, 1) := by decide +kernel
theorem d_P_read_78 : decode prog_3_method_3_code 78 = .ok (.getfield 42, 3) := by decide +kernel
theorem d_P_read_81 : decode prog_3_method_3_code 81 = .ok (.iconst (-1), 1) := by decide +kernel
theorem d_P_read_82 : decode prog_3_method_3_code 82 = .ok (.if_icmp .ne 18, 3) := by decide +kernel
theorem d_P_read_85 : decode prog_3_method_3_code 85 = .ok (.aload_n 0, 1) := by decide +kernel
theorem d_P_read_86 : decode prog_3_method_3_code 86 = .ok (.getfield 46, 3) := by decide +kernel
theorem d_P_read_89 : decode prog_3_method_3_code 89 = .ok (.ifCond .le 11, 3) := by decide +kernel
theorem d_P_read_100 : decode prog_3_method_3_code 100 = .ok (.aload_n 0, 1) := by decide +kernel
theorem d_P_read_101 : decode prog_3_method_3_code 101 = .ok (.getfield 42, 3) := by decide +kernel
theorem d_P_read_104 : decode prog_3_method_3_code 104 = .ok (.iconst (-1), 1) := by decide +kernel
theorem d_P_read_105 : decode prog_3_method_3_code 105 = .ok (.if_icmp .ne 7, 3) := by decide +kernel
theorem d_P_read_108 : decode prog_3_method_3_code 108 = .ok (.aload_n 0, 1) := by decide +kernel
theorem d_P_read_109 : decode prog_3_method_3_code 109 = .ok (.invokevirtual 56, 3) := by decide +kernel
theorem d_P_finish_0 : decode prog_3_method_4_code 0 = .ok (.aload_n 0, 1) := by decide +kernel
theorem d_P_finish_1 : decode prog_3_method_4_code 1 = .ok (.getfield 27, 3) := by decide +kernel
theorem d_P_finish_4 : decode prog_3_method_4_code 4 = .ok (.getfield 59, 3) := by decide +kernel
theorem d_P_finish_7 : decode prog_3_method_4_code 7 = .ok (.aload_n 0, 1) := by decide +kernel
theorem d_P_finish_8 : decode prog_3_method_4_code 8 = .ok (.getfield 62, 3) := by decide +kernel
theorem d_P_finish_11 : decode prog_3_method_4_code 11 = .ok (.aload_n 0, 1) := by decide +kernel
theorem d_P_finish_12 : decode prog_3_method_4_code 12 = .ok (.getfield 15, 3) := by decide +kernel
theorem d_P_finish_15 : decode prog_3_method_4_code 15 = .ok (.iconst 0, 1) := by decide +kernel
theorem d_P_finish_16 : decode prog_3_method_4_code 16 = .ok (.iaload, 1) := by decide +kernel
theorem d_P_finish_17 : decode prog_3_method_4_code 17 = .ok (.iastore, 1) := by decide +kernel
theorem d_P_finish_18 : decode prog_3_method_4_code 18 = .ok (.aload_n 0, 1) := by decide +kernel
theorem d_P_finish_19 : decode prog_3_method_4_code 19 = .ok (.getfield 27, 3) := by decide +kernel
theorem d_P_finish_22 : decode prog_3_method_4_code 22 = .ok (.aload_n 0, 1) := by decide +kernel
theorem d_P_finish_23 : decode prog_3_method_4_code 23 = .ok (.getfield 9, 3) := by decide +kernel
theorem d_P_finish_26 : decode prog_3_method_4_code 26 = .ok (.iconst 0, 1) := by decide +kernel
theorem d_P_finish_27 : decode prog_3_method_4_code 27 = .ok (.iaload, 1) := by decide +kernel
theorem d_P_finish_28 : decode prog_3_method_4_code 28 = .ok (.putfield 65, 3) := by decide +kernel
theorem d_P_finish_31 : decode prog_3_method_4_code 31 = .ok (.aload_n 0, 1) := by decide +kernel
theorem d_P_finish_32 : decode prog_3_method_4_code 32 = .ok (.getfield 27, 3) := by decide +kernel
theorem d_P_finish_35 : decode prog_3_method_4_code 35 = .ok (.aload_n 0, 1) := by decide +kernel
theorem d_P_finish_36 : decode prog_3_method_4_code 36 = .ok (.getfield 15, 3) := by decide +kernel
theorem d_P_finish_39 : decode prog_3_method_4_code 39 = .ok (.iconst 0, 1) := by decide +kernel
theorem d_P_finish_40 : decode prog_3_method_4_code 40 = .ok (.iaload, 1) := by decide +kernel
theorem d_P_finish_41 : decode prog_3_method_4_code 41 = .ok (.putfield 68, 3) := by decide +kernel
theorem d_P_finish_44 : decode prog_3_method_4_code 44 = .ok (.return_, 1) := by decide +kernel
theorem d_P_read_112 : decode prog_3_method_3_code 112 = .ok (.aload_n 0, 1) := by decide +kernel
theorem d_P_read_113 : decode prog_3_method_3_code 113 = .ok (.getfield 42, 3) := by decide +kernel
theorem d_P_read_116 : decode prog_3_method_3_code 116 = .ok (.ireturn, 1) := by decide +kernel
theorem d_D_compile_16 : decode prog_1_method_7_code 16 = .ok (.putfield 46, 3) := by decide +kernel
theorem d_D_compile_19 : decode prog_1_method_7_code 19 = .ok (.aload_n 0, 1) := by decide +kernel
theorem d_D_compile_20 : decode prog_1_method_7_code 20 = .ok (.getfield 46, 3) := by decide +kernel
theorem d_D_compile_23 : decode prog_1_method_7_code 23 = .ok (.iconst (-1), 1) := by decide +kernel
theorem d_D_compile_24 : decode prog_1_method_7_code 24 = .ok (.if_icmp .eq 11, 3) := by decide +kernel
theorem d_D_compile_35 : decode prog_1_method_7_code 35 = .ok (.aload_n 0, 1) := by decide +kernel
theorem d_D_compile_36 : decode prog_1_method_7_code 36 = .ok (.aload_n 0, 1) := by decide +kernel
theorem d_D_compile_37 : decode prog_1_method_7_code 37 = .ok (.getfield 35, 3) := by decide +kernel
theorem d_D_compile_40 : decode prog_1_method_7_code 40 = .ok (.aload_n 0, 1) := by decide +kernel
theorem d_D_compile_41 : decode prog_1_method_7_code 41 = .ok (.getfield 42, 3) := by decide +kernel
theorem d_D_compile_44 : decode prog_1_method_7_code 44 = .ok (.invokevirtual 99, 3) := by decide +kernel
theorem d_P_handOver_0 : decode prog_3_method_2_code 0 = .ok (.aload_n 0, 1) := by decide +kernel
theorem d_P_handOver_1 : decode prog_3_method_2_code 1 = .ok (.getfield 27, 3) := by decide +kernel
theorem d_P_handOver_4 : decode prog_3_method_2_code 4 = .ok (.astore_n 2, 1) := by decide +kernel
theorem d_P_handOver_5 : decode prog_3_method_2_code 5 = .ok (.aload_n 0, 1) := by decide +kernel
theorem d_P_handOver_6 : decode prog_3_method_2_code 6 = .ok (.aload_n 1, 1) := by decide +kernel
theorem d_P_handOver_7 : decode prog_3_method_2_code 7 = .ok (.putfield 27, 3) := by decide +kernel
theorem d_P_handOver_10 : decode prog_3_method_2_code 10 = .ok (.aload_n 2, 1) := by decide +kernel
theorem d_P_handOver_11 : decode prog_3_method_2_code 11 = .ok (.areturn, 1) := by decide +kernel
theorem d_D_compile_47 : decode prog_1_method_7_code 47 = .ok (.putfield 42, 3) := by decide +kernel
theorem d_D_compile_50 : decode prog_1_method_7_code 50 = .ok (.aload_n 0, 1) := by decide +kernel
theorem d_D_compile_51 : decode prog_1_method_7_code 51 = .ok (.iconst 1, 1) := by decide +kernel
theorem d_D_compile_52 : decode prog_1_method_7_code 52 = .ok (.putfield 103, 3) := by decide +kernel
theorem d_D_compile_55 : decode prog_1_method_7_code 55 = .ok (.aload_n 0, 1) := by decide +kernel
theorem d_D_compile_56 : decode prog_1_method_7_code 56 = .ok (.iconst 0, 1) := by decide +kernel
theorem d_D_compile_57 : decode prog_1_method_7_code 57 = .ok (.putfield 56, 3) := by decide +kernel
theorem d_D_compile_60 : decode prog_1_method_7_code 60 = .ok (.return_, 1) := by decide +kernel
theorem d_L_compile_4 : decode method_6_code 4 = .ok (.goto 6, 3) := by decide +kernel
theorem d_L_compile_10 : decode method_6_code 10 = .ok (.iconst 0, 1) := by decide +kernel
theorem d_L_compile_11 : decode method_6_code 11 = .ok (.ireturn, 1) := by decide +kernel
theorem d_L_law_328 : decode code 328 = .ok (.istore 5, 2) := by decide +kernel
theorem d_L_law_330 : decode code 330 = .ok (.aload_n 2, 1) := by decide +kernel
theorem d_L_law_331 : decode code 331 = .ok (.invokevirtual 95, 3) := by decide +kernel
theorem d_M_compile_0 : decode prog_6_method_36_code 0 = .ok (.aload_n 0, 1) := by decide +kernel
theorem d_M_compile_1 : decode prog_6_method_36_code 1 = .ok (.invokevirtual 187, 3) := by decide +kernel
theorem d_M_good_0 : decode prog_6_method_23_code 0 = .ok (.iconst 0, 1) := by decide +kernel
theorem d_M_good_1 : decode prog_6_method_23_code 1 = .ok (.istore_n 1, 1) := by decide +kernel
theorem d_M_good_2 : decode prog_6_method_23_code 2 = .ok (.iconst 0, 1) := by decide +kernel
theorem d_M_good_3 : decode prog_6_method_23_code 3 = .ok (.istore_n 2, 1) := by decide +kernel
theorem d_M_good_4 : decode prog_6_method_23_code 4 = .ok (.iconst 0, 1) := by decide +kernel
theorem d_M_good_5 : decode prog_6_method_23_code 5 = .ok (.istore_n 3, 1) := by decide +kernel
theorem d_M_good_6 : decode prog_6_method_23_code 6 = .ok (.iload_n 3, 1) := by decide +kernel
theorem d_M_good_7 : decode prog_6_method_23_code 7 = .ok (.aload_n 0, 1) := by decide +kernel
theorem d_M_good_8 : decode prog_6_method_23_code 8 = .ok (.getfield 89, 3) := by decide +kernel
theorem d_M_good_11 : decode prog_6_method_23_code 11 = .ok (.if_icmp .ge 211, 3) := by decide +kernel
theorem d_M_good_222 : decode prog_6_method_23_code 222 = .ok (.iload_n 1, 1) := by decide +kernel
theorem d_M_good_223 : decode prog_6_method_23_code 223 = .ok (.iconst 1, 1) := by decide +kernel
theorem d_M_good_224 : decode prog_6_method_23_code 224 = .ok (.if_icmp .gt 7, 3) := by decide +kernel
theorem d_M_good_227 : decode prog_6_method_23_code 227 = .ok (.iload_n 2, 1) := by decide +kernel
theorem d_M_good_228 : decode prog_6_method_23_code 228 = .ok (.ifCond .le 12, 3) := by decide +kernel
theorem d_M_good_240 : decode prog_6_method_23_code 240 = .ok (.aload_n 0, 1) := by decide +kernel
theorem d_M_good_241 : decode prog_6_method_23_code 241 = .ok (.getfield 89, 3) := by decide +kernel
theorem d_M_good_244 : decode prog_6_method_23_code 244 = .ok (.ireturn, 1) := by decide +kernel
theorem d_M_compile_4 : decode prog_6_method_36_code 4 = .ok (.istore_n 1, 1) := by decide +kernel
theorem d_M_compile_5 : decode prog_6_method_36_code 5 = .ok (.iload_n 1, 1) := by decide +kernel
theorem d_M_compile_6 : decode prog_6_method_36_code 6 = .ok (.aload_n 0, 1) := by decide +kernel
theorem d_M_compile_7 : decode prog_6_method_36_code 7 = .ok (.getfield 89, 3) := by decide +kernel
theorem d_M_compile_10 : decode prog_6_method_36_code 10 = .ok (.if_icmp .ne 7, 3) := by decide +kernel
theorem d_M_compile_13 : decode prog_6_method_36_code 13 = .ok (.iconst 1, 1) := by decide +kernel
theorem d_M_compile_14 : decode prog_6_method_36_code 14 = .ok (.goto 4, 3) := by decide +kernel
theorem d_M_compile_18 : decode prog_6_method_36_code 18 = .ok (.istore_n 2, 1) := by decide +kernel
theorem d_M_compile_19 : decode prog_6_method_36_code 19 = .ok (.aload_n 0, 1) := by decide +kernel
theorem d_M_compile_20 : decode prog_6_method_36_code 20 = .ok (.iload_n 2, 1) := by decide +kernel
theorem d_M_compile_21 : decode prog_6_method_36_code 21 = .ok (.ifCond .eq 7, 3) := by decide +kernel
theorem d_M_compile_24 : decode prog_6_method_36_code 24 = .ok (.iconst 0, 1) := by decide +kernel
theorem d_M_compile_25 : decode prog_6_method_36_code 25 = .ok (.goto 4, 3) := by decide +kernel
theorem d_M_compile_29 : decode prog_6_method_36_code 29 = .ok (.putfield 82, 3) := by decide +kernel
theorem d_M_compile_32 : decode prog_6_method_36_code 32 = .ok (.aload_n 0, 1) := by decide +kernel
theorem d_M_compile_33 : decode prog_6_method_36_code 33 = .ok (.iload_n 2, 1) := by decide +kernel
theorem d_M_compile_34 : decode prog_6_method_36_code 34 = .ok (.ifCond .eq 7, 3) := by decide +kernel
theorem d_M_compile_37 : decode prog_6_method_36_code 37 = .ok (.iconst (-1), 1) := by decide +kernel
theorem d_M_compile_38 : decode prog_6_method_36_code 38 = .ok (.goto 14, 3) := by decide +kernel
theorem d_M_compile_52 : decode prog_6_method_36_code 52 = .ok (.putfield 36, 3) := by decide +kernel
theorem d_M_compile_55 : decode prog_6_method_36_code 55 = .ok (.iload_n 2, 1) := by decide +kernel
theorem d_M_compile_56 : decode prog_6_method_36_code 56 = .ok (.ifCond .ne 4, 3) := by decide +kernel
theorem d_M_compile_60 : decode prog_6_method_36_code 60 = .ok (.aload_n 0, 1) := by decide +kernel
theorem d_M_compile_61 : decode prog_6_method_36_code 61 = .ok (.aload_n 0, 1) := by decide +kernel
theorem d_M_compile_62 : decode prog_6_method_36_code 62 = .ok (.getfield 89, 3) := by decide +kernel
theorem d_M_compile_65 : decode prog_6_method_36_code 65 = .ok (.putfield 190, 3) := by decide +kernel
theorem d_M_compile_68 : decode prog_6_method_36_code 68 = .ok (.iconst 0, 1) := by decide +kernel
theorem d_M_compile_69 : decode prog_6_method_36_code 69 = .ok (.istore_n 3, 1) := by decide +kernel
theorem d_M_compile_70 : decode prog_6_method_36_code 70 = .ok (.iload_n 3, 1) := by decide +kernel
theorem d_M_compile_71 : decode prog_6_method_36_code 71 = .ok (.aload_n 0, 1) := by decide +kernel
theorem d_M_compile_72 : decode prog_6_method_36_code 72 = .ok (.getfield 89, 3) := by decide +kernel
theorem d_M_compile_75 : decode prog_6_method_36_code 75 = .ok (.if_icmp .ge 21, 3) := by decide +kernel
theorem d_M_compile_96 : decode prog_6_method_36_code 96 = .ok (.aload_n 0, 1) := by decide +kernel
theorem d_M_compile_97 : decode prog_6_method_36_code 97 = .ok (.iconst 0, 1) := by decide +kernel
theorem d_M_compile_98 : decode prog_6_method_36_code 98 = .ok (.putfield 89, 3) := by decide +kernel
theorem d_M_compile_101 : decode prog_6_method_36_code 101 = .ok (.aload_n 0, 1) := by decide +kernel
theorem d_M_compile_102 : decode prog_6_method_36_code 102 = .ok (.iconst 0, 1) := by decide +kernel
theorem d_M_compile_103 : decode prog_6_method_36_code 103 = .ok (.putfield 142, 3) := by decide +kernel
theorem d_M_compile_106 : decode prog_6_method_36_code 106 = .ok (.aload_n 0, 1) := by decide +kernel
theorem d_M_compile_107 : decode prog_6_method_36_code 107 = .ok (.iconst 0, 1) := by decide +kernel
theorem d_M_compile_108 : decode prog_6_method_36_code 108 = .ok (.putfield 145, 3) := by decide +kernel
theorem d_M_compile_111 : decode prog_6_method_36_code 111 = .ok (.aload_n 0, 1) := by decide +kernel
theorem d_M_compile_112 : decode prog_6_method_36_code 112 = .ok (.iconst 0, 1) := by decide +kernel
theorem d_M_compile_113 : decode prog_6_method_36_code 113 = .ok (.putfield 159, 3) := by decide +kernel
theorem d_M_compile_116 : decode prog_6_method_36_code 116 = .ok (.aload_n 0, 1) := by decide +kernel
theorem d_M_compile_117 : decode prog_6_method_36_code 117 = .ok (.invokevirtual 171, 3) := by decide +kernel
theorem d_M_openGroup_0 : decode prog_6_method_32_code 0 = .ok (.aload_n 0, 1) := by decide +kernel
theorem d_M_openGroup_1 : decode prog_6_method_32_code 1 = .ok (.getfield 63, 3) := by decide +kernel
theorem d_M_openGroup_4 : decode prog_6_method_32_code 4 = .ok (.aload_n 0, 1) := by decide +kernel
theorem d_M_openGroup_5 : decode prog_6_method_32_code 5 = .ok (.getfield 159, 3) := by decide +kernel
theorem d_M_openGroup_8 : decode prog_6_method_32_code 8 = .ok (.iconst (-1), 1) := by decide +kernel
theorem d_M_openGroup_9 : decode prog_6_method_32_code 9 = .ok (.iastore, 1) := by decide +kernel
theorem d_M_openGroup_10 : decode prog_6_method_32_code 10 = .ok (.aload_n 0, 1) := by decide +kernel
theorem d_M_openGroup_11 : decode prog_6_method_32_code 11 = .ok (.getfield 66, 3) := by decide +kernel
theorem d_M_openGroup_14 : decode prog_6_method_32_code 14 = .ok (.aload_n 0, 1) := by decide +kernel
theorem d_M_openGroup_15 : decode prog_6_method_32_code 15 = .ok (.getfield 159, 3) := by decide +kernel
theorem d_M_openGroup_18 : decode prog_6_method_32_code 18 = .ok (.aload_n 0, 1) := by decide +kernel
theorem d_M_openGroup_19 : decode prog_6_method_32_code 19 = .ok (.invokevirtual 162, 3) := by decide +kernel
theorem d_M_nothing_0 : decode prog_6_method_28_code 0 = .ok (.aload_n 0, 1) := by decide +kernel
theorem d_M_nothing_1 : decode prog_6_method_28_code 1 = .ok (.iconst 0, 1) := by decide +kernel
theorem d_M_nothing_2 : decode prog_6_method_28_code 2 = .ok (.iconst 0, 1) := by decide +kernel
theorem d_M_nothing_3 : decode prog_6_method_28_code 3 = .ok (.iconst 0, 1) := by decide +kernel
theorem d_M_nothing_4 : decode prog_6_method_28_code 4 = .ok (.invokevirtual 148, 3) := by decide +kernel
theorem d_M_node_0 : decode prog_6_method_24_code 0 = .ok (.aload_n 0, 1) := by decide +kernel
theorem d_M_node_1 : decode prog_6_method_24_code 1 = .ok (.getfield 42, 3) := by decide +kernel
theorem d_M_node_4 : decode prog_6_method_24_code 4 = .ok (.aload_n 0, 1) := by decide +kernel
theorem d_M_node_5 : decode prog_6_method_24_code 5 = .ok (.getfield 142, 3) := by decide +kernel
theorem d_M_node_8 : decode prog_6_method_24_code 8 = .ok (.iload_n 1, 1) := by decide +kernel
theorem d_M_node_9 : decode prog_6_method_24_code 9 = .ok (.iastore, 1) := by decide +kernel
theorem d_M_node_10 : decode prog_6_method_24_code 10 = .ok (.aload_n 0, 1) := by decide +kernel
theorem d_M_node_11 : decode prog_6_method_24_code 11 = .ok (.getfield 45, 3) := by decide +kernel
theorem d_M_node_14 : decode prog_6_method_24_code 14 = .ok (.aload_n 0, 1) := by decide +kernel
theorem d_M_node_15 : decode prog_6_method_24_code 15 = .ok (.getfield 142, 3) := by decide +kernel
theorem d_M_node_18 : decode prog_6_method_24_code 18 = .ok (.iload_n 2, 1) := by decide +kernel
theorem d_M_node_19 : decode prog_6_method_24_code 19 = .ok (.iastore, 1) := by decide +kernel
theorem d_M_node_20 : decode prog_6_method_24_code 20 = .ok (.aload_n 0, 1) := by decide +kernel
theorem d_M_node_21 : decode prog_6_method_24_code 21 = .ok (.getfield 48, 3) := by decide +kernel
theorem d_M_node_24 : decode prog_6_method_24_code 24 = .ok (.aload_n 0, 1) := by decide +kernel
theorem d_M_node_25 : decode prog_6_method_24_code 25 = .ok (.getfield 142, 3) := by decide +kernel
theorem d_M_node_28 : decode prog_6_method_24_code 28 = .ok (.iload_n 3, 1) := by decide +kernel
theorem d_M_node_29 : decode prog_6_method_24_code 29 = .ok (.iastore, 1) := by decide +kernel
theorem d_M_node_30 : decode prog_6_method_24_code 30 = .ok (.aload_n 0, 1) := by decide +kernel
theorem d_M_node_31 : decode prog_6_method_24_code 31 = .ok (.getfield 51, 3) := by decide +kernel
theorem d_M_node_34 : decode prog_6_method_24_code 34 = .ok (.aload_n 0, 1) := by decide +kernel
theorem d_M_node_35 : decode prog_6_method_24_code 35 = .ok (.getfield 142, 3) := by decide +kernel
theorem d_M_node_38 : decode prog_6_method_24_code 38 = .ok (.iconst (-1), 1) := by decide +kernel
theorem d_M_node_39 : decode prog_6_method_24_code 39 = .ok (.iastore, 1) := by decide +kernel
theorem d_M_node_40 : decode prog_6_method_24_code 40 = .ok (.aload_n 0, 1) := by decide +kernel
theorem d_M_node_41 : decode prog_6_method_24_code 41 = .ok (.getfield 54, 3) := by decide +kernel
theorem d_M_node_44 : decode prog_6_method_24_code 44 = .ok (.aload_n 0, 1) := by decide +kernel
theorem d_M_node_45 : decode prog_6_method_24_code 45 = .ok (.getfield 142, 3) := by decide +kernel
theorem d_M_node_48 : decode prog_6_method_24_code 48 = .ok (.iconst (-1), 1) := by decide +kernel
theorem d_M_node_49 : decode prog_6_method_24_code 49 = .ok (.iastore, 1) := by decide +kernel
theorem d_M_node_50 : decode prog_6_method_24_code 50 = .ok (.aload_n 0, 1) := by decide +kernel
theorem d_M_node_51 : decode prog_6_method_24_code 51 = .ok (.dup, 1) := by decide +kernel
theorem d_M_node_52 : decode prog_6_method_24_code 52 = .ok (.getfield 142, 3) := by decide +kernel
theorem d_M_node_55 : decode prog_6_method_24_code 55 = .ok (.iconst 1, 1) := by decide +kernel
theorem d_M_node_56 : decode prog_6_method_24_code 56 = .ok (.iadd, 1) := by decide +kernel
theorem d_M_node_57 : decode prog_6_method_24_code 57 = .ok (.putfield 142, 3) := by decide +kernel
theorem d_M_node_60 : decode prog_6_method_24_code 60 = .ok (.aload_n 0, 1) := by decide +kernel
theorem d_M_node_61 : decode prog_6_method_24_code 61 = .ok (.getfield 142, 3) := by decide +kernel
theorem d_M_node_64 : decode prog_6_method_24_code 64 = .ok (.iconst 1, 1) := by decide +kernel
theorem d_M_node_65 : decode prog_6_method_24_code 65 = .ok (.isub, 1) := by decide +kernel
theorem d_M_node_66 : decode prog_6_method_24_code 66 = .ok (.ireturn, 1) := by decide +kernel
theorem d_M_nothing_7 : decode prog_6_method_28_code 7 = .ok (.istore_n 1, 1) := by decide +kernel
theorem d_M_nothing_8 : decode prog_6_method_28_code 8 = .ok (.aload_n 0, 1) := by decide +kernel
theorem d_M_nothing_9 : decode prog_6_method_28_code 9 = .ok (.iload_n 1, 1) := by decide +kernel
theorem d_M_nothing_10 : decode prog_6_method_28_code 10 = .ok (.iload_n 1, 1) := by decide +kernel
theorem d_M_nothing_11 : decode prog_6_method_28_code 11 = .ok (.invokevirtual 155, 3) := by decide +kernel
theorem d_M_piece_0 : decode prog_6_method_26_code 0 = .ok (.aload_n 0, 1) := by decide +kernel
theorem d_M_piece_1 : decode prog_6_method_26_code 1 = .ok (.getfield 57, 3) := by decide +kernel
theorem d_M_piece_4 : decode prog_6_method_26_code 4 = .ok (.aload_n 0, 1) := by decide +kernel
theorem d_M_piece_5 : decode prog_6_method_26_code 5 = .ok (.getfield 145, 3) := by decide +kernel
theorem d_M_piece_8 : decode prog_6_method_26_code 8 = .ok (.iload_n 1, 1) := by decide +kernel
theorem d_M_piece_9 : decode prog_6_method_26_code 9 = .ok (.iastore, 1) := by decide +kernel
theorem d_M_piece_10 : decode prog_6_method_26_code 10 = .ok (.aload_n 0, 1) := by decide +kernel
theorem d_M_piece_11 : decode prog_6_method_26_code 11 = .ok (.getfield 60, 3) := by decide +kernel
theorem d_M_piece_14 : decode prog_6_method_26_code 14 = .ok (.aload_n 0, 1) := by decide +kernel
theorem d_M_piece_15 : decode prog_6_method_26_code 15 = .ok (.getfield 145, 3) := by decide +kernel
theorem d_M_piece_18 : decode prog_6_method_26_code 18 = .ok (.iload_n 2, 1) := by decide +kernel
theorem d_M_piece_19 : decode prog_6_method_26_code 19 = .ok (.iastore, 1) := by decide +kernel
theorem d_M_piece_20 : decode prog_6_method_26_code 20 = .ok (.aload_n 0, 1) := by decide +kernel
theorem d_M_piece_21 : decode prog_6_method_26_code 21 = .ok (.dup, 1) := by decide +kernel
theorem d_M_piece_22 : decode prog_6_method_26_code 22 = .ok (.getfield 145, 3) := by decide +kernel
theorem d_M_piece_25 : decode prog_6_method_26_code 25 = .ok (.iconst 1, 1) := by decide +kernel
theorem d_M_piece_26 : decode prog_6_method_26_code 26 = .ok (.iadd, 1) := by decide +kernel
theorem d_M_piece_27 : decode prog_6_method_26_code 27 = .ok (.putfield 145, 3) := by decide +kernel
theorem d_M_piece_30 : decode prog_6_method_26_code 30 = .ok (.aload_n 0, 1) := by decide +kernel
theorem d_M_piece_31 : decode prog_6_method_26_code 31 = .ok (.getfield 145, 3) := by decide +kernel
theorem d_M_piece_34 : decode prog_6_method_26_code 34 = .ok (.iconst 1, 1) := by decide +kernel
theorem d_M_piece_35 : decode prog_6_method_26_code 35 = .ok (.isub, 1) := by decide +kernel
theorem d_M_piece_36 : decode prog_6_method_26_code 36 = .ok (.ireturn, 1) := by decide +kernel
theorem d_M_nothing_14 : decode prog_6_method_28_code 14 = .ok (.ireturn, 1) := by decide +kernel
theorem d_M_openGroup_22 : decode prog_6_method_32_code 22 = .ok (.iastore, 1) := by decide +kernel
theorem d_M_openGroup_23 : decode prog_6_method_32_code 23 = .ok (.aload_n 0, 1) := by decide +kernel
theorem d_M_openGroup_24 : decode prog_6_method_32_code 24 = .ok (.getfield 69, 3) := by decide +kernel
theorem d_M_openGroup_27 : decode prog_6_method_32_code 27 = .ok (.aload_n 0, 1) := by decide +kernel
theorem d_M_openGroup_28 : decode prog_6_method_32_code 28 = .ok (.getfield 159, 3) := by decide +kernel
theorem d_M_openGroup_31 : decode prog_6_method_32_code 31 = .ok (.iconst (-1), 1) := by decide +kernel
theorem d_M_openGroup_32 : decode prog_6_method_32_code 32 = .ok (.iastore, 1) := by decide +kernel
theorem d_M_openGroup_33 : decode prog_6_method_32_code 33 = .ok (.aload_n 0, 1) := by decide +kernel
theorem d_M_openGroup_34 : decode prog_6_method_32_code 34 = .ok (.dup, 1) := by decide +kernel
theorem d_M_openGroup_35 : decode prog_6_method_32_code 35 = .ok (.getfield 159, 3) := by decide +kernel
theorem d_M_openGroup_38 : decode prog_6_method_32_code 38 = .ok (.iconst 1, 1) := by decide +kernel
theorem d_M_openGroup_39 : decode prog_6_method_32_code 39 = .ok (.iadd, 1) := by decide +kernel
theorem d_M_openGroup_40 : decode prog_6_method_32_code 40 = .ok (.putfield 159, 3) := by decide +kernel
theorem d_M_openGroup_43 : decode prog_6_method_32_code 43 = .ok (.return_, 1) := by decide +kernel
theorem d_M_compile_120 : decode prog_6_method_36_code 120 = .ok (.iconst 0, 1) := by decide +kernel
theorem d_M_compile_121 : decode prog_6_method_36_code 121 = .ok (.istore_n 3, 1) := by decide +kernel
theorem d_M_compile_122 : decode prog_6_method_36_code 122 = .ok (.iload_n 3, 1) := by decide +kernel
theorem d_M_compile_123 : decode prog_6_method_36_code 123 = .ok (.aload_n 0, 1) := by decide +kernel
theorem d_M_compile_124 : decode prog_6_method_36_code 124 = .ok (.getfield 190, 3) := by decide +kernel
theorem d_M_compile_127 : decode prog_6_method_36_code 127 = .ok (.if_icmp .ge 12, 3) := by decide +kernel
theorem d_M_compile_139 : decode prog_6_method_36_code 139 = .ok (.aload_n 0, 1) := by decide +kernel
theorem d_M_compile_140 : decode prog_6_method_36_code 140 = .ok (.invokevirtual 174, 3) := by decide +kernel
theorem d_M_endRow_0 : decode prog_6_method_33_code 0 = .ok (.aload_n 0, 1) := by decide +kernel
theorem d_M_endRow_1 : decode prog_6_method_33_code 1 = .ok (.getfield 159, 3) := by decide +kernel
theorem d_M_endRow_4 : decode prog_6_method_33_code 4 = .ok (.iconst 1, 1) := by decide +kernel
theorem d_M_endRow_5 : decode prog_6_method_33_code 5 = .ok (.isub, 1) := by decide +kernel
theorem d_M_endRow_6 : decode prog_6_method_33_code 6 = .ok (.istore_n 1, 1) := by decide +kernel
theorem d_M_endRow_7 : decode prog_6_method_33_code 7 = .ok (.aload_n 0, 1) := by decide +kernel
theorem d_M_endRow_8 : decode prog_6_method_33_code 8 = .ok (.aload_n 0, 1) := by decide +kernel
theorem d_M_endRow_9 : decode prog_6_method_33_code 9 = .ok (.getfield 66, 3) := by decide +kernel
theorem d_M_endRow_12 : decode prog_6_method_33_code 12 = .ok (.iload_n 1, 1) := by decide +kernel
theorem d_M_endRow_13 : decode prog_6_method_33_code 13 = .ok (.iaload, 1) := by decide +kernel
theorem d_M_endRow_14 : decode prog_6_method_33_code 14 = .ok (.aload_n 0, 1) := by decide +kernel
theorem d_M_endRow_15 : decode prog_6_method_33_code 15 = .ok (.getfield 69, 3) := by decide +kernel
theorem d_M_endRow_18 : decode prog_6_method_33_code 18 = .ok (.iload_n 1, 1) := by decide +kernel
theorem d_M_endRow_19 : decode prog_6_method_33_code 19 = .ok (.iaload, 1) := by decide +kernel
theorem d_M_endRow_20 : decode prog_6_method_33_code 20 = .ok (.invokevirtual 165, 3) := by decide +kernel
theorem d_M_behind_0 : decode prog_6_method_29_code 0 = .ok (.iload_n 2, 1) := by decide +kernel
theorem d_M_behind_1 : decode prog_6_method_29_code 1 = .ok (.ifCond .ge 5, 3) := by decide +kernel
theorem d_M_behind_4 : decode prog_6_method_29_code 4 = .ok (.iload_n 1, 1) := by decide +kernel
theorem d_M_behind_5 : decode prog_6_method_29_code 5 = .ok (.ireturn, 1) := by decide +kernel
theorem d_M_endRow_23 : decode prog_6_method_33_code 23 = .ok (.istore_n 2, 1) := by decide +kernel
theorem d_M_endRow_24 : decode prog_6_method_33_code 24 = .ok (.aload_n 0, 1) := by decide +kernel
theorem d_M_endRow_25 : decode prog_6_method_33_code 25 = .ok (.getfield 63, 3) := by decide +kernel
theorem d_M_endRow_28 : decode prog_6_method_33_code 28 = .ok (.iload_n 1, 1) := by decide +kernel
theorem d_M_endRow_29 : decode prog_6_method_33_code 29 = .ok (.aload_n 0, 1) := by decide +kernel
theorem d_M_endRow_30 : decode prog_6_method_33_code 30 = .ok (.aload_n 0, 1) := by decide +kernel
theorem d_M_endRow_31 : decode prog_6_method_33_code 31 = .ok (.getfield 63, 3) := by decide +kernel
theorem d_M_endRow_34 : decode prog_6_method_33_code 34 = .ok (.iload_n 1, 1) := by decide +kernel
theorem d_M_endRow_35 : decode prog_6_method_33_code 35 = .ok (.iaload, 1) := by decide +kernel
theorem d_M_endRow_36 : decode prog_6_method_33_code 36 = .ok (.iload_n 2, 1) := by decide +kernel
theorem d_M_endRow_37 : decode prog_6_method_33_code 37 = .ok (.invokevirtual 168, 3) := by decide +kernel
theorem d_M_either_0 : decode prog_6_method_30_code 0 = .ok (.iload_n 1, 1) := by decide +kernel
theorem d_M_either_1 : decode prog_6_method_30_code 1 = .ok (.ifCond .ge 5, 3) := by decide +kernel
theorem d_M_either_4 : decode prog_6_method_30_code 4 = .ok (.iload_n 2, 1) := by decide +kernel
theorem d_M_either_5 : decode prog_6_method_30_code 5 = .ok (.ireturn, 1) := by decide +kernel
theorem d_M_endRow_40 : decode prog_6_method_33_code 40 = .ok (.iastore, 1) := by decide +kernel
theorem d_M_endRow_41 : decode prog_6_method_33_code 41 = .ok (.aload_n 0, 1) := by decide +kernel
theorem d_M_endRow_42 : decode prog_6_method_33_code 42 = .ok (.getfield 69, 3) := by decide +kernel
theorem d_M_endRow_45 : decode prog_6_method_33_code 45 = .ok (.iload_n 1, 1) := by decide +kernel
theorem d_M_endRow_46 : decode prog_6_method_33_code 46 = .ok (.iconst (-1), 1) := by decide +kernel
theorem d_M_endRow_47 : decode prog_6_method_33_code 47 = .ok (.iastore, 1) := by decide +kernel
theorem d_M_endRow_48 : decode prog_6_method_33_code 48 = .ok (.return_, 1) := by decide +kernel
theorem d_M_compile_143 : decode prog_6_method_36_code 143 = .ok (.aload_n 0, 1) := by decide +kernel
theorem d_M_compile_144 : decode prog_6_method_36_code 144 = .ok (.aload_n 0, 1) := by decide +kernel
theorem d_M_compile_145 : decode prog_6_method_36_code 145 = .ok (.getfield 57, 3) := by decide +kernel
theorem d_M_compile_148 : decode prog_6_method_36_code 148 = .ok (.aload_n 0, 1) := by decide +kernel
theorem d_M_compile_149 : decode prog_6_method_36_code 149 = .ok (.getfield 63, 3) := by decide +kernel
theorem d_M_compile_152 : decode prog_6_method_36_code 152 = .ok (.iconst 0, 1) := by decide +kernel
theorem d_M_compile_153 : decode prog_6_method_36_code 153 = .ok (.iaload, 1) := by decide +kernel
theorem d_M_compile_154 : decode prog_6_method_36_code 154 = .ok (.iaload, 1) := by decide +kernel
theorem d_M_compile_155 : decode prog_6_method_36_code 155 = .ok (.putfield 197, 3) := by decide +kernel
theorem d_M_compile_158 : decode prog_6_method_36_code 158 = .ok (.aload_n 0, 1) := by decide +kernel
theorem d_M_compile_159 : decode prog_6_method_36_code 159 = .ok (.aload_n 0, 1) := by decide +kernel
theorem d_M_compile_160 : decode prog_6_method_36_code 160 = .ok (.getfield 60, 3) := by decide +kernel
theorem d_M_compile_163 : decode prog_6_method_36_code 163 = .ok (.aload_n 0, 1) := by decide +kernel
theorem d_M_compile_164 : decode prog_6_method_36_code 164 = .ok (.getfield 63, 3) := by decide +kernel
theorem d_M_compile_167 : decode prog_6_method_36_code 167 = .ok (.iconst 0, 1) := by decide +kernel
theorem d_M_compile_168 : decode prog_6_method_36_code 168 = .ok (.iaload, 1) := by decide +kernel
theorem d_M_compile_169 : decode prog_6_method_36_code 169 = .ok (.iaload, 1) := by decide +kernel
theorem d_M_compile_170 : decode prog_6_method_36_code 170 = .ok (.putfield 200, 3) := by decide +kernel
theorem d_M_compile_173 : decode prog_6_method_36_code 173 = .ok (.aload_n 0, 1) := by decide +kernel
theorem d_M_compile_174 : decode prog_6_method_36_code 174 = .ok (.iconst 1, 1) := by decide +kernel
theorem d_M_compile_175 : decode prog_6_method_36_code 175 = .ok (.putfield 203, 3) := by decide +kernel
theorem d_M_compile_178 : decode prog_6_method_36_code 178 = .ok (.return_, 1) := by decide +kernel
theorem d_L_law_334 : decode code 334 = .ok (.aload_n 2, 1) := by decide +kernel
theorem d_L_law_335 : decode code 335 = .ok (.invokevirtual 81, 3) := by decide +kernel
theorem d_L_law_338 : decode code 338 = .ok (.iload 5, 2) := by decide +kernel
theorem d_L_law_340 : decode code 340 = .ok (.if_icmp .eq 5, 3) := by decide +kernel
theorem d_L_law_345 : decode code 345 = .ok (.goto 489, 3) := by decide +kernel
theorem d_L_law_348 : decode code 348 = .ok (.aload_n 1, 1) := by decide +kernel
theorem d_L_law_349 : decode code 349 = .ok (.invokevirtual 96, 3) := by decide +kernel
theorem d_D_fault_0 : decode prog_1_method_8_code 0 = .ok (.aload_n 0, 1) := by decide +kernel
theorem d_D_fault_1 : decode prog_1_method_8_code 1 = .ok (.getfield 46, 3) := by decide +kernel
theorem d_D_fault_4 : decode prog_1_method_8_code 4 = .ok (.ireturn, 1) := by decide +kernel
theorem d_L_law_352 : decode code 352 = .ok (.aload_n 2, 1) := by decide +kernel
