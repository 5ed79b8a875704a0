theorem d_M_wipe_12 : decode prog_6_method_5_code 12 = .ok (.putfield 89, 3) := by decide +kernel
theorem d_M_wipe_15 : decode prog_6_method_5_code 15 = .ok (.iload_n 1, 1) := by decide +kernel
theorem d_M_wipe_16 : decode prog_6_method_5_code 16 = .ok (.ireturn, 1) := by decide +kernel
theorem d_D_at_0 : decode prog_1_method_15_code 0 = .ok (.iload_n 1, 1) := by decide +kernel
theorem d_D_at_1 : decode prog_1_method_15_code 1 = .ok (.ifCond .lt 12, 3) := by decide +kernel
theorem d_D_at_4 : decode prog_1_method_15_code 4 = .ok (.iload_n 1, 1) := by decide +kernel
theorem d_D_at_5 : decode prog_1_method_15_code 5 = .ok (.aload_n 0, 1) := by decide +kernel
theorem d_D_at_6 : decode prog_1_method_15_code 6 = .ok (.getfield 19, 3) := by decide +kernel
theorem d_D_at_9 : decode prog_1_method_15_code 9 = .ok (.arraylength, 1) := by decide +kernel
theorem d_D_at_10 : decode prog_1_method_15_code 10 = .ok (.if_icmp .lt 11, 3) := by decide +kernel
theorem d_D_at_21 : decode prog_1_method_15_code 21 = .ok (.aload_n 0, 1) := by decide +kernel
theorem d_D_at_22 : decode prog_1_method_15_code 22 = .ok (.getfield 19, 3) := by decide +kernel
theorem d_D_at_25 : decode prog_1_method_15_code 25 = .ok (.iload_n 1, 1) := by decide +kernel
theorem d_D_at_26 : decode prog_1_method_15_code 26 = .ok (.caload, 1) := by decide +kernel
theorem d_D_at_27 : decode prog_1_method_15_code 27 = .ok (.ireturn, 1) := by decide +kernel
theorem d_D_at_13 : decode prog_1_method_15_code 13 = .ok (.new 143, 3) := by decide +kernel
theorem d_D_at_16 : decode prog_1_method_15_code 16 = .ok (.dup, 1) := by decide +kernel
theorem d_D_at_17 : decode prog_1_method_15_code 17 = .ok (.invokespecial 145, 3) := by decide +kernel
theorem d_D_at_20 : decode prog_1_method_15_code 20 = .ok (.athrow, 1) := by decide +kernel
theorem d_D_breaksBefore_0 : decode prog_1_method_29_code 0 = .ok (.iconst 0, 1) := by decide +kernel
theorem d_D_breaksBefore_1 : decode prog_1_method_29_code 1 = .ok (.istore_n 2, 1) := by decide +kernel
theorem d_D_breaksBefore_2 : decode prog_1_method_29_code 2 = .ok (.iconst 0, 1) := by decide +kernel
theorem d_D_breaksBefore_3 : decode prog_1_method_29_code 3 = .ok (.istore_n 3, 1) := by decide +kernel
theorem d_D_breaksBefore_4 : decode prog_1_method_29_code 4 = .ok (.iload_n 3, 1) := by decide +kernel
theorem d_D_breaksBefore_5 : decode prog_1_method_29_code 5 = .ok (.iload_n 1, 1) := by decide +kernel
theorem d_D_breaksBefore_6 : decode prog_1_method_29_code 6 = .ok (.if_icmp .ge 23, 3) := by decide +kernel
theorem d_D_breaksBefore_29 : decode prog_1_method_29_code 29 = .ok (.iload_n 2, 1) := by decide +kernel
theorem d_D_breaksBefore_30 : decode prog_1_method_29_code 30 = .ok (.ireturn, 1) := by decide +kernel
theorem d_D_breaksBefore_9 : decode prog_1_method_29_code 9 = .ok (.aload_n 0, 1) := by decide +kernel
theorem d_D_breaksBefore_10 : decode prog_1_method_29_code 10 = .ok (.getfield 19, 3) := by decide +kernel
theorem d_D_breaksBefore_13 : decode prog_1_method_29_code 13 = .ok (.iload_n 3, 1) := by decide +kernel
theorem d_D_breaksBefore_14 : decode prog_1_method_29_code 14 = .ok (.caload, 1) := by decide +kernel
theorem d_D_breaksBefore_15 : decode prog_1_method_29_code 15 = .ok (.bipush 10, 2) := by decide +kernel
theorem d_D_breaksBefore_17 : decode prog_1_method_29_code 17 = .ok (.if_icmp .ne 6, 3) := by decide +kernel
theorem d_D_breaksBefore_20 : decode prog_1_method_29_code 20 = .ok (.iinc 2 1, 3) := by decide +kernel
theorem d_D_breaksBefore_23 : decode prog_1_method_29_code 23 = .ok (.iinc 3 1, 3) := by decide +kernel
theorem d_D_breaksBefore_26 : decode prog_1_method_29_code 26 = .ok (.goto (-22), 3) := by decide +kernel
theorem d_D_collectMatches_0 : decode prog_1_method_26_code 0 = .ok (.iconst 0, 1) := by decide +kernel
theorem d_D_collectMatches_1 : decode prog_1_method_26_code 1 = .ok (.istore_n 1, 1) := by decide +kernel
theorem d_D_collectMatches_2 : decode prog_1_method_26_code 2 = .ok (.iconst 0, 1) := by decide +kernel
theorem d_D_collectMatches_3 : decode prog_1_method_26_code 3 = .ok (.istore_n 2, 1) := by decide +kernel
theorem d_D_collectMatches_4 : decode prog_1_method_26_code 4 = .ok (.iload_n 2, 1) := by decide +kernel
theorem d_D_collectMatches_5 : decode prog_1_method_26_code 5 = .ok (.sipush 160, 3) := by decide +kernel
theorem d_D_collectMatches_8 : decode prog_1_method_26_code 8 = .ok (.if_icmp .ge 60, 3) := by decide +kernel
theorem d_D_collectMatches_68 : decode prog_1_method_26_code 68 = .ok (.sipush 160, 3) := by decide +kernel
theorem d_D_collectMatches_71 : decode prog_1_method_26_code 71 = .ok (.ireturn, 1) := by decide +kernel
theorem d_D_collectMatches_11 : decode prog_1_method_26_code 11 = .ok (.aload_n 0, 1) := by decide +kernel
theorem d_D_collectMatches_12 : decode prog_1_method_26_code 12 = .ok (.getfield 42, 3) := by decide +kernel
theorem d_D_collectMatches_15 : decode prog_1_method_26_code 15 = .ok (.aload_n 0, 1) := by decide +kernel
theorem d_D_collectMatches_16 : decode prog_1_method_26_code 16 = .ok (.getfield 19, 3) := by decide +kernel
theorem d_D_collectMatches_19 : decode prog_1_method_26_code 19 = .ok (.iload_n 1, 1) := by decide +kernel
theorem d_D_collectMatches_20 : decode prog_1_method_26_code 20 = .ok (.invokevirtual 107, 3) := by decide +kernel
theorem d_A_seek_0 : decode prog_2_method_5_code 0 = .ok (.iload_n 2, 1) := by decide +kernel
theorem d_A_seek_1 : decode prog_2_method_5_code 1 = .ok (.istore_n 3, 1) := by decide +kernel
theorem d_A_seek_2 : decode prog_2_method_5_code 2 = .ok (.iload_n 3, 1) := by decide +kernel
theorem d_A_seek_3 : decode prog_2_method_5_code 3 = .ok (.aload_n 1, 1) := by decide +kernel
theorem d_A_seek_4 : decode prog_2_method_5_code 4 = .ok (.arraylength, 1) := by decide +kernel
theorem d_A_seek_5 : decode prog_2_method_5_code 5 = .ok (.if_icmp .ge 36, 3) := by decide +kernel
theorem d_A_seek_41 : decode prog_2_method_5_code 41 = .ok (.iconst 0, 1) := by decide +kernel
theorem d_A_seek_42 : decode prog_2_method_5_code 42 = .ok (.ireturn, 1) := by decide +kernel
theorem d_A_seek_8 : decode prog_2_method_5_code 8 = .ok (.aload_n 0, 1) := by decide +kernel
theorem d_A_seek_9 : decode prog_2_method_5_code 9 = .ok (.aload_n 1, 1) := by decide +kernel
theorem d_A_seek_10 : decode prog_2_method_5_code 10 = .ok (.iload_n 3, 1) := by decide +kernel
theorem d_A_seek_11 : decode prog_2_method_5_code 11 = .ok (.invokevirtual 34, 3) := by decide +kernel
theorem d_A_longestFit_0 : decode prog_2_method_6_code 0 = .ok (.iconst (-1), 1) := by decide +kernel
theorem d_A_longestFit_1 : decode prog_2_method_6_code 1 = .ok (.istore_n 3, 1) := by decide +kernel
theorem d_A_longestFit_2 : decode prog_2_method_6_code 2 = .ok (.aload_n 0, 1) := by decide +kernel
theorem d_A_longestFit_3 : decode prog_2_method_6_code 3 = .ok (.lconst 1, 1) := by decide +kernel
theorem d_A_longestFit_4 : decode prog_2_method_6_code 4 = .ok (.aload_n 0, 1) := by decide +kernel
theorem d_A_longestFit_5 : decode prog_2_method_6_code 5 = .ok (.getfield 44, 3) := by decide +kernel
theorem d_A_longestFit_8 : decode prog_2_method_6_code 8 = .ok (.lshl, 1) := by decide +kernel
theorem d_A_longestFit_9 : decode prog_2_method_6_code 9 = .ok (.aload_n 1, 1) := by decide +kernel
theorem d_A_longestFit_10 : decode prog_2_method_6_code 10 = .ok (.iload_n 2, 1) := by decide +kernel
theorem d_A_longestFit_11 : decode prog_2_method_6_code 11 = .ok (.invokevirtual 47, 3) := by decide +kernel
theorem d_A_spread_0 : decode prog_2_method_9_code 0 = .ok (.iload 4, 2) := by decide +kernel
theorem d_A_spread_2 : decode prog_2_method_9_code 2 = .ok (.ifCond .eq 14, 3) := by decide +kernel
theorem d_A_spread_5 : decode prog_2_method_9_code 5 = .ok (.aload_n 3, 1) := by decide +kernel
theorem d_A_spread_6 : decode prog_2_method_9_code 6 = .ok (.iload 4, 2) := by decide +kernel
theorem d_A_spread_8 : decode prog_2_method_9_code 8 = .ok (.iconst 1, 1) := by decide +kernel
theorem d_A_spread_9 : decode prog_2_method_9_code 9 = .ok (.isub, 1) := by decide +kernel
theorem d_A_spread_10 : decode prog_2_method_9_code 10 = .ok (.caload, 1) := by decide +kernel
theorem d_A_spread_11 : decode prog_2_method_9_code 11 = .ok (.bipush 10, 2) := by decide +kernel
theorem d_A_spread_13 : decode prog_2_method_9_code 13 = .ok (.if_icmp .ne 7, 3) := by decide +kernel
theorem d_A_spread_20 : decode prog_2_method_9_code 20 = .ok (.iconst 0, 1) := by decide +kernel
theorem d_A_spread_16 : decode prog_2_method_9_code 16 = .ok (.iconst 1, 1) := by decide +kernel
theorem d_A_spread_17 : decode prog_2_method_9_code 17 = .ok (.goto 4, 3) := by decide +kernel
theorem d_A_spread_21 : decode prog_2_method_9_code 21 = .ok (.istore 5, 2) := by decide +kernel
theorem d_A_spread_23 : decode prog_2_method_9_code 23 = .ok (.iload 4, 2) := by decide +kernel
theorem d_A_spread_25 : decode prog_2_method_9_code 25 = .ok (.aload_n 3, 1) := by decide +kernel
theorem d_A_spread_26 : decode prog_2_method_9_code 26 = .ok (.arraylength, 1) := by decide +kernel
theorem d_A_spread_27 : decode prog_2_method_9_code 27 = .ok (.if_icmp .eq 12, 3) := by decide +kernel
theorem d_A_spread_30 : decode prog_2_method_9_code 30 = .ok (.aload_n 3, 1) := by decide +kernel
theorem d_A_spread_31 : decode prog_2_method_9_code 31 = .ok (.iload 4, 2) := by decide +kernel
theorem d_A_spread_33 : decode prog_2_method_9_code 33 = .ok (.caload, 1) := by decide +kernel
theorem d_A_spread_34 : decode prog_2_method_9_code 34 = .ok (.bipush 10, 2) := by decide +kernel
theorem d_A_spread_36 : decode prog_2_method_9_code 36 = .ok (.if_icmp .ne 7, 3) := by decide +kernel
theorem d_A_spread_43 : decode prog_2_method_9_code 43 = .ok (.iconst 0, 1) := by decide +kernel
theorem d_A_spread_39 : decode prog_2_method_9_code 39 = .ok (.iconst 1, 1) := by decide +kernel
theorem d_A_spread_40 : decode prog_2_method_9_code 40 = .ok (.goto 4, 3) := by decide +kernel
theorem d_A_spread_44 : decode prog_2_method_9_code 44 = .ok (.istore 6, 2) := by decide +kernel
theorem d_A_spread_46 : decode prog_2_method_9_code 46 = .ok (.lload_n 1, 1) := by decide +kernel
theorem d_A_spread_47 : decode prog_2_method_9_code 47 = .ok (.lstore 7, 2) := by decide +kernel
theorem d_A_spread_49 : decode prog_2_method_9_code 49 = .ok (.lload_n 1, 1) := by decide +kernel
theorem d_A_spread_50 : decode prog_2_method_9_code 50 = .ok (.lstore 9, 2) := by decide +kernel
theorem d_A_spread_52 : decode prog_2_method_9_code 52 = .ok (.iconst 0, 1) := by decide +kernel
theorem d_A_spread_53 : decode prog_2_method_9_code 53 = .ok (.istore 11, 2) := by decide +kernel
theorem d_A_spread_55 : decode prog_2_method_9_code 55 = .ok (.iload 11, 2) := by decide +kernel
theorem d_A_spread_57 : decode prog_2_method_9_code 57 = .ok (.aload_n 0, 1) := by decide +kernel
theorem d_A_spread_58 : decode prog_2_method_9_code 58 = .ok (.getfield 28, 3) := by decide +kernel
theorem d_A_spread_61 : decode prog_2_method_9_code 61 = .ok (.if_icmp .ge 65, 3) := by decide +kernel
theorem d_A_spread_64 : decode prog_2_method_9_code 64 = .ok (.lload 9, 2) := by decide +kernel
theorem d_A_spread_66 : decode prog_2_method_9_code 66 = .ok (.lconst 0, 1) := by decide +kernel
theorem d_A_spread_67 : decode prog_2_method_9_code 67 = .ok (.lcmp, 1) := by decide +kernel
theorem d_A_spread_68 : decode prog_2_method_9_code 68 = .ok (.ifCond .eq 58, 3) := by decide +kernel
theorem d_A_spread_71 : decode prog_2_method_9_code 71 = .ok (.lload 9, 2) := by decide +kernel
theorem d_A_spread_73 : decode prog_2_method_9_code 73 = .ok (.invokestatic 58, 3) := by decide +kernel
theorem d_Jl_numberOfTrailingZeros_0 : decode prog_12_method_49_code 0 = .ok (.lload_n 0, 1) := by decide +kernel
theorem d_Jl_numberOfTrailingZeros_1 : decode prog_12_method_49_code 1 = .ok (.l2i, 1) := by decide +kernel
theorem d_Jl_numberOfTrailingZeros_2 : decode prog_12_method_49_code 2 = .ok (.istore_n 2, 1) := by decide +kernel
theorem d_Jl_numberOfTrailingZeros_3 : decode prog_12_method_49_code 3 = .ok (.iload_n 2, 1) := by decide +kernel
theorem d_Jl_numberOfTrailingZeros_4 : decode prog_12_method_49_code 4 = .ok (.ifCond .ne 17, 3) := by decide +kernel
theorem d_Jl_numberOfTrailingZeros_21 : decode prog_12_method_49_code 21 = .ok (.iload_n 2, 1) := by decide +kernel
theorem d_Jl_numberOfTrailingZeros_22 : decode prog_12_method_49_code 22 = .ok (.invokestatic 311, 3) := by decide +kernel
theorem d_Ji_numberOfTrailingZeros_0 : decode prog_11_method_48_code 0 = .ok (.iload_n 0, 1) := by decide +kernel
theorem d_Ji_numberOfTrailingZeros_1 : decode prog_11_method_48_code 1 = .ok (.iconst (-1), 1) := by decide +kernel
theorem d_Ji_numberOfTrailingZeros_2 : decode prog_11_method_48_code 2 = .ok (.ixor, 1) := by decide +kernel
theorem d_Ji_numberOfTrailingZeros_3 : decode prog_11_method_48_code 3 = .ok (.iload_n 0, 1) := by decide +kernel
theorem d_Ji_numberOfTrailingZeros_4 : decode prog_11_method_48_code 4 = .ok (.iconst 1, 1) := by decide +kernel
theorem d_Ji_numberOfTrailingZeros_5 : decode prog_11_method_48_code 5 = .ok (.isub, 1) := by decide +kernel
theorem d_Ji_numberOfTrailingZeros_6 : decode prog_11_method_48_code 6 = .ok (.iand, 1) := by decide +kernel
theorem d_Ji_numberOfTrailingZeros_7 : decode prog_11_method_48_code 7 = .ok (.istore_n 0, 1) := by decide +kernel
theorem d_Ji_numberOfTrailingZeros_8 : decode prog_11_method_48_code 8 = .ok (.iload_n 0, 1) := by decide +kernel
theorem d_Ji_numberOfTrailingZeros_9 : decode prog_11_method_48_code 9 = .ok (.ifCond .gt 8, 3) := by decide +kernel
theorem d_Ji_numberOfTrailingZeros_17 : decode prog_11_method_48_code 17 = .ok (.iconst 1, 1) := by decide +kernel
theorem d_Ji_numberOfTrailingZeros_18 : decode prog_11_method_48_code 18 = .ok (.istore_n 1, 1) := by decide +kernel
theorem d_Ji_numberOfTrailingZeros_19 : decode prog_11_method_48_code 19 = .ok (.iload_n 0, 1) := by decide +kernel
theorem d_Ji_numberOfTrailingZeros_20 : decode prog_11_method_48_code 20 = .ok (.ldc_w 264, 3) := by decide +kernel
theorem d_Ji_numberOfTrailingZeros_23 : decode prog_11_method_48_code 23 = .ok (.if_icmp .le 11, 3) := by decide +kernel
theorem d_Ji_numberOfTrailingZeros_26 : decode prog_11_method_48_code 26 = .ok (.iinc 1 16, 3) := by decide +kernel
theorem d_Ji_numberOfTrailingZeros_29 : decode prog_11_method_48_code 29 = .ok (.iload_n 0, 1) := by decide +kernel
theorem d_Ji_numberOfTrailingZeros_30 : decode prog_11_method_48_code 30 = .ok (.bipush 16, 2) := by decide +kernel
theorem d_Ji_numberOfTrailingZeros_32 : decode prog_11_method_48_code 32 = .ok (.iushr, 1) := by decide +kernel
theorem d_Ji_numberOfTrailingZeros_33 : decode prog_11_method_48_code 33 = .ok (.istore_n 0, 1) := by decide +kernel
theorem d_Ji_numberOfTrailingZeros_12 : decode prog_11_method_48_code 12 = .ok (.iload_n 0, 1) := by decide +kernel
theorem d_Ji_numberOfTrailingZeros_13 : decode prog_11_method_48_code 13 = .ok (.bipush 32, 2) := by decide +kernel
theorem d_Ji_numberOfTrailingZeros_15 : decode prog_11_method_48_code 15 = .ok (.iand, 1) := by decide +kernel
theorem d_Ji_numberOfTrailingZeros_16 : decode prog_11_method_48_code 16 = .ok (.ireturn, 1) := by decide +kernel
theorem d_Ji_numberOfTrailingZeros_34 : decode prog_11_method_48_code 34 = .ok (.iload_n 0, 1) := by decide +kernel
theorem d_Ji_numberOfTrailingZeros_35 : decode prog_11_method_48_code 35 = .ok (.sipush 256, 3) := by decide +kernel
theorem d_Ji_numberOfTrailingZeros_38 : decode prog_11_method_48_code 38 = .ok (.if_icmp .le 11, 3) := by decide +kernel
theorem d_Ji_numberOfTrailingZeros_41 : decode prog_11_method_48_code 41 = .ok (.iinc 1 8, 3) := by decide +kernel
theorem d_Ji_numberOfTrailingZeros_44 : decode prog_11_method_48_code 44 = .ok (.iload_n 0, 1) := by decide +kernel
theorem d_Ji_numberOfTrailingZeros_45 : decode prog_11_method_48_code 45 = .ok (.bipush 8, 2) := by decide +kernel
theorem d_Ji_numberOfTrailingZeros_47 : decode prog_11_method_48_code 47 = .ok (.iushr, 1) := by decide +kernel
theorem d_Ji_numberOfTrailingZeros_48 : decode prog_11_method_48_code 48 = .ok (.istore_n 0, 1) := by decide +kernel
theorem d_Ji_numberOfTrailingZeros_49 : decode prog_11_method_48_code 49 = .ok (.iload_n 0, 1) := by decide +kernel
theorem d_Ji_numberOfTrailingZeros_50 : decode prog_11_method_48_code 50 = .ok (.bipush 16, 2) := by decide +kernel
theorem d_Ji_numberOfTrailingZeros_52 : decode prog_11_method_48_code 52 = .ok (.if_icmp .le 10, 3) := by decide +kernel
theorem d_Ji_numberOfTrailingZeros_55 : decode prog_11_method_48_code 55 = .ok (.iinc 1 4, 3) := by decide +kernel
theorem d_Ji_numberOfTrailingZeros_58 : decode prog_11_method_48_code 58 = .ok (.iload_n 0, 1) := by decide +kernel
theorem d_Ji_numberOfTrailingZeros_59 : decode prog_11_method_48_code 59 = .ok (.iconst 4, 1) := by decide +kernel
theorem d_Ji_numberOfTrailingZeros_60 : decode prog_11_method_48_code 60 = .ok (.iushr, 1) := by decide +kernel
theorem d_Ji_numberOfTrailingZeros_61 : decode prog_11_method_48_code 61 = .ok (.istore_n 0, 1) := by decide +kernel
theorem d_Ji_numberOfTrailingZeros_62 : decode prog_11_method_48_code 62 = .ok (.iload_n 0, 1) := by decide +kernel
theorem d_Ji_numberOfTrailingZeros_63 : decode prog_11_method_48_code 63 = .ok (.iconst 4, 1) := by decide +kernel
theorem d_Ji_numberOfTrailingZeros_64 : decode prog_11_method_48_code 64 = .ok (.if_icmp .le 10, 3) := by decide +kernel
theorem d_Ji_numberOfTrailingZeros_67 : decode prog_11_method_48_code 67 = .ok (.iinc 1 2, 3) := by decide +kernel
theorem d_Ji_numberOfTrailingZeros_70 : decode prog_11_method_48_code 70 = .ok (.iload_n 0, 1) := by decide +kernel
theorem d_Ji_numberOfTrailingZeros_71 : decode prog_11_method_48_code 71 = .ok (.iconst 2, 1) := by decide +kernel
theorem d_Ji_numberOfTrailingZeros_72 : decode prog_11_method_48_code 72 = .ok (.iushr, 1) := by decide +kernel
theorem d_Ji_numberOfTrailingZeros_73 : decode prog_11_method_48_code 73 = .ok (.istore_n 0, 1) := by decide +kernel
theorem d_Ji_numberOfTrailingZeros_74 : decode prog_11_method_48_code 74 = .ok (.iload_n 1, 1) := by decide +kernel
theorem d_Ji_numberOfTrailingZeros_75 : decode prog_11_method_48_code 75 = .ok (.iload_n 0, 1) := by decide +kernel
theorem d_Ji_numberOfTrailingZeros_76 : decode prog_11_method_48_code 76 = .ok (.iconst 1, 1) := by decide +kernel
theorem d_Ji_numberOfTrailingZeros_77 : decode prog_11_method_48_code 77 = .ok (.iushr, 1) := by decide +kernel
theorem d_Ji_numberOfTrailingZeros_78 : decode prog_11_method_48_code 78 = .ok (.iadd, 1) := by decide +kernel
theorem d_Ji_numberOfTrailingZeros_79 : decode prog_11_method_48_code 79 = .ok (.ireturn, 1) := by decide +kernel
theorem d_Jl_numberOfTrailingZeros_7 : decode prog_12_method_49_code 7 = .ok (.bipush 32, 2) := by decide +kernel
theorem d_Jl_numberOfTrailingZeros_9 : decode prog_12_method_49_code 9 = .ok (.lload_n 0, 1) := by decide +kernel
theorem d_Jl_numberOfTrailingZeros_10 : decode prog_12_method_49_code 10 = .ok (.bipush 32, 2) := by decide +kernel
theorem d_Jl_numberOfTrailingZeros_12 : decode prog_12_method_49_code 12 = .ok (.lushr, 1) := by decide +kernel
theorem d_Jl_numberOfTrailingZeros_13 : decode prog_12_method_49_code 13 = .ok (.l2i, 1) := by decide +kernel
theorem d_Jl_numberOfTrailingZeros_14 : decode prog_12_method_49_code 14 = .ok (.invokestatic 311, 3) := by decide +kernel
theorem d_Jl_numberOfTrailingZeros_17 : decode prog_12_method_49_code 17 = .ok (.iadd, 1) := by decide +kernel
theorem d_Jl_numberOfTrailingZeros_18 : decode prog_12_method_49_code 18 = .ok (.goto 7, 3) := by decide +kernel
theorem d_Jl_numberOfTrailingZeros_25 : decode prog_12_method_49_code 25 = .ok (.ireturn, 1) := by decide +kernel
theorem d_A_spread_76 : decode prog_2_method_9_code 76 = .ok (.istore 12, 2) := by decide +kernel
theorem d_A_spread_78 : decode prog_2_method_9_code 78 = .ok (.lload 9, 2) := by decide +kernel
theorem d_A_spread_80 : decode prog_2_method_9_code 80 = .ok (.lload 9, 2) := by decide +kernel
theorem d_A_spread_82 : decode prog_2_method_9_code 82 = .ok (.lconst 1, 1) := by decide +kernel
theorem d_A_spread_83 : decode prog_2_method_9_code 83 = .ok (.lsub, 1) := by decide +kernel
theorem d_A_spread_84 : decode prog_2_method_9_code 84 = .ok (.land, 1) := by decide +kernel
theorem d_A_spread_85 : decode prog_2_method_9_code 85 = .ok (.lstore 9, 2) := by decide +kernel
theorem d_A_spread_87 : decode prog_2_method_9_code 87 = .ok (.aload_n 0, 1) := by decide +kernel
theorem d_A_spread_88 : decode prog_2_method_9_code 88 = .ok (.iload 12, 2) := by decide +kernel
theorem d_A_spread_90 : decode prog_2_method_9_code 90 = .ok (.iload 5, 2) := by decide +kernel
theorem d_A_spread_92 : decode prog_2_method_9_code 92 = .ok (.iload 6, 2) := by decide +kernel
theorem d_A_spread_94 : decode prog_2_method_9_code 94 = .ok (.invokevirtual 72, 3) := by decide +kernel
theorem d_A_waysOut_0 : decode prog_2_method_10_code 0 = .ok (.aload_n 0, 1) := by decide +kernel
theorem d_A_waysOut_1 : decode prog_2_method_10_code 1 = .ok (.getfield 11, 3) := by decide +kernel
theorem d_A_waysOut_4 : decode prog_2_method_10_code 4 = .ok (.iload_n 1, 1) := by decide +kernel
theorem d_A_waysOut_5 : decode prog_2_method_10_code 5 = .ok (.iaload, 1) := by decide +kernel
theorem d_A_waysOut_6 : decode prog_2_method_10_code 6 = .ok (.tableswitch 86 0 3 #[30, 86, 50, 68], 30) := by decide +kernel
theorem d_A_waysOut_36 : decode prog_2_method_10_code 36 = .ok (.aload_n 0, 1) := by decide +kernel
theorem d_A_waysOut_37 : decode prog_2_method_10_code 37 = .ok (.getfield 15, 3) := by decide +kernel
theorem d_A_waysOut_40 : decode prog_2_method_10_code 40 = .ok (.iload_n 1, 1) := by decide +kernel
theorem d_A_waysOut_41 : decode prog_2_method_10_code 41 = .ok (.iaload, 1) := by decide +kernel
theorem d_A_waysOut_42 : decode prog_2_method_10_code 42 = .ok (.invokestatic 68, 3) := by decide +kernel
theorem d_A_asSet_0 : decode prog_2_method_11_code 0 = .ok (.iload_n 0, 1) := by decide +kernel
theorem d_A_asSet_1 : decode prog_2_method_11_code 1 = .ok (.iconst (-1), 1) := by decide +kernel
theorem d_A_asSet_2 : decode prog_2_method_11_code 2 = .ok (.if_icmp .ne 7, 3) := by decide +kernel
theorem d_A_asSet_9 : decode prog_2_method_11_code 9 = .ok (.lconst 1, 1) := by decide +kernel
theorem d_A_asSet_10 : decode prog_2_method_11_code 10 = .ok (.iload_n 0, 1) := by decide +kernel
theorem d_A_asSet_11 : decode prog_2_method_11_code 11 = .ok (.lshl, 1) := by decide +kernel
theorem d_A_asSet_5 : decode prog_2_method_11_code 5 = .ok (.lconst 0, 1) := by decide +kernel
theorem d_A_asSet_6 : decode prog_2_method_11_code 6 = .ok (.goto 6, 3) := by decide +kernel
theorem d_A_asSet_12 : decode prog_2_method_11_code 12 = .ok (.lreturn, 1) := by decide +kernel
theorem d_A_waysOut_45 : decode prog_2_method_10_code 45 = .ok (.aload_n 0, 1) := by decide +kernel
theorem d_A_waysOut_46 : decode prog_2_method_10_code 46 = .ok (.getfield 18, 3) := by decide +kernel
theorem d_A_waysOut_49 : decode prog_2_method_10_code 49 = .ok (.iload_n 1, 1) := by decide +kernel
theorem d_A_waysOut_50 : decode prog_2_method_10_code 50 = .ok (.iaload, 1) := by decide +kernel
theorem d_A_waysOut_51 : decode prog_2_method_10_code 51 = .ok (.invokestatic 68, 3) := by decide +kernel
theorem d_A_waysOut_54 : decode prog_2_method_10_code 54 = .ok (.lor, 1) := by decide +kernel
theorem d_A_waysOut_55 : decode prog_2_method_10_code 55 = .ok (.lreturn, 1) := by decide +kernel
theorem d_A_waysOut_92 : decode prog_2_method_10_code 92 = .ok (.lconst 0, 1) := by decide +kernel
theorem d_A_waysOut_93 : decode prog_2_method_10_code 93 = .ok (.lreturn, 1) := by decide +kernel
theorem d_A_waysOut_56 : decode prog_2_method_10_code 56 = .ok (.iload_n 2, 1) := by decide +kernel
theorem d_A_waysOut_57 : decode prog_2_method_10_code 57 = .ok (.ifCond .eq 15, 3) := by decide +kernel
theorem d_A_waysOut_72 : decode prog_2_method_10_code 72 = .ok (.lconst 0, 1) := by decide +kernel
theorem d_A_waysOut_60 : decode prog_2_method_10_code 60 = .ok (.aload_n 0, 1) := by decide +kernel
theorem d_A_waysOut_61 : decode prog_2_method_10_code 61 = .ok (.getfield 15, 3) := by decide +kernel
theorem d_A_waysOut_64 : decode prog_2_method_10_code 64 = .ok (.iload_n 1, 1) := by decide +kernel
theorem d_A_waysOut_65 : decode prog_2_method_10_code 65 = .ok (.iaload, 1) := by decide +kernel
theorem d_A_waysOut_66 : decode prog_2_method_10_code 66 = .ok (.invokestatic 68, 3) := by decide +kernel
theorem d_A_waysOut_69 : decode prog_2_method_10_code 69 = .ok (.goto 4, 3) := by decide +kernel
theorem d_A_waysOut_74 : decode prog_2_method_10_code 74 = .ok (.iload_n 3, 1) := by decide +kernel
theorem d_A_waysOut_75 : decode prog_2_method_10_code 75 = .ok (.ifCond .eq 15, 3) := by decide +kernel
theorem d_A_waysOut_90 : decode prog_2_method_10_code 90 = .ok (.lconst 0, 1) := by decide +kernel
theorem d_A_waysOut_78 : decode prog_2_method_10_code 78 = .ok (.aload_n 0, 1) := by decide +kernel
theorem d_A_waysOut_79 : decode prog_2_method_10_code 79 = .ok (.getfield 15, 3) := by decide +kernel
theorem d_A_waysOut_82 : decode prog_2_method_10_code 82 = .ok (.iload_n 1, 1) := by decide +kernel
theorem d_A_waysOut_83 : decode prog_2_method_10_code 83 = .ok (.iaload, 1) := by decide +kernel
theorem d_A_waysOut_84 : decode prog_2_method_10_code 84 = .ok (.invokestatic 68, 3) := by decide +kernel
theorem d_A_waysOut_87 : decode prog_2_method_10_code 87 = .ok (.goto 4, 3) := by decide +kernel
theorem d_A_waysOut_73 : decode prog_2_method_10_code 73 = .ok (.lreturn, 1) := by decide +kernel
theorem d_A_waysOut_91 : decode prog_2_method_10_code 91 = .ok (.lreturn, 1) := by decide +kernel
theorem d_A_spread_97 : decode prog_2_method_9_code 97 = .ok (.lload 7, 2) := by decide +kernel
theorem d_A_spread_99 : decode prog_2_method_9_code 99 = .ok (.ldc2_w 32, 3) := by decide +kernel
theorem d_A_spread_102 : decode prog_2_method_9_code 102 = .ok (.lxor, 1) := by decide +kernel
theorem d_A_spread_103 : decode prog_2_method_9_code 103 = .ok (.land, 1) := by decide +kernel
theorem d_A_spread_104 : decode prog_2_method_9_code 104 = .ok (.lstore 13, 2) := by decide +kernel
theorem d_A_spread_106 : decode prog_2_method_9_code 106 = .ok (.lload 7, 2) := by decide +kernel
theorem d_A_spread_108 : decode prog_2_method_9_code 108 = .ok (.lload 13, 2) := by decide +kernel
theorem d_A_spread_110 : decode prog_2_method_9_code 110 = .ok (.lor, 1) := by decide +kernel
theorem d_A_spread_111 : decode prog_2_method_9_code 111 = .ok (.lstore 7, 2) := by decide +kernel
theorem d_A_spread_113 : decode prog_2_method_9_code 113 = .ok (.lload 9, 2) := by decide +kernel
theorem d_A_spread_115 : decode prog_2_method_9_code 115 = .ok (.lload 13, 2) := by decide +kernel
theorem d_A_spread_117 : decode prog_2_method_9_code 117 = .ok (.lor, 1) := by decide +kernel
theorem d_A_spread_118 : decode prog_2_method_9_code 118 = .ok (.lstore 9, 2) := by decide +kernel
theorem d_A_spread_120 : decode prog_2_method_9_code 120 = .ok (.iinc 11 1, 3) := by decide +kernel
theorem d_A_spread_123 : decode prog_2_method_9_code 123 = .ok (.goto (-68), 3) := by decide +kernel
theorem d_A_spread_126 : decode prog_2_method_9_code 126 = .ok (.lload 7, 2) := by decide +kernel
theorem d_A_spread_128 : decode prog_2_method_9_code 128 = .ok (.lreturn, 1) := by decide +kernel
theorem d_A_longestFit_14 : decode prog_2_method_6_code 14 = .ok (.lstore 4, 2) := by decide +kernel
theorem d_A_longestFit_16 : decode prog_2_method_6_code 16 = .ok (.iload_n 2, 1) := by decide +kernel
theorem d_A_longestFit_17 : decode prog_2_method_6_code 17 = .ok (.istore 6, 2) := by decide +kernel
theorem d_A_longestFit_19 : decode prog_2_method_6_code 19 = .ok (.iload 6, 2) := by decide +kernel
theorem d_A_longestFit_21 : decode prog_2_method_6_code 21 = .ok (.aload_n 1, 1) := by decide +kernel
theorem d_A_longestFit_22 : decode prog_2_method_6_code 22 = .ok (.arraylength, 1) := by decide +kernel
theorem d_A_longestFit_23 : decode prog_2_method_6_code 23 = .ok (.if_icmp .ge 56, 3) := by decide +kernel
theorem d_A_longestFit_26 : decode prog_2_method_6_code 26 = .ok (.lload 4, 2) := by decide +kernel
theorem d_A_longestFit_28 : decode prog_2_method_6_code 28 = .ok (.lconst 0, 1) := by decide +kernel
theorem d_A_longestFit_29 : decode prog_2_method_6_code 29 = .ok (.lcmp, 1) := by decide +kernel
theorem d_A_longestFit_30 : decode prog_2_method_6_code 30 = .ok (.ifCond .eq 49, 3) := by decide +kernel
theorem d_A_longestFit_33 : decode prog_2_method_6_code 33 = .ok (.aload_n 0, 1) := by decide +kernel
theorem d_A_longestFit_34 : decode prog_2_method_6_code 34 = .ok (.aload_n 0, 1) := by decide +kernel
theorem d_A_longestFit_35 : decode prog_2_method_6_code 35 = .ok (.lload 4, 2) := by decide +kernel
theorem d_A_longestFit_37 : decode prog_2_method_6_code 37 = .ok (.aload_n 1, 1) := by decide +kernel
theorem d_A_longestFit_38 : decode prog_2_method_6_code 38 = .ok (.iload 6, 2) := by decide +kernel
theorem d_A_longestFit_40 : decode prog_2_method_6_code 40 = .ok (.caload, 1) := by decide +kernel
theorem d_A_longestFit_41 : decode prog_2_method_6_code 41 = .ok (.invokevirtual 51, 3) := by decide +kernel
theorem d_A_consume_0 : decode prog_2_method_7_code 0 = .ok (.lconst 0, 1) := by decide +kernel
theorem d_A_consume_1 : decode prog_2_method_7_code 1 = .ok (.lstore 4, 2) := by decide +kernel
theorem d_A_consume_3 : decode prog_2_method_7_code 3 = .ok (.lload_n 1, 1) := by decide +kernel
theorem d_A_consume_4 : decode prog_2_method_7_code 4 = .ok (.lstore 6, 2) := by decide +kernel
theorem d_A_consume_6 : decode prog_2_method_7_code 6 = .ok (.iconst 0, 1) := by decide +kernel
theorem d_A_consume_7 : decode prog_2_method_7_code 7 = .ok (.istore 8, 2) := by decide +kernel
theorem d_A_consume_9 : decode prog_2_method_7_code 9 = .ok (.iload 8, 2) := by decide +kernel
theorem d_A_consume_11 : decode prog_2_method_7_code 11 = .ok (.aload_n 0, 1) := by decide +kernel
theorem d_A_consume_12 : decode prog_2_method_7_code 12 = .ok (.getfield 28, 3) := by decide +kernel
theorem d_A_consume_15 : decode prog_2_method_7_code 15 = .ok (.if_icmp .ge 68, 3) := by decide +kernel
theorem d_A_consume_18 : decode prog_2_method_7_code 18 = .ok (.lload 6, 2) := by decide +kernel
theorem d_A_consume_20 : decode prog_2_method_7_code 20 = .ok (.lconst 0, 1) := by decide +kernel
theorem d_A_consume_21 : decode prog_2_method_7_code 21 = .ok (.lcmp, 1) := by decide +kernel
theorem d_A_consume_22 : decode prog_2_method_7_code 22 = .ok (.ifCond .eq 61, 3) := by decide +kernel
theorem d_A_consume_25 : decode prog_2_method_7_code 25 = .ok (.lload 6, 2) := by decide +kernel
theorem d_A_consume_27 : decode prog_2_method_7_code 27 = .ok (.invokestatic 58, 3) := by decide +kernel
theorem d_A_consume_30 : decode prog_2_method_7_code 30 = .ok (.istore 9, 2) := by decide +kernel
theorem d_A_consume_32 : decode prog_2_method_7_code 32 = .ok (.lload 6, 2) := by decide +kernel
theorem d_A_consume_34 : decode prog_2_method_7_code 34 = .ok (.lload 6, 2) := by decide +kernel
theorem d_A_consume_36 : decode prog_2_method_7_code 36 = .ok (.lconst 1, 1) := by decide +kernel
theorem d_A_consume_37 : decode prog_2_method_7_code 37 = .ok (.lsub, 1) := by decide +kernel
theorem d_A_consume_38 : decode prog_2_method_7_code 38 = .ok (.land, 1) := by decide +kernel
theorem d_A_consume_39 : decode prog_2_method_7_code 39 = .ok (.lstore 6, 2) := by decide +kernel
theorem d_A_consume_41 : decode prog_2_method_7_code 41 = .ok (.aload_n 0, 1) := by decide +kernel
theorem d_A_consume_42 : decode prog_2_method_7_code 42 = .ok (.getfield 11, 3) := by decide +kernel
theorem d_A_consume_45 : decode prog_2_method_7_code 45 = .ok (.iload 9, 2) := by decide +kernel
theorem d_A_consume_47 : decode prog_2_method_7_code 47 = .ok (.iaload, 1) := by decide +kernel
theorem d_A_consume_48 : decode prog_2_method_7_code 48 = .ok (.iconst 1, 1) := by decide +kernel
theorem d_A_consume_49 : decode prog_2_method_7_code 49 = .ok (.if_icmp .ne 28, 3) := by decide +kernel
theorem d_A_consume_52 : decode prog_2_method_7_code 52 = .ok (.aload_n 0, 1) := by decide +kernel
theorem d_A_consume_53 : decode prog_2_method_7_code 53 = .ok (.iload 9, 2) := by decide +kernel
theorem d_A_consume_55 : decode prog_2_method_7_code 55 = .ok (.iload_n 3, 1) := by decide +kernel
theorem d_A_consume_56 : decode prog_2_method_7_code 56 = .ok (.invokevirtual 64, 3) := by decide +kernel
theorem d_A_takes_0 : decode prog_2_method_8_code 0 = .ok (.iload_n 2, 1) := by decide +kernel
theorem d_A_takes_1 : decode prog_2_method_8_code 1 = .ok (.bipush 64, 2) := by decide +kernel
theorem d_A_takes_3 : decode prog_2_method_8_code 3 = .ok (.if_icmp .ge 12, 3) := by decide +kernel
theorem d_A_takes_15 : decode prog_2_method_8_code 15 = .ok (.aload_n 0, 1) := by decide +kernel
theorem d_A_takes_16 : decode prog_2_method_8_code 16 = .ok (.getfield 25, 3) := by decide +kernel
theorem d_A_takes_19 : decode prog_2_method_8_code 19 = .ok (.iload_n 1, 1) := by decide +kernel
theorem d_A_takes_20 : decode prog_2_method_8_code 20 = .ok (.laload, 1) := by decide +kernel
theorem d_A_takes_6 : decode prog_2_method_8_code 6 = .ok (.aload_n 0, 1) := by decide +kernel
theorem d_A_takes_7 : decode prog_2_method_8_code 7 = .ok (.getfield 21, 3) := by decide +kernel
theorem d_A_takes_10 : decode prog_2_method_8_code 10 = .ok (.iload_n 1, 1) := by decide +kernel
theorem d_A_takes_11 : decode prog_2_method_8_code 11 = .ok (.laload, 1) := by decide +kernel
theorem d_A_takes_12 : decode prog_2_method_8_code 12 = .ok (.goto 9, 3) := by decide +kernel
theorem d_A_takes_21 : decode prog_2_method_8_code 21 = .ok (.lstore_n 3, 1) := by decide +kernel
theorem d_A_takes_22 : decode prog_2_method_8_code 22 = .ok (.lload_n 3, 1) := by decide +kernel
theorem d_A_takes_23 : decode prog_2_method_8_code 23 = .ok (.iload_n 2, 1) := by decide +kernel
theorem d_A_takes_24 : decode prog_2_method_8_code 24 = .ok (.bipush 63, 2) := by decide +kernel
theorem d_A_takes_26 : decode prog_2_method_8_code 26 = .ok (.iand, 1) := by decide +kernel
theorem d_A_takes_27 : decode prog_2_method_8_code 27 = .ok (.lushr, 1) := by decide +kernel
theorem d_A_takes_28 : decode prog_2_method_8_code 28 = .ok (.lconst 1, 1) := by decide +kernel
theorem d_A_takes_29 : decode prog_2_method_8_code 29 = .ok (.land, 1) := by decide +kernel
theorem d_A_takes_30 : decode prog_2_method_8_code 30 = .ok (.lconst 0, 1) := by decide +kernel
theorem d_A_takes_31 : decode prog_2_method_8_code 31 = .ok (.lcmp, 1) := by decide +kernel
theorem d_A_takes_32 : decode prog_2_method_8_code 32 = .ok (.ifCond .eq 7, 3) := by decide +kernel
theorem d_A_takes_39 : decode prog_2_method_8_code 39 = .ok (.iconst 0, 1) := by decide +kernel
theorem d_A_takes_35 : decode prog_2_method_8_code 35 = .ok (.iconst 1, 1) := by decide +kernel
theorem d_A_takes_36 : decode prog_2_method_8_code 36 = .ok (.goto 4, 3) := by decide +kernel
theorem d_A_takes_40 : decode prog_2_method_8_code 40 = .ok (.ireturn, 1) := by decide +kernel
theorem d_A_consume_59 : decode prog_2_method_7_code 59 = .ok (.ifCond .eq 18, 3) := by decide +kernel
theorem d_A_consume_62 : decode prog_2_method_7_code 62 = .ok (.lload 4, 2) := by decide +kernel
theorem d_A_consume_64 : decode prog_2_method_7_code 64 = .ok (.aload_n 0, 1) := by decide +kernel
theorem d_A_consume_65 : decode prog_2_method_7_code 65 = .ok (.getfield 15, 3) := by decide +kernel
theorem d_A_consume_68 : decode prog_2_method_7_code 68 = .ok (.iload 9, 2) := by decide +kernel
theorem d_A_consume_70 : decode prog_2_method_7_code 70 = .ok (.iaload, 1) := by decide +kernel
theorem d_A_consume_71 : decode prog_2_method_7_code 71 = .ok (.invokestatic 68, 3) := by decide +kernel
theorem d_A_consume_74 : decode prog_2_method_7_code 74 = .ok (.lor, 1) := by decide +kernel
theorem d_A_consume_75 : decode prog_2_method_7_code 75 = .ok (.lstore 4, 2) := by decide +kernel
theorem d_A_consume_83 : decode prog_2_method_7_code 83 = .ok (.lload 4, 2) := by decide +kernel
theorem d_A_consume_85 : decode prog_2_method_7_code 85 = .ok (.lreturn, 1) := by decide +kernel
theorem d_A_consume_77 : decode prog_2_method_7_code 77 = .ok (.iinc 8 1, 3) := by decide +kernel
theorem d_A_consume_80 : decode prog_2_method_7_code 80 = .ok (.goto (-71), 3) := by decide +kernel
theorem d_A_longestFit_44 : decode prog_2_method_6_code 44 = .ok (.aload_n 1, 1) := by decide +kernel
theorem d_A_longestFit_45 : decode prog_2_method_6_code 45 = .ok (.iload 6, 2) := by decide +kernel
theorem d_A_longestFit_47 : decode prog_2_method_6_code 47 = .ok (.iconst 1, 1) := by decide +kernel
theorem d_A_longestFit_48 : decode prog_2_method_6_code 48 = .ok (.iadd, 1) := by decide +kernel
theorem d_A_longestFit_49 : decode prog_2_method_6_code 49 = .ok (.invokevirtual 47, 3) := by decide +kernel
theorem d_A_longestFit_52 : decode prog_2_method_6_code 52 = .ok (.lstore 4, 2) := by decide +kernel
theorem d_A_longestFit_54 : decode prog_2_method_6_code 54 = .ok (.lload 4, 2) := by decide +kernel
theorem d_A_longestFit_56 : decode prog_2_method_6_code 56 = .ok (.lconst 1, 1) := by decide +kernel
theorem d_A_longestFit_57 : decode prog_2_method_6_code 57 = .ok (.aload_n 0, 1) := by decide +kernel
theorem d_A_longestFit_58 : decode prog_2_method_6_code 58 = .ok (.getfield 55, 3) := by decide +kernel
theorem d_A_longestFit_61 : decode prog_2_method_6_code 61 = .ok (.lshl, 1) := by decide +kernel
theorem d_A_longestFit_62 : decode prog_2_method_6_code 62 = .ok (.land, 1) := by decide +kernel
theorem d_A_longestFit_63 : decode prog_2_method_6_code 63 = .ok (.lconst 0, 1) := by decide +kernel
theorem d_A_longestFit_64 : decode prog_2_method_6_code 64 = .ok (.lcmp, 1) := by decide +kernel
theorem d_A_longestFit_65 : decode prog_2_method_6_code 65 = .ok (.ifCond .eq 8, 3) := by decide +kernel
theorem d_A_longestFit_68 : decode prog_2_method_6_code 68 = .ok (.iload 6, 2) := by decide +kernel
theorem d_A_longestFit_70 : decode prog_2_method_6_code 70 = .ok (.iconst 1, 1) := by decide +kernel
theorem d_A_longestFit_71 : decode prog_2_method_6_code 71 = .ok (.iadd, 1) := by decide +kernel
theorem d_A_longestFit_72 : decode prog_2_method_6_code 72 = .ok (.istore_n 3, 1) := by decide +kernel
theorem d_A_longestFit_79 : decode prog_2_method_6_code 79 = .ok (.iload_n 3, 1) := by decide +kernel
theorem d_A_longestFit_80 : decode prog_2_method_6_code 80 = .ok (.ireturn, 1) := by decide +kernel
theorem d_A_longestFit_73 : decode prog_2_method_6_code 73 = .ok (.iinc 6 1, 3) := by decide +kernel
theorem d_A_longestFit_76 : decode prog_2_method_6_code 76 = .ok (.goto (-57), 3) := by decide +kernel
theorem d_A_seek_14 : decode prog_2_method_5_code 14 = .ok (.istore 4, 2) := by decide +kernel
theorem d_A_seek_16 : decode prog_2_method_5_code 16 = .ok (.iload 4, 2) := by decide +kernel
theorem d_A_seek_18 : decode prog_2_method_5_code 18 = .ok (.iconst (-1), 1) := by decide +kernel
theorem d_A_seek_19 : decode prog_2_method_5_code 19 = .ok (.if_icmp .eq 16, 3) := by decide +kernel
theorem d_A_seek_35 : decode prog_2_method_5_code 35 = .ok (.iinc 3 1, 3) := by decide +kernel
theorem d_A_seek_38 : decode prog_2_method_5_code 38 = .ok (.goto (-36), 3) := by decide +kernel
theorem d_A_seek_22 : decode prog_2_method_5_code 22 = .ok (.aload_n 0, 1) := by decide +kernel
theorem d_A_seek_23 : decode prog_2_method_5_code 23 = .ok (.iload_n 3, 1) := by decide +kernel
theorem d_A_seek_24 : decode prog_2_method_5_code 24 = .ok (.putfield 38, 3) := by decide +kernel
theorem d_A_seek_27 : decode prog_2_method_5_code 27 = .ok (.aload_n 0, 1) := by decide +kernel
theorem d_A_seek_28 : decode prog_2_method_5_code 28 = .ok (.iload 4, 2) := by decide +kernel
theorem d_A_seek_30 : decode prog_2_method_5_code 30 = .ok (.putfield 41, 3) := by decide +kernel
theorem d_A_seek_33 : decode prog_2_method_5_code 33 = .ok (.iconst 1, 1) := by decide +kernel
theorem d_A_seek_34 : decode prog_2_method_5_code 34 = .ok (.ireturn, 1) := by decide +kernel
theorem d_D_collectMatches_23 : decode prog_1_method_26_code 23 = .ok (.ifCond .ne 5, 3) := by decide +kernel
theorem d_D_collectMatches_28 : decode prog_1_method_26_code 28 = .ok (.aload_n 0, 1) := by decide +kernel
theorem d_D_collectMatches_29 : decode prog_1_method_26_code 29 = .ok (.getfield 49, 3) := by decide +kernel
theorem d_D_collectMatches_32 : decode prog_1_method_26_code 32 = .ok (.iload_n 2, 1) := by decide +kernel
theorem d_D_collectMatches_33 : decode prog_1_method_26_code 33 = .ok (.aload_n 0, 1) := by decide +kernel
theorem d_D_collectMatches_34 : decode prog_1_method_26_code 34 = .ok (.getfield 42, 3) := by decide +kernel
theorem d_D_collectMatches_37 : decode prog_1_method_26_code 37 = .ok (.getfield 114, 3) := by decide +kernel
theorem d_D_collectMatches_40 : decode prog_1_method_26_code 40 = .ok (.iastore, 1) := by decide +kernel
theorem d_D_collectMatches_41 : decode prog_1_method_26_code 41 = .ok (.aload_n 0, 1) := by decide +kernel
