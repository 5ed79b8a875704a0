theorem d_M_passes_20 : decode prog_6_method_40_code 20 = .ok (.iconst 0, 1) := by decide +kernel
theorem d_M_passes_16 : decode prog_6_method_40_code 16 = .ok (.iconst 1, 1) := by decide +kernel
theorem d_M_passes_17 : decode prog_6_method_40_code 17 = .ok (.goto 4, 3) := by decide +kernel
theorem d_M_passes_21 : decode prog_6_method_40_code 21 = .ok (.istore_n 3, 1) := by decide +kernel
theorem d_M_passes_22 : decode prog_6_method_40_code 22 = .ok (.iload_n 2, 1) := by decide +kernel
theorem d_M_passes_23 : decode prog_6_method_40_code 23 = .ok (.aload_n 0, 1) := by decide +kernel
theorem d_M_passes_24 : decode prog_6_method_40_code 24 = .ok (.invokevirtual 123, 3) := by decide +kernel
theorem d_M_passes_27 : decode prog_6_method_40_code 27 = .ok (.if_icmp .eq 13, 3) := by decide +kernel
theorem d_M_passes_30 : decode prog_6_method_40_code 30 = .ok (.aload_n 0, 1) := by decide +kernel
theorem d_M_passes_31 : decode prog_6_method_40_code 31 = .ok (.iload_n 2, 1) := by decide +kernel
theorem d_M_passes_32 : decode prog_6_method_40_code 32 = .ok (.invokevirtual 104, 3) := by decide +kernel
theorem d_M_passes_35 : decode prog_6_method_40_code 35 = .ok (.bipush 10, 2) := by decide +kernel
theorem d_M_passes_37 : decode prog_6_method_40_code 37 = .ok (.if_icmp .ne 7, 3) := by decide +kernel
theorem d_M_passes_44 : decode prog_6_method_40_code 44 = .ok (.iconst 0, 1) := by decide +kernel
theorem d_M_passes_40 : decode prog_6_method_40_code 40 = .ok (.iconst 1, 1) := by decide +kernel
theorem d_M_passes_41 : decode prog_6_method_40_code 41 = .ok (.goto 4, 3) := by decide +kernel
theorem d_M_passes_45 : decode prog_6_method_40_code 45 = .ok (.istore 4, 2) := by decide +kernel
theorem d_M_passes_47 : decode prog_6_method_40_code 47 = .ok (.aload_n 0, 1) := by decide +kernel
theorem d_M_passes_48 : decode prog_6_method_40_code 48 = .ok (.getfield 42, 3) := by decide +kernel
theorem d_M_passes_51 : decode prog_6_method_40_code 51 = .ok (.iload_n 1, 1) := by decide +kernel
theorem d_M_passes_52 : decode prog_6_method_40_code 52 = .ok (.iaload, 1) := by decide +kernel
theorem d_M_passes_53 : decode prog_6_method_40_code 53 = .ok (.ifCond .eq 32, 3) := by decide +kernel
theorem d_M_passes_56 : decode prog_6_method_40_code 56 = .ok (.aload_n 0, 1) := by decide +kernel
theorem d_M_passes_57 : decode prog_6_method_40_code 57 = .ok (.getfield 42, 3) := by decide +kernel
theorem d_M_passes_60 : decode prog_6_method_40_code 60 = .ok (.iload_n 1, 1) := by decide +kernel
theorem d_M_passes_61 : decode prog_6_method_40_code 61 = .ok (.iaload, 1) := by decide +kernel
theorem d_M_passes_62 : decode prog_6_method_40_code 62 = .ok (.iconst 4, 1) := by decide +kernel
theorem d_M_passes_63 : decode prog_6_method_40_code 63 = .ok (.if_icmp .ne 7, 3) := by decide +kernel
theorem d_M_passes_66 : decode prog_6_method_40_code 66 = .ok (.iload_n 3, 1) := by decide +kernel
theorem d_M_passes_67 : decode prog_6_method_40_code 67 = .ok (.ifCond .ne 18, 3) := by decide +kernel
theorem d_M_passes_85 : decode prog_6_method_40_code 85 = .ok (.iconst 1, 1) := by decide +kernel
theorem d_M_passes_86 : decode prog_6_method_40_code 86 = .ok (.goto 4, 3) := by decide +kernel
theorem d_M_passes_70 : decode prog_6_method_40_code 70 = .ok (.aload_n 0, 1) := by decide +kernel
theorem d_M_passes_71 : decode prog_6_method_40_code 71 = .ok (.getfield 42, 3) := by decide +kernel
theorem d_M_passes_74 : decode prog_6_method_40_code 74 = .ok (.iload_n 1, 1) := by decide +kernel
theorem d_M_passes_75 : decode prog_6_method_40_code 75 = .ok (.iaload, 1) := by decide +kernel
theorem d_M_passes_76 : decode prog_6_method_40_code 76 = .ok (.iconst 5, 1) := by decide +kernel
theorem d_M_passes_77 : decode prog_6_method_40_code 77 = .ok (.if_icmp .ne 12, 3) := by decide +kernel
theorem d_M_passes_80 : decode prog_6_method_40_code 80 = .ok (.iload 4, 2) := by decide +kernel
theorem d_M_passes_82 : decode prog_6_method_40_code 82 = .ok (.ifCond .eq 7, 3) := by decide +kernel
theorem d_M_passes_90 : decode prog_6_method_40_code 90 = .ok (.ireturn, 1) := by decide +kernel
theorem d_M_passes_89 : decode prog_6_method_40_code 89 = .ok (.iconst 0, 1) := by decide +kernel
theorem d_M_spread_33 : decode prog_6_method_41_code 33 = .ok (.ifCond .eq 49, 3) := by decide +kernel
theorem d_M_spread_36 : decode prog_6_method_41_code 36 = .ok (.aload_n 0, 1) := by decide +kernel
theorem d_M_spread_37 : decode prog_6_method_41_code 37 = .ok (.aload_n 0, 1) := by decide +kernel
theorem d_M_spread_38 : decode prog_6_method_41_code 38 = .ok (.getfield 51, 3) := by decide +kernel
theorem d_M_spread_41 : decode prog_6_method_41_code 41 = .ok (.iload_n 3, 1) := by decide +kernel
theorem d_M_spread_42 : decode prog_6_method_41_code 42 = .ok (.iaload, 1) := by decide +kernel
theorem d_M_spread_43 : decode prog_6_method_41_code 43 = .ok (.invokevirtual 215, 3) := by decide +kernel
theorem d_M_reach_0 : decode prog_6_method_42_code 0 = .ok (.iload_n 1, 1) := by decide +kernel
theorem d_M_reach_1 : decode prog_6_method_42_code 1 = .ok (.ifCond .lt 16, 3) := by decide +kernel
theorem d_M_reach_4 : decode prog_6_method_42_code 4 = .ok (.aload_n 0, 1) := by decide +kernel
theorem d_M_reach_5 : decode prog_6_method_42_code 5 = .ok (.getfield 72, 3) := by decide +kernel
theorem d_M_reach_8 : decode prog_6_method_42_code 8 = .ok (.iload_n 1, 1) := by decide +kernel
theorem d_M_reach_9 : decode prog_6_method_42_code 9 = .ok (.baload, 1) := by decide +kernel
theorem d_M_reach_10 : decode prog_6_method_42_code 10 = .ok (.ifCond .ne 7, 3) := by decide +kernel
theorem d_M_reach_13 : decode prog_6_method_42_code 13 = .ok (.iconst 1, 1) := by decide +kernel
theorem d_M_reach_14 : decode prog_6_method_42_code 14 = .ok (.goto 4, 3) := by decide +kernel
theorem d_M_reach_17 : decode prog_6_method_42_code 17 = .ok (.iconst 0, 1) := by decide +kernel
theorem d_M_reach_18 : decode prog_6_method_42_code 18 = .ok (.istore_n 2, 1) := by decide +kernel
theorem d_M_reach_19 : decode prog_6_method_42_code 19 = .ok (.iload_n 2, 1) := by decide +kernel
theorem d_M_reach_20 : decode prog_6_method_42_code 20 = .ok (.ifCond .eq 10, 3) := by decide +kernel
theorem d_M_reach_23 : decode prog_6_method_42_code 23 = .ok (.aload_n 0, 1) := by decide +kernel
theorem d_M_reach_24 : decode prog_6_method_42_code 24 = .ok (.getfield 72, 3) := by decide +kernel
theorem d_M_reach_27 : decode prog_6_method_42_code 27 = .ok (.iload_n 1, 1) := by decide +kernel
theorem d_M_reach_28 : decode prog_6_method_42_code 28 = .ok (.iconst 1, 1) := by decide +kernel
theorem d_M_reach_29 : decode prog_6_method_42_code 29 = .ok (.bastore, 1) := by decide +kernel
theorem d_M_reach_30 : decode prog_6_method_42_code 30 = .ok (.iload_n 2, 1) := by decide +kernel
theorem d_M_reach_31 : decode prog_6_method_42_code 31 = .ok (.ireturn, 1) := by decide +kernel
theorem d_M_spread_46 : decode prog_6_method_41_code 46 = .ok (.ifCond .ne 7, 3) := by decide +kernel
theorem d_M_spread_49 : decode prog_6_method_41_code 49 = .ok (.iload_n 2, 1) := by decide +kernel
theorem d_M_spread_50 : decode prog_6_method_41_code 50 = .ok (.ifCond .eq 7, 3) := by decide +kernel
theorem d_M_spread_57 : decode prog_6_method_41_code 57 = .ok (.iconst 0, 1) := by decide +kernel
theorem d_M_spread_82 : decode prog_6_method_41_code 82 = .ok (.iinc 3 1, 3) := by decide +kernel
theorem d_M_spread_85 : decode prog_6_method_41_code 85 = .ok (.goto (-75), 3) := by decide +kernel
theorem d_M_spread_53 : decode prog_6_method_41_code 53 = .ok (.iconst 1, 1) := by decide +kernel
theorem d_M_spread_54 : decode prog_6_method_41_code 54 = .ok (.goto 4, 3) := by decide +kernel
theorem d_M_spread_58 : decode prog_6_method_41_code 58 = .ok (.istore_n 2, 1) := by decide +kernel
theorem d_M_spread_59 : decode prog_6_method_41_code 59 = .ok (.aload_n 0, 1) := by decide +kernel
theorem d_M_spread_60 : decode prog_6_method_41_code 60 = .ok (.aload_n 0, 1) := by decide +kernel
theorem d_M_spread_61 : decode prog_6_method_41_code 61 = .ok (.getfield 54, 3) := by decide +kernel
theorem d_M_spread_64 : decode prog_6_method_41_code 64 = .ok (.iload_n 3, 1) := by decide +kernel
theorem d_M_spread_65 : decode prog_6_method_41_code 65 = .ok (.iaload, 1) := by decide +kernel
theorem d_M_spread_66 : decode prog_6_method_41_code 66 = .ok (.invokevirtual 215, 3) := by decide +kernel
theorem d_M_spread_69 : decode prog_6_method_41_code 69 = .ok (.ifCond .ne 7, 3) := by decide +kernel
theorem d_M_spread_72 : decode prog_6_method_41_code 72 = .ok (.iload_n 2, 1) := by decide +kernel
theorem d_M_spread_73 : decode prog_6_method_41_code 73 = .ok (.ifCond .eq 7, 3) := by decide +kernel
theorem d_M_spread_80 : decode prog_6_method_41_code 80 = .ok (.iconst 0, 1) := by decide +kernel
theorem d_M_spread_76 : decode prog_6_method_41_code 76 = .ok (.iconst 1, 1) := by decide +kernel
theorem d_M_spread_77 : decode prog_6_method_41_code 77 = .ok (.goto 4, 3) := by decide +kernel
theorem d_M_spread_81 : decode prog_6_method_41_code 81 = .ok (.istore_n 2, 1) := by decide +kernel
theorem d_M_longest_52 : decode prog_6_method_43_code 52 = .ok (.aload_n 0, 1) := by decide +kernel
theorem d_M_longest_53 : decode prog_6_method_43_code 53 = .ok (.getfield 72, 3) := by decide +kernel
theorem d_M_longest_56 : decode prog_6_method_43_code 56 = .ok (.aload_n 0, 1) := by decide +kernel
theorem d_M_longest_57 : decode prog_6_method_43_code 57 = .ok (.getfield 200, 3) := by decide +kernel
theorem d_M_longest_60 : decode prog_6_method_43_code 60 = .ok (.baload, 1) := by decide +kernel
theorem d_M_longest_61 : decode prog_6_method_43_code 61 = .ok (.ifCond .eq 12, 3) := by decide +kernel
theorem d_M_longest_64 : decode prog_6_method_43_code 64 = .ok (.iload_n 3, 1) := by decide +kernel
theorem d_M_longest_65 : decode prog_6_method_43_code 65 = .ok (.iload_n 1, 1) := by decide +kernel
theorem d_M_longest_66 : decode prog_6_method_43_code 66 = .ok (.if_icmp .le 7, 3) := by decide +kernel
theorem d_M_longest_69 : decode prog_6_method_43_code 69 = .ok (.iload_n 3, 1) := by decide +kernel
theorem d_M_longest_70 : decode prog_6_method_43_code 70 = .ok (.goto 4, 3) := by decide +kernel
theorem d_M_longest_28 : decode prog_6_method_43_code 28 = .ok (.bastore, 1) := by decide +kernel
theorem d_M_longest_29 : decode prog_6_method_43_code 29 = .ok (.iinc 2 1, 3) := by decide +kernel
theorem d_M_longest_32 : decode prog_6_method_43_code 32 = .ok (.goto (-30), 3) := by decide +kernel
theorem d_M_longest_73 : decode prog_6_method_43_code 73 = .ok (.iload_n 2, 1) := by decide +kernel
theorem d_M_longest_74 : decode prog_6_method_43_code 74 = .ok (.istore_n 2, 1) := by decide +kernel
theorem d_M_longest_75 : decode prog_6_method_43_code 75 = .ok (.iconst 0, 1) := by decide +kernel
theorem d_M_longest_76 : decode prog_6_method_43_code 76 = .ok (.istore 4, 2) := by decide +kernel
theorem d_M_longest_78 : decode prog_6_method_43_code 78 = .ok (.iconst 0, 1) := by decide +kernel
theorem d_M_longest_79 : decode prog_6_method_43_code 79 = .ok (.istore 5, 2) := by decide +kernel
theorem d_M_longest_81 : decode prog_6_method_43_code 81 = .ok (.iload 5, 2) := by decide +kernel
theorem d_M_longest_83 : decode prog_6_method_43_code 83 = .ok (.aload_n 0, 1) := by decide +kernel
theorem d_M_longest_84 : decode prog_6_method_43_code 84 = .ok (.getfield 142, 3) := by decide +kernel
theorem d_M_longest_87 : decode prog_6_method_43_code 87 = .ok (.if_icmp .ge 17, 3) := by decide +kernel
theorem d_M_longest_104 : decode prog_6_method_43_code 104 = .ok (.iconst 0, 1) := by decide +kernel
theorem d_M_longest_105 : decode prog_6_method_43_code 105 = .ok (.istore 5, 2) := by decide +kernel
theorem d_M_longest_90 : decode prog_6_method_43_code 90 = .ok (.aload_n 0, 1) := by decide +kernel
theorem d_M_longest_91 : decode prog_6_method_43_code 91 = .ok (.getfield 76, 3) := by decide +kernel
theorem d_M_longest_94 : decode prog_6_method_43_code 94 = .ok (.iload 5, 2) := by decide +kernel
theorem d_M_longest_96 : decode prog_6_method_43_code 96 = .ok (.iconst 0, 1) := by decide +kernel
theorem d_M_longest_97 : decode prog_6_method_43_code 97 = .ok (.bastore, 1) := by decide +kernel
theorem d_M_longest_98 : decode prog_6_method_43_code 98 = .ok (.iinc 5 1, 3) := by decide +kernel
theorem d_M_longest_101 : decode prog_6_method_43_code 101 = .ok (.goto (-20), 3) := by decide +kernel
theorem d_M_longest_107 : decode prog_6_method_43_code 107 = .ok (.iload 5, 2) := by decide +kernel
theorem d_M_longest_109 : decode prog_6_method_43_code 109 = .ok (.aload_n 0, 1) := by decide +kernel
theorem d_M_longest_110 : decode prog_6_method_43_code 110 = .ok (.getfield 142, 3) := by decide +kernel
theorem d_M_longest_113 : decode prog_6_method_43_code 113 = .ok (.if_icmp .ge 57, 3) := by decide +kernel
theorem d_M_longest_116 : decode prog_6_method_43_code 116 = .ok (.iload_n 3, 1) := by decide +kernel
theorem d_M_longest_117 : decode prog_6_method_43_code 117 = .ok (.aload_n 0, 1) := by decide +kernel
theorem d_M_longest_118 : decode prog_6_method_43_code 118 = .ok (.invokevirtual 123, 3) := by decide +kernel
theorem d_M_longest_121 : decode prog_6_method_43_code 121 = .ok (.if_icmp .ge 49, 3) := by decide +kernel
theorem d_M_longest_124 : decode prog_6_method_43_code 124 = .ok (.aload_n 0, 1) := by decide +kernel
theorem d_M_longest_125 : decode prog_6_method_43_code 125 = .ok (.getfield 72, 3) := by decide +kernel
theorem d_M_longest_128 : decode prog_6_method_43_code 128 = .ok (.iload 5, 2) := by decide +kernel
theorem d_M_longest_130 : decode prog_6_method_43_code 130 = .ok (.baload, 1) := by decide +kernel
theorem d_M_longest_131 : decode prog_6_method_43_code 131 = .ok (.ifCond .eq 33, 3) := by decide +kernel
theorem d_M_longest_134 : decode prog_6_method_43_code 134 = .ok (.aload_n 0, 1) := by decide +kernel
theorem d_M_longest_135 : decode prog_6_method_43_code 135 = .ok (.iload 5, 2) := by decide +kernel
theorem d_M_longest_137 : decode prog_6_method_43_code 137 = .ok (.aload_n 0, 1) := by decide +kernel
theorem d_M_longest_138 : decode prog_6_method_43_code 138 = .ok (.iload_n 3, 1) := by decide +kernel
theorem d_M_longest_139 : decode prog_6_method_43_code 139 = .ok (.invokevirtual 104, 3) := by decide +kernel
theorem d_M_longest_142 : decode prog_6_method_43_code 142 = .ok (.invokevirtual 222, 3) := by decide +kernel
theorem d_M_takes_0 : decode prog_6_method_39_code 0 = .ok (.aload_n 0, 1) := by decide +kernel
theorem d_M_takes_1 : decode prog_6_method_39_code 1 = .ok (.getfield 42, 3) := by decide +kernel
theorem d_M_takes_4 : decode prog_6_method_39_code 4 = .ok (.iload_n 1, 1) := by decide +kernel
theorem d_M_takes_5 : decode prog_6_method_39_code 5 = .ok (.iaload, 1) := by decide +kernel
theorem d_M_takes_6 : decode prog_6_method_39_code 6 = .ok (.iconst 1, 1) := by decide +kernel
theorem d_M_takes_7 : decode prog_6_method_39_code 7 = .ok (.if_icmp .ne 13, 3) := by decide +kernel
theorem d_M_takes_10 : decode prog_6_method_39_code 10 = .ok (.iload_n 2, 1) := by decide +kernel
theorem d_M_takes_11 : decode prog_6_method_39_code 11 = .ok (.aload_n 0, 1) := by decide +kernel
theorem d_M_takes_12 : decode prog_6_method_39_code 12 = .ok (.getfield 45, 3) := by decide +kernel
theorem d_M_takes_15 : decode prog_6_method_39_code 15 = .ok (.iload_n 1, 1) := by decide +kernel
theorem d_M_takes_16 : decode prog_6_method_39_code 16 = .ok (.iaload, 1) := by decide +kernel
theorem d_M_takes_17 : decode prog_6_method_39_code 17 = .ok (.if_icmp .eq 49, 3) := by decide +kernel
theorem d_M_takes_20 : decode prog_6_method_39_code 20 = .ok (.aload_n 0, 1) := by decide +kernel
theorem d_M_takes_21 : decode prog_6_method_39_code 21 = .ok (.getfield 42, 3) := by decide +kernel
theorem d_M_takes_24 : decode prog_6_method_39_code 24 = .ok (.iload_n 1, 1) := by decide +kernel
theorem d_M_takes_25 : decode prog_6_method_39_code 25 = .ok (.iaload, 1) := by decide +kernel
theorem d_M_takes_26 : decode prog_6_method_39_code 26 = .ok (.iconst 2, 1) := by decide +kernel
theorem d_M_takes_27 : decode prog_6_method_39_code 27 = .ok (.if_icmp .ne 9, 3) := by decide +kernel
theorem d_M_takes_30 : decode prog_6_method_39_code 30 = .ok (.iload_n 2, 1) := by decide +kernel
theorem d_M_takes_31 : decode prog_6_method_39_code 31 = .ok (.bipush 10, 2) := by decide +kernel
theorem d_M_takes_33 : decode prog_6_method_39_code 33 = .ok (.if_icmp .ne 33, 3) := by decide +kernel
theorem d_M_takes_66 : decode prog_6_method_39_code 66 = .ok (.iconst 1, 1) := by decide +kernel
theorem d_M_takes_67 : decode prog_6_method_39_code 67 = .ok (.goto 4, 3) := by decide +kernel
theorem d_M_takes_36 : decode prog_6_method_39_code 36 = .ok (.aload_n 0, 1) := by decide +kernel
theorem d_M_takes_37 : decode prog_6_method_39_code 37 = .ok (.getfield 42, 3) := by decide +kernel
theorem d_M_takes_40 : decode prog_6_method_39_code 40 = .ok (.iload_n 1, 1) := by decide +kernel
theorem d_M_takes_41 : decode prog_6_method_39_code 41 = .ok (.iaload, 1) := by decide +kernel
theorem d_M_takes_42 : decode prog_6_method_39_code 42 = .ok (.iconst 3, 1) := by decide +kernel
theorem d_M_takes_43 : decode prog_6_method_39_code 43 = .ok (.if_icmp .ne 27, 3) := by decide +kernel
theorem d_M_takes_46 : decode prog_6_method_39_code 46 = .ok (.aload_n 0, 1) := by decide +kernel
theorem d_M_takes_47 : decode prog_6_method_39_code 47 = .ok (.iload_n 2, 1) := by decide +kernel
theorem d_M_takes_48 : decode prog_6_method_39_code 48 = .ok (.aload_n 0, 1) := by decide +kernel
theorem d_M_takes_49 : decode prog_6_method_39_code 49 = .ok (.getfield 45, 3) := by decide +kernel
theorem d_M_takes_52 : decode prog_6_method_39_code 52 = .ok (.iload_n 1, 1) := by decide +kernel
theorem d_M_takes_53 : decode prog_6_method_39_code 53 = .ok (.iaload, 1) := by decide +kernel
theorem d_M_takes_54 : decode prog_6_method_39_code 54 = .ok (.aload_n 0, 1) := by decide +kernel
theorem d_M_takes_55 : decode prog_6_method_39_code 55 = .ok (.getfield 48, 3) := by decide +kernel
theorem d_M_takes_58 : decode prog_6_method_39_code 58 = .ok (.iload_n 1, 1) := by decide +kernel
theorem d_M_takes_59 : decode prog_6_method_39_code 59 = .ok (.iaload, 1) := by decide +kernel
theorem d_M_takes_60 : decode prog_6_method_39_code 60 = .ok (.invokevirtual 207, 3) := by decide +kernel
theorem d_M_inSet_0 : decode prog_6_method_38_code 0 = .ok (.aload_n 0, 1) := by decide +kernel
theorem d_M_inSet_1 : decode prog_6_method_38_code 1 = .ok (.getfield 39, 3) := by decide +kernel
theorem d_M_inSet_4 : decode prog_6_method_38_code 4 = .ok (.iload_n 2, 1) := by decide +kernel
theorem d_M_inSet_5 : decode prog_6_method_38_code 5 = .ok (.caload, 1) := by decide +kernel
theorem d_M_inSet_6 : decode prog_6_method_38_code 6 = .ok (.bipush 94, 2) := by decide +kernel
theorem d_M_inSet_8 : decode prog_6_method_38_code 8 = .ok (.if_icmp .ne 7, 3) := by decide +kernel
theorem d_M_inSet_15 : decode prog_6_method_38_code 15 = .ok (.iconst 0, 1) := by decide +kernel
theorem d_M_inSet_11 : decode prog_6_method_38_code 11 = .ok (.iconst 1, 1) := by decide +kernel
theorem d_M_inSet_12 : decode prog_6_method_38_code 12 = .ok (.goto 4, 3) := by decide +kernel
theorem d_M_inSet_16 : decode prog_6_method_38_code 16 = .ok (.istore 4, 2) := by decide +kernel
theorem d_M_inSet_18 : decode prog_6_method_38_code 18 = .ok (.iconst 0, 1) := by decide +kernel
theorem d_M_inSet_19 : decode prog_6_method_38_code 19 = .ok (.istore 5, 2) := by decide +kernel
theorem d_M_inSet_21 : decode prog_6_method_38_code 21 = .ok (.iload 4, 2) := by decide +kernel
theorem d_M_inSet_23 : decode prog_6_method_38_code 23 = .ok (.ifCond .eq 9, 3) := by decide +kernel
theorem d_M_inSet_32 : decode prog_6_method_38_code 32 = .ok (.iload_n 2, 1) := by decide +kernel
theorem d_M_inSet_26 : decode prog_6_method_38_code 26 = .ok (.iload_n 2, 1) := by decide +kernel
theorem d_M_inSet_27 : decode prog_6_method_38_code 27 = .ok (.iconst 1, 1) := by decide +kernel
theorem d_M_inSet_28 : decode prog_6_method_38_code 28 = .ok (.iadd, 1) := by decide +kernel
theorem d_M_inSet_29 : decode prog_6_method_38_code 29 = .ok (.goto 4, 3) := by decide +kernel
theorem d_M_inSet_33 : decode prog_6_method_38_code 33 = .ok (.istore 6, 2) := by decide +kernel
theorem d_M_inSet_35 : decode prog_6_method_38_code 35 = .ok (.iload 6, 2) := by decide +kernel
theorem d_M_inSet_37 : decode prog_6_method_38_code 37 = .ok (.iload_n 3, 1) := by decide +kernel
theorem d_M_inSet_38 : decode prog_6_method_38_code 38 = .ok (.if_icmp .ge 124, 3) := by decide +kernel
theorem d_M_inSet_162 : decode prog_6_method_38_code 162 = .ok (.iload 5, 2) := by decide +kernel
theorem d_M_inSet_164 : decode prog_6_method_38_code 164 = .ok (.iload 4, 2) := by decide +kernel
theorem d_M_inSet_166 : decode prog_6_method_38_code 166 = .ok (.if_icmp .eq 7, 3) := by decide +kernel
theorem d_M_inSet_173 : decode prog_6_method_38_code 173 = .ok (.iconst 0, 1) := by decide +kernel
theorem d_M_inSet_169 : decode prog_6_method_38_code 169 = .ok (.iconst 1, 1) := by decide +kernel
theorem d_M_inSet_170 : decode prog_6_method_38_code 170 = .ok (.goto 4, 3) := by decide +kernel
theorem d_M_inSet_41 : decode prog_6_method_38_code 41 = .ok (.iload 6, 2) := by decide +kernel
theorem d_M_inSet_43 : decode prog_6_method_38_code 43 = .ok (.iconst 2, 1) := by decide +kernel
theorem d_M_inSet_44 : decode prog_6_method_38_code 44 = .ok (.iadd, 1) := by decide +kernel
theorem d_M_inSet_45 : decode prog_6_method_38_code 45 = .ok (.iload_n 3, 1) := by decide +kernel
theorem d_M_inSet_46 : decode prog_6_method_38_code 46 = .ok (.if_icmp .ge 40, 3) := by decide +kernel
theorem d_M_inSet_49 : decode prog_6_method_38_code 49 = .ok (.aload_n 0, 1) := by decide +kernel
theorem d_M_inSet_50 : decode prog_6_method_38_code 50 = .ok (.getfield 39, 3) := by decide +kernel
theorem d_M_inSet_53 : decode prog_6_method_38_code 53 = .ok (.iload 6, 2) := by decide +kernel
theorem d_M_inSet_55 : decode prog_6_method_38_code 55 = .ok (.iconst 1, 1) := by decide +kernel
theorem d_M_inSet_56 : decode prog_6_method_38_code 56 = .ok (.iadd, 1) := by decide +kernel
theorem d_M_inSet_57 : decode prog_6_method_38_code 57 = .ok (.caload, 1) := by decide +kernel
theorem d_M_inSet_58 : decode prog_6_method_38_code 58 = .ok (.bipush 45, 2) := by decide +kernel
theorem d_M_inSet_60 : decode prog_6_method_38_code 60 = .ok (.if_icmp .ne 26, 3) := by decide +kernel
theorem d_M_inSet_63 : decode prog_6_method_38_code 63 = .ok (.aload_n 0, 1) := by decide +kernel
theorem d_M_inSet_64 : decode prog_6_method_38_code 64 = .ok (.getfield 39, 3) := by decide +kernel
theorem d_M_inSet_67 : decode prog_6_method_38_code 67 = .ok (.iload 6, 2) := by decide +kernel
theorem d_M_inSet_69 : decode prog_6_method_38_code 69 = .ok (.iconst 2, 1) := by decide +kernel
theorem d_M_inSet_70 : decode prog_6_method_38_code 70 = .ok (.iadd, 1) := by decide +kernel
theorem d_M_inSet_71 : decode prog_6_method_38_code 71 = .ok (.caload, 1) := by decide +kernel
theorem d_M_inSet_72 : decode prog_6_method_38_code 72 = .ok (.aload_n 0, 1) := by decide +kernel
theorem d_M_inSet_73 : decode prog_6_method_38_code 73 = .ok (.getfield 39, 3) := by decide +kernel
theorem d_M_inSet_76 : decode prog_6_method_38_code 76 = .ok (.iload 6, 2) := by decide +kernel
theorem d_M_inSet_78 : decode prog_6_method_38_code 78 = .ok (.caload, 1) := by decide +kernel
theorem d_M_inSet_79 : decode prog_6_method_38_code 79 = .ok (.if_icmp .lt 7, 3) := by decide +kernel
theorem d_M_inSet_82 : decode prog_6_method_38_code 82 = .ok (.iconst 1, 1) := by decide +kernel
theorem d_M_inSet_83 : decode prog_6_method_38_code 83 = .ok (.goto 4, 3) := by decide +kernel
theorem d_M_inSet_174 : decode prog_6_method_38_code 174 = .ok (.ireturn, 1) := by decide +kernel
theorem d_M_inSet_86 : decode prog_6_method_38_code 86 = .ok (.iconst 0, 1) := by decide +kernel
theorem d_M_inSet_87 : decode prog_6_method_38_code 87 = .ok (.istore 7, 2) := by decide +kernel
theorem d_M_inSet_89 : decode prog_6_method_38_code 89 = .ok (.iload 7, 2) := by decide +kernel
theorem d_M_inSet_91 : decode prog_6_method_38_code 91 = .ok (.ifCond .eq 15, 3) := by decide +kernel
theorem d_M_inSet_106 : decode prog_6_method_38_code 106 = .ok (.aload_n 0, 1) := by decide +kernel
theorem d_M_inSet_107 : decode prog_6_method_38_code 107 = .ok (.getfield 39, 3) := by decide +kernel
theorem d_M_inSet_110 : decode prog_6_method_38_code 110 = .ok (.iload 6, 2) := by decide +kernel
theorem d_M_inSet_112 : decode prog_6_method_38_code 112 = .ok (.caload, 1) := by decide +kernel
theorem d_M_inSet_94 : decode prog_6_method_38_code 94 = .ok (.aload_n 0, 1) := by decide +kernel
theorem d_M_inSet_95 : decode prog_6_method_38_code 95 = .ok (.getfield 39, 3) := by decide +kernel
theorem d_M_inSet_98 : decode prog_6_method_38_code 98 = .ok (.iload 6, 2) := by decide +kernel
theorem d_M_inSet_100 : decode prog_6_method_38_code 100 = .ok (.iconst 2, 1) := by decide +kernel
theorem d_M_inSet_101 : decode prog_6_method_38_code 101 = .ok (.iadd, 1) := by decide +kernel
theorem d_M_inSet_102 : decode prog_6_method_38_code 102 = .ok (.caload, 1) := by decide +kernel
theorem d_M_inSet_103 : decode prog_6_method_38_code 103 = .ok (.goto 10, 3) := by decide +kernel
theorem d_M_inSet_113 : decode prog_6_method_38_code 113 = .ok (.istore 8, 2) := by decide +kernel
theorem d_M_inSet_115 : decode prog_6_method_38_code 115 = .ok (.iload 5, 2) := by decide +kernel
theorem d_M_inSet_117 : decode prog_6_method_38_code 117 = .ok (.ifCond .ne 20, 3) := by decide +kernel
theorem d_M_inSet_120 : decode prog_6_method_38_code 120 = .ok (.iload_n 1, 1) := by decide +kernel
theorem d_M_inSet_121 : decode prog_6_method_38_code 121 = .ok (.aload_n 0, 1) := by decide +kernel
theorem d_M_inSet_122 : decode prog_6_method_38_code 122 = .ok (.getfield 39, 3) := by decide +kernel
theorem d_M_inSet_125 : decode prog_6_method_38_code 125 = .ok (.iload 6, 2) := by decide +kernel
theorem d_M_inSet_127 : decode prog_6_method_38_code 127 = .ok (.caload, 1) := by decide +kernel
theorem d_M_inSet_128 : decode prog_6_method_38_code 128 = .ok (.if_icmp .lt 13, 3) := by decide +kernel
theorem d_M_inSet_131 : decode prog_6_method_38_code 131 = .ok (.iload_n 1, 1) := by decide +kernel
theorem d_M_inSet_132 : decode prog_6_method_38_code 132 = .ok (.iload 8, 2) := by decide +kernel
theorem d_M_inSet_134 : decode prog_6_method_38_code 134 = .ok (.if_icmp .gt 7, 3) := by decide +kernel
theorem d_M_inSet_137 : decode prog_6_method_38_code 137 = .ok (.iconst 1, 1) := by decide +kernel
theorem d_M_inSet_138 : decode prog_6_method_38_code 138 = .ok (.goto 4, 3) := by decide +kernel
theorem d_M_inSet_141 : decode prog_6_method_38_code 141 = .ok (.iconst 0, 1) := by decide +kernel
theorem d_M_inSet_142 : decode prog_6_method_38_code 142 = .ok (.istore 5, 2) := by decide +kernel
theorem d_M_inSet_144 : decode prog_6_method_38_code 144 = .ok (.iload 6, 2) := by decide +kernel
theorem d_M_inSet_146 : decode prog_6_method_38_code 146 = .ok (.iload 7, 2) := by decide +kernel
theorem d_M_inSet_148 : decode prog_6_method_38_code 148 = .ok (.ifCond .eq 7, 3) := by decide +kernel
theorem d_M_inSet_155 : decode prog_6_method_38_code 155 = .ok (.iconst 1, 1) := by decide +kernel
theorem d_M_inSet_151 : decode prog_6_method_38_code 151 = .ok (.iconst 3, 1) := by decide +kernel
theorem d_M_inSet_152 : decode prog_6_method_38_code 152 = .ok (.goto 4, 3) := by decide +kernel
theorem d_M_inSet_156 : decode prog_6_method_38_code 156 = .ok (.iadd, 1) := by decide +kernel
theorem d_M_inSet_157 : decode prog_6_method_38_code 157 = .ok (.istore 6, 2) := by decide +kernel
theorem d_M_inSet_159 : decode prog_6_method_38_code 159 = .ok (.goto (-124), 3) := by decide +kernel
theorem d_M_takes_63 : decode prog_6_method_39_code 63 = .ok (.ifCond .eq 7, 3) := by decide +kernel
theorem d_M_takes_71 : decode prog_6_method_39_code 71 = .ok (.ireturn, 1) := by decide +kernel
theorem d_M_takes_70 : decode prog_6_method_39_code 70 = .ok (.iconst 0, 1) := by decide +kernel
theorem d_M_longest_145 : decode prog_6_method_43_code 145 = .ok (.ifCond .eq 19, 3) := by decide +kernel
theorem d_M_longest_148 : decode prog_6_method_43_code 148 = .ok (.aload_n 0, 1) := by decide +kernel
theorem d_M_longest_149 : decode prog_6_method_43_code 149 = .ok (.getfield 76, 3) := by decide +kernel
theorem d_M_longest_152 : decode prog_6_method_43_code 152 = .ok (.aload_n 0, 1) := by decide +kernel
theorem d_M_longest_153 : decode prog_6_method_43_code 153 = .ok (.getfield 51, 3) := by decide +kernel
theorem d_M_longest_156 : decode prog_6_method_43_code 156 = .ok (.iload 5, 2) := by decide +kernel
theorem d_M_longest_158 : decode prog_6_method_43_code 158 = .ok (.iaload, 1) := by decide +kernel
theorem d_M_longest_159 : decode prog_6_method_43_code 159 = .ok (.iconst 1, 1) := by decide +kernel
theorem d_M_longest_160 : decode prog_6_method_43_code 160 = .ok (.bastore, 1) := by decide +kernel
theorem d_M_longest_161 : decode prog_6_method_43_code 161 = .ok (.iconst 1, 1) := by decide +kernel
theorem d_M_longest_162 : decode prog_6_method_43_code 162 = .ok (.istore 4, 2) := by decide +kernel
theorem d_M_longest_170 : decode prog_6_method_43_code 170 = .ok (.iconst 0, 1) := by decide +kernel
theorem d_M_longest_171 : decode prog_6_method_43_code 171 = .ok (.istore 5, 2) := by decide +kernel
theorem d_M_longest_164 : decode prog_6_method_43_code 164 = .ok (.iinc 5 1, 3) := by decide +kernel
theorem d_M_longest_167 : decode prog_6_method_43_code 167 = .ok (.goto (-60), 3) := by decide +kernel
theorem d_M_longest_173 : decode prog_6_method_43_code 173 = .ok (.iload 5, 2) := by decide +kernel
theorem d_M_longest_175 : decode prog_6_method_43_code 175 = .ok (.aload_n 0, 1) := by decide +kernel
theorem d_M_longest_176 : decode prog_6_method_43_code 176 = .ok (.getfield 142, 3) := by decide +kernel
theorem d_M_longest_179 : decode prog_6_method_43_code 179 = .ok (.if_icmp .ge 23, 3) := by decide +kernel
theorem d_M_longest_202 : decode prog_6_method_43_code 202 = .ok (.iinc 3 1, 3) := by decide +kernel
theorem d_M_longest_205 : decode prog_6_method_43_code 205 = .ok (.goto (-163), 3) := by decide +kernel
theorem d_M_longest_182 : decode prog_6_method_43_code 182 = .ok (.aload_n 0, 1) := by decide +kernel
theorem d_M_longest_183 : decode prog_6_method_43_code 183 = .ok (.getfield 72, 3) := by decide +kernel
theorem d_M_longest_186 : decode prog_6_method_43_code 186 = .ok (.iload 5, 2) := by decide +kernel
theorem d_M_longest_188 : decode prog_6_method_43_code 188 = .ok (.aload_n 0, 1) := by decide +kernel
theorem d_M_longest_189 : decode prog_6_method_43_code 189 = .ok (.getfield 76, 3) := by decide +kernel
theorem d_M_longest_192 : decode prog_6_method_43_code 192 = .ok (.iload 5, 2) := by decide +kernel
theorem d_M_longest_194 : decode prog_6_method_43_code 194 = .ok (.baload, 1) := by decide +kernel
theorem d_M_longest_195 : decode prog_6_method_43_code 195 = .ok (.bastore, 1) := by decide +kernel
theorem d_M_longest_196 : decode prog_6_method_43_code 196 = .ok (.iinc 5 1, 3) := by decide +kernel
theorem d_M_longest_199 : decode prog_6_method_43_code 199 = .ok (.goto (-26), 3) := by decide +kernel
theorem d_M_look_33 : decode prog_6_method_44_code 33 = .ok (.putfield 226, 3) := by decide +kernel
theorem d_M_look_36 : decode prog_6_method_44_code 36 = .ok (.iinc 2 1, 3) := by decide +kernel
theorem d_M_look_39 : decode prog_6_method_44_code 39 = .ok (.goto (-32), 3) := by decide +kernel
theorem d_M_look_42 : decode prog_6_method_44_code 42 = .ok (.aload_n 0, 1) := by decide +kernel
theorem d_M_look_43 : decode prog_6_method_44_code 43 = .ok (.getfield 226, 3) := by decide +kernel
theorem d_M_look_46 : decode prog_6_method_44_code 46 = .ok (.ifCond .lt 7, 3) := by decide +kernel
theorem d_M_look_53 : decode prog_6_method_44_code 53 = .ok (.iconst 0, 1) := by decide +kernel
theorem d_M_look_49 : decode prog_6_method_44_code 49 = .ok (.iconst 1, 1) := by decide +kernel
theorem d_M_look_50 : decode prog_6_method_44_code 50 = .ok (.goto 4, 3) := by decide +kernel
theorem d_M_look_54 : decode prog_6_method_44_code 54 = .ok (.ireturn, 1) := by decide +kernel
theorem d_M_find_44 : decode prog_6_method_45_code 44 = .ok (.ifCond .ne 8, 3) := by decide +kernel
theorem d_M_find_47 : decode prog_6_method_45_code 47 = .ok (.aload_n 0, 1) := by decide +kernel
theorem d_M_find_48 : decode prog_6_method_45_code 48 = .ok (.iconst 3, 1) := by decide +kernel
theorem d_M_find_49 : decode prog_6_method_45_code 49 = .ok (.putfield 82, 3) := by decide +kernel
theorem d_M_find_52 : decode prog_6_method_45_code 52 = .ok (.aload_n 0, 1) := by decide +kernel
theorem d_M_find_53 : decode prog_6_method_45_code 53 = .ok (.getfield 82, 3) := by decide +kernel
theorem d_M_find_56 : decode prog_6_method_45_code 56 = .ok (.ifCond .le 5, 3) := by decide +kernel
theorem d_M_find_61 : decode prog_6_method_45_code 61 = .ok (.aload_n 0, 1) := by decide +kernel
theorem d_M_find_62 : decode prog_6_method_45_code 62 = .ok (.aload_n 0, 1) := by decide +kernel
theorem d_M_find_63 : decode prog_6_method_45_code 63 = .ok (.getfield 229, 3) := by decide +kernel
theorem d_M_find_66 : decode prog_6_method_45_code 66 = .ok (.putfield 33, 3) := by decide +kernel
theorem d_M_find_69 : decode prog_6_method_45_code 69 = .ok (.aload_n 0, 1) := by decide +kernel
theorem d_M_find_70 : decode prog_6_method_45_code 70 = .ok (.aload_n 0, 1) := by decide +kernel
theorem d_M_find_71 : decode prog_6_method_45_code 71 = .ok (.getfield 226, 3) := by decide +kernel
theorem d_M_find_74 : decode prog_6_method_45_code 74 = .ok (.putfield 95, 3) := by decide +kernel
theorem d_M_find_77 : decode prog_6_method_45_code 77 = .ok (.aload_n 0, 1) := by decide +kernel
theorem d_M_find_78 : decode prog_6_method_45_code 78 = .ok (.getfield 33, 3) := by decide +kernel
theorem d_M_find_81 : decode prog_6_method_45_code 81 = .ok (.ireturn, 1) := by decide +kernel
theorem d_M_find_59 : decode prog_6_method_45_code 59 = .ok (.iconst 0, 1) := by decide +kernel
theorem d_M_find_60 : decode prog_6_method_45_code 60 = .ok (.ireturn, 1) := by decide +kernel
theorem d_M_go_0 : decode prog_6_method_17_code 0 = .ok (.aload_n 0, 1) := by decide +kernel
theorem d_M_go_1 : decode prog_6_method_17_code 1 = .ok (.iload_n 1, 1) := by decide +kernel
theorem d_M_go_2 : decode prog_6_method_17_code 2 = .ok (.ifCond .lt 11, 3) := by decide +kernel
theorem d_M_go_5 : decode prog_6_method_17_code 5 = .ok (.iload_n 1, 1) := by decide +kernel
theorem d_M_go_6 : decode prog_6_method_17_code 6 = .ok (.aload_n 0, 1) := by decide +kernel
theorem d_M_go_7 : decode prog_6_method_17_code 7 = .ok (.invokevirtual 123, 3) := by decide +kernel
theorem d_M_go_10 : decode prog_6_method_17_code 10 = .ok (.if_icmp .le 7, 3) := by decide +kernel
theorem d_M_go_17 : decode prog_6_method_17_code 17 = .ok (.iconst 0, 1) := by decide +kernel
theorem d_M_go_13 : decode prog_6_method_17_code 13 = .ok (.iconst 1, 1) := by decide +kernel
theorem d_M_go_14 : decode prog_6_method_17_code 14 = .ok (.goto 4, 3) := by decide +kernel
theorem d_M_go_18 : decode prog_6_method_17_code 18 = .ok (.putfield 82, 3) := by decide +kernel
theorem d_M_go_21 : decode prog_6_method_17_code 21 = .ok (.aload_n 0, 1) := by decide +kernel
theorem d_M_go_22 : decode prog_6_method_17_code 22 = .ok (.getfield 82, 3) := by decide +kernel
theorem d_M_go_25 : decode prog_6_method_17_code 25 = .ok (.ifCond .le 4, 3) := by decide +kernel
theorem d_M_go_29 : decode prog_6_method_17_code 29 = .ok (.aload_n 0, 1) := by decide +kernel
theorem d_M_go_30 : decode prog_6_method_17_code 30 = .ok (.iload_n 2, 1) := by decide +kernel
theorem d_M_go_31 : decode prog_6_method_17_code 31 = .ok (.ifCond .ne 7, 3) := by decide +kernel
theorem d_M_go_38 : decode prog_6_method_17_code 38 = .ok (.aload_n 0, 1) := by decide +kernel
theorem d_M_go_39 : decode prog_6_method_17_code 39 = .ok (.getfield 33, 3) := by decide +kernel
theorem d_M_go_42 : decode prog_6_method_17_code 42 = .ok (.ifCond .ge 10, 3) := by decide +kernel
theorem d_M_go_52 : decode prog_6_method_17_code 52 = .ok (.aload_n 0, 1) := by decide +kernel
theorem d_M_go_53 : decode prog_6_method_17_code 53 = .ok (.getfield 33, 3) := by decide +kernel
theorem d_M_go_45 : decode prog_6_method_17_code 45 = .ok (.aload_n 0, 1) := by decide +kernel
theorem d_M_go_46 : decode prog_6_method_17_code 46 = .ok (.getfield 95, 3) := by decide +kernel
theorem d_M_go_49 : decode prog_6_method_17_code 49 = .ok (.goto 7, 3) := by decide +kernel
theorem d_M_go_34 : decode prog_6_method_17_code 34 = .ok (.iconst (-1), 1) := by decide +kernel
theorem d_M_go_35 : decode prog_6_method_17_code 35 = .ok (.goto 21, 3) := by decide +kernel
theorem d_M_go_28 : decode prog_6_method_17_code 28 = .ok (.return_, 1) := by decide +kernel
theorem d_M_go_56 : decode prog_6_method_17_code 56 = .ok (.putfield 33, 3) := by decide +kernel
theorem d_M_go_59 : decode prog_6_method_17_code 59 = .ok (.aload_n 0, 1) := by decide +kernel
theorem d_M_go_60 : decode prog_6_method_17_code 60 = .ok (.iload_n 1, 1) := by decide +kernel
theorem d_M_go_61 : decode prog_6_method_17_code 61 = .ok (.putfield 95, 3) := by decide +kernel
theorem d_M_go_64 : decode prog_6_method_17_code 64 = .ok (.aload_n 0, 1) := by decide +kernel
theorem d_M_go_65 : decode prog_6_method_17_code 65 = .ok (.aload_n 0, 1) := by decide +kernel
theorem d_M_go_66 : decode prog_6_method_17_code 66 = .ok (.getfield 33, 3) := by decide +kernel
theorem d_M_go_69 : decode prog_6_method_17_code 69 = .ok (.aload_n 0, 1) := by decide +kernel
theorem d_M_go_70 : decode prog_6_method_17_code 70 = .ok (.getfield 95, 3) := by decide +kernel
theorem d_M_go_73 : decode prog_6_method_17_code 73 = .ok (.if_icmp .ne 7, 3) := by decide +kernel
theorem d_M_go_80 : decode prog_6_method_17_code 80 = .ok (.aload_n 0, 1) := by decide +kernel
theorem d_M_go_81 : decode prog_6_method_17_code 81 = .ok (.getfield 33, 3) := by decide +kernel
theorem d_M_go_76 : decode prog_6_method_17_code 76 = .ok (.iconst (-1), 1) := by decide +kernel
theorem d_M_go_77 : decode prog_6_method_17_code 77 = .ok (.goto 7, 3) := by decide +kernel
theorem d_M_go_84 : decode prog_6_method_17_code 84 = .ok (.putfield 33, 3) := by decide +kernel
theorem d_M_go_87 : decode prog_6_method_17_code 87 = .ok (.return_, 1) := by decide +kernel
theorem d_M_insert_0 : decode prog_6_method_15_code 0 = .ok (.aload_n 0, 1) := by decide +kernel
theorem d_M_insert_1 : decode prog_6_method_15_code 1 = .ok (.invokevirtual 116, 3) := by decide +kernel
theorem d_M_insert_4 : decode prog_6_method_15_code 4 = .ok (.istore_n 1, 1) := by decide +kernel
theorem d_M_insert_5 : decode prog_6_method_15_code 5 = .ok (.aload_n 0, 1) := by decide +kernel
theorem d_M_insert_6 : decode prog_6_method_15_code 6 = .ok (.invokevirtual 120, 3) := by decide +kernel
theorem d_M_insert_9 : decode prog_6_method_15_code 9 = .ok (.istore_n 2, 1) := by decide +kernel
theorem d_M_insert_10 : decode prog_6_method_15_code 10 = .ok (.iload_n 2, 1) := by decide +kernel
theorem d_M_insert_11 : decode prog_6_method_15_code 11 = .ok (.iload_n 1, 1) := by decide +kernel
theorem d_M_insert_12 : decode prog_6_method_15_code 12 = .ok (.if_icmp .gt 10, 3) := by decide +kernel
theorem d_M_insert_15 : decode prog_6_method_15_code 15 = .ok (.aload_n 0, 1) := by decide +kernel
theorem d_M_insert_16 : decode prog_6_method_15_code 16 = .ok (.getfield 89, 3) := by decide +kernel
theorem d_M_insert_19 : decode prog_6_method_15_code 19 = .ok (.ifCond .le 7, 3) := by decide +kernel
theorem d_M_insert_26 : decode prog_6_method_15_code 26 = .ok (.iconst 0, 1) := by decide +kernel
