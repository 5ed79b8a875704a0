theorem d_P_readRange_43 : decode prog_3_method_11_code 43 = .ok (.aload_n 0, 1) := by decide +kernel
theorem d_P_readRange_44 : decode prog_3_method_11_code 44 = .ok (.getfield 39, 3) := by decide +kernel
theorem d_P_readRange_47 : decode prog_3_method_11_code 47 = .ok (.iconst 2, 1) := by decide +kernel
theorem d_P_readRange_48 : decode prog_3_method_11_code 48 = .ok (.iadd, 1) := by decide +kernel
theorem d_P_readRange_49 : decode prog_3_method_11_code 49 = .ok (.caload, 1) := by decide +kernel
theorem d_P_readRange_50 : decode prog_3_method_11_code 50 = .ok (.bipush 93, 2) := by decide +kernel
theorem d_P_readRange_52 : decode prog_3_method_11_code 52 = .ok (.if_icmp .eq 22, 3) := by decide +kernel
theorem d_P_readRange_55 : decode prog_3_method_11_code 55 = .ok (.aload_n 0, 1) := by decide +kernel
theorem d_P_readRange_56 : decode prog_3_method_11_code 56 = .ok (.getfield 31, 3) := by decide +kernel
theorem d_P_readRange_59 : decode prog_3_method_11_code 59 = .ok (.aload_n 0, 1) := by decide +kernel
theorem d_P_readRange_60 : decode prog_3_method_11_code 60 = .ok (.getfield 39, 3) := by decide +kernel
theorem d_P_readRange_63 : decode prog_3_method_11_code 63 = .ok (.iconst 2, 1) := by decide +kernel
theorem d_P_readRange_64 : decode prog_3_method_11_code 64 = .ok (.iadd, 1) := by decide +kernel
theorem d_P_readRange_65 : decode prog_3_method_11_code 65 = .ok (.caload, 1) := by decide +kernel
theorem d_P_readRange_66 : decode prog_3_method_11_code 66 = .ok (.iload_n 2, 1) := by decide +kernel
theorem d_P_readRange_67 : decode prog_3_method_11_code 67 = .ok (.if_icmp .lt 7, 3) := by decide +kernel
theorem d_P_readRange_70 : decode prog_3_method_11_code 70 = .ok (.iconst 1, 1) := by decide +kernel
theorem d_P_readRange_71 : decode prog_3_method_11_code 71 = .ok (.goto 4, 3) := by decide +kernel
theorem d_P_readRange_74 : decode prog_3_method_11_code 74 = .ok (.iconst 0, 1) := by decide +kernel
theorem d_P_readRange_75 : decode prog_3_method_11_code 75 = .ok (.istore_n 3, 1) := by decide +kernel
theorem d_P_readRange_76 : decode prog_3_method_11_code 76 = .ok (.iload_n 3, 1) := by decide +kernel
theorem d_P_readRange_77 : decode prog_3_method_11_code 77 = .ok (.ifCond .eq 36, 3) := by decide +kernel
theorem d_P_readRange_113 : decode prog_3_method_11_code 113 = .ok (.aload_n 0, 1) := by decide +kernel
theorem d_P_readRange_114 : decode prog_3_method_11_code 114 = .ok (.getfield 27, 3) := by decide +kernel
theorem d_P_readRange_117 : decode prog_3_method_11_code 117 = .ok (.iload_n 1, 1) := by decide +kernel
theorem d_P_readRange_118 : decode prog_3_method_11_code 118 = .ok (.iload_n 2, 1) := by decide +kernel
theorem d_P_readRange_119 : decode prog_3_method_11_code 119 = .ok (.iload_n 2, 1) := by decide +kernel
theorem d_P_readRange_120 : decode prog_3_method_11_code 120 = .ok (.invokevirtual 103, 3) := by decide +kernel
theorem d_A_takeCodes_0 : decode prog_2_method_3_code 0 = .ok (.iload_n 2, 1) := by decide +kernel
theorem d_A_takeCodes_1 : decode prog_2_method_3_code 1 = .ok (.istore 4, 2) := by decide +kernel
theorem d_A_takeCodes_3 : decode prog_2_method_3_code 3 = .ok (.iload 4, 2) := by decide +kernel
theorem d_A_takeCodes_5 : decode prog_2_method_3_code 5 = .ok (.iload_n 3, 1) := by decide +kernel
theorem d_A_takeCodes_6 : decode prog_2_method_3_code 6 = .ok (.if_icmp .gt 48, 3) := by decide +kernel
theorem d_A_takeCodes_54 : decode prog_2_method_3_code 54 = .ok (.return_, 1) := by decide +kernel
theorem d_A_takeCodes_9 : decode prog_2_method_3_code 9 = .ok (.iload 4, 2) := by decide +kernel
theorem d_A_takeCodes_11 : decode prog_2_method_3_code 11 = .ok (.bipush 64, 2) := by decide +kernel
theorem d_A_takeCodes_13 : decode prog_2_method_3_code 13 = .ok (.if_icmp .ge 19, 3) := by decide +kernel
theorem d_A_takeCodes_32 : decode prog_2_method_3_code 32 = .ok (.aload_n 0, 1) := by decide +kernel
theorem d_A_takeCodes_33 : decode prog_2_method_3_code 33 = .ok (.getfield 25, 3) := by decide +kernel
theorem d_A_takeCodes_36 : decode prog_2_method_3_code 36 = .ok (.iload_n 1, 1) := by decide +kernel
theorem d_A_takeCodes_37 : decode prog_2_method_3_code 37 = .ok (.dup2, 1) := by decide +kernel
theorem d_A_takeCodes_38 : decode prog_2_method_3_code 38 = .ok (.laload, 1) := by decide +kernel
theorem d_A_takeCodes_39 : decode prog_2_method_3_code 39 = .ok (.lconst 1, 1) := by decide +kernel
theorem d_A_takeCodes_40 : decode prog_2_method_3_code 40 = .ok (.iload 4, 2) := by decide +kernel
theorem d_A_takeCodes_42 : decode prog_2_method_3_code 42 = .ok (.bipush 64, 2) := by decide +kernel
theorem d_A_takeCodes_44 : decode prog_2_method_3_code 44 = .ok (.isub, 1) := by decide +kernel
theorem d_A_takeCodes_45 : decode prog_2_method_3_code 45 = .ok (.lshl, 1) := by decide +kernel
theorem d_A_takeCodes_46 : decode prog_2_method_3_code 46 = .ok (.lor, 1) := by decide +kernel
theorem d_A_takeCodes_47 : decode prog_2_method_3_code 47 = .ok (.lastore, 1) := by decide +kernel
theorem d_A_takeCodes_16 : decode prog_2_method_3_code 16 = .ok (.aload_n 0, 1) := by decide +kernel
theorem d_A_takeCodes_17 : decode prog_2_method_3_code 17 = .ok (.getfield 21, 3) := by decide +kernel
theorem d_A_takeCodes_20 : decode prog_2_method_3_code 20 = .ok (.iload_n 1, 1) := by decide +kernel
theorem d_A_takeCodes_21 : decode prog_2_method_3_code 21 = .ok (.dup2, 1) := by decide +kernel
theorem d_A_takeCodes_22 : decode prog_2_method_3_code 22 = .ok (.laload, 1) := by decide +kernel
theorem d_A_takeCodes_23 : decode prog_2_method_3_code 23 = .ok (.lconst 1, 1) := by decide +kernel
theorem d_A_takeCodes_24 : decode prog_2_method_3_code 24 = .ok (.iload 4, 2) := by decide +kernel
theorem d_A_takeCodes_26 : decode prog_2_method_3_code 26 = .ok (.lshl, 1) := by decide +kernel
theorem d_A_takeCodes_27 : decode prog_2_method_3_code 27 = .ok (.lor, 1) := by decide +kernel
theorem d_A_takeCodes_28 : decode prog_2_method_3_code 28 = .ok (.lastore, 1) := by decide +kernel
theorem d_A_takeCodes_29 : decode prog_2_method_3_code 29 = .ok (.goto 19, 3) := by decide +kernel
theorem d_A_takeCodes_48 : decode prog_2_method_3_code 48 = .ok (.iinc 4 1, 3) := by decide +kernel
theorem d_A_takeCodes_51 : decode prog_2_method_3_code 51 = .ok (.goto (-48), 3) := by decide +kernel
theorem d_P_readRange_123 : decode prog_3_method_11_code 123 = .ok (.aload_n 0, 1) := by decide +kernel
theorem d_P_readRange_124 : decode prog_3_method_11_code 124 = .ok (.dup, 1) := by decide +kernel
theorem d_P_readRange_125 : decode prog_3_method_11_code 125 = .ok (.getfield 39, 3) := by decide +kernel
theorem d_P_readRange_128 : decode prog_3_method_11_code 128 = .ok (.iconst 1, 1) := by decide +kernel
theorem d_P_readRange_129 : decode prog_3_method_11_code 129 = .ok (.iadd, 1) := by decide +kernel
theorem d_P_readRange_130 : decode prog_3_method_11_code 130 = .ok (.putfield 39, 3) := by decide +kernel
theorem d_P_readRange_80 : decode prog_3_method_11_code 80 = .ok (.aload_n 0, 1) := by decide +kernel
theorem d_P_readRange_81 : decode prog_3_method_11_code 81 = .ok (.getfield 27, 3) := by decide +kernel
theorem d_P_readRange_84 : decode prog_3_method_11_code 84 = .ok (.iload_n 1, 1) := by decide +kernel
theorem d_P_readRange_85 : decode prog_3_method_11_code 85 = .ok (.iload_n 2, 1) := by decide +kernel
theorem d_P_readRange_86 : decode prog_3_method_11_code 86 = .ok (.aload_n 0, 1) := by decide +kernel
theorem d_P_readRange_87 : decode prog_3_method_11_code 87 = .ok (.getfield 31, 3) := by decide +kernel
theorem d_P_readRange_90 : decode prog_3_method_11_code 90 = .ok (.aload_n 0, 1) := by decide +kernel
theorem d_P_readRange_91 : decode prog_3_method_11_code 91 = .ok (.getfield 39, 3) := by decide +kernel
theorem d_P_readRange_94 : decode prog_3_method_11_code 94 = .ok (.iconst 2, 1) := by decide +kernel
theorem d_P_readRange_95 : decode prog_3_method_11_code 95 = .ok (.iadd, 1) := by decide +kernel
theorem d_P_readRange_96 : decode prog_3_method_11_code 96 = .ok (.caload, 1) := by decide +kernel
theorem d_P_readRange_97 : decode prog_3_method_11_code 97 = .ok (.invokevirtual 103, 3) := by decide +kernel
theorem d_P_readRange_100 : decode prog_3_method_11_code 100 = .ok (.aload_n 0, 1) := by decide +kernel
theorem d_P_readRange_101 : decode prog_3_method_11_code 101 = .ok (.dup, 1) := by decide +kernel
theorem d_P_readRange_102 : decode prog_3_method_11_code 102 = .ok (.getfield 39, 3) := by decide +kernel
theorem d_P_readRange_105 : decode prog_3_method_11_code 105 = .ok (.iconst 3, 1) := by decide +kernel
theorem d_P_readRange_106 : decode prog_3_method_11_code 106 = .ok (.iadd, 1) := by decide +kernel
theorem d_P_readRange_107 : decode prog_3_method_11_code 107 = .ok (.putfield 39, 3) := by decide +kernel
theorem d_P_readRange_110 : decode prog_3_method_11_code 110 = .ok (.goto 23, 3) := by decide +kernel
theorem d_P_readRange_133 : decode prog_3_method_11_code 133 = .ok (.return_, 1) := by decide +kernel
theorem d_P_readSet_106 : decode prog_3_method_10_code 106 = .ok (.iinc 4 1, 3) := by decide +kernel
theorem d_P_readSet_109 : decode prog_3_method_10_code 109 = .ok (.goto (-42), 3) := by decide +kernel
theorem d_P_readSet_112 : decode prog_3_method_10_code 112 = .ok (.aload_n 0, 1) := by decide +kernel
theorem d_P_readSet_113 : decode prog_3_method_10_code 113 = .ok (.getfield 39, 3) := by decide +kernel
theorem d_P_readSet_116 : decode prog_3_method_10_code 116 = .ok (.aload_n 0, 1) := by decide +kernel
theorem d_P_readSet_117 : decode prog_3_method_10_code 117 = .ok (.getfield 35, 3) := by decide +kernel
theorem d_P_readSet_120 : decode prog_3_method_10_code 120 = .ok (.if_icmp .eq 11, 3) := by decide +kernel
theorem d_P_readSet_123 : decode prog_3_method_10_code 123 = .ok (.aload_n 0, 1) := by decide +kernel
theorem d_P_readSet_124 : decode prog_3_method_10_code 124 = .ok (.getfield 39, 3) := by decide +kernel
theorem d_P_readSet_127 : decode prog_3_method_10_code 127 = .ok (.iload_n 2, 1) := by decide +kernel
theorem d_P_readSet_128 : decode prog_3_method_10_code 128 = .ok (.if_icmp .ne 12, 3) := by decide +kernel
theorem d_P_readSet_140 : decode prog_3_method_10_code 140 = .ok (.iload_n 1, 1) := by decide +kernel
theorem d_P_readSet_141 : decode prog_3_method_10_code 141 = .ok (.ifCond .eq 11, 3) := by decide +kernel
theorem d_P_readSet_144 : decode prog_3_method_10_code 144 = .ok (.aload_n 0, 1) := by decide +kernel
theorem d_P_readSet_145 : decode prog_3_method_10_code 145 = .ok (.getfield 27, 3) := by decide +kernel
theorem d_P_readSet_148 : decode prog_3_method_10_code 148 = .ok (.iload_n 3, 1) := by decide +kernel
theorem d_P_readSet_149 : decode prog_3_method_10_code 149 = .ok (.invokevirtual 107, 3) := by decide +kernel
theorem d_A_takeOtherCodes_0 : decode prog_2_method_4_code 0 = .ok (.aload_n 0, 1) := by decide +kernel
theorem d_A_takeOtherCodes_1 : decode prog_2_method_4_code 1 = .ok (.getfield 21, 3) := by decide +kernel
theorem d_A_takeOtherCodes_4 : decode prog_2_method_4_code 4 = .ok (.iload_n 1, 1) := by decide +kernel
theorem d_A_takeOtherCodes_5 : decode prog_2_method_4_code 5 = .ok (.aload_n 0, 1) := by decide +kernel
theorem d_A_takeOtherCodes_6 : decode prog_2_method_4_code 6 = .ok (.getfield 21, 3) := by decide +kernel
theorem d_A_takeOtherCodes_9 : decode prog_2_method_4_code 9 = .ok (.iload_n 1, 1) := by decide +kernel
theorem d_A_takeOtherCodes_10 : decode prog_2_method_4_code 10 = .ok (.laload, 1) := by decide +kernel
theorem d_A_takeOtherCodes_11 : decode prog_2_method_4_code 11 = .ok (.ldc2_w 32, 3) := by decide +kernel
theorem d_A_takeOtherCodes_14 : decode prog_2_method_4_code 14 = .ok (.lxor, 1) := by decide +kernel
theorem d_A_takeOtherCodes_15 : decode prog_2_method_4_code 15 = .ok (.lastore, 1) := by decide +kernel
theorem d_A_takeOtherCodes_16 : decode prog_2_method_4_code 16 = .ok (.aload_n 0, 1) := by decide +kernel
theorem d_A_takeOtherCodes_17 : decode prog_2_method_4_code 17 = .ok (.getfield 25, 3) := by decide +kernel
theorem d_A_takeOtherCodes_20 : decode prog_2_method_4_code 20 = .ok (.iload_n 1, 1) := by decide +kernel
theorem d_A_takeOtherCodes_21 : decode prog_2_method_4_code 21 = .ok (.aload_n 0, 1) := by decide +kernel
theorem d_A_takeOtherCodes_22 : decode prog_2_method_4_code 22 = .ok (.getfield 25, 3) := by decide +kernel
theorem d_A_takeOtherCodes_25 : decode prog_2_method_4_code 25 = .ok (.iload_n 1, 1) := by decide +kernel
theorem d_A_takeOtherCodes_26 : decode prog_2_method_4_code 26 = .ok (.laload, 1) := by decide +kernel
theorem d_A_takeOtherCodes_27 : decode prog_2_method_4_code 27 = .ok (.ldc2_w 32, 3) := by decide +kernel
theorem d_A_takeOtherCodes_30 : decode prog_2_method_4_code 30 = .ok (.lxor, 1) := by decide +kernel
theorem d_A_takeOtherCodes_31 : decode prog_2_method_4_code 31 = .ok (.lastore, 1) := by decide +kernel
theorem d_A_takeOtherCodes_32 : decode prog_2_method_4_code 32 = .ok (.return_, 1) := by decide +kernel
theorem d_P_readSet_131 : decode prog_3_method_10_code 131 = .ok (.aload_n 0, 1) := by decide +kernel
theorem d_P_readSet_132 : decode prog_3_method_10_code 132 = .ok (.aload_n 0, 1) := by decide +kernel
theorem d_P_readSet_133 : decode prog_3_method_10_code 133 = .ok (.getfield 39, 3) := by decide +kernel
theorem d_P_readSet_136 : decode prog_3_method_10_code 136 = .ok (.putfield 42, 3) := by decide +kernel
theorem d_P_readSet_139 : decode prog_3_method_10_code 139 = .ok (.return_, 1) := by decide +kernel
theorem d_P_readSet_152 : decode prog_3_method_10_code 152 = .ok (.return_, 1) := by decide +kernel
theorem d_P_readNext_125 : decode prog_3_method_5_code 125 = .ok (.goto 26, 3) := by decide +kernel
theorem d_P_readNext_139 : decode prog_3_method_5_code 139 = .ok (.aload_n 0, 1) := by decide +kernel
theorem d_P_readNext_140 : decode prog_3_method_5_code 140 = .ok (.invokevirtual 87, 3) := by decide +kernel
theorem d_P_readEscaped_0 : decode prog_3_method_9_code 0 = .ok (.aload_n 0, 1) := by decide +kernel
theorem d_P_readEscaped_1 : decode prog_3_method_9_code 1 = .ok (.dup, 1) := by decide +kernel
theorem d_P_readEscaped_2 : decode prog_3_method_9_code 2 = .ok (.getfield 39, 3) := by decide +kernel
theorem d_P_readEscaped_5 : decode prog_3_method_9_code 5 = .ok (.iconst 1, 1) := by decide +kernel
theorem d_P_readEscaped_6 : decode prog_3_method_9_code 6 = .ok (.iadd, 1) := by decide +kernel
theorem d_P_readEscaped_7 : decode prog_3_method_9_code 7 = .ok (.putfield 39, 3) := by decide +kernel
theorem d_P_readEscaped_10 : decode prog_3_method_9_code 10 = .ok (.aload_n 0, 1) := by decide +kernel
theorem d_P_readEscaped_11 : decode prog_3_method_9_code 11 = .ok (.getfield 39, 3) := by decide +kernel
theorem d_P_readEscaped_14 : decode prog_3_method_9_code 14 = .ok (.aload_n 0, 1) := by decide +kernel
theorem d_P_readEscaped_15 : decode prog_3_method_9_code 15 = .ok (.getfield 35, 3) := by decide +kernel
theorem d_P_readEscaped_18 : decode prog_3_method_9_code 18 = .ok (.if_icmp .ne 12, 3) := by decide +kernel
theorem d_P_readEscaped_30 : decode prog_3_method_9_code 30 = .ok (.aload_n 0, 1) := by decide +kernel
theorem d_P_readEscaped_31 : decode prog_3_method_9_code 31 = .ok (.aload_n 0, 1) := by decide +kernel
theorem d_P_readEscaped_32 : decode prog_3_method_9_code 32 = .ok (.getfield 31, 3) := by decide +kernel
theorem d_P_readEscaped_35 : decode prog_3_method_9_code 35 = .ok (.aload_n 0, 1) := by decide +kernel
theorem d_P_readEscaped_36 : decode prog_3_method_9_code 36 = .ok (.getfield 39, 3) := by decide +kernel
theorem d_P_readEscaped_39 : decode prog_3_method_9_code 39 = .ok (.caload, 1) := by decide +kernel
theorem d_P_readEscaped_40 : decode prog_3_method_9_code 40 = .ok (.invokevirtual 100, 3) := by decide +kernel
theorem d_P_readLiteral_0 : decode prog_3_method_8_code 0 = .ok (.aload_n 0, 1) := by decide +kernel
theorem d_P_readLiteral_1 : decode prog_3_method_8_code 1 = .ok (.iconst 1, 1) := by decide +kernel
theorem d_P_readLiteral_2 : decode prog_3_method_8_code 2 = .ok (.invokevirtual 93, 3) := by decide +kernel
theorem d_P_readLiteral_5 : decode prog_3_method_8_code 5 = .ok (.istore_n 2, 1) := by decide +kernel
theorem d_P_readLiteral_6 : decode prog_3_method_8_code 6 = .ok (.aload_n 0, 1) := by decide +kernel
theorem d_P_readLiteral_7 : decode prog_3_method_8_code 7 = .ok (.getfield 27, 3) := by decide +kernel
theorem d_P_readLiteral_10 : decode prog_3_method_8_code 10 = .ok (.iload_n 2, 1) := by decide +kernel
theorem d_P_readLiteral_11 : decode prog_3_method_8_code 11 = .ok (.iload_n 1, 1) := by decide +kernel
theorem d_P_readLiteral_12 : decode prog_3_method_8_code 12 = .ok (.iload_n 1, 1) := by decide +kernel
theorem d_P_readLiteral_13 : decode prog_3_method_8_code 13 = .ok (.invokevirtual 103, 3) := by decide +kernel
theorem d_P_readLiteral_16 : decode prog_3_method_8_code 16 = .ok (.return_, 1) := by decide +kernel
theorem d_P_readEscaped_43 : decode prog_3_method_9_code 43 = .ok (.return_, 1) := by decide +kernel
theorem d_P_readEscaped_21 : decode prog_3_method_9_code 21 = .ok (.aload_n 0, 1) := by decide +kernel
theorem d_P_readEscaped_22 : decode prog_3_method_9_code 22 = .ok (.aload_n 0, 1) := by decide +kernel
theorem d_P_readEscaped_23 : decode prog_3_method_9_code 23 = .ok (.getfield 39, 3) := by decide +kernel
theorem d_P_readEscaped_26 : decode prog_3_method_9_code 26 = .ok (.putfield 42, 3) := by decide +kernel
theorem d_P_readEscaped_29 : decode prog_3_method_9_code 29 = .ok (.return_, 1) := by decide +kernel
theorem d_P_readNext_143 : decode prog_3_method_5_code 143 = .ok (.goto 8, 3) := by decide +kernel
theorem d_P_readNext_128 : decode prog_3_method_5_code 128 = .ok (.aload_n 0, 1) := by decide +kernel
theorem d_P_readNext_129 : decode prog_3_method_5_code 129 = .ok (.aload_n 0, 1) := by decide +kernel
theorem d_P_readNext_130 : decode prog_3_method_5_code 130 = .ok (.getfield 39, 3) := by decide +kernel
theorem d_P_readNext_133 : decode prog_3_method_5_code 133 = .ok (.putfield 42, 3) := by decide +kernel
theorem d_P_readNext_136 : decode prog_3_method_5_code 136 = .ok (.goto 15, 3) := by decide +kernel
theorem d_P_readNext_106 : decode prog_3_method_5_code 106 = .ok (.aload_n 0, 1) := by decide +kernel
theorem d_P_readNext_107 : decode prog_3_method_5_code 107 = .ok (.invokevirtual 77, 3) := by decide +kernel
theorem d_P_openRow_0 : decode prog_3_method_15_code 0 = .ok (.aload_n 0, 1) := by decide +kernel
theorem d_P_openRow_1 : decode prog_3_method_15_code 1 = .ok (.getfield 27, 3) := by decide +kernel
theorem d_P_openRow_4 : decode prog_3_method_15_code 4 = .ok (.getfield 59, 3) := by decide +kernel
theorem d_P_openRow_7 : decode prog_3_method_15_code 7 = .ok (.aload_n 0, 1) := by decide +kernel
theorem d_P_openRow_8 : decode prog_3_method_15_code 8 = .ok (.getfield 62, 3) := by decide +kernel
theorem d_P_openRow_11 : decode prog_3_method_15_code 11 = .ok (.aload_n 0, 1) := by decide +kernel
theorem d_P_openRow_12 : decode prog_3_method_15_code 12 = .ok (.getfield 15, 3) := by decide +kernel
theorem d_P_openRow_15 : decode prog_3_method_15_code 15 = .ok (.aload_n 0, 1) := by decide +kernel
theorem d_P_openRow_16 : decode prog_3_method_15_code 16 = .ok (.getfield 46, 3) := by decide +kernel
theorem d_P_openRow_19 : decode prog_3_method_15_code 19 = .ok (.iaload, 1) := by decide +kernel
theorem d_P_openRow_20 : decode prog_3_method_15_code 20 = .ok (.iastore, 1) := by decide +kernel
theorem d_P_openRow_21 : decode prog_3_method_15_code 21 = .ok (.aload_n 0, 1) := by decide +kernel
theorem d_P_openRow_22 : decode prog_3_method_15_code 22 = .ok (.getfield 27, 3) := by decide +kernel
theorem d_P_openRow_25 : decode prog_3_method_15_code 25 = .ok (.iconst 0, 1) := by decide +kernel
theorem d_P_openRow_26 : decode prog_3_method_15_code 26 = .ok (.invokevirtual 113, 3) := by decide +kernel
theorem d_P_openRow_29 : decode prog_3_method_15_code 29 = .ok (.istore_n 1, 1) := by decide +kernel
theorem d_P_openRow_30 : decode prog_3_method_15_code 30 = .ok (.aload_n 0, 1) := by decide +kernel
theorem d_P_openRow_31 : decode prog_3_method_15_code 31 = .ok (.getfield 27, 3) := by decide +kernel
theorem d_P_openRow_34 : decode prog_3_method_15_code 34 = .ok (.getfield 123, 3) := by decide +kernel
theorem d_P_openRow_37 : decode prog_3_method_15_code 37 = .ok (.aload_n 0, 1) := by decide +kernel
theorem d_P_openRow_38 : decode prog_3_method_15_code 38 = .ok (.getfield 18, 3) := by decide +kernel
theorem d_P_openRow_41 : decode prog_3_method_15_code 41 = .ok (.aload_n 0, 1) := by decide +kernel
theorem d_P_openRow_42 : decode prog_3_method_15_code 42 = .ok (.getfield 46, 3) := by decide +kernel
theorem d_P_openRow_45 : decode prog_3_method_15_code 45 = .ok (.iaload, 1) := by decide +kernel
theorem d_P_openRow_46 : decode prog_3_method_15_code 46 = .ok (.iload_n 1, 1) := by decide +kernel
theorem d_P_openRow_47 : decode prog_3_method_15_code 47 = .ok (.iastore, 1) := by decide +kernel
theorem d_P_openRow_48 : decode prog_3_method_15_code 48 = .ok (.aload_n 0, 1) := by decide +kernel
theorem d_P_openRow_49 : decode prog_3_method_15_code 49 = .ok (.iload_n 1, 1) := by decide +kernel
theorem d_P_openRow_50 : decode prog_3_method_15_code 50 = .ok (.invokevirtual 116, 3) := by decide +kernel
theorem d_P_openRow_53 : decode prog_3_method_15_code 53 = .ok (.return_, 1) := by decide +kernel
theorem d_P_readNext_110 : decode prog_3_method_5_code 110 = .ok (.goto 41, 3) := by decide +kernel
theorem d_P_readNext_146 : decode prog_3_method_5_code 146 = .ok (.aload_n 0, 1) := by decide +kernel
theorem d_P_readNext_147 : decode prog_3_method_5_code 147 = .ok (.iload_n 1, 1) := by decide +kernel
theorem d_P_readNext_148 : decode prog_3_method_5_code 148 = .ok (.invokevirtual 90, 3) := by decide +kernel
theorem d_P_readSingle_0 : decode prog_3_method_6_code 0 = .ok (.iload_n 1, 1) := by decide +kernel
theorem d_P_readSingle_1 : decode prog_3_method_6_code 1 = .ok (.lookupswitch 60 #[(36, 44), (46, 53), (94, 35)], 35) := by decide +kernel
theorem d_P_readSingle_45 : decode prog_3_method_6_code 45 = .ok (.aload_n 0, 1) := by decide +kernel
theorem d_P_readSingle_46 : decode prog_3_method_6_code 46 = .ok (.iconst 3, 1) := by decide +kernel
theorem d_P_readSingle_47 : decode prog_3_method_6_code 47 = .ok (.invokevirtual 93, 3) := by decide +kernel
theorem d_P_readSingle_50 : decode prog_3_method_6_code 50 = .ok (.pop, 1) := by decide +kernel
theorem d_P_readSingle_51 : decode prog_3_method_6_code 51 = .ok (.goto 15, 3) := by decide +kernel
theorem d_P_readSingle_54 : decode prog_3_method_6_code 54 = .ok (.aload_n 0, 1) := by decide +kernel
theorem d_P_readSingle_55 : decode prog_3_method_6_code 55 = .ok (.invokevirtual 97, 3) := by decide +kernel
theorem d_P_readDot_0 : decode prog_3_method_7_code 0 = .ok (.aload_n 0, 1) := by decide +kernel
theorem d_P_readDot_1 : decode prog_3_method_7_code 1 = .ok (.iconst 1, 1) := by decide +kernel
theorem d_P_readDot_2 : decode prog_3_method_7_code 2 = .ok (.invokevirtual 93, 3) := by decide +kernel
theorem d_P_readDot_5 : decode prog_3_method_7_code 5 = .ok (.istore_n 1, 1) := by decide +kernel
theorem d_P_readDot_6 : decode prog_3_method_7_code 6 = .ok (.aload_n 0, 1) := by decide +kernel
theorem d_P_readDot_7 : decode prog_3_method_7_code 7 = .ok (.getfield 27, 3) := by decide +kernel
theorem d_P_readDot_10 : decode prog_3_method_7_code 10 = .ok (.iload_n 1, 1) := by decide +kernel
theorem d_P_readDot_11 : decode prog_3_method_7_code 11 = .ok (.bipush 10, 2) := by decide +kernel
theorem d_P_readDot_13 : decode prog_3_method_7_code 13 = .ok (.bipush 10, 2) := by decide +kernel
theorem d_P_readDot_15 : decode prog_3_method_7_code 15 = .ok (.invokevirtual 103, 3) := by decide +kernel
theorem d_P_readDot_18 : decode prog_3_method_7_code 18 = .ok (.aload_n 0, 1) := by decide +kernel
theorem d_P_readDot_19 : decode prog_3_method_7_code 19 = .ok (.getfield 27, 3) := by decide +kernel
theorem d_P_readDot_22 : decode prog_3_method_7_code 22 = .ok (.iload_n 1, 1) := by decide +kernel
theorem d_P_readDot_23 : decode prog_3_method_7_code 23 = .ok (.invokevirtual 107, 3) := by decide +kernel
theorem d_P_readDot_26 : decode prog_3_method_7_code 26 = .ok (.return_, 1) := by decide +kernel
theorem d_P_readSingle_58 : decode prog_3_method_6_code 58 = .ok (.goto 8, 3) := by decide +kernel
theorem d_P_readSingle_36 : decode prog_3_method_6_code 36 = .ok (.aload_n 0, 1) := by decide +kernel
theorem d_P_readSingle_37 : decode prog_3_method_6_code 37 = .ok (.iconst 2, 1) := by decide +kernel
theorem d_P_readSingle_38 : decode prog_3_method_6_code 38 = .ok (.invokevirtual 93, 3) := by decide +kernel
theorem d_P_readSingle_41 : decode prog_3_method_6_code 41 = .ok (.pop, 1) := by decide +kernel
theorem d_P_readSingle_42 : decode prog_3_method_6_code 42 = .ok (.goto 24, 3) := by decide +kernel
theorem d_P_readSingle_61 : decode prog_3_method_6_code 61 = .ok (.aload_n 0, 1) := by decide +kernel
theorem d_P_readSingle_62 : decode prog_3_method_6_code 62 = .ok (.iload_n 1, 1) := by decide +kernel
theorem d_P_readSingle_63 : decode prog_3_method_6_code 63 = .ok (.invokevirtual 100, 3) := by decide +kernel
theorem d_P_readSingle_66 : decode prog_3_method_6_code 66 = .ok (.return_, 1) := by decide +kernel
theorem d_P_readNext_151 : decode prog_3_method_5_code 151 = .ok (.aload_n 0, 1) := by decide +kernel
theorem d_P_readNext_152 : decode prog_3_method_5_code 152 = .ok (.dup, 1) := by decide +kernel
theorem d_P_readNext_153 : decode prog_3_method_5_code 153 = .ok (.getfield 39, 3) := by decide +kernel
theorem d_P_readNext_156 : decode prog_3_method_5_code 156 = .ok (.iconst 1, 1) := by decide +kernel
theorem d_P_readNext_157 : decode prog_3_method_5_code 157 = .ok (.iadd, 1) := by decide +kernel
theorem d_P_readNext_158 : decode prog_3_method_5_code 158 = .ok (.putfield 39, 3) := by decide +kernel
theorem d_P_readNext_161 : decode prog_3_method_5_code 161 = .ok (.return_, 1) := by decide +kernel
theorem d_P_read_71 : decode prog_3_method_3_code 71 = .ok (.iinc 3 1, 3) := by decide +kernel
theorem d_P_read_74 : decode prog_3_method_3_code 74 = .ok (.goto (-34), 3) := by decide +kernel
theorem d_P_read_77 : decode prog_3_method_3_code 77 = .ok (.aload_n 0, 1) := by decide +kernel
theorem d_P_read_78 : decode prog_3_method_3_code 78 = .ok (.getfield 42, 3) := by decide +kernel
theorem d_P_read_81 : decode prog_3_method_3_code 81 = .ok (.iconst (-1), 1) := by decide +kernel
theorem d_P_read_82 : decode prog_3_method_3_code 82 = .ok (.if_icmp .ne 18, 3) := by decide +kernel
theorem d_P_read_85 : decode prog_3_method_3_code 85 = .ok (.aload_n 0, 1) := by decide +kernel
theorem d_P_read_86 : decode prog_3_method_3_code 86 = .ok (.getfield 46, 3) := by decide +kernel
theorem d_P_read_89 : decode prog_3_method_3_code 89 = .ok (.ifCond .le 11, 3) := by decide +kernel
theorem d_P_read_92 : decode prog_3_method_3_code 92 = .ok (.aload_n 0, 1) := by decide +kernel
theorem d_P_read_93 : decode prog_3_method_3_code 93 = .ok (.aload_n 0, 1) := by decide +kernel
theorem d_P_read_94 : decode prog_3_method_3_code 94 = .ok (.getfield 35, 3) := by decide +kernel
theorem d_P_read_97 : decode prog_3_method_3_code 97 = .ok (.putfield 42, 3) := by decide +kernel
theorem d_P_read_100 : decode prog_3_method_3_code 100 = .ok (.aload_n 0, 1) := by decide +kernel
theorem d_P_read_101 : decode prog_3_method_3_code 101 = .ok (.getfield 42, 3) := by decide +kernel
theorem d_P_read_104 : decode prog_3_method_3_code 104 = .ok (.iconst (-1), 1) := by decide +kernel
theorem d_P_read_105 : decode prog_3_method_3_code 105 = .ok (.if_icmp .ne 7, 3) := by decide +kernel
theorem d_P_read_108 : decode prog_3_method_3_code 108 = .ok (.aload_n 0, 1) := by decide +kernel
theorem d_P_read_109 : decode prog_3_method_3_code 109 = .ok (.invokevirtual 56, 3) := by decide +kernel
theorem d_P_finish_0 : decode prog_3_method_4_code 0 = .ok (.aload_n 0, 1) := by decide +kernel
theorem d_P_finish_1 : decode prog_3_method_4_code 1 = .ok (.getfield 27, 3) := by decide +kernel
theorem d_P_finish_4 : decode prog_3_method_4_code 4 = .ok (.getfield 59, 3) := by decide +kernel
theorem d_P_finish_7 : decode prog_3_method_4_code 7 = .ok (.aload_n 0, 1) := by decide +kernel
theorem d_P_finish_8 : decode prog_3_method_4_code 8 = .ok (.getfield 62, 3) := by decide +kernel
theorem d_P_finish_11 : decode prog_3_method_4_code 11 = .ok (.aload_n 0, 1) := by decide +kernel
theorem d_P_finish_12 : decode prog_3_method_4_code 12 = .ok (.getfield 15, 3) := by decide +kernel
theorem d_P_finish_15 : decode prog_3_method_4_code 15 = .ok (.iconst 0, 1) := by decide +kernel
theorem d_P_finish_16 : decode prog_3_method_4_code 16 = .ok (.iaload, 1) := by decide +kernel
theorem d_P_finish_17 : decode prog_3_method_4_code 17 = .ok (.iastore, 1) := by decide +kernel
theorem d_P_finish_18 : decode prog_3_method_4_code 18 = .ok (.aload_n 0, 1) := by decide +kernel
theorem d_P_finish_19 : decode prog_3_method_4_code 19 = .ok (.getfield 27, 3) := by decide +kernel
theorem d_P_finish_22 : decode prog_3_method_4_code 22 = .ok (.aload_n 0, 1) := by decide +kernel
theorem d_P_finish_23 : decode prog_3_method_4_code 23 = .ok (.getfield 9, 3) := by decide +kernel
theorem d_P_finish_26 : decode prog_3_method_4_code 26 = .ok (.iconst 0, 1) := by decide +kernel
theorem d_P_finish_27 : decode prog_3_method_4_code 27 = .ok (.iaload, 1) := by decide +kernel
theorem d_P_finish_28 : decode prog_3_method_4_code 28 = .ok (.putfield 65, 3) := by decide +kernel
theorem d_P_finish_31 : decode prog_3_method_4_code 31 = .ok (.aload_n 0, 1) := by decide +kernel
theorem d_P_finish_32 : decode prog_3_method_4_code 32 = .ok (.getfield 27, 3) := by decide +kernel
theorem d_P_finish_35 : decode prog_3_method_4_code 35 = .ok (.aload_n 0, 1) := by decide +kernel
theorem d_P_finish_36 : decode prog_3_method_4_code 36 = .ok (.getfield 15, 3) := by decide +kernel
theorem d_P_finish_39 : decode prog_3_method_4_code 39 = .ok (.iconst 0, 1) := by decide +kernel
theorem d_P_finish_40 : decode prog_3_method_4_code 40 = .ok (.iaload, 1) := by decide +kernel
theorem d_P_finish_41 : decode prog_3_method_4_code 41 = .ok (.putfield 68, 3) := by decide +kernel
theorem d_P_finish_44 : decode prog_3_method_4_code 44 = .ok (.return_, 1) := by decide +kernel
theorem d_P_read_112 : decode prog_3_method_3_code 112 = .ok (.aload_n 0, 1) := by decide +kernel
theorem d_P_read_113 : decode prog_3_method_3_code 113 = .ok (.getfield 42, 3) := by decide +kernel
theorem d_P_read_116 : decode prog_3_method_3_code 116 = .ok (.ireturn, 1) := by decide +kernel
theorem d_D_compile_16 : decode prog_1_method_7_code 16 = .ok (.putfield 46, 3) := by decide +kernel
theorem d_D_compile_19 : decode prog_1_method_7_code 19 = .ok (.aload_n 0, 1) := by decide +kernel
theorem d_D_compile_20 : decode prog_1_method_7_code 20 = .ok (.getfield 46, 3) := by decide +kernel
theorem d_D_compile_23 : decode prog_1_method_7_code 23 = .ok (.iconst (-1), 1) := by decide +kernel
theorem d_D_compile_24 : decode prog_1_method_7_code 24 = .ok (.if_icmp .eq 11, 3) := by decide +kernel
theorem d_D_compile_35 : decode prog_1_method_7_code 35 = .ok (.aload_n 0, 1) := by decide +kernel
theorem d_D_compile_36 : decode prog_1_method_7_code 36 = .ok (.aload_n 0, 1) := by decide +kernel
theorem d_D_compile_37 : decode prog_1_method_7_code 37 = .ok (.getfield 35, 3) := by decide +kernel
theorem d_D_compile_40 : decode prog_1_method_7_code 40 = .ok (.aload_n 0, 1) := by decide +kernel
theorem d_D_compile_41 : decode prog_1_method_7_code 41 = .ok (.getfield 42, 3) := by decide +kernel
theorem d_D_compile_44 : decode prog_1_method_7_code 44 = .ok (.invokevirtual 99, 3) := by decide +kernel
theorem d_P_handOver_0 : decode prog_3_method_2_code 0 = .ok (.aload_n 0, 1) := by decide +kernel
theorem d_P_handOver_1 : decode prog_3_method_2_code 1 = .ok (.getfield 27, 3) := by decide +kernel
theorem d_P_handOver_4 : decode prog_3_method_2_code 4 = .ok (.astore_n 2, 1) := by decide +kernel
theorem d_P_handOver_5 : decode prog_3_method_2_code 5 = .ok (.aload_n 0, 1) := by decide +kernel
theorem d_P_handOver_6 : decode prog_3_method_2_code 6 = .ok (.aload_n 1, 1) := by decide +kernel
theorem d_P_handOver_7 : decode prog_3_method_2_code 7 = .ok (.putfield 27, 3) := by decide +kernel
theorem d_P_handOver_10 : decode prog_3_method_2_code 10 = .ok (.aload_n 2, 1) := by decide +kernel
theorem d_P_handOver_11 : decode prog_3_method_2_code 11 = .ok (.areturn, 1) := by decide +kernel
theorem d_D_compile_47 : decode prog_1_method_7_code 47 = .ok (.putfield 42, 3) := by decide +kernel
theorem d_D_compile_50 : decode prog_1_method_7_code 50 = .ok (.aload_n 0, 1) := by decide +kernel
theorem d_D_compile_51 : decode prog_1_method_7_code 51 = .ok (.iconst 1, 1) := by decide +kernel
theorem d_D_compile_52 : decode prog_1_method_7_code 52 = .ok (.putfield 103, 3) := by decide +kernel
theorem d_D_compile_55 : decode prog_1_method_7_code 55 = .ok (.aload_n 0, 1) := by decide +kernel
theorem d_D_compile_56 : decode prog_1_method_7_code 56 = .ok (.iconst 0, 1) := by decide +kernel
theorem d_D_compile_57 : decode prog_1_method_7_code 57 = .ok (.putfield 56, 3) := by decide +kernel
theorem d_D_compile_60 : decode prog_1_method_7_code 60 = .ok (.return_, 1) := by decide +kernel
theorem d_D_compile_27 : decode prog_1_method_7_code 27 = .ok (.new 96, 3) := by decide +kernel
theorem d_D_compile_30 : decode prog_1_method_7_code 30 = .ok (.dup, 1) := by decide +kernel
theorem d_D_compile_31 : decode prog_1_method_7_code 31 = .ok (.invokespecial 98, 3) := by decide +kernel
theorem d_D_compile_34 : decode prog_1_method_7_code 34 = .ok (.athrow, 1) := by decide +kernel
theorem d_D_fault_0 : decode prog_1_method_8_code 0 = .ok (.aload_n 0, 1) := by decide +kernel
theorem d_D_fault_1 : decode prog_1_method_8_code 1 = .ok (.getfield 46, 3) := by decide +kernel
theorem d_D_fault_4 : decode prog_1_method_8_code 4 = .ok (.ireturn, 1) := by decide +kernel
theorem d_D_figure_0 : decode prog_1_method_17_code 0 = .ok (.iload_n 1, 1) := by decide +kernel
theorem d_D_figure_1 : decode prog_1_method_17_code 1 = .ok (.tableswitch 60 0 4 #[35, 40, 45, 50, 55], 35) := by decide +kernel
theorem d_D_figure_36 : decode prog_1_method_17_code 36 = .ok (.aload_n 0, 1) := by decide +kernel
theorem d_D_figure_37 : decode prog_1_method_17_code 37 = .ok (.getfield 73, 3) := by decide +kernel
theorem d_D_figure_40 : decode prog_1_method_17_code 40 = .ok (.ireturn, 1) := by decide +kernel
theorem d_D_figure_41 : decode prog_1_method_17_code 41 = .ok (.aload_n 0, 1) := by decide +kernel
theorem d_D_figure_42 : decode prog_1_method_17_code 42 = .ok (.getfield 25, 3) := by decide +kernel
theorem d_D_figure_45 : decode prog_1_method_17_code 45 = .ok (.ireturn, 1) := by decide +kernel
theorem d_D_figure_46 : decode prog_1_method_17_code 46 = .ok (.aload_n 0, 1) := by decide +kernel
theorem d_D_figure_47 : decode prog_1_method_17_code 47 = .ok (.getfield 76, 3) := by decide +kernel
theorem d_D_figure_50 : decode prog_1_method_17_code 50 = .ok (.ireturn, 1) := by decide +kernel
theorem d_D_figure_51 : decode prog_1_method_17_code 51 = .ok (.aload_n 0, 1) := by decide +kernel
theorem d_D_figure_52 : decode prog_1_method_17_code 52 = .ok (.getfield 29, 3) := by decide +kernel
theorem d_D_figure_55 : decode prog_1_method_17_code 55 = .ok (.ireturn, 1) := by decide +kernel
theorem d_D_figure_56 : decode prog_1_method_17_code 56 = .ok (.aload_n 0, 1) := by decide +kernel
theorem d_D_figure_57 : decode prog_1_method_17_code 57 = .ok (.getfield 56, 3) := by decide +kernel
theorem d_D_figure_60 : decode prog_1_method_17_code 60 = .ok (.ireturn, 1) := by decide +kernel
theorem d_D_figure_61 : decode prog_1_method_17_code 61 = .ok (.new 96, 3) := by decide +kernel
theorem d_D_figure_64 : decode prog_1_method_17_code 64 = .ok (.dup, 1) := by decide +kernel
theorem d_D_figure_65 : decode prog_1_method_17_code 65 = .ok (.invokespecial 98, 3) := by decide +kernel
theorem d_D_figure_68 : decode prog_1_method_17_code 68 = .ok (.athrow, 1) := by decide +kernel
theorem d_D_find_0 : decode prog_1_method_9_code 0 = .ok (.aload_n 0, 1) := by decide +kernel
theorem d_D_find_1 : decode prog_1_method_9_code 1 = .ok (.getfield 103, 3) := by decide +kernel
theorem d_D_find_4 : decode prog_1_method_9_code 4 = .ok (.ifCond .ne 11, 3) := by decide +kernel
theorem d_D_find_15 : decode prog_1_method_9_code 15 = .ok (.aload_n 0, 1) := by decide +kernel
theorem d_D_find_16 : decode prog_1_method_9_code 16 = .ok (.iload_n 1, 1) := by decide +kernel
theorem d_D_find_17 : decode prog_1_method_9_code 17 = .ok (.invokevirtual 88, 3) := by decide +kernel
theorem d_D_requirePlace_0 : decode prog_1_method_19_code 0 = .ok (.iload_n 1, 1) := by decide +kernel
theorem d_D_requirePlace_1 : decode prog_1_method_19_code 1 = .ok (.ifCond .lt 12, 3) := by decide +kernel
theorem d_D_requirePlace_4 : decode prog_1_method_19_code 4 = .ok (.iload_n 1, 1) := by decide +kernel
theorem d_D_requirePlace_5 : decode prog_1_method_19_code 5 = .ok (.aload_n 0, 1) := by decide +kernel
theorem d_D_requirePlace_6 : decode prog_1_method_19_code 6 = .ok (.getfield 19, 3) := by decide +kernel
theorem d_D_requirePlace_9 : decode prog_1_method_19_code 9 = .ok (.arraylength, 1) := by decide +kernel
theorem d_D_requirePlace_10 : decode prog_1_method_19_code 10 = .ok (.if_icmp .le 11, 3) := by decide +kernel
theorem d_D_requirePlace_21 : decode prog_1_method_19_code 21 = .ok (.return_, 1) := by decide +kernel
theorem d_D_requirePlace_13 : decode prog_1_method_19_code 13 = .ok (.new 143, 3) := by decide +kernel
theorem d_D_requirePlace_16 : decode prog_1_method_19_code 16 = .ok (.dup, 1) := by decide +kernel
theorem d_D_requirePlace_17 : decode prog_1_method_19_code 17 = .ok (.invokespecial 145, 3) := by decide +kernel
theorem d_D_requirePlace_20 : decode prog_1_method_19_code 20 = .ok (.athrow, 1) := by decide +kernel
theorem d_D_find_20 : decode prog_1_method_9_code 20 = .ok (.aload_n 0, 1) := by decide +kernel
theorem d_D_find_21 : decode prog_1_method_9_code 21 = .ok (.getfield 42, 3) := by decide +kernel
theorem d_D_find_24 : decode prog_1_method_9_code 24 = .ok (.aload_n 0, 1) := by decide +kernel
theorem d_D_find_25 : decode prog_1_method_9_code 25 = .ok (.getfield 19, 3) := by decide +kernel
theorem d_D_find_28 : decode prog_1_method_9_code 28 = .ok (.iload_n 1, 1) := by decide +kernel
theorem d_D_find_29 : decode prog_1_method_9_code 29 = .ok (.invokevirtual 107, 3) := by decide +kernel
theorem d_D_find_32 : decode prog_1_method_9_code 32 = .ok (.ifCond .ne 11, 3) := by decide +kernel
theorem d_D_find_43 : decode prog_1_method_9_code 43 = .ok (.aload_n 0, 1) := by decide +kernel
theorem d_D_find_44 : decode prog_1_method_9_code 44 = .ok (.aload_n 0, 1) := by decide +kernel
theorem d_D_find_45 : decode prog_1_method_9_code 45 = .ok (.getfield 42, 3) := by decide +kernel
theorem d_D_find_48 : decode prog_1_method_9_code 48 = .ok (.getfield 114, 3) := by decide +kernel
theorem d_D_find_51 : decode prog_1_method_9_code 51 = .ok (.putfield 29, 3) := by decide +kernel
theorem d_D_find_54 : decode prog_1_method_9_code 54 = .ok (.aload_n 0, 1) := by decide +kernel
theorem d_D_find_55 : decode prog_1_method_9_code 55 = .ok (.aload_n 0, 1) := by decide +kernel
theorem d_D_find_56 : decode prog_1_method_9_code 56 = .ok (.getfield 42, 3) := by decide +kernel
theorem d_D_find_59 : decode prog_1_method_9_code 59 = .ok (.getfield 117, 3) := by decide +kernel
theorem d_D_find_62 : decode prog_1_method_9_code 62 = .ok (.putfield 76, 3) := by decide +kernel
theorem d_D_find_65 : decode prog_1_method_9_code 65 = .ok (.aload_n 0, 1) := by decide +kernel
theorem d_D_find_66 : decode prog_1_method_9_code 66 = .ok (.getfield 29, 3) := by decide +kernel
theorem d_D_find_69 : decode prog_1_method_9_code 69 = .ok (.ireturn, 1) := by decide +kernel
theorem d_D_find_35 : decode prog_1_method_9_code 35 = .ok (.new 111, 3) := by decide +kernel
theorem d_D_find_7 : decode prog_1_method_9_code 7 = .ok (.new 66, 3) := by decide +kernel
theorem d_D_find_10 : decode prog_1_method_9_code 10 = .ok (.dup, 1) := by decide +kernel
theorem d_D_find_11 : decode prog_1_method_9_code 11 = .ok (.invokespecial 68, 3) := by decide +kernel
theorem d_D_find_14 : decode prog_1_method_9_code 14 = .ok (.athrow, 1) := by decide +kernel
theorem d_D_find_38 : decode prog_1_method_9_code 38 = .ok (.dup, 1) := by decide +kernel
theorem d_D_find_39 : decode prog_1_method_9_code 39 = .ok (.invokespecial 113, 3) := by decide +kernel
