theorem d_M_either_31 : decode prog_6_method_30_code 31 = .ok (.invokevirtual 152, 3) := by decide +kernel
theorem d_M_either_34 : decode prog_6_method_30_code 34 = .ok (.aload_n 0, 1) := by decide +kernel
theorem d_M_either_35 : decode prog_6_method_30_code 35 = .ok (.iload_n 3, 1) := by decide +kernel
theorem d_M_either_36 : decode prog_6_method_30_code 36 = .ok (.aload_n 0, 1) := by decide +kernel
theorem d_M_either_37 : decode prog_6_method_30_code 37 = .ok (.getfield 57, 3) := by decide +kernel
theorem d_M_either_40 : decode prog_6_method_30_code 40 = .ok (.iload_n 2, 1) := by decide +kernel
theorem d_M_either_41 : decode prog_6_method_30_code 41 = .ok (.iaload, 1) := by decide +kernel
theorem d_M_either_42 : decode prog_6_method_30_code 42 = .ok (.invokevirtual 152, 3) := by decide +kernel
theorem d_M_either_45 : decode prog_6_method_30_code 45 = .ok (.aload_n 0, 1) := by decide +kernel
theorem d_M_either_46 : decode prog_6_method_30_code 46 = .ok (.aload_n 0, 1) := by decide +kernel
theorem d_M_either_47 : decode prog_6_method_30_code 47 = .ok (.getfield 60, 3) := by decide +kernel
theorem d_M_either_50 : decode prog_6_method_30_code 50 = .ok (.iload_n 1, 1) := by decide +kernel
theorem d_M_either_51 : decode prog_6_method_30_code 51 = .ok (.iaload, 1) := by decide +kernel
theorem d_M_either_52 : decode prog_6_method_30_code 52 = .ok (.iload 4, 2) := by decide +kernel
theorem d_M_either_54 : decode prog_6_method_30_code 54 = .ok (.invokevirtual 152, 3) := by decide +kernel
theorem d_M_either_57 : decode prog_6_method_30_code 57 = .ok (.aload_n 0, 1) := by decide +kernel
theorem d_M_either_58 : decode prog_6_method_30_code 58 = .ok (.aload_n 0, 1) := by decide +kernel
theorem d_M_either_59 : decode prog_6_method_30_code 59 = .ok (.getfield 60, 3) := by decide +kernel
theorem d_M_either_62 : decode prog_6_method_30_code 62 = .ok (.iload_n 2, 1) := by decide +kernel
theorem d_M_either_63 : decode prog_6_method_30_code 63 = .ok (.iaload, 1) := by decide +kernel
theorem d_M_either_64 : decode prog_6_method_30_code 64 = .ok (.iload 4, 2) := by decide +kernel
theorem d_M_either_66 : decode prog_6_method_30_code 66 = .ok (.invokevirtual 152, 3) := by decide +kernel
theorem d_M_either_69 : decode prog_6_method_30_code 69 = .ok (.aload_n 0, 1) := by decide +kernel
theorem d_M_either_70 : decode prog_6_method_30_code 70 = .ok (.iload_n 3, 1) := by decide +kernel
theorem d_M_either_71 : decode prog_6_method_30_code 71 = .ok (.iload 4, 2) := by decide +kernel
theorem d_M_either_73 : decode prog_6_method_30_code 73 = .ok (.invokevirtual 155, 3) := by decide +kernel
theorem d_M_either_76 : decode prog_6_method_30_code 76 = .ok (.ireturn, 1) := by decide +kernel
theorem d_M_either_4 : decode prog_6_method_30_code 4 = .ok (.iload_n 2, 1) := by decide +kernel
theorem d_M_either_5 : decode prog_6_method_30_code 5 = .ok (.ireturn, 1) := by decide +kernel
theorem d_M_endRow_40 : decode prog_6_method_33_code 40 = .ok (.iastore, 1) := by decide +kernel
theorem d_M_endRow_41 : decode prog_6_method_33_code 41 = .ok (.aload_n 0, 1) := by decide +kernel
theorem d_M_endRow_42 : decode prog_6_method_33_code 42 = .ok (.getfield 69, 3) := by decide +kernel
theorem d_M_endRow_45 : decode prog_6_method_33_code 45 = .ok (.iload_n 1, 1) := by decide +kernel
theorem d_M_endRow_46 : decode prog_6_method_33_code 46 = .ok (.iconst (-1), 1) := by decide +kernel
theorem d_M_endRow_47 : decode prog_6_method_33_code 47 = .ok (.iastore, 1) := by decide +kernel
theorem d_M_endRow_48 : decode prog_6_method_33_code 48 = .ok (.return_, 1) := by decide +kernel
theorem d_M_build_78 : decode prog_6_method_35_code 78 = .ok (.aload_n 0, 1) := by decide +kernel
theorem d_M_build_79 : decode prog_6_method_35_code 79 = .ok (.getfield 66, 3) := by decide +kernel
theorem d_M_build_82 : decode prog_6_method_35_code 82 = .ok (.iload_n 3, 1) := by decide +kernel
theorem d_M_build_83 : decode prog_6_method_35_code 83 = .ok (.aload_n 0, 1) := by decide +kernel
theorem d_M_build_84 : decode prog_6_method_35_code 84 = .ok (.invokevirtual 162, 3) := by decide +kernel
theorem d_M_nothing_0 : decode prog_6_method_28_code 0 = .ok (.aload_n 0, 1) := by decide +kernel
theorem d_M_nothing_1 : decode prog_6_method_28_code 1 = .ok (.iconst 0, 1) := by decide +kernel
theorem d_M_nothing_2 : decode prog_6_method_28_code 2 = .ok (.iconst 0, 1) := by decide +kernel
theorem d_M_nothing_3 : decode prog_6_method_28_code 3 = .ok (.iconst 0, 1) := by decide +kernel
theorem d_M_nothing_4 : decode prog_6_method_28_code 4 = .ok (.invokevirtual 148, 3) := by decide +kernel
theorem d_M_nothing_7 : decode prog_6_method_28_code 7 = .ok (.istore_n 1, 1) := by decide +kernel
theorem d_M_nothing_8 : decode prog_6_method_28_code 8 = .ok (.aload_n 0, 1) := by decide +kernel
theorem d_M_nothing_9 : decode prog_6_method_28_code 9 = .ok (.iload_n 1, 1) := by decide +kernel
theorem d_M_nothing_10 : decode prog_6_method_28_code 10 = .ok (.iload_n 1, 1) := by decide +kernel
theorem d_M_nothing_11 : decode prog_6_method_28_code 11 = .ok (.invokevirtual 155, 3) := by decide +kernel
theorem d_M_nothing_14 : decode prog_6_method_28_code 14 = .ok (.ireturn, 1) := by decide +kernel
theorem d_M_build_87 : decode prog_6_method_35_code 87 = .ok (.iastore, 1) := by decide +kernel
theorem d_M_build_88 : decode prog_6_method_35_code 88 = .ok (.goto 185, 3) := by decide +kernel
theorem d_M_build_38 : decode prog_6_method_35_code 38 = .ok (.aload_n 0, 1) := by decide +kernel
theorem d_M_build_39 : decode prog_6_method_35_code 39 = .ok (.invokevirtual 174, 3) := by decide +kernel
theorem d_M_build_42 : decode prog_6_method_35_code 42 = .ok (.aload_n 0, 1) := by decide +kernel
theorem d_M_build_43 : decode prog_6_method_35_code 43 = .ok (.dup, 1) := by decide +kernel
theorem d_M_build_44 : decode prog_6_method_35_code 44 = .ok (.getfield 159, 3) := by decide +kernel
theorem d_M_build_47 : decode prog_6_method_35_code 47 = .ok (.iconst 1, 1) := by decide +kernel
theorem d_M_build_48 : decode prog_6_method_35_code 48 = .ok (.isub, 1) := by decide +kernel
theorem d_M_build_49 : decode prog_6_method_35_code 49 = .ok (.putfield 159, 3) := by decide +kernel
theorem d_M_build_52 : decode prog_6_method_35_code 52 = .ok (.aload_n 0, 1) := by decide +kernel
theorem d_M_build_53 : decode prog_6_method_35_code 53 = .ok (.aload_n 0, 1) := by decide +kernel
theorem d_M_build_54 : decode prog_6_method_35_code 54 = .ok (.getfield 63, 3) := by decide +kernel
theorem d_M_build_57 : decode prog_6_method_35_code 57 = .ok (.aload_n 0, 1) := by decide +kernel
theorem d_M_build_58 : decode prog_6_method_35_code 58 = .ok (.getfield 159, 3) := by decide +kernel
theorem d_M_build_61 : decode prog_6_method_35_code 61 = .ok (.iaload, 1) := by decide +kernel
theorem d_M_build_62 : decode prog_6_method_35_code 62 = .ok (.invokevirtual 177, 3) := by decide +kernel
theorem d_M_build_65 : decode prog_6_method_35_code 65 = .ok (.goto 208, 3) := by decide +kernel
theorem d_M_build_25 : decode prog_6_method_35_code 25 = .ok (.aload_n 0, 1) := by decide +kernel
theorem d_M_build_26 : decode prog_6_method_35_code 26 = .ok (.invokevirtual 171, 3) := by decide +kernel
theorem d_M_openGroup_0 : decode prog_6_method_32_code 0 = .ok (.aload_n 0, 1) := by decide +kernel
theorem d_M_openGroup_1 : decode prog_6_method_32_code 1 = .ok (.getfield 63, 3) := by decide +kernel
theorem d_M_openGroup_4 : decode prog_6_method_32_code 4 = .ok (.aload_n 0, 1) := by decide +kernel
theorem d_M_openGroup_5 : decode prog_6_method_32_code 5 = .ok (.getfield 159, 3) := by decide +kernel
theorem d_M_openGroup_8 : decode prog_6_method_32_code 8 = .ok (.iconst (-1), 1) := by decide +kernel
theorem d_M_openGroup_9 : decode prog_6_method_32_code 9 = .ok (.iastore, 1) := by decide +kernel
theorem d_M_openGroup_10 : decode prog_6_method_32_code 10 = .ok (.aload_n 0, 1) := by decide +kernel
theorem d_M_openGroup_11 : decode prog_6_method_32_code 11 = .ok (.getfield 66, 3) := by decide +kernel
theorem d_M_openGroup_14 : decode prog_6_method_32_code 14 = .ok (.aload_n 0, 1) := by decide +kernel
theorem d_M_openGroup_15 : decode prog_6_method_32_code 15 = .ok (.getfield 159, 3) := by decide +kernel
theorem d_M_openGroup_18 : decode prog_6_method_32_code 18 = .ok (.aload_n 0, 1) := by decide +kernel
theorem d_M_openGroup_19 : decode prog_6_method_32_code 19 = .ok (.invokevirtual 162, 3) := by decide +kernel
theorem d_M_openGroup_22 : decode prog_6_method_32_code 22 = .ok (.iastore, 1) := by decide +kernel
theorem d_M_openGroup_23 : decode prog_6_method_32_code 23 = .ok (.aload_n 0, 1) := by decide +kernel
theorem d_M_openGroup_24 : decode prog_6_method_32_code 24 = .ok (.getfield 69, 3) := by decide +kernel
theorem d_M_openGroup_27 : decode prog_6_method_32_code 27 = .ok (.aload_n 0, 1) := by decide +kernel
theorem d_M_openGroup_28 : decode prog_6_method_32_code 28 = .ok (.getfield 159, 3) := by decide +kernel
theorem d_M_openGroup_31 : decode prog_6_method_32_code 31 = .ok (.iconst (-1), 1) := by decide +kernel
theorem d_M_openGroup_32 : decode prog_6_method_32_code 32 = .ok (.iastore, 1) := by decide +kernel
theorem d_M_openGroup_33 : decode prog_6_method_32_code 33 = .ok (.aload_n 0, 1) := by decide +kernel
theorem d_M_openGroup_34 : decode prog_6_method_32_code 34 = .ok (.dup, 1) := by decide +kernel
theorem d_M_openGroup_35 : decode prog_6_method_32_code 35 = .ok (.getfield 159, 3) := by decide +kernel
theorem d_M_openGroup_38 : decode prog_6_method_32_code 38 = .ok (.iconst 1, 1) := by decide +kernel
theorem d_M_openGroup_39 : decode prog_6_method_32_code 39 = .ok (.iadd, 1) := by decide +kernel
theorem d_M_openGroup_40 : decode prog_6_method_32_code 40 = .ok (.putfield 159, 3) := by decide +kernel
theorem d_M_openGroup_43 : decode prog_6_method_32_code 43 = .ok (.return_, 1) := by decide +kernel
theorem d_M_build_29 : decode prog_6_method_35_code 29 = .ok (.goto 244, 3) := by decide +kernel
theorem d_M_build_260 : decode prog_6_method_35_code 260 = .ok (.iload_n 2, 1) := by decide +kernel
theorem d_M_build_261 : decode prog_6_method_35_code 261 = .ok (.iconst 0, 1) := by decide +kernel
theorem d_M_build_262 : decode prog_6_method_35_code 262 = .ok (.invokevirtual 184, 3) := by decide +kernel
theorem d_M_build_265 : decode prog_6_method_35_code 265 = .ok (.istore 5, 2) := by decide +kernel
theorem d_M_build_267 : decode prog_6_method_35_code 267 = .ok (.aload_n 0, 1) := by decide +kernel
theorem d_M_build_268 : decode prog_6_method_35_code 268 = .ok (.iload 5, 2) := by decide +kernel
theorem d_M_build_270 : decode prog_6_method_35_code 270 = .ok (.invokevirtual 177, 3) := by decide +kernel
theorem d_M_build_273 : decode prog_6_method_35_code 273 = .ok (.iload 4, 2) := by decide +kernel
theorem d_M_build_275 : decode prog_6_method_35_code 275 = .ok (.ireturn, 1) := by decide +kernel
theorem d_M_build_150 : decode prog_6_method_35_code 150 = .ok (.aload_n 0, 1) := by decide +kernel
theorem d_M_build_151 : decode prog_6_method_35_code 151 = .ok (.getfield 39, 3) := by decide +kernel
theorem d_M_build_154 : decode prog_6_method_35_code 154 = .ok (.iload 4, 2) := by decide +kernel
theorem d_M_build_156 : decode prog_6_method_35_code 156 = .ok (.caload, 1) := by decide +kernel
theorem d_M_build_157 : decode prog_6_method_35_code 157 = .ok (.bipush 93, 2) := by decide +kernel
theorem d_M_build_159 : decode prog_6_method_35_code 159 = .ok (.if_icmp .eq 9, 3) := by decide +kernel
theorem d_M_build_168 : decode prog_6_method_35_code 168 = .ok (.aload_n 0, 1) := by decide +kernel
theorem d_M_build_169 : decode prog_6_method_35_code 169 = .ok (.iconst 3, 1) := by decide +kernel
theorem d_M_build_170 : decode prog_6_method_35_code 170 = .ok (.iload_n 1, 1) := by decide +kernel
theorem d_M_build_171 : decode prog_6_method_35_code 171 = .ok (.iconst 1, 1) := by decide +kernel
theorem d_M_build_172 : decode prog_6_method_35_code 172 = .ok (.iadd, 1) := by decide +kernel
theorem d_M_build_173 : decode prog_6_method_35_code 173 = .ok (.iload 4, 2) := by decide +kernel
theorem d_M_build_175 : decode prog_6_method_35_code 175 = .ok (.invokevirtual 184, 3) := by decide +kernel
theorem d_M_build_178 : decode prog_6_method_35_code 178 = .ok (.istore 5, 2) := by decide +kernel
theorem d_M_build_180 : decode prog_6_method_35_code 180 = .ok (.aload_n 0, 1) := by decide +kernel
theorem d_M_build_181 : decode prog_6_method_35_code 181 = .ok (.iload 5, 2) := by decide +kernel
theorem d_M_build_183 : decode prog_6_method_35_code 183 = .ok (.invokevirtual 177, 3) := by decide +kernel
theorem d_M_build_186 : decode prog_6_method_35_code 186 = .ok (.iinc 4 1, 3) := by decide +kernel
theorem d_M_build_189 : decode prog_6_method_35_code 189 = .ok (.goto 84, 3) := by decide +kernel
theorem d_M_build_162 : decode prog_6_method_35_code 162 = .ok (.iinc 4 1, 3) := by decide +kernel
theorem d_M_build_165 : decode prog_6_method_35_code 165 = .ok (.goto (-15), 3) := by decide +kernel
theorem d_M_build_121 : decode prog_6_method_35_code 121 = .ok (.iload_n 2, 1) := by decide +kernel
theorem d_M_build_122 : decode prog_6_method_35_code 122 = .ok (.bipush 63, 2) := by decide +kernel
theorem d_M_build_124 : decode prog_6_method_35_code 124 = .ok (.if_icmp .eq 7, 3) := by decide +kernel
theorem d_M_build_131 : decode prog_6_method_35_code 131 = .ok (.iconst 0, 1) := by decide +kernel
theorem d_M_build_127 : decode prog_6_method_35_code 127 = .ok (.iconst 1, 1) := by decide +kernel
theorem d_M_build_128 : decode prog_6_method_35_code 128 = .ok (.goto 4, 3) := by decide +kernel
theorem d_M_build_132 : decode prog_6_method_35_code 132 = .ok (.invokevirtual 180, 3) := by decide +kernel
theorem d_M_times_0 : decode prog_6_method_31_code 0 = .ok (.aload_n 0, 1) := by decide +kernel
theorem d_M_times_1 : decode prog_6_method_31_code 1 = .ok (.iconst 0, 1) := by decide +kernel
theorem d_M_times_2 : decode prog_6_method_31_code 2 = .ok (.iconst 0, 1) := by decide +kernel
theorem d_M_times_3 : decode prog_6_method_31_code 3 = .ok (.iconst 0, 1) := by decide +kernel
theorem d_M_times_4 : decode prog_6_method_31_code 4 = .ok (.invokevirtual 148, 3) := by decide +kernel
theorem d_M_times_7 : decode prog_6_method_31_code 7 = .ok (.istore 4, 2) := by decide +kernel
theorem d_M_times_9 : decode prog_6_method_31_code 9 = .ok (.aload_n 0, 1) := by decide +kernel
theorem d_M_times_10 : decode prog_6_method_31_code 10 = .ok (.iconst 0, 1) := by decide +kernel
theorem d_M_times_11 : decode prog_6_method_31_code 11 = .ok (.iconst 0, 1) := by decide +kernel
theorem d_M_times_12 : decode prog_6_method_31_code 12 = .ok (.iconst 0, 1) := by decide +kernel
theorem d_M_times_13 : decode prog_6_method_31_code 13 = .ok (.invokevirtual 148, 3) := by decide +kernel
theorem d_M_times_16 : decode prog_6_method_31_code 16 = .ok (.istore 5, 2) := by decide +kernel
theorem d_M_times_18 : decode prog_6_method_31_code 18 = .ok (.aload_n 0, 1) := by decide +kernel
theorem d_M_times_19 : decode prog_6_method_31_code 19 = .ok (.iload 4, 2) := by decide +kernel
theorem d_M_times_21 : decode prog_6_method_31_code 21 = .ok (.aload_n 0, 1) := by decide +kernel
theorem d_M_times_22 : decode prog_6_method_31_code 22 = .ok (.getfield 57, 3) := by decide +kernel
theorem d_M_times_25 : decode prog_6_method_31_code 25 = .ok (.iload_n 1, 1) := by decide +kernel
theorem d_M_times_26 : decode prog_6_method_31_code 26 = .ok (.iaload, 1) := by decide +kernel
theorem d_M_times_27 : decode prog_6_method_31_code 27 = .ok (.invokevirtual 152, 3) := by decide +kernel
theorem d_M_times_30 : decode prog_6_method_31_code 30 = .ok (.aload_n 0, 1) := by decide +kernel
theorem d_M_times_31 : decode prog_6_method_31_code 31 = .ok (.aload_n 0, 1) := by decide +kernel
theorem d_M_times_32 : decode prog_6_method_31_code 32 = .ok (.getfield 60, 3) := by decide +kernel
theorem d_M_times_35 : decode prog_6_method_31_code 35 = .ok (.iload_n 1, 1) := by decide +kernel
theorem d_M_times_36 : decode prog_6_method_31_code 36 = .ok (.iaload, 1) := by decide +kernel
theorem d_M_times_37 : decode prog_6_method_31_code 37 = .ok (.iload 5, 2) := by decide +kernel
theorem d_M_times_39 : decode prog_6_method_31_code 39 = .ok (.invokevirtual 152, 3) := by decide +kernel
theorem d_M_times_42 : decode prog_6_method_31_code 42 = .ok (.iload_n 2, 1) := by decide +kernel
theorem d_M_times_43 : decode prog_6_method_31_code 43 = .ok (.ifCond .eq 11, 3) := by decide +kernel
theorem d_M_times_46 : decode prog_6_method_31_code 46 = .ok (.aload_n 0, 1) := by decide +kernel
theorem d_M_times_47 : decode prog_6_method_31_code 47 = .ok (.iload 4, 2) := by decide +kernel
theorem d_M_times_49 : decode prog_6_method_31_code 49 = .ok (.iload 5, 2) := by decide +kernel
theorem d_M_times_51 : decode prog_6_method_31_code 51 = .ok (.invokevirtual 152, 3) := by decide +kernel
theorem d_M_times_54 : decode prog_6_method_31_code 54 = .ok (.iload_n 3, 1) := by decide +kernel
theorem d_M_times_55 : decode prog_6_method_31_code 55 = .ok (.ifCond .eq 19, 3) := by decide +kernel
theorem d_M_times_58 : decode prog_6_method_31_code 58 = .ok (.aload_n 0, 1) := by decide +kernel
theorem d_M_times_59 : decode prog_6_method_31_code 59 = .ok (.aload_n 0, 1) := by decide +kernel
theorem d_M_times_60 : decode prog_6_method_31_code 60 = .ok (.getfield 60, 3) := by decide +kernel
theorem d_M_times_63 : decode prog_6_method_31_code 63 = .ok (.iload_n 1, 1) := by decide +kernel
theorem d_M_times_64 : decode prog_6_method_31_code 64 = .ok (.iaload, 1) := by decide +kernel
theorem d_M_times_65 : decode prog_6_method_31_code 65 = .ok (.aload_n 0, 1) := by decide +kernel
theorem d_M_times_66 : decode prog_6_method_31_code 66 = .ok (.getfield 57, 3) := by decide +kernel
theorem d_M_times_69 : decode prog_6_method_31_code 69 = .ok (.iload_n 1, 1) := by decide +kernel
theorem d_M_times_70 : decode prog_6_method_31_code 70 = .ok (.iaload, 1) := by decide +kernel
theorem d_M_times_71 : decode prog_6_method_31_code 71 = .ok (.invokevirtual 152, 3) := by decide +kernel
theorem d_M_times_74 : decode prog_6_method_31_code 74 = .ok (.aload_n 0, 1) := by decide +kernel
theorem d_M_times_75 : decode prog_6_method_31_code 75 = .ok (.iload 4, 2) := by decide +kernel
theorem d_M_times_77 : decode prog_6_method_31_code 77 = .ok (.iload 5, 2) := by decide +kernel
theorem d_M_times_79 : decode prog_6_method_31_code 79 = .ok (.invokevirtual 155, 3) := by decide +kernel
theorem d_M_times_82 : decode prog_6_method_31_code 82 = .ok (.ireturn, 1) := by decide +kernel
theorem d_M_build_135 : decode prog_6_method_35_code 135 = .ok (.iastore, 1) := by decide +kernel
theorem d_M_build_136 : decode prog_6_method_35_code 136 = .ok (.goto 137, 3) := by decide +kernel
theorem d_M_come_0 : decode prog_6_method_8_code 0 = .ok (.aload_n 0, 1) := by decide +kernel
theorem d_M_come_1 : decode prog_6_method_8_code 1 = .ok (.getfield 24, 3) := by decide +kernel
theorem d_M_come_4 : decode prog_6_method_8_code 4 = .ok (.aload_n 0, 1) := by decide +kernel
theorem d_M_come_5 : decode prog_6_method_8_code 5 = .ok (.getfield 92, 3) := by decide +kernel
theorem d_M_come_8 : decode prog_6_method_8_code 8 = .ok (.aload_n 0, 1) := by decide +kernel
theorem d_M_come_9 : decode prog_6_method_8_code 9 = .ok (.getfield 95, 3) := by decide +kernel
theorem d_M_come_12 : decode prog_6_method_8_code 12 = .ok (.iastore, 1) := by decide +kernel
theorem d_M_come_13 : decode prog_6_method_8_code 13 = .ok (.aload_n 0, 1) := by decide +kernel
theorem d_M_come_14 : decode prog_6_method_8_code 14 = .ok (.iload_n 1, 1) := by decide +kernel
theorem d_M_come_15 : decode prog_6_method_8_code 15 = .ok (.putfield 92, 3) := by decide +kernel
theorem d_M_come_18 : decode prog_6_method_8_code 18 = .ok (.aload_n 0, 1) := by decide +kernel
theorem d_M_come_19 : decode prog_6_method_8_code 19 = .ok (.aload_n 0, 1) := by decide +kernel
theorem d_M_come_20 : decode prog_6_method_8_code 20 = .ok (.getfield 24, 3) := by decide +kernel
theorem d_M_come_23 : decode prog_6_method_8_code 23 = .ok (.iload_n 1, 1) := by decide +kernel
theorem d_M_come_24 : decode prog_6_method_8_code 24 = .ok (.iaload, 1) := by decide +kernel
theorem d_M_come_25 : decode prog_6_method_8_code 25 = .ok (.putfield 95, 3) := by decide +kernel
theorem d_M_come_28 : decode prog_6_method_8_code 28 = .ok (.aload_n 0, 1) := by decide +kernel
theorem d_M_come_29 : decode prog_6_method_8_code 29 = .ok (.iconst (-1), 1) := by decide +kernel
theorem d_M_come_30 : decode prog_6_method_8_code 30 = .ok (.putfield 33, 3) := by decide +kernel
theorem d_M_come_33 : decode prog_6_method_8_code 33 = .ok (.aload_n 0, 1) := by decide +kernel
theorem d_M_come_34 : decode prog_6_method_8_code 34 = .ok (.dup, 1) := by decide +kernel
theorem d_M_come_35 : decode prog_6_method_8_code 35 = .ok (.getfield 98, 3) := by decide +kernel
theorem d_M_come_38 : decode prog_6_method_8_code 38 = .ok (.iconst 1, 1) := by decide +kernel
theorem d_M_come_39 : decode prog_6_method_8_code 39 = .ok (.iadd, 1) := by decide +kernel
theorem d_M_come_40 : decode prog_6_method_8_code 40 = .ok (.putfield 98, 3) := by decide +kernel
theorem d_M_come_43 : decode prog_6_method_8_code 43 = .ok (.aload_n 0, 1) := by decide +kernel
theorem d_M_come_44 : decode prog_6_method_8_code 44 = .ok (.getfield 30, 3) := by decide +kernel
theorem d_M_come_47 : decode prog_6_method_8_code 47 = .ok (.iload_n 1, 1) := by decide +kernel
theorem d_M_come_48 : decode prog_6_method_8_code 48 = .ok (.aload_n 0, 1) := by decide +kernel
theorem d_M_come_49 : decode prog_6_method_8_code 49 = .ok (.getfield 98, 3) := by decide +kernel
theorem d_M_come_52 : decode prog_6_method_8_code 52 = .ok (.iastore, 1) := by decide +kernel
theorem d_M_come_53 : decode prog_6_method_8_code 53 = .ok (.return_, 1) := by decide +kernel
theorem d_M_compile_0 : decode prog_6_method_36_code 0 = .ok (.aload_n 0, 1) := by decide +kernel
theorem d_M_compile_1 : decode prog_6_method_36_code 1 = .ok (.invokevirtual 187, 3) := by decide +kernel
theorem d_M_good_0 : decode prog_6_method_23_code 0 = .ok (.iconst 0, 1) := by decide +kernel
theorem d_M_good_1 : decode prog_6_method_23_code 1 = .ok (.istore_n 1, 1) := by decide +kernel
theorem d_M_good_2 : decode prog_6_method_23_code 2 = .ok (.iconst 0, 1) := by decide +kernel
theorem d_M_good_3 : decode prog_6_method_23_code 3 = .ok (.istore_n 2, 1) := by decide +kernel
theorem d_M_good_4 : decode prog_6_method_23_code 4 = .ok (.iconst 0, 1) := by decide +kernel
theorem d_M_good_5 : decode prog_6_method_23_code 5 = .ok (.istore_n 3, 1) := by decide +kernel
theorem d_M_good_6 : decode prog_6_method_23_code 6 = .ok (.iload_n 3, 1) := by decide +kernel
theorem d_M_good_7 : decode prog_6_method_23_code 7 = .ok (.aload_n 0, 1) := by decide +kernel
theorem d_M_good_8 : decode prog_6_method_23_code 8 = .ok (.getfield 89, 3) := by decide +kernel
theorem d_M_good_11 : decode prog_6_method_23_code 11 = .ok (.if_icmp .ge 211, 3) := by decide +kernel
theorem d_M_good_222 : decode prog_6_method_23_code 222 = .ok (.iload_n 1, 1) := by decide +kernel
theorem d_M_good_223 : decode prog_6_method_23_code 223 = .ok (.iconst 1, 1) := by decide +kernel
theorem d_M_good_224 : decode prog_6_method_23_code 224 = .ok (.if_icmp .gt 7, 3) := by decide +kernel
theorem d_M_good_227 : decode prog_6_method_23_code 227 = .ok (.iload_n 2, 1) := by decide +kernel
theorem d_M_good_228 : decode prog_6_method_23_code 228 = .ok (.ifCond .le 12, 3) := by decide +kernel
theorem d_M_good_240 : decode prog_6_method_23_code 240 = .ok (.aload_n 0, 1) := by decide +kernel
theorem d_M_good_241 : decode prog_6_method_23_code 241 = .ok (.getfield 89, 3) := by decide +kernel
theorem d_M_good_14 : decode prog_6_method_23_code 14 = .ok (.aload_n 0, 1) := by decide +kernel
theorem d_M_good_15 : decode prog_6_method_23_code 15 = .ok (.getfield 7, 3) := by decide +kernel
theorem d_M_good_18 : decode prog_6_method_23_code 18 = .ok (.iload_n 3, 1) := by decide +kernel
theorem d_M_good_19 : decode prog_6_method_23_code 19 = .ok (.caload, 1) := by decide +kernel
theorem d_M_good_20 : decode prog_6_method_23_code 20 = .ok (.istore 4, 2) := by decide +kernel
theorem d_M_good_22 : decode prog_6_method_23_code 22 = .ok (.iload_n 1, 1) := by decide +kernel
theorem d_M_good_23 : decode prog_6_method_23_code 23 = .ok (.iconst 2, 1) := by decide +kernel
theorem d_M_good_24 : decode prog_6_method_23_code 24 = .ok (.if_icmp .ne 8, 3) := by decide +kernel
theorem d_M_good_32 : decode prog_6_method_23_code 32 = .ok (.iload_n 1, 1) := by decide +kernel
theorem d_M_good_33 : decode prog_6_method_23_code 33 = .ok (.iconst 3, 1) := by decide +kernel
theorem d_M_good_34 : decode prog_6_method_23_code 34 = .ok (.if_icmp .ne 15, 3) := by decide +kernel
theorem d_M_good_37 : decode prog_6_method_23_code 37 = .ok (.iload 4, 2) := by decide +kernel
theorem d_M_good_39 : decode prog_6_method_23_code 39 = .ok (.bipush 94, 2) := by decide +kernel
theorem d_M_good_41 : decode prog_6_method_23_code 41 = .ok (.if_icmp .ne 8, 3) := by decide +kernel
theorem d_M_good_44 : decode prog_6_method_23_code 44 = .ok (.iconst 4, 1) := by decide +kernel
theorem d_M_good_45 : decode prog_6_method_23_code 45 = .ok (.istore_n 1, 1) := by decide +kernel
theorem d_M_good_46 : decode prog_6_method_23_code 46 = .ok (.goto 170, 3) := by decide +kernel
theorem d_M_good_27 : decode prog_6_method_23_code 27 = .ok (.iconst 1, 1) := by decide +kernel
theorem d_M_good_28 : decode prog_6_method_23_code 28 = .ok (.istore_n 1, 1) := by decide +kernel
theorem d_M_good_29 : decode prog_6_method_23_code 29 = .ok (.goto 187, 3) := by decide +kernel
theorem d_M_good_231 : decode prog_6_method_23_code 231 = .ok (.iconst (-1), 1) := by decide +kernel
theorem d_M_good_232 : decode prog_6_method_23_code 232 = .ok (.aload_n 0, 1) := by decide +kernel
theorem d_M_good_233 : decode prog_6_method_23_code 233 = .ok (.getfield 89, 3) := by decide +kernel
theorem d_M_good_236 : decode prog_6_method_23_code 236 = .ok (.isub, 1) := by decide +kernel
theorem d_M_good_237 : decode prog_6_method_23_code 237 = .ok (.goto 7, 3) := by decide +kernel
theorem d_M_good_244 : decode prog_6_method_23_code 244 = .ok (.ireturn, 1) := by decide +kernel
theorem d_M_good_49 : decode prog_6_method_23_code 49 = .ok (.iload_n 1, 1) := by decide +kernel
theorem d_M_good_50 : decode prog_6_method_23_code 50 = .ok (.iconst 2, 1) := by decide +kernel
theorem d_M_good_51 : decode prog_6_method_23_code 51 = .ok (.if_icmp .le 33, 3) := by decide +kernel
theorem d_M_good_84 : decode prog_6_method_23_code 84 = .ok (.iload 4, 2) := by decide +kernel
theorem d_M_good_86 : decode prog_6_method_23_code 86 = .ok (.bipush 40, 2) := by decide +kernel
theorem d_M_good_88 : decode prog_6_method_23_code 88 = .ok (.if_icmp .ne 19, 3) := by decide +kernel
theorem d_M_good_107 : decode prog_6_method_23_code 107 = .ok (.iload 4, 2) := by decide +kernel
theorem d_M_good_109 : decode prog_6_method_23_code 109 = .ok (.bipush 41, 2) := by decide +kernel
theorem d_M_good_111 : decode prog_6_method_23_code 111 = .ok (.if_icmp .ne 15, 3) := by decide +kernel
theorem d_M_good_114 : decode prog_6_method_23_code 114 = .ok (.iload_n 2, 1) := by decide +kernel
theorem d_M_good_115 : decode prog_6_method_23_code 115 = .ok (.ifCond .le 11, 3) := by decide +kernel
theorem d_M_good_118 : decode prog_6_method_23_code 118 = .ok (.iinc 2 (-1), 3) := by decide +kernel
theorem d_M_good_121 : decode prog_6_method_23_code 121 = .ok (.iconst 1, 1) := by decide +kernel
theorem d_M_good_122 : decode prog_6_method_23_code 122 = .ok (.istore_n 1, 1) := by decide +kernel
theorem d_M_good_123 : decode prog_6_method_23_code 123 = .ok (.goto 93, 3) := by decide +kernel
theorem d_M_good_91 : decode prog_6_method_23_code 91 = .ok (.iload_n 2, 1) := by decide +kernel
theorem d_M_good_92 : decode prog_6_method_23_code 92 = .ok (.bipush 8, 2) := by decide +kernel
theorem d_M_good_94 : decode prog_6_method_23_code 94 = .ok (.if_icmp .ne 5, 3) := by decide +kernel
theorem d_M_good_99 : decode prog_6_method_23_code 99 = .ok (.iinc 2 1, 3) := by decide +kernel
theorem d_M_good_102 : decode prog_6_method_23_code 102 = .ok (.iconst 0, 1) := by decide +kernel
theorem d_M_good_103 : decode prog_6_method_23_code 103 = .ok (.istore_n 1, 1) := by decide +kernel
theorem d_M_good_104 : decode prog_6_method_23_code 104 = .ok (.goto 112, 3) := by decide +kernel
theorem d_M_good_97 : decode prog_6_method_23_code 97 = .ok (.iload_n 3, 1) := by decide +kernel
theorem d_M_good_98 : decode prog_6_method_23_code 98 = .ok (.ireturn, 1) := by decide +kernel
theorem d_M_good_54 : decode prog_6_method_23_code 54 = .ok (.iload 4, 2) := by decide +kernel
theorem d_M_good_56 : decode prog_6_method_23_code 56 = .ok (.bipush 93, 2) := by decide +kernel
theorem d_M_good_58 : decode prog_6_method_23_code 58 = .ok (.if_icmp .ne 10, 3) := by decide +kernel
theorem d_M_good_61 : decode prog_6_method_23_code 61 = .ok (.iload_n 1, 1) := by decide +kernel
theorem d_M_good_62 : decode prog_6_method_23_code 62 = .ok (.iconst 5, 1) := by decide +kernel
theorem d_M_good_63 : decode prog_6_method_23_code 63 = .ok (.if_icmp .ge 5, 3) := by decide +kernel
theorem d_M_good_66 : decode prog_6_method_23_code 66 = .ok (.iload_n 3, 1) := by decide +kernel
theorem d_M_good_67 : decode prog_6_method_23_code 67 = .ok (.ireturn, 1) := by decide +kernel
theorem d_M_good_216 : decode prog_6_method_23_code 216 = .ok (.iinc 3 1, 3) := by decide +kernel
theorem d_M_good_219 : decode prog_6_method_23_code 219 = .ok (.goto (-213), 3) := by decide +kernel
theorem d_M_good_126 : decode prog_6_method_23_code 126 = .ok (.iload 4, 2) := by decide +kernel
theorem d_M_good_128 : decode prog_6_method_23_code 128 = .ok (.bipush 124, 2) := by decide +kernel
theorem d_M_good_130 : decode prog_6_method_23_code 130 = .ok (.if_icmp .ne 8, 3) := by decide +kernel
theorem d_M_good_138 : decode prog_6_method_23_code 138 = .ok (.iload 4, 2) := by decide +kernel
theorem d_M_good_140 : decode prog_6_method_23_code 140 = .ok (.bipush 91, 2) := by decide +kernel
theorem d_M_good_142 : decode prog_6_method_23_code 142 = .ok (.if_icmp .eq 10, 3) := by decide +kernel
theorem d_M_good_145 : decode prog_6_method_23_code 145 = .ok (.iload 4, 2) := by decide +kernel
theorem d_M_good_147 : decode prog_6_method_23_code 147 = .ok (.bipush 92, 2) := by decide +kernel
theorem d_M_good_149 : decode prog_6_method_23_code 149 = .ok (.if_icmp .ne 19, 3) := by decide +kernel
theorem d_M_good_168 : decode prog_6_method_23_code 168 = .ok (.iload 4, 2) := by decide +kernel
theorem d_M_good_170 : decode prog_6_method_23_code 170 = .ok (.invokestatic 136, 3) := by decide +kernel
theorem d_M_isPlain_0 : decode prog_6_method_21_code 0 = .ok (.iload_n 0, 1) := by decide +kernel
theorem d_M_isPlain_1 : decode prog_6_method_21_code 1 = .ok (.bipush 40, 2) := by decide +kernel
theorem d_M_isPlain_3 : decode prog_6_method_21_code 3 = .ok (.if_icmp .eq 73, 3) := by decide +kernel
theorem d_M_isPlain_6 : decode prog_6_method_21_code 6 = .ok (.iload_n 0, 1) := by decide +kernel
theorem d_M_isPlain_7 : decode prog_6_method_21_code 7 = .ok (.bipush 41, 2) := by decide +kernel
theorem d_M_isPlain_9 : decode prog_6_method_21_code 9 = .ok (.if_icmp .eq 67, 3) := by decide +kernel
theorem d_M_isPlain_12 : decode prog_6_method_21_code 12 = .ok (.iload_n 0, 1) := by decide +kernel
theorem d_M_isPlain_13 : decode prog_6_method_21_code 13 = .ok (.bipush 91, 2) := by decide +kernel
theorem d_M_isPlain_15 : decode prog_6_method_21_code 15 = .ok (.if_icmp .eq 61, 3) := by decide +kernel
theorem d_M_isPlain_18 : decode prog_6_method_21_code 18 = .ok (.iload_n 0, 1) := by decide +kernel
theorem d_M_isPlain_19 : decode prog_6_method_21_code 19 = .ok (.bipush 93, 2) := by decide +kernel
theorem d_M_isPlain_21 : decode prog_6_method_21_code 21 = .ok (.if_icmp .eq 55, 3) := by decide +kernel
theorem d_M_isPlain_24 : decode prog_6_method_21_code 24 = .ok (.iload_n 0, 1) := by decide +kernel
theorem d_M_isPlain_25 : decode prog_6_method_21_code 25 = .ok (.bipush 124, 2) := by decide +kernel
theorem d_M_isPlain_27 : decode prog_6_method_21_code 27 = .ok (.if_icmp .eq 49, 3) := by decide +kernel
theorem d_M_isPlain_30 : decode prog_6_method_21_code 30 = .ok (.iload_n 0, 1) := by decide +kernel
theorem d_M_isPlain_31 : decode prog_6_method_21_code 31 = .ok (.bipush 42, 2) := by decide +kernel
theorem d_M_isPlain_33 : decode prog_6_method_21_code 33 = .ok (.if_icmp .eq 43, 3) := by decide +kernel
theorem d_M_isPlain_36 : decode prog_6_method_21_code 36 = .ok (.iload_n 0, 1) := by decide +kernel
theorem d_M_isPlain_37 : decode prog_6_method_21_code 37 = .ok (.bipush 43, 2) := by decide +kernel
theorem d_M_isPlain_39 : decode prog_6_method_21_code 39 = .ok (.if_icmp .eq 37, 3) := by decide +kernel
theorem d_M_isPlain_42 : decode prog_6_method_21_code 42 = .ok (.iload_n 0, 1) := by decide +kernel
theorem d_M_isPlain_43 : decode prog_6_method_21_code 43 = .ok (.bipush 63, 2) := by decide +kernel
theorem d_M_isPlain_45 : decode prog_6_method_21_code 45 = .ok (.if_icmp .eq 31, 3) := by decide +kernel
theorem d_M_isPlain_48 : decode prog_6_method_21_code 48 = .ok (.iload_n 0, 1) := by decide +kernel
theorem d_M_isPlain_49 : decode prog_6_method_21_code 49 = .ok (.bipush 46, 2) := by decide +kernel
theorem d_M_isPlain_51 : decode prog_6_method_21_code 51 = .ok (.if_icmp .eq 25, 3) := by decide +kernel
theorem d_M_isPlain_54 : decode prog_6_method_21_code 54 = .ok (.iload_n 0, 1) := by decide +kernel
theorem d_M_isPlain_55 : decode prog_6_method_21_code 55 = .ok (.bipush 94, 2) := by decide +kernel
theorem d_M_isPlain_57 : decode prog_6_method_21_code 57 = .ok (.if_icmp .eq 19, 3) := by decide +kernel
theorem d_M_isPlain_60 : decode prog_6_method_21_code 60 = .ok (.iload_n 0, 1) := by decide +kernel
theorem d_M_isPlain_61 : decode prog_6_method_21_code 61 = .ok (.bipush 36, 2) := by decide +kernel
theorem d_M_isPlain_63 : decode prog_6_method_21_code 63 = .ok (.if_icmp .eq 13, 3) := by decide +kernel
theorem d_M_isPlain_66 : decode prog_6_method_21_code 66 = .ok (.iload_n 0, 1) := by decide +kernel
theorem d_M_isPlain_67 : decode prog_6_method_21_code 67 = .ok (.bipush 92, 2) := by decide +kernel
theorem d_M_isPlain_69 : decode prog_6_method_21_code 69 = .ok (.if_icmp .eq 7, 3) := by decide +kernel
theorem d_M_isPlain_72 : decode prog_6_method_21_code 72 = .ok (.iconst 1, 1) := by decide +kernel
theorem d_M_isPlain_73 : decode prog_6_method_21_code 73 = .ok (.goto 4, 3) := by decide +kernel
theorem d_M_isPlain_76 : decode prog_6_method_21_code 76 = .ok (.iconst 0, 1) := by decide +kernel
theorem d_M_isPlain_77 : decode prog_6_method_21_code 77 = .ok (.ireturn, 1) := by decide +kernel
theorem d_M_good_173 : decode prog_6_method_23_code 173 = .ok (.ifCond .ne 24, 3) := by decide +kernel
theorem d_M_good_176 : decode prog_6_method_23_code 176 = .ok (.iload 4, 2) := by decide +kernel
theorem d_M_good_178 : decode prog_6_method_23_code 178 = .ok (.bipush 46, 2) := by decide +kernel
theorem d_M_good_180 : decode prog_6_method_23_code 180 = .ok (.if_icmp .eq 17, 3) := by decide +kernel
theorem d_M_good_183 : decode prog_6_method_23_code 183 = .ok (.iload 4, 2) := by decide +kernel
theorem d_M_good_185 : decode prog_6_method_23_code 185 = .ok (.bipush 94, 2) := by decide +kernel
theorem d_M_good_187 : decode prog_6_method_23_code 187 = .ok (.if_icmp .eq 10, 3) := by decide +kernel
theorem d_M_good_190 : decode prog_6_method_23_code 190 = .ok (.iload 4, 2) := by decide +kernel
theorem d_M_good_192 : decode prog_6_method_23_code 192 = .ok (.bipush 36, 2) := by decide +kernel
theorem d_M_good_194 : decode prog_6_method_23_code 194 = .ok (.if_icmp .ne 8, 3) := by decide +kernel
theorem d_M_good_202 : decode prog_6_method_23_code 202 = .ok (.iload 4, 2) := by decide +kernel
theorem d_M_good_204 : decode prog_6_method_23_code 204 = .ok (.invokestatic 139, 3) := by decide +kernel
theorem d_M_good_207 : decode prog_6_method_23_code 207 = .ok (.ifCond .eq 7, 3) := by decide +kernel
theorem d_M_good_210 : decode prog_6_method_23_code 210 = .ok (.iload_n 1, 1) := by decide +kernel
theorem d_M_good_211 : decode prog_6_method_23_code 211 = .ok (.ifCond .ne 5, 3) := by decide +kernel
theorem d_M_good_133 : decode prog_6_method_23_code 133 = .ok (.iconst 0, 1) := by decide +kernel
theorem d_M_good_134 : decode prog_6_method_23_code 134 = .ok (.istore_n 1, 1) := by decide +kernel
theorem d_M_good_135 : decode prog_6_method_23_code 135 = .ok (.goto 81, 3) := by decide +kernel
theorem d_M_good_68 : decode prog_6_method_23_code 68 = .ok (.iload 4, 2) := by decide +kernel
theorem d_M_good_70 : decode prog_6_method_23_code 70 = .ok (.bipush 93, 2) := by decide +kernel
theorem d_M_good_72 : decode prog_6_method_23_code 72 = .ok (.if_icmp .ne 7, 3) := by decide +kernel
theorem d_M_good_79 : decode prog_6_method_23_code 79 = .ok (.iconst 5, 1) := by decide +kernel
theorem d_M_good_75 : decode prog_6_method_23_code 75 = .ok (.iconst 1, 1) := by decide +kernel
theorem d_M_good_76 : decode prog_6_method_23_code 76 = .ok (.goto 4, 3) := by decide +kernel
theorem d_M_good_152 : decode prog_6_method_23_code 152 = .ok (.iload 4, 2) := by decide +kernel
theorem d_M_good_154 : decode prog_6_method_23_code 154 = .ok (.bipush 91, 2) := by decide +kernel
theorem d_M_good_156 : decode prog_6_method_23_code 156 = .ok (.if_icmp .ne 7, 3) := by decide +kernel
theorem d_M_good_163 : decode prog_6_method_23_code 163 = .ok (.iconst 2, 1) := by decide +kernel
theorem d_M_good_159 : decode prog_6_method_23_code 159 = .ok (.iconst 3, 1) := by decide +kernel
theorem d_M_good_160 : decode prog_6_method_23_code 160 = .ok (.goto 4, 3) := by decide +kernel
theorem d_M_good_197 : decode prog_6_method_23_code 197 = .ok (.iconst 1, 1) := by decide +kernel
theorem d_M_good_198 : decode prog_6_method_23_code 198 = .ok (.istore_n 1, 1) := by decide +kernel
theorem d_M_good_199 : decode prog_6_method_23_code 199 = .ok (.goto 17, 3) := by decide +kernel
theorem d_M_good_214 : decode prog_6_method_23_code 214 = .ok (.iload_n 3, 1) := by decide +kernel
theorem d_M_good_215 : decode prog_6_method_23_code 215 = .ok (.ireturn, 1) := by decide +kernel
theorem d_M_good_80 : decode prog_6_method_23_code 80 = .ok (.istore_n 1, 1) := by decide +kernel
theorem d_M_good_81 : decode prog_6_method_23_code 81 = .ok (.goto 135, 3) := by decide +kernel
theorem d_M_good_164 : decode prog_6_method_23_code 164 = .ok (.istore_n 1, 1) := by decide +kernel
theorem d_M_good_165 : decode prog_6_method_23_code 165 = .ok (.goto 51, 3) := by decide +kernel
theorem d_M_compile_4 : decode prog_6_method_36_code 4 = .ok (.istore_n 1, 1) := by decide +kernel
theorem d_M_compile_5 : decode prog_6_method_36_code 5 = .ok (.iload_n 1, 1) := by decide +kernel
theorem d_M_compile_6 : decode prog_6_method_36_code 6 = .ok (.aload_n 0, 1) := by decide +kernel
theorem d_M_compile_7 : decode prog_6_method_36_code 7 = .ok (.getfield 89, 3) := by decide +kernel
theorem d_M_compile_10 : decode prog_6_method_36_code 10 = .ok (.if_icmp .ne 7, 3) := by decide +kernel
theorem d_M_compile_17 : decode prog_6_method_36_code 17 = .ok (.iconst 0, 1) := by decide +kernel
theorem d_M_compile_13 : decode prog_6_method_36_code 13 = .ok (.iconst 1, 1) := by decide +kernel
theorem d_M_compile_14 : decode prog_6_method_36_code 14 = .ok (.goto 4, 3) := by decide +kernel
theorem d_M_compile_18 : decode prog_6_method_36_code 18 = .ok (.istore_n 2, 1) := by decide +kernel
theorem d_M_compile_19 : decode prog_6_method_36_code 19 = .ok (.aload_n 0, 1) := by decide +kernel
theorem d_M_compile_20 : decode prog_6_method_36_code 20 = .ok (.iload_n 2, 1) := by decide +kernel
theorem d_M_compile_21 : decode prog_6_method_36_code 21 = .ok (.ifCond .eq 7, 3) := by decide +kernel
