theorem d_M_insert_22 : decode prog_6_method_15_code 22 = .ok (.iconst 1, 1) := by decide +kernel
theorem d_M_insert_23 : decode prog_6_method_15_code 23 = .ok (.goto 4, 3) := by decide +kernel
theorem d_M_insert_27 : decode prog_6_method_15_code 27 = .ok (.istore_n 3, 1) := by decide +kernel
theorem d_M_insert_28 : decode prog_6_method_15_code 28 = .ok (.aload_n 0, 1) := by decide +kernel
theorem d_M_insert_29 : decode prog_6_method_15_code 29 = .ok (.iload_n 3, 1) := by decide +kernel
theorem d_M_insert_30 : decode prog_6_method_15_code 30 = .ok (.ifCond .eq 35, 3) := by decide +kernel
theorem d_M_insert_33 : decode prog_6_method_15_code 33 = .ok (.aload_n 0, 1) := by decide +kernel
theorem d_M_insert_34 : decode prog_6_method_15_code 34 = .ok (.invokevirtual 123, 3) := by decide +kernel
theorem d_M_insert_37 : decode prog_6_method_15_code 37 = .ok (.iload_n 2, 1) := by decide +kernel
theorem d_M_insert_38 : decode prog_6_method_15_code 38 = .ok (.iload_n 1, 1) := by decide +kernel
theorem d_M_insert_39 : decode prog_6_method_15_code 39 = .ok (.isub, 1) := by decide +kernel
theorem d_M_insert_40 : decode prog_6_method_15_code 40 = .ok (.isub, 1) := by decide +kernel
theorem d_M_insert_41 : decode prog_6_method_15_code 41 = .ok (.aload_n 0, 1) := by decide +kernel
theorem d_M_insert_42 : decode prog_6_method_15_code 42 = .ok (.getfield 89, 3) := by decide +kernel
theorem d_M_insert_45 : decode prog_6_method_15_code 45 = .ok (.iadd, 1) := by decide +kernel
theorem d_M_insert_46 : decode prog_6_method_15_code 46 = .ok (.sipush 160, 3) := by decide +kernel
theorem d_M_insert_49 : decode prog_6_method_15_code 49 = .ok (.if_icmp .gt 12, 3) := by decide +kernel
theorem d_M_insert_52 : decode prog_6_method_15_code 52 = .ok (.aload_n 0, 1) := by decide +kernel
theorem d_M_insert_53 : decode prog_6_method_15_code 53 = .ok (.getfield 13, 3) := by decide +kernel
theorem d_M_insert_56 : decode prog_6_method_15_code 56 = .ok (.bipush 40, 2) := by decide +kernel
theorem d_M_insert_58 : decode prog_6_method_15_code 58 = .ok (.if_icmp .ne 7, 3) := by decide +kernel
theorem d_M_insert_65 : decode prog_6_method_15_code 65 = .ok (.iconst 0, 1) := by decide +kernel
theorem d_M_insert_61 : decode prog_6_method_15_code 61 = .ok (.iconst 1, 1) := by decide +kernel
theorem d_M_insert_62 : decode prog_6_method_15_code 62 = .ok (.goto 4, 3) := by decide +kernel
theorem d_M_insert_66 : decode prog_6_method_15_code 66 = .ok (.putfield 82, 3) := by decide +kernel
theorem d_M_insert_69 : decode prog_6_method_15_code 69 = .ok (.aload_n 0, 1) := by decide +kernel
theorem d_M_insert_70 : decode prog_6_method_15_code 70 = .ok (.getfield 82, 3) := by decide +kernel
theorem d_M_insert_73 : decode prog_6_method_15_code 73 = .ok (.ifCond .le 5, 3) := by decide +kernel
theorem d_M_insert_78 : decode prog_6_method_15_code 78 = .ok (.iload_n 3, 1) := by decide +kernel
theorem d_M_insert_79 : decode prog_6_method_15_code 79 = .ok (.ifCond .eq 39, 3) := by decide +kernel
theorem d_M_insert_82 : decode prog_6_method_15_code 82 = .ok (.aload_n 0, 1) := by decide +kernel
theorem d_M_insert_83 : decode prog_6_method_15_code 83 = .ok (.iconst 0, 1) := by decide +kernel
theorem d_M_insert_84 : decode prog_6_method_15_code 84 = .ok (.putfield 101, 3) := by decide +kernel
theorem d_M_insert_87 : decode prog_6_method_15_code 87 = .ok (.aload_n 0, 1) := by decide +kernel
theorem d_M_insert_88 : decode prog_6_method_15_code 88 = .ok (.iconst 0, 1) := by decide +kernel
theorem d_M_insert_89 : decode prog_6_method_15_code 89 = .ok (.iload_n 1, 1) := by decide +kernel
theorem d_M_insert_90 : decode prog_6_method_15_code 90 = .ok (.invokevirtual 126, 3) := by decide +kernel
theorem d_M_insert_93 : decode prog_6_method_15_code 93 = .ok (.aload_n 0, 1) := by decide +kernel
theorem d_M_insert_94 : decode prog_6_method_15_code 94 = .ok (.invokevirtual 130, 3) := by decide +kernel
theorem d_M_insert_97 : decode prog_6_method_15_code 97 = .ok (.aload_n 0, 1) := by decide +kernel
theorem d_M_insert_98 : decode prog_6_method_15_code 98 = .ok (.getfield 101, 3) := by decide +kernel
theorem d_M_insert_101 : decode prog_6_method_15_code 101 = .ok (.istore 4, 2) := by decide +kernel
theorem d_M_insert_103 : decode prog_6_method_15_code 103 = .ok (.aload_n 0, 1) := by decide +kernel
theorem d_M_insert_104 : decode prog_6_method_15_code 104 = .ok (.iload_n 2, 1) := by decide +kernel
theorem d_M_insert_105 : decode prog_6_method_15_code 105 = .ok (.aload_n 0, 1) := by decide +kernel
theorem d_M_insert_106 : decode prog_6_method_15_code 106 = .ok (.invokevirtual 123, 3) := by decide +kernel
theorem d_M_insert_109 : decode prog_6_method_15_code 109 = .ok (.invokevirtual 126, 3) := by decide +kernel
theorem d_M_insert_112 : decode prog_6_method_15_code 112 = .ok (.aload_n 0, 1) := by decide +kernel
theorem d_M_insert_113 : decode prog_6_method_15_code 113 = .ok (.iload 4, 2) := by decide +kernel
theorem d_M_insert_115 : decode prog_6_method_15_code 115 = .ok (.invokevirtual 133, 3) := by decide +kernel
theorem d_M_insert_76 : decode prog_6_method_15_code 76 = .ok (.iconst 0, 1) := by decide +kernel
theorem d_M_insert_77 : decode prog_6_method_15_code 77 = .ok (.ireturn, 1) := by decide +kernel
theorem d_M_insert_118 : decode prog_6_method_15_code 118 = .ok (.aload_n 0, 1) := by decide +kernel
theorem d_M_insert_119 : decode prog_6_method_15_code 119 = .ok (.iconst 0, 1) := by decide +kernel
theorem d_M_insert_120 : decode prog_6_method_15_code 120 = .ok (.putfield 89, 3) := by decide +kernel
theorem d_M_insert_123 : decode prog_6_method_15_code 123 = .ok (.aload_n 0, 1) := by decide +kernel
theorem d_M_insert_124 : decode prog_6_method_15_code 124 = .ok (.getfield 92, 3) := by decide +kernel
theorem d_M_insert_127 : decode prog_6_method_15_code 127 = .ok (.ireturn, 1) := by decide +kernel
theorem d_M_isCharacter_0 : decode prog_6_method_3_code 0 = .ok (.iload_n 0, 1) := by decide +kernel
theorem d_M_isCharacter_1 : decode prog_6_method_3_code 1 = .ok (.bipush 10, 2) := by decide +kernel
theorem d_M_isCharacter_3 : decode prog_6_method_3_code 3 = .ok (.if_icmp .eq 15, 3) := by decide +kernel
theorem d_M_isCharacter_6 : decode prog_6_method_3_code 6 = .ok (.iload_n 0, 1) := by decide +kernel
theorem d_M_isCharacter_7 : decode prog_6_method_3_code 7 = .ok (.bipush 32, 2) := by decide +kernel
theorem d_M_isCharacter_9 : decode prog_6_method_3_code 9 = .ok (.if_icmp .lt 13, 3) := by decide +kernel
theorem d_M_isCharacter_12 : decode prog_6_method_3_code 12 = .ok (.iload_n 0, 1) := by decide +kernel
theorem d_M_isCharacter_13 : decode prog_6_method_3_code 13 = .ok (.bipush 126, 2) := by decide +kernel
theorem d_M_isCharacter_15 : decode prog_6_method_3_code 15 = .ok (.if_icmp .gt 7, 3) := by decide +kernel
theorem d_M_isCharacter_18 : decode prog_6_method_3_code 18 = .ok (.iconst 1, 1) := by decide +kernel
theorem d_M_isCharacter_19 : decode prog_6_method_3_code 19 = .ok (.goto 4, 3) := by decide +kernel
theorem d_M_isCharacter_22 : decode prog_6_method_3_code 22 = .ok (.iconst 0, 1) := by decide +kernel
theorem d_M_isCharacter_23 : decode prog_6_method_3_code 23 = .ok (.ireturn, 1) := by decide +kernel
theorem d_M_jump_0 : decode prog_6_method_20_code 0 = .ok (.aload_n 0, 1) := by decide +kernel
theorem d_M_jump_1 : decode prog_6_method_20_code 1 = .ok (.iload_n 1, 1) := by decide +kernel
theorem d_M_jump_2 : decode prog_6_method_20_code 2 = .ok (.ifCond .lt 11, 3) := by decide +kernel
theorem d_M_jump_5 : decode prog_6_method_20_code 5 = .ok (.iload_n 1, 1) := by decide +kernel
theorem d_M_jump_6 : decode prog_6_method_20_code 6 = .ok (.aload_n 0, 1) := by decide +kernel
theorem d_M_jump_7 : decode prog_6_method_20_code 7 = .ok (.getfield 13, 3) := by decide +kernel
theorem d_M_jump_10 : decode prog_6_method_20_code 10 = .ok (.if_icmp .lt 7, 3) := by decide +kernel
theorem d_M_jump_17 : decode prog_6_method_20_code 17 = .ok (.iconst 0, 1) := by decide +kernel
theorem d_M_jump_13 : decode prog_6_method_20_code 13 = .ok (.iconst 1, 1) := by decide +kernel
theorem d_M_jump_14 : decode prog_6_method_20_code 14 = .ok (.goto 4, 3) := by decide +kernel
theorem d_M_jump_18 : decode prog_6_method_20_code 18 = .ok (.putfield 82, 3) := by decide +kernel
theorem d_M_jump_21 : decode prog_6_method_20_code 21 = .ok (.aload_n 0, 1) := by decide +kernel
theorem d_M_jump_22 : decode prog_6_method_20_code 22 = .ok (.getfield 82, 3) := by decide +kernel
theorem d_M_jump_25 : decode prog_6_method_20_code 25 = .ok (.ifCond .ne 8, 3) := by decide +kernel
theorem d_M_jump_28 : decode prog_6_method_20_code 28 = .ok (.aload_n 0, 1) := by decide +kernel
theorem d_M_jump_29 : decode prog_6_method_20_code 29 = .ok (.iload_n 1, 1) := by decide +kernel
theorem d_M_jump_30 : decode prog_6_method_20_code 30 = .ok (.invokevirtual 112, 3) := by decide +kernel
theorem d_M_jump_33 : decode prog_6_method_20_code 33 = .ok (.return_, 1) := by decide +kernel
theorem d_M_length_0 : decode prog_6_method_47_code 0 = .ok (.aload_n 0, 1) := by decide +kernel
theorem d_M_length_1 : decode prog_6_method_47_code 1 = .ok (.iconst 0, 1) := by decide +kernel
theorem d_M_length_2 : decode prog_6_method_47_code 2 = .ok (.putfield 82, 3) := by decide +kernel
theorem d_M_length_5 : decode prog_6_method_47_code 5 = .ok (.aload_n 0, 1) := by decide +kernel
theorem d_M_length_6 : decode prog_6_method_47_code 6 = .ok (.invokevirtual 123, 3) := by decide +kernel
theorem d_M_length_9 : decode prog_6_method_47_code 9 = .ok (.ireturn, 1) := by decide +kernel
theorem d_M_line_0 : decode prog_6_method_51_code 0 = .ok (.aload_n 0, 1) := by decide +kernel
theorem d_M_line_1 : decode prog_6_method_51_code 1 = .ok (.aload_n 0, 1) := by decide +kernel
theorem d_M_line_2 : decode prog_6_method_51_code 2 = .ok (.invokevirtual 123, 3) := by decide +kernel
theorem d_M_line_5 : decode prog_6_method_51_code 5 = .ok (.invokevirtual 238, 3) := by decide +kernel
theorem d_M_line_8 : decode prog_6_method_51_code 8 = .ok (.iconst 1, 1) := by decide +kernel
theorem d_M_line_9 : decode prog_6_method_51_code 9 = .ok (.iadd, 1) := by decide +kernel
theorem d_M_line_10 : decode prog_6_method_51_code 10 = .ok (.istore_n 3, 1) := by decide +kernel
theorem d_M_line_11 : decode prog_6_method_51_code 11 = .ok (.iload_n 1, 1) := by decide +kernel
theorem d_M_line_12 : decode prog_6_method_51_code 12 = .ok (.ifCond .eq 32, 3) := by decide +kernel
theorem d_M_line_15 : decode prog_6_method_51_code 15 = .ok (.iload_n 1, 1) := by decide +kernel
theorem d_M_line_16 : decode prog_6_method_51_code 16 = .ok (.iconst 1, 1) := by decide +kernel
theorem d_M_line_17 : decode prog_6_method_51_code 17 = .ok (.if_icmp .ne 18, 3) := by decide +kernel
theorem d_M_line_35 : decode prog_6_method_51_code 35 = .ok (.iload_n 2, 1) := by decide +kernel
theorem d_M_line_36 : decode prog_6_method_51_code 36 = .ok (.ifCond .lt 12, 3) := by decide +kernel
theorem d_M_line_39 : decode prog_6_method_51_code 39 = .ok (.iload_n 2, 1) := by decide +kernel
theorem d_M_line_40 : decode prog_6_method_51_code 40 = .ok (.iload_n 3, 1) := by decide +kernel
theorem d_M_line_41 : decode prog_6_method_51_code 41 = .ok (.if_icmp .ge 7, 3) := by decide +kernel
theorem d_M_line_20 : decode prog_6_method_51_code 20 = .ok (.iload_n 2, 1) := by decide +kernel
theorem d_M_line_21 : decode prog_6_method_51_code 21 = .ok (.ifCond .lt 27, 3) := by decide +kernel
theorem d_M_line_24 : decode prog_6_method_51_code 24 = .ok (.iload_n 2, 1) := by decide +kernel
theorem d_M_line_25 : decode prog_6_method_51_code 25 = .ok (.aload_n 0, 1) := by decide +kernel
theorem d_M_line_26 : decode prog_6_method_51_code 26 = .ok (.invokevirtual 123, 3) := by decide +kernel
theorem d_M_line_29 : decode prog_6_method_51_code 29 = .ok (.if_icmp .gt 19, 3) := by decide +kernel
theorem d_M_line_32 : decode prog_6_method_51_code 32 = .ok (.goto 12, 3) := by decide +kernel
theorem d_M_line_44 : decode prog_6_method_51_code 44 = .ok (.iconst 1, 1) := by decide +kernel
theorem d_M_line_45 : decode prog_6_method_51_code 45 = .ok (.goto 4, 3) := by decide +kernel
theorem d_M_line_48 : decode prog_6_method_51_code 48 = .ok (.iconst 0, 1) := by decide +kernel
theorem d_M_line_49 : decode prog_6_method_51_code 49 = .ok (.istore 4, 2) := by decide +kernel
theorem d_M_line_51 : decode prog_6_method_51_code 51 = .ok (.aload_n 0, 1) := by decide +kernel
theorem d_M_line_52 : decode prog_6_method_51_code 52 = .ok (.iload_n 1, 1) := by decide +kernel
theorem d_M_line_53 : decode prog_6_method_51_code 53 = .ok (.ifCond .lt 8, 3) := by decide +kernel
theorem d_M_line_56 : decode prog_6_method_51_code 56 = .ok (.iload_n 1, 1) := by decide +kernel
theorem d_M_line_57 : decode prog_6_method_51_code 57 = .ok (.iconst 3, 1) := by decide +kernel
theorem d_M_line_58 : decode prog_6_method_51_code 58 = .ok (.if_icmp .le 7, 3) := by decide +kernel
theorem d_M_line_65 : decode prog_6_method_51_code 65 = .ok (.iload 4, 2) := by decide +kernel
theorem d_M_line_67 : decode prog_6_method_51_code 67 = .ok (.ifCond .ne 7, 3) := by decide +kernel
theorem d_M_line_74 : decode prog_6_method_51_code 74 = .ok (.iconst 0, 1) := by decide +kernel
theorem d_M_line_70 : decode prog_6_method_51_code 70 = .ok (.iconst 2, 1) := by decide +kernel
theorem d_M_line_71 : decode prog_6_method_51_code 71 = .ok (.goto 4, 3) := by decide +kernel
theorem d_M_line_61 : decode prog_6_method_51_code 61 = .ok (.iconst 1, 1) := by decide +kernel
theorem d_M_line_62 : decode prog_6_method_51_code 62 = .ok (.goto 13, 3) := by decide +kernel
theorem d_M_line_75 : decode prog_6_method_51_code 75 = .ok (.putfield 82, 3) := by decide +kernel
theorem d_M_line_78 : decode prog_6_method_51_code 78 = .ok (.aload_n 0, 1) := by decide +kernel
theorem d_M_line_79 : decode prog_6_method_51_code 79 = .ok (.getfield 82, 3) := by decide +kernel
theorem d_M_line_82 : decode prog_6_method_51_code 82 = .ok (.ifCond .le 5, 3) := by decide +kernel
theorem d_M_line_87 : decode prog_6_method_51_code 87 = .ok (.iload_n 1, 1) := by decide +kernel
theorem d_M_line_88 : decode prog_6_method_51_code 88 = .ok (.iconst 2, 1) := by decide +kernel
theorem d_M_line_89 : decode prog_6_method_51_code 89 = .ok (.if_icmp .ge 17, 3) := by decide +kernel
theorem d_M_line_106 : decode prog_6_method_51_code 106 = .ok (.aload_n 0, 1) := by decide +kernel
theorem d_M_line_107 : decode prog_6_method_51_code 107 = .ok (.iload_n 2, 1) := by decide +kernel
theorem d_M_line_108 : decode prog_6_method_51_code 108 = .ok (.invokevirtual 241, 3) := by decide +kernel
theorem d_M_lineStart_0 : decode prog_6_method_50_code 0 = .ok (.iconst 0, 1) := by decide +kernel
theorem d_M_lineStart_1 : decode prog_6_method_50_code 1 = .ok (.istore_n 2, 1) := by decide +kernel
theorem d_M_lineStart_2 : decode prog_6_method_50_code 2 = .ok (.aload_n 0, 1) := by decide +kernel
theorem d_M_lineStart_3 : decode prog_6_method_50_code 3 = .ok (.iload_n 2, 1) := by decide +kernel
theorem d_M_lineStart_4 : decode prog_6_method_50_code 4 = .ok (.invokevirtual 238, 3) := by decide +kernel
theorem d_M_lineStart_7 : decode prog_6_method_50_code 7 = .ok (.iload_n 1, 1) := by decide +kernel
theorem d_M_lineStart_8 : decode prog_6_method_50_code 8 = .ok (.if_icmp .ge 9, 3) := by decide +kernel
theorem d_M_lineStart_17 : decode prog_6_method_50_code 17 = .ok (.iload_n 2, 1) := by decide +kernel
theorem d_M_lineStart_18 : decode prog_6_method_50_code 18 = .ok (.ireturn, 1) := by decide +kernel
theorem d_M_lineStart_11 : decode prog_6_method_50_code 11 = .ok (.iinc 2 1, 3) := by decide +kernel
theorem d_M_lineStart_14 : decode prog_6_method_50_code 14 = .ok (.goto (-12), 3) := by decide +kernel
theorem d_M_line_111 : decode prog_6_method_51_code 111 = .ok (.istore 5, 2) := by decide +kernel
theorem d_M_line_113 : decode prog_6_method_51_code 113 = .ok (.iload 5, 2) := by decide +kernel
theorem d_M_line_115 : decode prog_6_method_51_code 115 = .ok (.istore 6, 2) := by decide +kernel
theorem d_M_line_92 : decode prog_6_method_51_code 92 = .ok (.iload_n 1, 1) := by decide +kernel
theorem d_M_line_93 : decode prog_6_method_51_code 93 = .ok (.ifCond .ne 7, 3) := by decide +kernel
theorem d_M_line_100 : decode prog_6_method_51_code 100 = .ok (.aload_n 0, 1) := by decide +kernel
theorem d_M_line_101 : decode prog_6_method_51_code 101 = .ok (.iload_n 2, 1) := by decide +kernel
theorem d_M_line_102 : decode prog_6_method_51_code 102 = .ok (.invokevirtual 238, 3) := by decide +kernel
theorem d_M_line_96 : decode prog_6_method_51_code 96 = .ok (.iload_n 3, 1) := by decide +kernel
theorem d_M_line_97 : decode prog_6_method_51_code 97 = .ok (.goto 8, 3) := by decide +kernel
theorem d_M_line_85 : decode prog_6_method_51_code 85 = .ok (.iconst 0, 1) := by decide +kernel
theorem d_M_line_86 : decode prog_6_method_51_code 86 = .ok (.ireturn, 1) := by decide +kernel
theorem d_M_line_117 : decode prog_6_method_51_code 117 = .ok (.iload 6, 2) := by decide +kernel
theorem d_M_line_119 : decode prog_6_method_51_code 119 = .ok (.aload_n 0, 1) := by decide +kernel
theorem d_M_line_120 : decode prog_6_method_51_code 120 = .ok (.invokevirtual 123, 3) := by decide +kernel
theorem d_M_line_123 : decode prog_6_method_51_code 123 = .ok (.if_icmp .ge 20, 3) := by decide +kernel
theorem d_M_line_126 : decode prog_6_method_51_code 126 = .ok (.aload_n 0, 1) := by decide +kernel
theorem d_M_line_127 : decode prog_6_method_51_code 127 = .ok (.iload 6, 2) := by decide +kernel
theorem d_M_line_129 : decode prog_6_method_51_code 129 = .ok (.invokevirtual 104, 3) := by decide +kernel
theorem d_M_line_132 : decode prog_6_method_51_code 132 = .ok (.bipush 10, 2) := by decide +kernel
theorem d_M_line_134 : decode prog_6_method_51_code 134 = .ok (.if_icmp .eq 9, 3) := by decide +kernel
theorem d_M_line_137 : decode prog_6_method_51_code 137 = .ok (.iinc 6 1, 3) := by decide +kernel
theorem d_M_line_140 : decode prog_6_method_51_code 140 = .ok (.goto (-23), 3) := by decide +kernel
theorem d_M_line_105 : decode prog_6_method_51_code 105 = .ok (.ireturn, 1) := by decide +kernel
theorem d_M_line_143 : decode prog_6_method_51_code 143 = .ok (.iload_n 1, 1) := by decide +kernel
theorem d_M_line_144 : decode prog_6_method_51_code 144 = .ok (.iconst 2, 1) := by decide +kernel
theorem d_M_line_145 : decode prog_6_method_51_code 145 = .ok (.if_icmp .ne 8, 3) := by decide +kernel
theorem d_M_line_153 : decode prog_6_method_51_code 153 = .ok (.iload 6, 2) := by decide +kernel
theorem d_M_line_155 : decode prog_6_method_51_code 155 = .ok (.iload 5, 2) := by decide +kernel
theorem d_M_line_157 : decode prog_6_method_51_code 157 = .ok (.isub, 1) := by decide +kernel
theorem d_M_line_148 : decode prog_6_method_51_code 148 = .ok (.iload 5, 2) := by decide +kernel
theorem d_M_line_150 : decode prog_6_method_51_code 150 = .ok (.goto 8, 3) := by decide +kernel
theorem d_M_line_158 : decode prog_6_method_51_code 158 = .ok (.ireturn, 1) := by decide +kernel
theorem d_M_parent_0 : decode prog_6_method_53_code 0 = .ok (.aload_n 0, 1) := by decide +kernel
theorem d_M_parent_1 : decode prog_6_method_53_code 1 = .ok (.iload_n 1, 1) := by decide +kernel
theorem d_M_parent_2 : decode prog_6_method_53_code 2 = .ok (.ifCond .lt 11, 3) := by decide +kernel
theorem d_M_parent_5 : decode prog_6_method_53_code 5 = .ok (.iload_n 1, 1) := by decide +kernel
theorem d_M_parent_6 : decode prog_6_method_53_code 6 = .ok (.aload_n 0, 1) := by decide +kernel
theorem d_M_parent_7 : decode prog_6_method_53_code 7 = .ok (.getfield 13, 3) := by decide +kernel
theorem d_M_parent_10 : decode prog_6_method_53_code 10 = .ok (.if_icmp .lt 7, 3) := by decide +kernel
theorem d_M_parent_17 : decode prog_6_method_53_code 17 = .ok (.iconst 0, 1) := by decide +kernel
theorem d_M_parent_13 : decode prog_6_method_53_code 13 = .ok (.iconst 1, 1) := by decide +kernel
theorem d_M_parent_14 : decode prog_6_method_53_code 14 = .ok (.goto 4, 3) := by decide +kernel
theorem d_M_parent_18 : decode prog_6_method_53_code 18 = .ok (.putfield 82, 3) := by decide +kernel
theorem d_M_parent_21 : decode prog_6_method_53_code 21 = .ok (.aload_n 0, 1) := by decide +kernel
theorem d_M_parent_22 : decode prog_6_method_53_code 22 = .ok (.getfield 82, 3) := by decide +kernel
theorem d_M_parent_25 : decode prog_6_method_53_code 25 = .ok (.ifCond .ne 12, 3) := by decide +kernel
theorem d_M_parent_37 : decode prog_6_method_53_code 37 = .ok (.iconst 0, 1) := by decide +kernel
theorem d_M_parent_28 : decode prog_6_method_53_code 28 = .ok (.aload_n 0, 1) := by decide +kernel
theorem d_M_parent_29 : decode prog_6_method_53_code 29 = .ok (.getfield 27, 3) := by decide +kernel
theorem d_M_parent_32 : decode prog_6_method_53_code 32 = .ok (.iload_n 1, 1) := by decide +kernel
theorem d_M_parent_33 : decode prog_6_method_53_code 33 = .ok (.iaload, 1) := by decide +kernel
theorem d_M_parent_34 : decode prog_6_method_53_code 34 = .ok (.goto 4, 3) := by decide +kernel
theorem d_M_parent_38 : decode prog_6_method_53_code 38 = .ok (.ireturn, 1) := by decide +kernel
theorem d_M_redo_0 : decode prog_6_method_19_code 0 = .ok (.iconst (-1), 1) := by decide +kernel
theorem d_M_redo_1 : decode prog_6_method_19_code 1 = .ok (.istore_n 1, 1) := by decide +kernel
theorem d_M_redo_2 : decode prog_6_method_19_code 2 = .ok (.iconst 0, 1) := by decide +kernel
theorem d_M_redo_3 : decode prog_6_method_19_code 3 = .ok (.istore_n 2, 1) := by decide +kernel
theorem d_M_redo_4 : decode prog_6_method_19_code 4 = .ok (.iload_n 2, 1) := by decide +kernel
theorem d_M_redo_5 : decode prog_6_method_19_code 5 = .ok (.aload_n 0, 1) := by decide +kernel
theorem d_M_redo_6 : decode prog_6_method_19_code 6 = .ok (.getfield 13, 3) := by decide +kernel
theorem d_M_redo_9 : decode prog_6_method_19_code 9 = .ok (.if_icmp .ge 47, 3) := by decide +kernel
theorem d_M_redo_56 : decode prog_6_method_19_code 56 = .ok (.aload_n 0, 1) := by decide +kernel
theorem d_M_redo_57 : decode prog_6_method_19_code 57 = .ok (.iload_n 1, 1) := by decide +kernel
theorem d_M_redo_58 : decode prog_6_method_19_code 58 = .ok (.ifCond .ge 7, 3) := by decide +kernel
theorem d_M_redo_65 : decode prog_6_method_19_code 65 = .ok (.iconst 0, 1) := by decide +kernel
theorem d_M_redo_61 : decode prog_6_method_19_code 61 = .ok (.iconst 1, 1) := by decide +kernel
theorem d_M_redo_62 : decode prog_6_method_19_code 62 = .ok (.goto 4, 3) := by decide +kernel
theorem d_M_redo_12 : decode prog_6_method_19_code 12 = .ok (.aload_n 0, 1) := by decide +kernel
theorem d_M_redo_13 : decode prog_6_method_19_code 13 = .ok (.getfield 27, 3) := by decide +kernel
theorem d_M_redo_16 : decode prog_6_method_19_code 16 = .ok (.iload_n 2, 1) := by decide +kernel
theorem d_M_redo_17 : decode prog_6_method_19_code 17 = .ok (.iaload, 1) := by decide +kernel
theorem d_M_redo_18 : decode prog_6_method_19_code 18 = .ok (.aload_n 0, 1) := by decide +kernel
theorem d_M_redo_19 : decode prog_6_method_19_code 19 = .ok (.getfield 92, 3) := by decide +kernel
theorem d_M_redo_22 : decode prog_6_method_19_code 22 = .ok (.if_icmp .ne 26, 3) := by decide +kernel
theorem d_M_redo_25 : decode prog_6_method_19_code 25 = .ok (.iload_n 1, 1) := by decide +kernel
theorem d_M_redo_26 : decode prog_6_method_19_code 26 = .ok (.ifCond .lt 18, 3) := by decide +kernel
theorem d_M_redo_29 : decode prog_6_method_19_code 29 = .ok (.aload_n 0, 1) := by decide +kernel
theorem d_M_redo_30 : decode prog_6_method_19_code 30 = .ok (.getfield 30, 3) := by decide +kernel
theorem d_M_redo_33 : decode prog_6_method_19_code 33 = .ok (.iload_n 2, 1) := by decide +kernel
theorem d_M_redo_34 : decode prog_6_method_19_code 34 = .ok (.iaload, 1) := by decide +kernel
theorem d_M_redo_35 : decode prog_6_method_19_code 35 = .ok (.aload_n 0, 1) := by decide +kernel
theorem d_M_redo_36 : decode prog_6_method_19_code 36 = .ok (.getfield 30, 3) := by decide +kernel
theorem d_M_redo_39 : decode prog_6_method_19_code 39 = .ok (.iload_n 1, 1) := by decide +kernel
theorem d_M_redo_40 : decode prog_6_method_19_code 40 = .ok (.iaload, 1) := by decide +kernel
theorem d_M_redo_41 : decode prog_6_method_19_code 41 = .ok (.if_icmp .le 7, 3) := by decide +kernel
theorem d_M_redo_66 : decode prog_6_method_19_code 66 = .ok (.putfield 82, 3) := by decide +kernel
theorem d_M_redo_69 : decode prog_6_method_19_code 69 = .ok (.aload_n 0, 1) := by decide +kernel
theorem d_M_redo_70 : decode prog_6_method_19_code 70 = .ok (.getfield 82, 3) := by decide +kernel
theorem d_M_redo_73 : decode prog_6_method_19_code 73 = .ok (.ifCond .ne 8, 3) := by decide +kernel
theorem d_M_redo_76 : decode prog_6_method_19_code 76 = .ok (.aload_n 0, 1) := by decide +kernel
theorem d_M_redo_77 : decode prog_6_method_19_code 77 = .ok (.iload_n 1, 1) := by decide +kernel
theorem d_M_redo_78 : decode prog_6_method_19_code 78 = .ok (.invokevirtual 112, 3) := by decide +kernel
theorem d_M_redo_48 : decode prog_6_method_19_code 48 = .ok (.iload_n 1, 1) := by decide +kernel
theorem d_M_redo_44 : decode prog_6_method_19_code 44 = .ok (.iload_n 2, 1) := by decide +kernel
theorem d_M_redo_45 : decode prog_6_method_19_code 45 = .ok (.goto 4, 3) := by decide +kernel
theorem d_M_redo_81 : decode prog_6_method_19_code 81 = .ok (.aload_n 0, 1) := by decide +kernel
theorem d_M_redo_82 : decode prog_6_method_19_code 82 = .ok (.getfield 82, 3) := by decide +kernel
theorem d_M_redo_85 : decode prog_6_method_19_code 85 = .ok (.ifCond .ne 10, 3) := by decide +kernel
theorem d_M_redo_95 : decode prog_6_method_19_code 95 = .ok (.iconst 0, 1) := by decide +kernel
theorem d_M_redo_88 : decode prog_6_method_19_code 88 = .ok (.aload_n 0, 1) := by decide +kernel
theorem d_M_redo_89 : decode prog_6_method_19_code 89 = .ok (.getfield 92, 3) := by decide +kernel
theorem d_M_redo_92 : decode prog_6_method_19_code 92 = .ok (.goto 4, 3) := by decide +kernel
theorem d_M_redo_49 : decode prog_6_method_19_code 49 = .ok (.istore_n 1, 1) := by decide +kernel
theorem d_M_redo_50 : decode prog_6_method_19_code 50 = .ok (.iinc 2 1, 3) := by decide +kernel
theorem d_M_redo_53 : decode prog_6_method_19_code 53 = .ok (.goto (-49), 3) := by decide +kernel
theorem d_M_redo_96 : decode prog_6_method_19_code 96 = .ok (.ireturn, 1) := by decide +kernel
theorem d_M_replace_0 : decode prog_6_method_46_code 0 = .ok (.aload_n 0, 1) := by decide +kernel
theorem d_M_replace_1 : decode prog_6_method_46_code 1 = .ok (.aload_n 0, 1) := by decide +kernel
theorem d_M_replace_2 : decode prog_6_method_46_code 2 = .ok (.getfield 203, 3) := by decide +kernel
theorem d_M_replace_5 : decode prog_6_method_46_code 5 = .ok (.ifCond .eq 7, 3) := by decide +kernel
theorem d_M_replace_12 : decode prog_6_method_46_code 12 = .ok (.iconst 1, 1) := by decide +kernel
theorem d_M_replace_8 : decode prog_6_method_46_code 8 = .ok (.iconst 0, 1) := by decide +kernel
theorem d_M_replace_9 : decode prog_6_method_46_code 9 = .ok (.goto 4, 3) := by decide +kernel
theorem d_M_replace_13 : decode prog_6_method_46_code 13 = .ok (.putfield 82, 3) := by decide +kernel
theorem d_M_replace_16 : decode prog_6_method_46_code 16 = .ok (.aload_n 0, 1) := by decide +kernel
theorem d_M_replace_17 : decode prog_6_method_46_code 17 = .ok (.getfield 82, 3) := by decide +kernel
theorem d_M_replace_20 : decode prog_6_method_46_code 20 = .ok (.ifCond .le 5, 3) := by decide +kernel
theorem d_M_replace_25 : decode prog_6_method_46_code 25 = .ok (.aload_n 0, 1) := by decide +kernel
theorem d_M_replace_26 : decode prog_6_method_46_code 26 = .ok (.iconst 0, 1) := by decide +kernel
theorem d_M_replace_27 : decode prog_6_method_46_code 27 = .ok (.putfield 101, 3) := by decide +kernel
theorem d_M_replace_30 : decode prog_6_method_46_code 30 = .ok (.iconst 0, 1) := by decide +kernel
theorem d_M_replace_31 : decode prog_6_method_46_code 31 = .ok (.istore_n 1, 1) := by decide +kernel
theorem d_M_replace_32 : decode prog_6_method_46_code 32 = .ok (.iconst 0, 1) := by decide +kernel
theorem d_M_replace_33 : decode prog_6_method_46_code 33 = .ok (.istore_n 2, 1) := by decide +kernel
theorem d_M_replace_34 : decode prog_6_method_46_code 34 = .ok (.iconst 0, 1) := by decide +kernel
theorem d_M_replace_35 : decode prog_6_method_46_code 35 = .ok (.istore_n 3, 1) := by decide +kernel
theorem d_M_replace_23 : decode prog_6_method_46_code 23 = .ok (.iconst 0, 1) := by decide +kernel
theorem d_M_replace_24 : decode prog_6_method_46_code 24 = .ok (.ireturn, 1) := by decide +kernel
theorem d_M_replace_36 : decode prog_6_method_46_code 36 = .ok (.aload_n 0, 1) := by decide +kernel
theorem d_M_replace_37 : decode prog_6_method_46_code 37 = .ok (.iload_n 2, 1) := by decide +kernel
theorem d_M_replace_38 : decode prog_6_method_46_code 38 = .ok (.invokevirtual 235, 3) := by decide +kernel
theorem d_M_replace_41 : decode prog_6_method_46_code 41 = .ok (.ifCond .eq 32, 3) := by decide +kernel
theorem d_M_replace_73 : decode prog_6_method_46_code 73 = .ok (.aload_n 0, 1) := by decide +kernel
theorem d_M_replace_74 : decode prog_6_method_46_code 74 = .ok (.iload_n 2, 1) := by decide +kernel
theorem d_M_replace_75 : decode prog_6_method_46_code 75 = .ok (.aload_n 0, 1) := by decide +kernel
theorem d_M_replace_76 : decode prog_6_method_46_code 76 = .ok (.invokevirtual 123, 3) := by decide +kernel
theorem d_M_replace_79 : decode prog_6_method_46_code 79 = .ok (.invokevirtual 126, 3) := by decide +kernel
theorem d_M_replace_82 : decode prog_6_method_46_code 82 = .ok (.aload_n 0, 1) := by decide +kernel
theorem d_M_replace_83 : decode prog_6_method_46_code 83 = .ok (.iload_n 1, 1) := by decide +kernel
theorem d_M_replace_84 : decode prog_6_method_46_code 84 = .ok (.ifCond .le 26, 3) := by decide +kernel
theorem d_M_replace_87 : decode prog_6_method_46_code 87 = .ok (.aload_n 0, 1) := by decide +kernel
theorem d_M_replace_88 : decode prog_6_method_46_code 88 = .ok (.getfield 101, 3) := by decide +kernel
theorem d_M_replace_91 : decode prog_6_method_46_code 91 = .ok (.sipush 160, 3) := by decide +kernel
theorem d_M_replace_94 : decode prog_6_method_46_code 94 = .ok (.if_icmp .gt 12, 3) := by decide +kernel
theorem d_M_replace_97 : decode prog_6_method_46_code 97 = .ok (.aload_n 0, 1) := by decide +kernel
theorem d_M_replace_98 : decode prog_6_method_46_code 98 = .ok (.getfield 13, 3) := by decide +kernel
theorem d_M_replace_101 : decode prog_6_method_46_code 101 = .ok (.bipush 40, 2) := by decide +kernel
theorem d_M_replace_103 : decode prog_6_method_46_code 103 = .ok (.if_icmp .ne 7, 3) := by decide +kernel
theorem d_M_replace_44 : decode prog_6_method_46_code 44 = .ok (.aload_n 0, 1) := by decide +kernel
theorem d_M_replace_45 : decode prog_6_method_46_code 45 = .ok (.iload_n 2, 1) := by decide +kernel
theorem d_M_replace_46 : decode prog_6_method_46_code 46 = .ok (.aload_n 0, 1) := by decide +kernel
theorem d_M_replace_47 : decode prog_6_method_46_code 47 = .ok (.getfield 229, 3) := by decide +kernel
theorem d_M_replace_50 : decode prog_6_method_46_code 50 = .ok (.invokevirtual 126, 3) := by decide +kernel
theorem d_M_replace_53 : decode prog_6_method_46_code 53 = .ok (.aload_n 0, 1) := by decide +kernel
theorem d_M_replace_54 : decode prog_6_method_46_code 54 = .ok (.invokevirtual 130, 3) := by decide +kernel
theorem d_M_replace_57 : decode prog_6_method_46_code 57 = .ok (.aload_n 0, 1) := by decide +kernel
theorem d_M_replace_58 : decode prog_6_method_46_code 58 = .ok (.getfield 101, 3) := by decide +kernel
theorem d_M_replace_61 : decode prog_6_method_46_code 61 = .ok (.istore_n 3, 1) := by decide +kernel
theorem d_M_replace_62 : decode prog_6_method_46_code 62 = .ok (.aload_n 0, 1) := by decide +kernel
theorem d_M_replace_63 : decode prog_6_method_46_code 63 = .ok (.getfield 226, 3) := by decide +kernel
theorem d_M_replace_66 : decode prog_6_method_46_code 66 = .ok (.istore_n 2, 1) := by decide +kernel
theorem d_M_replace_67 : decode prog_6_method_46_code 67 = .ok (.iinc 1 1, 3) := by decide +kernel
theorem d_M_replace_70 : decode prog_6_method_46_code 70 = .ok (.goto (-34), 3) := by decide +kernel
theorem d_M_replace_110 : decode prog_6_method_46_code 110 = .ok (.iconst 0, 1) := by decide +kernel
theorem d_M_replace_106 : decode prog_6_method_46_code 106 = .ok (.iconst 1, 1) := by decide +kernel
theorem d_M_replace_107 : decode prog_6_method_46_code 107 = .ok (.goto 4, 3) := by decide +kernel
theorem d_M_replace_111 : decode prog_6_method_46_code 111 = .ok (.putfield 82, 3) := by decide +kernel
theorem d_M_replace_114 : decode prog_6_method_46_code 114 = .ok (.aload_n 0, 1) := by decide +kernel
theorem d_M_replace_115 : decode prog_6_method_46_code 115 = .ok (.getfield 82, 3) := by decide +kernel
theorem d_M_replace_118 : decode prog_6_method_46_code 118 = .ok (.ifCond .le 5, 3) := by decide +kernel
theorem d_M_replace_123 : decode prog_6_method_46_code 123 = .ok (.iload_n 1, 1) := by decide +kernel
theorem d_M_replace_124 : decode prog_6_method_46_code 124 = .ok (.ifCond .le 8, 3) := by decide +kernel
theorem d_M_replace_127 : decode prog_6_method_46_code 127 = .ok (.aload_n 0, 1) := by decide +kernel
theorem d_M_replace_128 : decode prog_6_method_46_code 128 = .ok (.iload_n 3, 1) := by decide +kernel
theorem d_M_replace_129 : decode prog_6_method_46_code 129 = .ok (.invokevirtual 133, 3) := by decide +kernel
theorem d_M_replace_121 : decode prog_6_method_46_code 121 = .ok (.iconst 0, 1) := by decide +kernel
theorem d_M_replace_122 : decode prog_6_method_46_code 122 = .ok (.ireturn, 1) := by decide +kernel
theorem d_M_replace_132 : decode prog_6_method_46_code 132 = .ok (.aload_n 0, 1) := by decide +kernel
theorem d_M_replace_133 : decode prog_6_method_46_code 133 = .ok (.iconst 0, 1) := by decide +kernel
theorem d_M_replace_134 : decode prog_6_method_46_code 134 = .ok (.putfield 89, 3) := by decide +kernel
theorem d_M_replace_137 : decode prog_6_method_46_code 137 = .ok (.iload_n 1, 1) := by decide +kernel
theorem d_M_replace_138 : decode prog_6_method_46_code 138 = .ok (.ireturn, 1) := by decide +kernel
theorem d_M_type_0 : decode prog_6_method_4_code 0 = .ok (.aload_n 0, 1) := by decide +kernel
theorem d_M_type_1 : decode prog_6_method_4_code 1 = .ok (.iconst 0, 1) := by decide +kernel
theorem d_M_type_2 : decode prog_6_method_4_code 2 = .ok (.putfield 82, 3) := by decide +kernel
theorem d_M_type_5 : decode prog_6_method_4_code 5 = .ok (.iload_n 1, 1) := by decide +kernel
theorem d_M_type_6 : decode prog_6_method_4_code 6 = .ok (.invokestatic 85, 3) := by decide +kernel
theorem d_M_type_9 : decode prog_6_method_4_code 9 = .ok (.ifCond .eq 12, 3) := by decide +kernel
theorem d_M_type_12 : decode prog_6_method_4_code 12 = .ok (.aload_n 0, 1) := by decide +kernel
theorem d_M_type_13 : decode prog_6_method_4_code 13 = .ok (.getfield 89, 3) := by decide +kernel
theorem d_M_type_16 : decode prog_6_method_4_code 16 = .ok (.bipush 24, 2) := by decide +kernel
theorem d_M_type_18 : decode prog_6_method_4_code 18 = .ok (.if_icmp .ne 5, 3) := by decide +kernel
theorem d_M_type_23 : decode prog_6_method_4_code 23 = .ok (.aload_n 0, 1) := by decide +kernel
theorem d_M_type_24 : decode prog_6_method_4_code 24 = .ok (.getfield 7, 3) := by decide +kernel
theorem d_M_type_27 : decode prog_6_method_4_code 27 = .ok (.aload_n 0, 1) := by decide +kernel
theorem d_M_type_28 : decode prog_6_method_4_code 28 = .ok (.getfield 89, 3) := by decide +kernel
theorem d_M_type_31 : decode prog_6_method_4_code 31 = .ok (.iload_n 1, 1) := by decide +kernel
theorem d_M_type_32 : decode prog_6_method_4_code 32 = .ok (.castore, 1) := by decide +kernel
theorem d_M_type_33 : decode prog_6_method_4_code 33 = .ok (.aload_n 0, 1) := by decide +kernel
theorem d_M_type_34 : decode prog_6_method_4_code 34 = .ok (.dup, 1) := by decide +kernel
theorem d_M_type_35 : decode prog_6_method_4_code 35 = .ok (.getfield 89, 3) := by decide +kernel
theorem d_M_type_38 : decode prog_6_method_4_code 38 = .ok (.iconst 1, 1) := by decide +kernel
theorem d_M_type_39 : decode prog_6_method_4_code 39 = .ok (.iadd, 1) := by decide +kernel
theorem d_M_type_40 : decode prog_6_method_4_code 40 = .ok (.putfield 89, 3) := by decide +kernel
theorem d_M_type_43 : decode prog_6_method_4_code 43 = .ok (.iconst 1, 1) := by decide +kernel
theorem d_M_type_44 : decode prog_6_method_4_code 44 = .ok (.ireturn, 1) := by decide +kernel
theorem d_M_type_21 : decode prog_6_method_4_code 21 = .ok (.iconst 0, 1) := by decide +kernel
theorem d_M_type_22 : decode prog_6_method_4_code 22 = .ok (.ireturn, 1) := by decide +kernel
theorem d_M_undo_0 : decode prog_6_method_18_code 0 = .ok (.aload_n 0, 1) := by decide +kernel
theorem d_M_undo_1 : decode prog_6_method_18_code 1 = .ok (.aload_n 0, 1) := by decide +kernel
theorem d_M_undo_2 : decode prog_6_method_18_code 2 = .ok (.getfield 92, 3) := by decide +kernel
theorem d_M_undo_5 : decode prog_6_method_18_code 5 = .ok (.ifCond .ne 7, 3) := by decide +kernel
theorem d_M_undo_12 : decode prog_6_method_18_code 12 = .ok (.iconst 0, 1) := by decide +kernel
theorem d_M_undo_8 : decode prog_6_method_18_code 8 = .ok (.iconst 1, 1) := by decide +kernel
theorem d_M_undo_9 : decode prog_6_method_18_code 9 = .ok (.goto 4, 3) := by decide +kernel
theorem d_M_undo_13 : decode prog_6_method_18_code 13 = .ok (.putfield 82, 3) := by decide +kernel
theorem d_M_undo_16 : decode prog_6_method_18_code 16 = .ok (.aload_n 0, 1) := by decide +kernel
theorem d_M_undo_17 : decode prog_6_method_18_code 17 = .ok (.getfield 82, 3) := by decide +kernel
theorem d_M_undo_20 : decode prog_6_method_18_code 20 = .ok (.ifCond .ne 16, 3) := by decide +kernel
theorem d_M_undo_23 : decode prog_6_method_18_code 23 = .ok (.aload_n 0, 1) := by decide +kernel
theorem d_M_undo_24 : decode prog_6_method_18_code 24 = .ok (.aload_n 0, 1) := by decide +kernel
theorem d_M_undo_25 : decode prog_6_method_18_code 25 = .ok (.getfield 27, 3) := by decide +kernel
theorem d_M_undo_28 : decode prog_6_method_18_code 28 = .ok (.aload_n 0, 1) := by decide +kernel
theorem d_M_undo_29 : decode prog_6_method_18_code 29 = .ok (.getfield 92, 3) := by decide +kernel
theorem d_M_undo_32 : decode prog_6_method_18_code 32 = .ok (.iaload, 1) := by decide +kernel
theorem d_M_undo_33 : decode prog_6_method_18_code 33 = .ok (.invokevirtual 112, 3) := by decide +kernel
theorem d_M_undo_36 : decode prog_6_method_18_code 36 = .ok (.aload_n 0, 1) := by decide +kernel
theorem d_M_undo_37 : decode prog_6_method_18_code 37 = .ok (.getfield 82, 3) := by decide +kernel
theorem d_M_undo_40 : decode prog_6_method_18_code 40 = .ok (.ifCond .ne 10, 3) := by decide +kernel
theorem d_M_undo_50 : decode prog_6_method_18_code 50 = .ok (.iconst 0, 1) := by decide +kernel
theorem d_M_undo_43 : decode prog_6_method_18_code 43 = .ok (.aload_n 0, 1) := by decide +kernel
theorem d_M_undo_44 : decode prog_6_method_18_code 44 = .ok (.getfield 92, 3) := by decide +kernel
theorem d_M_undo_47 : decode prog_6_method_18_code 47 = .ok (.goto 4, 3) := by decide +kernel
theorem d_M_undo_51 : decode prog_6_method_18_code 51 = .ok (.ireturn, 1) := by decide +kernel
theorem d_M_wipe_0 : decode prog_6_method_5_code 0 = .ok (.aload_n 0, 1) := by decide +kernel
theorem d_M_wipe_1 : decode prog_6_method_5_code 1 = .ok (.iconst 0, 1) := by decide +kernel
theorem d_M_wipe_2 : decode prog_6_method_5_code 2 = .ok (.putfield 82, 3) := by decide +kernel
theorem d_M_wipe_5 : decode prog_6_method_5_code 5 = .ok (.aload_n 0, 1) := by decide +kernel
theorem d_M_wipe_6 : decode prog_6_method_5_code 6 = .ok (.getfield 89, 3) := by decide +kernel
theorem d_M_wipe_9 : decode prog_6_method_5_code 9 = .ok (.istore_n 1, 1) := by decide +kernel
theorem d_M_wipe_10 : decode prog_6_method_5_code 10 = .ok (.aload_n 0, 1) := by decide +kernel
theorem d_M_wipe_11 : decode prog_6_method_5_code 11 = .ok (.iconst 0, 1) := by decide +kernel
