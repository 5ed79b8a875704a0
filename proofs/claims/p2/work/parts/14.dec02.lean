theorem d_M_compile_28 : decode prog_6_method_36_code 28 = .ok (.iconst 1, 1) := by decide +kernel
theorem d_M_compile_24 : decode prog_6_method_36_code 24 = .ok (.iconst 0, 1) := by decide +kernel
theorem d_M_compile_25 : decode prog_6_method_36_code 25 = .ok (.goto 4, 3) := by decide +kernel
theorem d_M_compile_29 : decode prog_6_method_36_code 29 = .ok (.putfield 82, 3) := by decide +kernel
theorem d_M_compile_32 : decode prog_6_method_36_code 32 = .ok (.aload_n 0, 1) := by decide +kernel
theorem d_M_compile_33 : decode prog_6_method_36_code 33 = .ok (.iload_n 2, 1) := by decide +kernel
theorem d_M_compile_34 : decode prog_6_method_36_code 34 = .ok (.ifCond .eq 7, 3) := by decide +kernel
theorem d_M_compile_41 : decode prog_6_method_36_code 41 = .ok (.iload_n 1, 1) := by decide +kernel
theorem d_M_compile_42 : decode prog_6_method_36_code 42 = .ok (.ifCond .ge 9, 3) := by decide +kernel
theorem d_M_compile_51 : decode prog_6_method_36_code 51 = .ok (.iload_n 1, 1) := by decide +kernel
theorem d_M_compile_45 : decode prog_6_method_36_code 45 = .ok (.iconst (-1), 1) := by decide +kernel
theorem d_M_compile_46 : decode prog_6_method_36_code 46 = .ok (.iload_n 1, 1) := by decide +kernel
theorem d_M_compile_47 : decode prog_6_method_36_code 47 = .ok (.isub, 1) := by decide +kernel
theorem d_M_compile_48 : decode prog_6_method_36_code 48 = .ok (.goto 4, 3) := by decide +kernel
theorem d_M_compile_37 : decode prog_6_method_36_code 37 = .ok (.iconst (-1), 1) := by decide +kernel
theorem d_M_compile_38 : decode prog_6_method_36_code 38 = .ok (.goto 14, 3) := by decide +kernel
theorem d_M_compile_52 : decode prog_6_method_36_code 52 = .ok (.putfield 36, 3) := by decide +kernel
theorem d_M_compile_55 : decode prog_6_method_36_code 55 = .ok (.iload_n 2, 1) := by decide +kernel
theorem d_M_compile_56 : decode prog_6_method_36_code 56 = .ok (.ifCond .ne 4, 3) := by decide +kernel
theorem d_M_compile_60 : decode prog_6_method_36_code 60 = .ok (.aload_n 0, 1) := by decide +kernel
theorem d_M_compile_61 : decode prog_6_method_36_code 61 = .ok (.aload_n 0, 1) := by decide +kernel
theorem d_M_compile_62 : decode prog_6_method_36_code 62 = .ok (.getfield 89, 3) := by decide +kernel
theorem d_M_compile_65 : decode prog_6_method_36_code 65 = .ok (.putfield 190, 3) := by decide +kernel
theorem d_M_compile_68 : decode prog_6_method_36_code 68 = .ok (.iconst 0, 1) := by decide +kernel
theorem d_M_compile_69 : decode prog_6_method_36_code 69 = .ok (.istore_n 3, 1) := by decide +kernel
theorem d_M_compile_59 : decode prog_6_method_36_code 59 = .ok (.return_, 1) := by decide +kernel
theorem d_M_compile_70 : decode prog_6_method_36_code 70 = .ok (.iload_n 3, 1) := by decide +kernel
theorem d_M_compile_71 : decode prog_6_method_36_code 71 = .ok (.aload_n 0, 1) := by decide +kernel
theorem d_M_compile_72 : decode prog_6_method_36_code 72 = .ok (.getfield 89, 3) := by decide +kernel
theorem d_M_compile_75 : decode prog_6_method_36_code 75 = .ok (.if_icmp .ge 21, 3) := by decide +kernel
theorem d_M_compile_96 : decode prog_6_method_36_code 96 = .ok (.aload_n 0, 1) := by decide +kernel
theorem d_M_compile_97 : decode prog_6_method_36_code 97 = .ok (.iconst 0, 1) := by decide +kernel
theorem d_M_compile_98 : decode prog_6_method_36_code 98 = .ok (.putfield 89, 3) := by decide +kernel
theorem d_M_compile_101 : decode prog_6_method_36_code 101 = .ok (.aload_n 0, 1) := by decide +kernel
theorem d_M_compile_102 : decode prog_6_method_36_code 102 = .ok (.iconst 0, 1) := by decide +kernel
theorem d_M_compile_103 : decode prog_6_method_36_code 103 = .ok (.putfield 142, 3) := by decide +kernel
theorem d_M_compile_106 : decode prog_6_method_36_code 106 = .ok (.aload_n 0, 1) := by decide +kernel
theorem d_M_compile_107 : decode prog_6_method_36_code 107 = .ok (.iconst 0, 1) := by decide +kernel
theorem d_M_compile_108 : decode prog_6_method_36_code 108 = .ok (.putfield 145, 3) := by decide +kernel
theorem d_M_compile_111 : decode prog_6_method_36_code 111 = .ok (.aload_n 0, 1) := by decide +kernel
theorem d_M_compile_112 : decode prog_6_method_36_code 112 = .ok (.iconst 0, 1) := by decide +kernel
theorem d_M_compile_113 : decode prog_6_method_36_code 113 = .ok (.putfield 159, 3) := by decide +kernel
theorem d_M_compile_116 : decode prog_6_method_36_code 116 = .ok (.aload_n 0, 1) := by decide +kernel
theorem d_M_compile_117 : decode prog_6_method_36_code 117 = .ok (.invokevirtual 171, 3) := by decide +kernel
theorem d_M_compile_120 : decode prog_6_method_36_code 120 = .ok (.iconst 0, 1) := by decide +kernel
theorem d_M_compile_121 : decode prog_6_method_36_code 121 = .ok (.istore_n 3, 1) := by decide +kernel
theorem d_M_compile_78 : decode prog_6_method_36_code 78 = .ok (.aload_n 0, 1) := by decide +kernel
theorem d_M_compile_79 : decode prog_6_method_36_code 79 = .ok (.getfield 39, 3) := by decide +kernel
theorem d_M_compile_82 : decode prog_6_method_36_code 82 = .ok (.iload_n 3, 1) := by decide +kernel
theorem d_M_compile_83 : decode prog_6_method_36_code 83 = .ok (.aload_n 0, 1) := by decide +kernel
theorem d_M_compile_84 : decode prog_6_method_36_code 84 = .ok (.getfield 7, 3) := by decide +kernel
theorem d_M_compile_87 : decode prog_6_method_36_code 87 = .ok (.iload_n 3, 1) := by decide +kernel
theorem d_M_compile_88 : decode prog_6_method_36_code 88 = .ok (.caload, 1) := by decide +kernel
theorem d_M_compile_89 : decode prog_6_method_36_code 89 = .ok (.castore, 1) := by decide +kernel
theorem d_M_compile_90 : decode prog_6_method_36_code 90 = .ok (.iinc 3 1, 3) := by decide +kernel
theorem d_M_compile_93 : decode prog_6_method_36_code 93 = .ok (.goto (-23), 3) := by decide +kernel
theorem d_M_compile_122 : decode prog_6_method_36_code 122 = .ok (.iload_n 3, 1) := by decide +kernel
theorem d_M_compile_123 : decode prog_6_method_36_code 123 = .ok (.aload_n 0, 1) := by decide +kernel
theorem d_M_compile_124 : decode prog_6_method_36_code 124 = .ok (.getfield 190, 3) := by decide +kernel
theorem d_M_compile_127 : decode prog_6_method_36_code 127 = .ok (.if_icmp .ge 12, 3) := by decide +kernel
theorem d_M_compile_139 : decode prog_6_method_36_code 139 = .ok (.aload_n 0, 1) := by decide +kernel
theorem d_M_compile_140 : decode prog_6_method_36_code 140 = .ok (.invokevirtual 174, 3) := by decide +kernel
theorem d_M_compile_143 : decode prog_6_method_36_code 143 = .ok (.aload_n 0, 1) := by decide +kernel
theorem d_M_compile_144 : decode prog_6_method_36_code 144 = .ok (.aload_n 0, 1) := by decide +kernel
theorem d_M_compile_145 : decode prog_6_method_36_code 145 = .ok (.getfield 57, 3) := by decide +kernel
theorem d_M_compile_148 : decode prog_6_method_36_code 148 = .ok (.aload_n 0, 1) := by decide +kernel
theorem d_M_compile_149 : decode prog_6_method_36_code 149 = .ok (.getfield 63, 3) := by decide +kernel
theorem d_M_compile_152 : decode prog_6_method_36_code 152 = .ok (.iconst 0, 1) := by decide +kernel
theorem d_M_compile_153 : decode prog_6_method_36_code 153 = .ok (.iaload, 1) := by decide +kernel
theorem d_M_compile_154 : decode prog_6_method_36_code 154 = .ok (.iaload, 1) := by decide +kernel
theorem d_M_compile_155 : decode prog_6_method_36_code 155 = .ok (.putfield 197, 3) := by decide +kernel
theorem d_M_compile_158 : decode prog_6_method_36_code 158 = .ok (.aload_n 0, 1) := by decide +kernel
theorem d_M_compile_159 : decode prog_6_method_36_code 159 = .ok (.aload_n 0, 1) := by decide +kernel
theorem d_M_compile_160 : decode prog_6_method_36_code 160 = .ok (.getfield 60, 3) := by decide +kernel
theorem d_M_compile_163 : decode prog_6_method_36_code 163 = .ok (.aload_n 0, 1) := by decide +kernel
theorem d_M_compile_164 : decode prog_6_method_36_code 164 = .ok (.getfield 63, 3) := by decide +kernel
theorem d_M_compile_167 : decode prog_6_method_36_code 167 = .ok (.iconst 0, 1) := by decide +kernel
theorem d_M_compile_168 : decode prog_6_method_36_code 168 = .ok (.iaload, 1) := by decide +kernel
theorem d_M_compile_169 : decode prog_6_method_36_code 169 = .ok (.iaload, 1) := by decide +kernel
theorem d_M_compile_170 : decode prog_6_method_36_code 170 = .ok (.putfield 200, 3) := by decide +kernel
theorem d_M_compile_173 : decode prog_6_method_36_code 173 = .ok (.aload_n 0, 1) := by decide +kernel
theorem d_M_compile_174 : decode prog_6_method_36_code 174 = .ok (.iconst 1, 1) := by decide +kernel
theorem d_M_compile_175 : decode prog_6_method_36_code 175 = .ok (.putfield 203, 3) := by decide +kernel
theorem d_M_compile_178 : decode prog_6_method_36_code 178 = .ok (.return_, 1) := by decide +kernel
theorem d_M_compile_130 : decode prog_6_method_36_code 130 = .ok (.aload_n 0, 1) := by decide +kernel
theorem d_M_compile_131 : decode prog_6_method_36_code 131 = .ok (.iload_n 3, 1) := by decide +kernel
theorem d_M_compile_132 : decode prog_6_method_36_code 132 = .ok (.invokevirtual 193, 3) := by decide +kernel
theorem d_M_compile_135 : decode prog_6_method_36_code 135 = .ok (.istore_n 3, 1) := by decide +kernel
theorem d_M_compile_136 : decode prog_6_method_36_code 136 = .ok (.goto (-14), 3) := by decide +kernel
theorem d_M_edit_0 : decode prog_6_method_12_code 0 = .ok (.aload_n 0, 1) := by decide +kernel
theorem d_M_edit_1 : decode prog_6_method_12_code 1 = .ok (.getfield 13, 3) := by decide +kernel
theorem d_M_edit_4 : decode prog_6_method_12_code 4 = .ok (.istore_n 2, 1) := by decide +kernel
theorem d_M_edit_5 : decode prog_6_method_12_code 5 = .ok (.aload_n 0, 1) := by decide +kernel
theorem d_M_edit_6 : decode prog_6_method_12_code 6 = .ok (.dup, 1) := by decide +kernel
theorem d_M_edit_7 : decode prog_6_method_12_code 7 = .ok (.getfield 13, 3) := by decide +kernel
theorem d_M_edit_10 : decode prog_6_method_12_code 10 = .ok (.iconst 1, 1) := by decide +kernel
theorem d_M_edit_11 : decode prog_6_method_12_code 11 = .ok (.iadd, 1) := by decide +kernel
theorem d_M_edit_12 : decode prog_6_method_12_code 12 = .ok (.putfield 13, 3) := by decide +kernel
theorem d_M_edit_15 : decode prog_6_method_12_code 15 = .ok (.iconst 0, 1) := by decide +kernel
theorem d_M_edit_16 : decode prog_6_method_12_code 16 = .ok (.istore_n 3, 1) := by decide +kernel
theorem d_M_edit_17 : decode prog_6_method_12_code 17 = .ok (.iload_n 3, 1) := by decide +kernel
theorem d_M_edit_18 : decode prog_6_method_12_code 18 = .ok (.aload_n 0, 1) := by decide +kernel
theorem d_M_edit_19 : decode prog_6_method_12_code 19 = .ok (.getfield 101, 3) := by decide +kernel
theorem d_M_edit_22 : decode prog_6_method_12_code 22 = .ok (.if_icmp .ge 27, 3) := by decide +kernel
theorem d_M_edit_49 : decode prog_6_method_12_code 49 = .ok (.aload_n 0, 1) := by decide +kernel
theorem d_M_edit_50 : decode prog_6_method_12_code 50 = .ok (.getfield 20, 3) := by decide +kernel
theorem d_M_edit_53 : decode prog_6_method_12_code 53 = .ok (.iload_n 2, 1) := by decide +kernel
theorem d_M_edit_54 : decode prog_6_method_12_code 54 = .ok (.aload_n 0, 1) := by decide +kernel
theorem d_M_edit_55 : decode prog_6_method_12_code 55 = .ok (.getfield 101, 3) := by decide +kernel
theorem d_M_edit_58 : decode prog_6_method_12_code 58 = .ok (.iastore, 1) := by decide +kernel
theorem d_M_edit_59 : decode prog_6_method_12_code 59 = .ok (.aload_n 0, 1) := by decide +kernel
theorem d_M_edit_60 : decode prog_6_method_12_code 60 = .ok (.getfield 24, 3) := by decide +kernel
theorem d_M_edit_63 : decode prog_6_method_12_code 63 = .ok (.iload_n 2, 1) := by decide +kernel
theorem d_M_edit_64 : decode prog_6_method_12_code 64 = .ok (.iload_n 1, 1) := by decide +kernel
theorem d_M_edit_65 : decode prog_6_method_12_code 65 = .ok (.iastore, 1) := by decide +kernel
theorem d_M_edit_66 : decode prog_6_method_12_code 66 = .ok (.aload_n 0, 1) := by decide +kernel
theorem d_M_edit_67 : decode prog_6_method_12_code 67 = .ok (.getfield 27, 3) := by decide +kernel
theorem d_M_edit_70 : decode prog_6_method_12_code 70 = .ok (.iload_n 2, 1) := by decide +kernel
theorem d_M_edit_71 : decode prog_6_method_12_code 71 = .ok (.aload_n 0, 1) := by decide +kernel
theorem d_M_edit_72 : decode prog_6_method_12_code 72 = .ok (.getfield 92, 3) := by decide +kernel
theorem d_M_edit_75 : decode prog_6_method_12_code 75 = .ok (.iastore, 1) := by decide +kernel
theorem d_M_edit_76 : decode prog_6_method_12_code 76 = .ok (.aload_n 0, 1) := by decide +kernel
theorem d_M_edit_77 : decode prog_6_method_12_code 77 = .ok (.iload_n 2, 1) := by decide +kernel
theorem d_M_edit_78 : decode prog_6_method_12_code 78 = .ok (.invokevirtual 112, 3) := by decide +kernel
theorem d_M_edit_81 : decode prog_6_method_12_code 81 = .ok (.return_, 1) := by decide +kernel
theorem d_M_edit_25 : decode prog_6_method_12_code 25 = .ok (.aload_n 0, 1) := by decide +kernel
theorem d_M_edit_26 : decode prog_6_method_12_code 26 = .ok (.getfield 17, 3) := by decide +kernel
theorem d_M_edit_29 : decode prog_6_method_12_code 29 = .ok (.sipush 160, 3) := by decide +kernel
theorem d_M_edit_32 : decode prog_6_method_12_code 32 = .ok (.iload_n 2, 1) := by decide +kernel
theorem d_M_edit_33 : decode prog_6_method_12_code 33 = .ok (.imul, 1) := by decide +kernel
theorem d_M_edit_34 : decode prog_6_method_12_code 34 = .ok (.iload_n 3, 1) := by decide +kernel
theorem d_M_edit_35 : decode prog_6_method_12_code 35 = .ok (.iadd, 1) := by decide +kernel
theorem d_M_edit_36 : decode prog_6_method_12_code 36 = .ok (.aload_n 0, 1) := by decide +kernel
theorem d_M_edit_37 : decode prog_6_method_12_code 37 = .ok (.getfield 79, 3) := by decide +kernel
theorem d_M_edit_40 : decode prog_6_method_12_code 40 = .ok (.iload_n 3, 1) := by decide +kernel
theorem d_M_edit_41 : decode prog_6_method_12_code 41 = .ok (.caload, 1) := by decide +kernel
theorem d_M_edit_42 : decode prog_6_method_12_code 42 = .ok (.castore, 1) := by decide +kernel
theorem d_M_edit_43 : decode prog_6_method_12_code 43 = .ok (.iinc 3 1, 3) := by decide +kernel
theorem d_M_edit_46 : decode prog_6_method_12_code 46 = .ok (.goto (-29), 3) := by decide +kernel
theorem d_M_erase_0 : decode prog_6_method_16_code 0 = .ok (.aload_n 0, 1) := by decide +kernel
theorem d_M_erase_1 : decode prog_6_method_16_code 1 = .ok (.invokevirtual 116, 3) := by decide +kernel
theorem d_M_low_0 : decode prog_6_method_13_code 0 = .ok (.aload_n 0, 1) := by decide +kernel
theorem d_M_low_1 : decode prog_6_method_13_code 1 = .ok (.getfield 33, 3) := by decide +kernel
theorem d_M_low_4 : decode prog_6_method_13_code 4 = .ok (.ifCond .lt 21, 3) := by decide +kernel
theorem d_M_low_7 : decode prog_6_method_13_code 7 = .ok (.aload_n 0, 1) := by decide +kernel
theorem d_M_low_8 : decode prog_6_method_13_code 8 = .ok (.getfield 33, 3) := by decide +kernel
theorem d_M_low_11 : decode prog_6_method_13_code 11 = .ok (.aload_n 0, 1) := by decide +kernel
theorem d_M_low_12 : decode prog_6_method_13_code 12 = .ok (.getfield 95, 3) := by decide +kernel
theorem d_M_low_15 : decode prog_6_method_13_code 15 = .ok (.if_icmp .ge 10, 3) := by decide +kernel
theorem d_M_low_18 : decode prog_6_method_13_code 18 = .ok (.aload_n 0, 1) := by decide +kernel
theorem d_M_low_19 : decode prog_6_method_13_code 19 = .ok (.getfield 33, 3) := by decide +kernel
theorem d_M_low_22 : decode prog_6_method_13_code 22 = .ok (.goto 7, 3) := by decide +kernel
theorem d_M_low_25 : decode prog_6_method_13_code 25 = .ok (.aload_n 0, 1) := by decide +kernel
theorem d_M_low_26 : decode prog_6_method_13_code 26 = .ok (.getfield 95, 3) := by decide +kernel
theorem d_M_low_29 : decode prog_6_method_13_code 29 = .ok (.ireturn, 1) := by decide +kernel
theorem d_M_erase_4 : decode prog_6_method_16_code 4 = .ok (.istore_n 2, 1) := by decide +kernel
theorem d_M_erase_5 : decode prog_6_method_16_code 5 = .ok (.aload_n 0, 1) := by decide +kernel
theorem d_M_erase_6 : decode prog_6_method_16_code 6 = .ok (.invokevirtual 120, 3) := by decide +kernel
theorem d_M_high_0 : decode prog_6_method_14_code 0 = .ok (.aload_n 0, 1) := by decide +kernel
theorem d_M_high_1 : decode prog_6_method_14_code 1 = .ok (.getfield 33, 3) := by decide +kernel
theorem d_M_high_4 : decode prog_6_method_14_code 4 = .ok (.aload_n 0, 1) := by decide +kernel
theorem d_M_high_5 : decode prog_6_method_14_code 5 = .ok (.getfield 95, 3) := by decide +kernel
theorem d_M_high_8 : decode prog_6_method_14_code 8 = .ok (.if_icmp .le 10, 3) := by decide +kernel
theorem d_M_high_18 : decode prog_6_method_14_code 18 = .ok (.aload_n 0, 1) := by decide +kernel
theorem d_M_high_19 : decode prog_6_method_14_code 19 = .ok (.getfield 95, 3) := by decide +kernel
theorem d_M_high_11 : decode prog_6_method_14_code 11 = .ok (.aload_n 0, 1) := by decide +kernel
theorem d_M_high_12 : decode prog_6_method_14_code 12 = .ok (.getfield 33, 3) := by decide +kernel
theorem d_M_high_15 : decode prog_6_method_14_code 15 = .ok (.goto 7, 3) := by decide +kernel
theorem d_M_high_22 : decode prog_6_method_14_code 22 = .ok (.ireturn, 1) := by decide +kernel
theorem d_M_erase_9 : decode prog_6_method_16_code 9 = .ok (.istore_n 3, 1) := by decide +kernel
theorem d_M_erase_10 : decode prog_6_method_16_code 10 = .ok (.iload_n 2, 1) := by decide +kernel
theorem d_M_erase_11 : decode prog_6_method_16_code 11 = .ok (.iload_n 3, 1) := by decide +kernel
theorem d_M_erase_12 : decode prog_6_method_16_code 12 = .ok (.if_icmp .ne 76, 3) := by decide +kernel
theorem d_M_erase_15 : decode prog_6_method_16_code 15 = .ok (.aload_n 0, 1) := by decide +kernel
theorem d_M_erase_16 : decode prog_6_method_16_code 16 = .ok (.invokevirtual 123, 3) := by decide +kernel
theorem d_M_erase_19 : decode prog_6_method_16_code 19 = .ok (.aload_n 0, 1) := by decide +kernel
theorem d_M_erase_20 : decode prog_6_method_16_code 20 = .ok (.getfield 95, 3) := by decide +kernel
theorem d_M_erase_23 : decode prog_6_method_16_code 23 = .ok (.isub, 1) := by decide +kernel
theorem d_M_erase_24 : decode prog_6_method_16_code 24 = .ok (.istore 4, 2) := by decide +kernel
theorem d_M_erase_26 : decode prog_6_method_16_code 26 = .ok (.iload_n 1, 1) := by decide +kernel
theorem d_M_erase_27 : decode prog_6_method_16_code 27 = .ok (.ifCond .lt 10, 3) := by decide +kernel
theorem d_M_erase_37 : decode prog_6_method_16_code 37 = .ok (.iload_n 1, 1) := by decide +kernel
theorem d_M_erase_38 : decode prog_6_method_16_code 38 = .ok (.aload_n 0, 1) := by decide +kernel
theorem d_M_erase_39 : decode prog_6_method_16_code 39 = .ok (.getfield 95, 3) := by decide +kernel
theorem d_M_erase_42 : decode prog_6_method_16_code 42 = .ok (.ineg, 1) := by decide +kernel
theorem d_M_erase_43 : decode prog_6_method_16_code 43 = .ok (.if_icmp .ge 7, 3) := by decide +kernel
theorem d_M_erase_50 : decode prog_6_method_16_code 50 = .ok (.aload_n 0, 1) := by decide +kernel
theorem d_M_erase_51 : decode prog_6_method_16_code 51 = .ok (.getfield 95, 3) := by decide +kernel
theorem d_M_erase_54 : decode prog_6_method_16_code 54 = .ok (.iload_n 1, 1) := by decide +kernel
theorem d_M_erase_55 : decode prog_6_method_16_code 55 = .ok (.iadd, 1) := by decide +kernel
theorem d_M_erase_46 : decode prog_6_method_16_code 46 = .ok (.iconst 0, 1) := by decide +kernel
theorem d_M_erase_47 : decode prog_6_method_16_code 47 = .ok (.goto 9, 3) := by decide +kernel
theorem d_M_erase_30 : decode prog_6_method_16_code 30 = .ok (.aload_n 0, 1) := by decide +kernel
theorem d_M_erase_31 : decode prog_6_method_16_code 31 = .ok (.getfield 95, 3) := by decide +kernel
theorem d_M_erase_34 : decode prog_6_method_16_code 34 = .ok (.goto 22, 3) := by decide +kernel
theorem d_M_erase_88 : decode prog_6_method_16_code 88 = .ok (.aload_n 0, 1) := by decide +kernel
theorem d_M_erase_89 : decode prog_6_method_16_code 89 = .ok (.iload_n 3, 1) := by decide +kernel
theorem d_M_erase_90 : decode prog_6_method_16_code 90 = .ok (.iload_n 2, 1) := by decide +kernel
theorem d_M_erase_91 : decode prog_6_method_16_code 91 = .ok (.if_icmp .le 16, 3) := by decide +kernel
theorem d_M_erase_94 : decode prog_6_method_16_code 94 = .ok (.aload_n 0, 1) := by decide +kernel
theorem d_M_erase_95 : decode prog_6_method_16_code 95 = .ok (.getfield 13, 3) := by decide +kernel
theorem d_M_erase_98 : decode prog_6_method_16_code 98 = .ok (.bipush 40, 2) := by decide +kernel
theorem d_M_erase_100 : decode prog_6_method_16_code 100 = .ok (.if_icmp .ne 7, 3) := by decide +kernel
theorem d_M_erase_103 : decode prog_6_method_16_code 103 = .ok (.iconst 1, 1) := by decide +kernel
theorem d_M_erase_104 : decode prog_6_method_16_code 104 = .ok (.goto 4, 3) := by decide +kernel
theorem d_M_erase_56 : decode prog_6_method_16_code 56 = .ok (.istore_n 2, 1) := by decide +kernel
theorem d_M_erase_57 : decode prog_6_method_16_code 57 = .ok (.iload_n 1, 1) := by decide +kernel
theorem d_M_erase_58 : decode prog_6_method_16_code 58 = .ok (.ifCond .ge 10, 3) := by decide +kernel
theorem d_M_erase_68 : decode prog_6_method_16_code 68 = .ok (.iload_n 1, 1) := by decide +kernel
theorem d_M_erase_69 : decode prog_6_method_16_code 69 = .ok (.iload 4, 2) := by decide +kernel
theorem d_M_erase_71 : decode prog_6_method_16_code 71 = .ok (.if_icmp .le 10, 3) := by decide +kernel
theorem d_M_erase_81 : decode prog_6_method_16_code 81 = .ok (.aload_n 0, 1) := by decide +kernel
theorem d_M_erase_82 : decode prog_6_method_16_code 82 = .ok (.getfield 95, 3) := by decide +kernel
theorem d_M_erase_85 : decode prog_6_method_16_code 85 = .ok (.iload_n 1, 1) := by decide +kernel
theorem d_M_erase_86 : decode prog_6_method_16_code 86 = .ok (.iadd, 1) := by decide +kernel
theorem d_M_erase_74 : decode prog_6_method_16_code 74 = .ok (.aload_n 0, 1) := by decide +kernel
theorem d_M_erase_75 : decode prog_6_method_16_code 75 = .ok (.invokevirtual 123, 3) := by decide +kernel
theorem d_M_erase_78 : decode prog_6_method_16_code 78 = .ok (.goto 9, 3) := by decide +kernel
theorem d_M_erase_61 : decode prog_6_method_16_code 61 = .ok (.aload_n 0, 1) := by decide +kernel
theorem d_M_erase_62 : decode prog_6_method_16_code 62 = .ok (.getfield 95, 3) := by decide +kernel
theorem d_M_erase_65 : decode prog_6_method_16_code 65 = .ok (.goto 22, 3) := by decide +kernel
theorem d_M_erase_107 : decode prog_6_method_16_code 107 = .ok (.iconst 0, 1) := by decide +kernel
theorem d_M_erase_108 : decode prog_6_method_16_code 108 = .ok (.putfield 82, 3) := by decide +kernel
theorem d_M_erase_111 : decode prog_6_method_16_code 111 = .ok (.aload_n 0, 1) := by decide +kernel
theorem d_M_erase_112 : decode prog_6_method_16_code 112 = .ok (.getfield 82, 3) := by decide +kernel
theorem d_M_erase_115 : decode prog_6_method_16_code 115 = .ok (.ifCond .gt 8, 3) := by decide +kernel
theorem d_M_erase_118 : decode prog_6_method_16_code 118 = .ok (.iload_n 2, 1) := by decide +kernel
theorem d_M_erase_119 : decode prog_6_method_16_code 119 = .ok (.iload_n 3, 1) := by decide +kernel
theorem d_M_erase_120 : decode prog_6_method_16_code 120 = .ok (.if_icmp .ne 5, 3) := by decide +kernel
theorem d_M_erase_125 : decode prog_6_method_16_code 125 = .ok (.aload_n 0, 1) := by decide +kernel
theorem d_M_erase_126 : decode prog_6_method_16_code 126 = .ok (.iconst 0, 1) := by decide +kernel
theorem d_M_erase_127 : decode prog_6_method_16_code 127 = .ok (.putfield 101, 3) := by decide +kernel
theorem d_M_erase_130 : decode prog_6_method_16_code 130 = .ok (.aload_n 0, 1) := by decide +kernel
theorem d_M_erase_131 : decode prog_6_method_16_code 131 = .ok (.iconst 0, 1) := by decide +kernel
theorem d_M_erase_132 : decode prog_6_method_16_code 132 = .ok (.iload_n 2, 1) := by decide +kernel
theorem d_M_erase_133 : decode prog_6_method_16_code 133 = .ok (.invokevirtual 126, 3) := by decide +kernel
theorem d_M_erase_136 : decode prog_6_method_16_code 136 = .ok (.aload_n 0, 1) := by decide +kernel
theorem d_M_erase_137 : decode prog_6_method_16_code 137 = .ok (.iload_n 3, 1) := by decide +kernel
theorem d_M_erase_138 : decode prog_6_method_16_code 138 = .ok (.aload_n 0, 1) := by decide +kernel
theorem d_M_erase_139 : decode prog_6_method_16_code 139 = .ok (.invokevirtual 123, 3) := by decide +kernel
theorem d_M_erase_142 : decode prog_6_method_16_code 142 = .ok (.invokevirtual 126, 3) := by decide +kernel
theorem d_M_erase_145 : decode prog_6_method_16_code 145 = .ok (.aload_n 0, 1) := by decide +kernel
theorem d_M_erase_146 : decode prog_6_method_16_code 146 = .ok (.iload_n 2, 1) := by decide +kernel
theorem d_M_erase_147 : decode prog_6_method_16_code 147 = .ok (.invokevirtual 133, 3) := by decide +kernel
theorem d_M_erase_150 : decode prog_6_method_16_code 150 = .ok (.iload_n 3, 1) := by decide +kernel
theorem d_M_erase_151 : decode prog_6_method_16_code 151 = .ok (.iload_n 2, 1) := by decide +kernel
theorem d_M_erase_152 : decode prog_6_method_16_code 152 = .ok (.isub, 1) := by decide +kernel
theorem d_M_erase_153 : decode prog_6_method_16_code 153 = .ok (.ireturn, 1) := by decide +kernel
theorem d_M_erase_87 : decode prog_6_method_16_code 87 = .ok (.istore_n 3, 1) := by decide +kernel
theorem d_M_erase_123 : decode prog_6_method_16_code 123 = .ok (.iconst 0, 1) := by decide +kernel
theorem d_M_erase_124 : decode prog_6_method_16_code 124 = .ok (.ireturn, 1) := by decide +kernel
theorem d_M_fault_0 : decode prog_6_method_37_code 0 = .ok (.aload_n 0, 1) := by decide +kernel
theorem d_M_fault_1 : decode prog_6_method_37_code 1 = .ok (.iconst 0, 1) := by decide +kernel
theorem d_M_fault_2 : decode prog_6_method_37_code 2 = .ok (.putfield 82, 3) := by decide +kernel
theorem d_M_fault_5 : decode prog_6_method_37_code 5 = .ok (.aload_n 0, 1) := by decide +kernel
theorem d_M_fault_6 : decode prog_6_method_37_code 6 = .ok (.getfield 36, 3) := by decide +kernel
theorem d_M_fault_9 : decode prog_6_method_37_code 9 = .ok (.ireturn, 1) := by decide +kernel
theorem d_M_figure_0 : decode prog_6_method_52_code 0 = .ok (.aload_n 0, 1) := by decide +kernel
theorem d_M_figure_1 : decode prog_6_method_52_code 1 = .ok (.iload_n 1, 1) := by decide +kernel
theorem d_M_figure_2 : decode prog_6_method_52_code 2 = .ok (.ifCond .lt 8, 3) := by decide +kernel
theorem d_M_figure_5 : decode prog_6_method_52_code 5 = .ok (.iload_n 1, 1) := by decide +kernel
theorem d_M_figure_6 : decode prog_6_method_52_code 6 = .ok (.iconst 4, 1) := by decide +kernel
theorem d_M_figure_7 : decode prog_6_method_52_code 7 = .ok (.if_icmp .le 7, 3) := by decide +kernel
theorem d_M_figure_14 : decode prog_6_method_52_code 14 = .ok (.iconst 0, 1) := by decide +kernel
theorem d_M_figure_10 : decode prog_6_method_52_code 10 = .ok (.iconst 1, 1) := by decide +kernel
theorem d_M_figure_11 : decode prog_6_method_52_code 11 = .ok (.goto 4, 3) := by decide +kernel
theorem d_M_figure_15 : decode prog_6_method_52_code 15 = .ok (.putfield 82, 3) := by decide +kernel
theorem d_M_figure_18 : decode prog_6_method_52_code 18 = .ok (.aload_n 0, 1) := by decide +kernel
theorem d_M_figure_19 : decode prog_6_method_52_code 19 = .ok (.getfield 82, 3) := by decide +kernel
theorem d_M_figure_22 : decode prog_6_method_52_code 22 = .ok (.ifCond .le 7, 3) := by decide +kernel
theorem d_M_figure_29 : decode prog_6_method_52_code 29 = .ok (.iload_n 1, 1) := by decide +kernel
theorem d_M_figure_30 : decode prog_6_method_52_code 30 = .ok (.ifCond .ne 10, 3) := by decide +kernel
theorem d_M_figure_40 : decode prog_6_method_52_code 40 = .ok (.iload_n 1, 1) := by decide +kernel
theorem d_M_figure_41 : decode prog_6_method_52_code 41 = .ok (.iconst 1, 1) := by decide +kernel
theorem d_M_figure_42 : decode prog_6_method_52_code 42 = .ok (.if_icmp .ne 10, 3) := by decide +kernel
theorem d_M_figure_52 : decode prog_6_method_52_code 52 = .ok (.iload_n 1, 1) := by decide +kernel
theorem d_M_figure_53 : decode prog_6_method_52_code 53 = .ok (.iconst 2, 1) := by decide +kernel
theorem d_M_figure_54 : decode prog_6_method_52_code 54 = .ok (.if_icmp .ne 10, 3) := by decide +kernel
theorem d_M_figure_64 : decode prog_6_method_52_code 64 = .ok (.iload_n 1, 1) := by decide +kernel
theorem d_M_figure_65 : decode prog_6_method_52_code 65 = .ok (.iconst 3, 1) := by decide +kernel
theorem d_M_figure_66 : decode prog_6_method_52_code 66 = .ok (.if_icmp .ne 10, 3) := by decide +kernel
theorem d_M_figure_76 : decode prog_6_method_52_code 76 = .ok (.aload_n 0, 1) := by decide +kernel
theorem d_M_figure_77 : decode prog_6_method_52_code 77 = .ok (.getfield 89, 3) := by decide +kernel
theorem d_M_figure_69 : decode prog_6_method_52_code 69 = .ok (.aload_n 0, 1) := by decide +kernel
theorem d_M_figure_70 : decode prog_6_method_52_code 70 = .ok (.getfield 33, 3) := by decide +kernel
theorem d_M_figure_73 : decode prog_6_method_52_code 73 = .ok (.goto 7, 3) := by decide +kernel
theorem d_M_figure_57 : decode prog_6_method_52_code 57 = .ok (.aload_n 0, 1) := by decide +kernel
theorem d_M_figure_58 : decode prog_6_method_52_code 58 = .ok (.getfield 95, 3) := by decide +kernel
theorem d_M_figure_61 : decode prog_6_method_52_code 61 = .ok (.goto 19, 3) := by decide +kernel
theorem d_M_figure_45 : decode prog_6_method_52_code 45 = .ok (.aload_n 0, 1) := by decide +kernel
theorem d_M_figure_46 : decode prog_6_method_52_code 46 = .ok (.getfield 13, 3) := by decide +kernel
theorem d_M_figure_49 : decode prog_6_method_52_code 49 = .ok (.goto 31, 3) := by decide +kernel
theorem d_M_figure_33 : decode prog_6_method_52_code 33 = .ok (.aload_n 0, 1) := by decide +kernel
theorem d_M_figure_34 : decode prog_6_method_52_code 34 = .ok (.getfield 92, 3) := by decide +kernel
theorem d_M_figure_37 : decode prog_6_method_52_code 37 = .ok (.goto 43, 3) := by decide +kernel
theorem d_M_figure_25 : decode prog_6_method_52_code 25 = .ok (.iconst 0, 1) := by decide +kernel
theorem d_M_figure_26 : decode prog_6_method_52_code 26 = .ok (.goto 54, 3) := by decide +kernel
theorem d_M_figure_80 : decode prog_6_method_52_code 80 = .ok (.ireturn, 1) := by decide +kernel
theorem d_M_find_0 : decode prog_6_method_45_code 0 = .ok (.aload_n 0, 1) := by decide +kernel
theorem d_M_find_1 : decode prog_6_method_45_code 1 = .ok (.aload_n 0, 1) := by decide +kernel
theorem d_M_find_2 : decode prog_6_method_45_code 2 = .ok (.getfield 203, 3) := by decide +kernel
theorem d_M_find_5 : decode prog_6_method_45_code 5 = .ok (.ifCond .ne 7, 3) := by decide +kernel
theorem d_M_find_12 : decode prog_6_method_45_code 12 = .ok (.iload_n 1, 1) := by decide +kernel
theorem d_M_find_13 : decode prog_6_method_45_code 13 = .ok (.ifCond .lt 11, 3) := by decide +kernel
theorem d_M_find_16 : decode prog_6_method_45_code 16 = .ok (.iload_n 1, 1) := by decide +kernel
theorem d_M_find_17 : decode prog_6_method_45_code 17 = .ok (.aload_n 0, 1) := by decide +kernel
theorem d_M_find_18 : decode prog_6_method_45_code 18 = .ok (.invokevirtual 123, 3) := by decide +kernel
theorem d_M_find_21 : decode prog_6_method_45_code 21 = .ok (.if_icmp .le 7, 3) := by decide +kernel
theorem d_M_find_28 : decode prog_6_method_45_code 28 = .ok (.iconst 0, 1) := by decide +kernel
theorem d_M_find_8 : decode prog_6_method_45_code 8 = .ok (.iconst 1, 1) := by decide +kernel
theorem d_M_find_9 : decode prog_6_method_45_code 9 = .ok (.goto 20, 3) := by decide +kernel
theorem d_M_find_24 : decode prog_6_method_45_code 24 = .ok (.iconst 2, 1) := by decide +kernel
theorem d_M_find_25 : decode prog_6_method_45_code 25 = .ok (.goto 4, 3) := by decide +kernel
theorem d_M_find_29 : decode prog_6_method_45_code 29 = .ok (.putfield 82, 3) := by decide +kernel
theorem d_M_find_32 : decode prog_6_method_45_code 32 = .ok (.aload_n 0, 1) := by decide +kernel
theorem d_M_find_33 : decode prog_6_method_45_code 33 = .ok (.getfield 82, 3) := by decide +kernel
theorem d_M_find_36 : decode prog_6_method_45_code 36 = .ok (.ifCond .ne 16, 3) := by decide +kernel
theorem d_M_find_39 : decode prog_6_method_45_code 39 = .ok (.aload_n 0, 1) := by decide +kernel
theorem d_M_find_40 : decode prog_6_method_45_code 40 = .ok (.iload_n 1, 1) := by decide +kernel
theorem d_M_find_41 : decode prog_6_method_45_code 41 = .ok (.invokevirtual 235, 3) := by decide +kernel
theorem d_M_look_0 : decode prog_6_method_44_code 0 = .ok (.aload_n 0, 1) := by decide +kernel
theorem d_M_look_1 : decode prog_6_method_44_code 1 = .ok (.iconst (-1), 1) := by decide +kernel
theorem d_M_look_2 : decode prog_6_method_44_code 2 = .ok (.putfield 226, 3) := by decide +kernel
theorem d_M_look_5 : decode prog_6_method_44_code 5 = .ok (.iload_n 1, 1) := by decide +kernel
theorem d_M_look_6 : decode prog_6_method_44_code 6 = .ok (.istore_n 2, 1) := by decide +kernel
theorem d_M_look_7 : decode prog_6_method_44_code 7 = .ok (.iload_n 2, 1) := by decide +kernel
theorem d_M_look_8 : decode prog_6_method_44_code 8 = .ok (.aload_n 0, 1) := by decide +kernel
theorem d_M_look_9 : decode prog_6_method_44_code 9 = .ok (.invokevirtual 123, 3) := by decide +kernel
theorem d_M_look_12 : decode prog_6_method_44_code 12 = .ok (.if_icmp .gt 30, 3) := by decide +kernel
theorem d_M_look_15 : decode prog_6_method_44_code 15 = .ok (.aload_n 0, 1) := by decide +kernel
theorem d_M_look_16 : decode prog_6_method_44_code 16 = .ok (.getfield 226, 3) := by decide +kernel
theorem d_M_look_19 : decode prog_6_method_44_code 19 = .ok (.ifCond .ge 23, 3) := by decide +kernel
theorem d_M_look_22 : decode prog_6_method_44_code 22 = .ok (.aload_n 0, 1) := by decide +kernel
theorem d_M_look_23 : decode prog_6_method_44_code 23 = .ok (.iload_n 2, 1) := by decide +kernel
theorem d_M_look_24 : decode prog_6_method_44_code 24 = .ok (.putfield 229, 3) := by decide +kernel
theorem d_M_look_27 : decode prog_6_method_44_code 27 = .ok (.aload_n 0, 1) := by decide +kernel
theorem d_M_look_28 : decode prog_6_method_44_code 28 = .ok (.aload_n 0, 1) := by decide +kernel
theorem d_M_look_29 : decode prog_6_method_44_code 29 = .ok (.iload_n 2, 1) := by decide +kernel
theorem d_M_look_30 : decode prog_6_method_44_code 30 = .ok (.invokevirtual 232, 3) := by decide +kernel
theorem d_M_longest_0 : decode prog_6_method_43_code 0 = .ok (.iconst 0, 1) := by decide +kernel
theorem d_M_longest_1 : decode prog_6_method_43_code 1 = .ok (.istore_n 2, 1) := by decide +kernel
theorem d_M_longest_2 : decode prog_6_method_43_code 2 = .ok (.iload_n 2, 1) := by decide +kernel
theorem d_M_longest_3 : decode prog_6_method_43_code 3 = .ok (.aload_n 0, 1) := by decide +kernel
theorem d_M_longest_4 : decode prog_6_method_43_code 4 = .ok (.getfield 142, 3) := by decide +kernel
theorem d_M_longest_7 : decode prog_6_method_43_code 7 = .ok (.if_icmp .ge 28, 3) := by decide +kernel
theorem d_M_longest_35 : decode prog_6_method_43_code 35 = .ok (.iconst (-1), 1) := by decide +kernel
theorem d_M_longest_36 : decode prog_6_method_43_code 36 = .ok (.istore_n 2, 1) := by decide +kernel
theorem d_M_longest_37 : decode prog_6_method_43_code 37 = .ok (.iload_n 1, 1) := by decide +kernel
theorem d_M_longest_38 : decode prog_6_method_43_code 38 = .ok (.istore_n 3, 1) := by decide +kernel
theorem d_M_longest_39 : decode prog_6_method_43_code 39 = .ok (.iconst 1, 1) := by decide +kernel
theorem d_M_longest_40 : decode prog_6_method_43_code 40 = .ok (.istore 4, 2) := by decide +kernel
theorem d_M_longest_10 : decode prog_6_method_43_code 10 = .ok (.aload_n 0, 1) := by decide +kernel
theorem d_M_longest_11 : decode prog_6_method_43_code 11 = .ok (.getfield 72, 3) := by decide +kernel
theorem d_M_longest_14 : decode prog_6_method_43_code 14 = .ok (.iload_n 2, 1) := by decide +kernel
theorem d_M_longest_15 : decode prog_6_method_43_code 15 = .ok (.iload_n 2, 1) := by decide +kernel
theorem d_M_longest_16 : decode prog_6_method_43_code 16 = .ok (.aload_n 0, 1) := by decide +kernel
theorem d_M_longest_17 : decode prog_6_method_43_code 17 = .ok (.getfield 197, 3) := by decide +kernel
theorem d_M_longest_20 : decode prog_6_method_43_code 20 = .ok (.if_icmp .ne 7, 3) := by decide +kernel
theorem d_M_longest_27 : decode prog_6_method_43_code 27 = .ok (.iconst 0, 1) := by decide +kernel
theorem d_M_longest_23 : decode prog_6_method_43_code 23 = .ok (.iconst 1, 1) := by decide +kernel
theorem d_M_longest_24 : decode prog_6_method_43_code 24 = .ok (.goto 4, 3) := by decide +kernel
theorem d_M_longest_42 : decode prog_6_method_43_code 42 = .ok (.iload 4, 2) := by decide +kernel
theorem d_M_longest_44 : decode prog_6_method_43_code 44 = .ok (.ifCond .eq 164, 3) := by decide +kernel
theorem d_M_longest_208 : decode prog_6_method_43_code 208 = .ok (.iload_n 2, 1) := by decide +kernel
theorem d_M_longest_209 : decode prog_6_method_43_code 209 = .ok (.ireturn, 1) := by decide +kernel
theorem d_M_longest_47 : decode prog_6_method_43_code 47 = .ok (.aload_n 0, 1) := by decide +kernel
theorem d_M_longest_48 : decode prog_6_method_43_code 48 = .ok (.iload_n 3, 1) := by decide +kernel
theorem d_M_longest_49 : decode prog_6_method_43_code 49 = .ok (.invokevirtual 219, 3) := by decide +kernel
theorem d_M_spread_0 : decode prog_6_method_41_code 0 = .ok (.iconst 1, 1) := by decide +kernel
theorem d_M_spread_1 : decode prog_6_method_41_code 1 = .ok (.istore_n 2, 1) := by decide +kernel
theorem d_M_spread_2 : decode prog_6_method_41_code 2 = .ok (.iload_n 2, 1) := by decide +kernel
theorem d_M_spread_3 : decode prog_6_method_41_code 3 = .ok (.ifCond .eq 88, 3) := by decide +kernel
theorem d_M_spread_91 : decode prog_6_method_41_code 91 = .ok (.return_, 1) := by decide +kernel
theorem d_M_spread_6 : decode prog_6_method_41_code 6 = .ok (.iconst 0, 1) := by decide +kernel
theorem d_M_spread_7 : decode prog_6_method_41_code 7 = .ok (.istore_n 2, 1) := by decide +kernel
theorem d_M_spread_8 : decode prog_6_method_41_code 8 = .ok (.iconst 0, 1) := by decide +kernel
theorem d_M_spread_9 : decode prog_6_method_41_code 9 = .ok (.istore_n 3, 1) := by decide +kernel
theorem d_M_spread_10 : decode prog_6_method_41_code 10 = .ok (.iload_n 3, 1) := by decide +kernel
theorem d_M_spread_11 : decode prog_6_method_41_code 11 = .ok (.aload_n 0, 1) := by decide +kernel
theorem d_M_spread_12 : decode prog_6_method_41_code 12 = .ok (.getfield 142, 3) := by decide +kernel
theorem d_M_spread_15 : decode prog_6_method_41_code 15 = .ok (.if_icmp .ge 73, 3) := by decide +kernel
theorem d_M_spread_88 : decode prog_6_method_41_code 88 = .ok (.goto (-86), 3) := by decide +kernel
theorem d_M_spread_18 : decode prog_6_method_41_code 18 = .ok (.aload_n 0, 1) := by decide +kernel
theorem d_M_spread_19 : decode prog_6_method_41_code 19 = .ok (.getfield 72, 3) := by decide +kernel
theorem d_M_spread_22 : decode prog_6_method_41_code 22 = .ok (.iload_n 3, 1) := by decide +kernel
theorem d_M_spread_23 : decode prog_6_method_41_code 23 = .ok (.baload, 1) := by decide +kernel
theorem d_M_spread_24 : decode prog_6_method_41_code 24 = .ok (.ifCond .eq 58, 3) := by decide +kernel
theorem d_M_spread_27 : decode prog_6_method_41_code 27 = .ok (.aload_n 0, 1) := by decide +kernel
theorem d_M_spread_28 : decode prog_6_method_41_code 28 = .ok (.iload_n 3, 1) := by decide +kernel
theorem d_M_spread_29 : decode prog_6_method_41_code 29 = .ok (.iload_n 1, 1) := by decide +kernel
theorem d_M_spread_30 : decode prog_6_method_41_code 30 = .ok (.invokevirtual 211, 3) := by decide +kernel
theorem d_M_passes_0 : decode prog_6_method_40_code 0 = .ok (.iload_n 2, 1) := by decide +kernel
theorem d_M_passes_1 : decode prog_6_method_40_code 1 = .ok (.ifCond .eq 15, 3) := by decide +kernel
theorem d_M_passes_4 : decode prog_6_method_40_code 4 = .ok (.aload_n 0, 1) := by decide +kernel
theorem d_M_passes_5 : decode prog_6_method_40_code 5 = .ok (.iload_n 2, 1) := by decide +kernel
theorem d_M_passes_6 : decode prog_6_method_40_code 6 = .ok (.iconst 1, 1) := by decide +kernel
theorem d_M_passes_7 : decode prog_6_method_40_code 7 = .ok (.isub, 1) := by decide +kernel
theorem d_M_passes_8 : decode prog_6_method_40_code 8 = .ok (.invokevirtual 104, 3) := by decide +kernel
theorem d_M_passes_11 : decode prog_6_method_40_code 11 = .ok (.bipush 10, 2) := by decide +kernel
theorem d_M_passes_13 : decode prog_6_method_40_code 13 = .ok (.if_icmp .ne 7, 3) := by decide +kernel
