theorem d_D_insert_48 : decode prog_1_method_4_code 48 = .ok (.iload_n 2, 1) := by decide +kernel
theorem d_D_insert_49 : decode prog_1_method_4_code 49 = .ok (.if_icmp .lt 10, 3) := by decide +kernel
theorem d_D_insert_52 : decode prog_1_method_4_code 52 = .ok (.aload_n 0, 1) := by decide +kernel
theorem d_D_insert_53 : decode prog_1_method_4_code 53 = .ok (.getfield 56, 3) := by decide +kernel
theorem d_D_insert_56 : decode prog_1_method_4_code 56 = .ok (.ifCond .le 18, 3) := by decide +kernel
theorem d_D_insert_74 : decode prog_1_method_4_code 74 = .ok (.aload_n 0, 1) := by decide +kernel
theorem d_D_insert_75 : decode prog_1_method_4_code 75 = .ok (.getfield 73, 3) := by decide +kernel
theorem d_D_insert_78 : decode prog_1_method_4_code 78 = .ok (.ireturn, 1) := by decide +kernel
theorem d_L_insert_6 : decode method_3_code 6 = .ok (.i2l, 1) := by decide +kernel
theorem d_L_insert_7 : decode method_3_code 7 = .ok (.lastore, 1) := by decide +kernel
theorem d_L_insert_8 : decode method_3_code 8 = .ok (.goto 6, 3) := by decide +kernel
theorem d_L_insert_14 : decode method_3_code 14 = .ok (.iconst 0, 1) := by decide +kernel
theorem d_L_insert_15 : decode method_3_code 15 = .ok (.ireturn, 1) := by decide +kernel
theorem d_L_law_165 : decode code 165 = .ok (.istore 5, 2) := by decide +kernel
theorem d_L_law_167 : decode code 167 = .ok (.aload_n 2, 1) := by decide +kernel
theorem d_L_law_168 : decode code 168 = .ok (.invokevirtual 80, 3) := by decide +kernel
theorem d_M_insert_0 : decode prog_6_method_15_code 0 = .ok (.aload_n 0, 1) := by decide +kernel
theorem d_M_insert_1 : decode prog_6_method_15_code 1 = .ok (.invokevirtual 116, 3) := by decide +kernel
theorem d_M_low_0 : decode prog_6_method_13_code 0 = .ok (.aload_n 0, 1) := by decide +kernel
theorem d_M_low_1 : decode prog_6_method_13_code 1 = .ok (.getfield 33, 3) := by decide +kernel
theorem d_M_low_4 : decode prog_6_method_13_code 4 = .ok (.ifCond .lt 21, 3) := by decide +kernel
theorem d_M_low_25 : decode prog_6_method_13_code 25 = .ok (.aload_n 0, 1) := by decide +kernel
theorem d_M_low_26 : decode prog_6_method_13_code 26 = .ok (.getfield 95, 3) := by decide +kernel
theorem d_M_low_29 : decode prog_6_method_13_code 29 = .ok (.ireturn, 1) := by decide +kernel
theorem d_M_insert_4 : decode prog_6_method_15_code 4 = .ok (.istore_n 1, 1) := by decide +kernel
theorem d_M_insert_5 : decode prog_6_method_15_code 5 = .ok (.aload_n 0, 1) := by decide +kernel
theorem d_M_insert_6 : decode prog_6_method_15_code 6 = .ok (.invokevirtual 120, 3) := by decide +kernel
theorem d_M_high_0 : decode prog_6_method_14_code 0 = .ok (.aload_n 0, 1) := by decide +kernel
theorem d_M_high_1 : decode prog_6_method_14_code 1 = .ok (.getfield 33, 3) := by decide +kernel
theorem d_M_high_4 : decode prog_6_method_14_code 4 = .ok (.aload_n 0, 1) := by decide +kernel
theorem d_M_high_5 : decode prog_6_method_14_code 5 = .ok (.getfield 95, 3) := by decide +kernel
theorem d_M_high_8 : decode prog_6_method_14_code 8 = .ok (.if_icmp .le 10, 3) := by decide +kernel
theorem d_M_high_18 : decode prog_6_method_14_code 18 = .ok (.aload_n 0, 1) := by decide +kernel
theorem d_M_high_19 : decode prog_6_method_14_code 19 = .ok (.getfield 95, 3) := by decide +kernel
theorem d_M_high_22 : decode prog_6_method_14_code 22 = .ok (.ireturn, 1) := by decide +kernel
theorem d_M_insert_9 : decode prog_6_method_15_code 9 = .ok (.istore_n 2, 1) := by decide +kernel
theorem d_M_insert_10 : decode prog_6_method_15_code 10 = .ok (.iload_n 2, 1) := by decide +kernel
theorem d_M_insert_11 : decode prog_6_method_15_code 11 = .ok (.iload_n 1, 1) := by decide +kernel
theorem d_M_insert_12 : decode prog_6_method_15_code 12 = .ok (.if_icmp .gt 10, 3) := by decide +kernel
theorem d_M_insert_15 : decode prog_6_method_15_code 15 = .ok (.aload_n 0, 1) := by decide +kernel
theorem d_M_insert_16 : decode prog_6_method_15_code 16 = .ok (.getfield 89, 3) := by decide +kernel
theorem d_M_insert_19 : decode prog_6_method_15_code 19 = .ok (.ifCond .le 7, 3) := by decide +kernel
theorem d_M_insert_26 : decode prog_6_method_15_code 26 = .ok (.iconst 0, 1) := by decide +kernel
theorem d_M_insert_27 : decode prog_6_method_15_code 27 = .ok (.istore_n 3, 1) := by decide +kernel
theorem d_M_insert_28 : decode prog_6_method_15_code 28 = .ok (.aload_n 0, 1) := by decide +kernel
theorem d_M_insert_29 : decode prog_6_method_15_code 29 = .ok (.iload_n 3, 1) := by decide +kernel
theorem d_M_insert_30 : decode prog_6_method_15_code 30 = .ok (.ifCond .eq 35, 3) := by decide +kernel
theorem d_M_insert_65 : decode prog_6_method_15_code 65 = .ok (.iconst 0, 1) := by decide +kernel
theorem d_M_insert_66 : decode prog_6_method_15_code 66 = .ok (.putfield 82, 3) := by decide +kernel
theorem d_M_insert_69 : decode prog_6_method_15_code 69 = .ok (.aload_n 0, 1) := by decide +kernel
theorem d_M_insert_70 : decode prog_6_method_15_code 70 = .ok (.getfield 82, 3) := by decide +kernel
theorem d_M_insert_73 : decode prog_6_method_15_code 73 = .ok (.ifCond .le 5, 3) := by decide +kernel
theorem d_M_insert_78 : decode prog_6_method_15_code 78 = .ok (.iload_n 3, 1) := by decide +kernel
theorem d_M_insert_79 : decode prog_6_method_15_code 79 = .ok (.ifCond .eq 39, 3) := by decide +kernel
theorem d_M_insert_118 : decode prog_6_method_15_code 118 = .ok (.aload_n 0, 1) := by decide +kernel
theorem d_M_insert_119 : decode prog_6_method_15_code 119 = .ok (.iconst 0, 1) := by decide +kernel
theorem d_M_insert_120 : decode prog_6_method_15_code 120 = .ok (.putfield 89, 3) := by decide +kernel
theorem d_M_insert_123 : decode prog_6_method_15_code 123 = .ok (.aload_n 0, 1) := by decide +kernel
theorem d_M_insert_124 : decode prog_6_method_15_code 124 = .ok (.getfield 92, 3) := by decide +kernel
theorem d_M_insert_127 : decode prog_6_method_15_code 127 = .ok (.ireturn, 1) := by decide +kernel
theorem d_L_law_171 : decode code 171 = .ok (.istore 6, 2) := by decide +kernel
theorem d_L_law_173 : decode code 173 = .ok (.aload_n 2, 1) := by decide +kernel
theorem d_L_law_174 : decode code 174 = .ok (.invokevirtual 81, 3) := by decide +kernel
theorem d_M_thrown_0 : decode prog_6_method_2_code 0 = .ok (.aload_n 0, 1) := by decide +kernel
theorem d_M_thrown_1 : decode prog_6_method_2_code 1 = .ok (.getfield 82, 3) := by decide +kernel
theorem d_M_thrown_4 : decode prog_6_method_2_code 4 = .ok (.ireturn, 1) := by decide +kernel
theorem d_L_law_177 : decode code 177 = .ok (.iload 5, 2) := by decide +kernel
theorem d_L_law_179 : decode code 179 = .ok (.if_icmp .eq 5, 3) := by decide +kernel
theorem d_L_law_184 : decode code 184 = .ok (.iload 5, 2) := by decide +kernel
theorem d_L_law_186 : decode code 186 = .ok (.ifCond .ne 15, 3) := by decide +kernel
theorem d_L_law_189 : decode code 189 = .ok (.aload_n 3, 1) := by decide +kernel
theorem d_L_law_190 : decode code 190 = .ok (.iconst 0, 1) := by decide +kernel
theorem d_L_law_191 : decode code 191 = .ok (.laload, 1) := by decide +kernel
theorem d_L_law_192 : decode code 192 = .ok (.iload 6, 2) := by decide +kernel
theorem d_L_law_194 : decode code 194 = .ok (.i2l, 1) := by decide +kernel
theorem d_L_law_195 : decode code 195 = .ok (.lcmp, 1) := by decide +kernel
theorem d_L_law_196 : decode code 196 = .ok (.ifCond .eq 5, 3) := by decide +kernel
theorem d_L_law_201 : decode code 201 = .ok (.goto 633, 3) := by decide +kernel
theorem d_L_law_204 : decode code 204 = .ok (.aload_n 1, 1) := by decide +kernel
theorem d_L_law_205 : decode code 205 = .ok (.aload_n 0, 1) := by decide +kernel
theorem d_L_law_206 : decode code 206 = .ok (.iload 4, 2) := by decide +kernel
theorem d_L_law_208 : decode code 208 = .ok (.iconst 1, 1) := by decide +kernel
theorem d_L_law_209 : decode code 209 = .ok (.iadd, 1) := by decide +kernel
theorem d_L_law_210 : decode code 210 = .ok (.iaload, 1) := by decide +kernel
theorem d_L_law_211 : decode code 211 = .ok (.aload_n 3, 1) := by decide +kernel
theorem d_L_law_212 : decode code 212 = .ok (.invokestatic 84, 3) := by decide +kernel
theorem d_L_erase_0 : decode method_4_code 0 = .ok (.aload_n 2, 1) := by decide +kernel
theorem d_L_erase_1 : decode method_4_code 1 = .ok (.iconst 0, 1) := by decide +kernel
theorem d_L_erase_2 : decode method_4_code 2 = .ok (.aload_n 0, 1) := by decide +kernel
theorem d_L_erase_3 : decode method_4_code 3 = .ok (.iload_n 1, 1) := by decide +kernel
theorem d_L_erase_4 : decode method_4_code 4 = .ok (.invokevirtual 15, 3) := by decide +kernel
theorem d_D_erase_0 : decode prog_1_method_5_code 0 = .ok (.aload_n 0, 1) := by decide +kernel
theorem d_D_erase_1 : decode prog_1_method_5_code 1 = .ok (.invokevirtual 59, 3) := by decide +kernel
theorem d_D_erase_4 : decode prog_1_method_5_code 4 = .ok (.istore_n 2, 1) := by decide +kernel
theorem d_D_erase_5 : decode prog_1_method_5_code 5 = .ok (.aload_n 0, 1) := by decide +kernel
theorem d_D_erase_6 : decode prog_1_method_5_code 6 = .ok (.invokevirtual 63, 3) := by decide +kernel
theorem d_D_erase_9 : decode prog_1_method_5_code 9 = .ok (.istore_n 3, 1) := by decide +kernel
theorem d_D_erase_10 : decode prog_1_method_5_code 10 = .ok (.iload_n 2, 1) := by decide +kernel
theorem d_D_erase_11 : decode prog_1_method_5_code 11 = .ok (.iload_n 3, 1) := by decide +kernel
theorem d_D_erase_12 : decode prog_1_method_5_code 12 = .ok (.if_icmp .ne 21, 3) := by decide +kernel
theorem d_D_erase_15 : decode prog_1_method_5_code 15 = .ok (.iload_n 1, 1) := by decide +kernel
theorem d_D_erase_16 : decode prog_1_method_5_code 16 = .ok (.ifCond .ge 17, 3) := by decide +kernel
theorem d_D_erase_19 : decode prog_1_method_5_code 19 = .ok (.iconst 0, 1) := by decide +kernel
theorem d_D_erase_20 : decode prog_1_method_5_code 20 = .ok (.aload_n 0, 1) := by decide +kernel
theorem d_D_erase_21 : decode prog_1_method_5_code 21 = .ok (.getfield 76, 3) := by decide +kernel
theorem d_D_erase_24 : decode prog_1_method_5_code 24 = .ok (.iload_n 1, 1) := by decide +kernel
theorem d_D_erase_25 : decode prog_1_method_5_code 25 = .ok (.iadd, 1) := by decide +kernel
theorem d_D_erase_26 : decode prog_1_method_5_code 26 = .ok (.invokestatic 79, 3) := by decide +kernel
theorem d_D_erase_29 : decode prog_1_method_5_code 29 = .ok (.istore_n 2, 1) := by decide +kernel
theorem d_D_erase_30 : decode prog_1_method_5_code 30 = .ok (.goto 28, 3) := by decide +kernel
theorem d_D_erase_58 : decode prog_1_method_5_code 58 = .ok (.iload_n 2, 1) := by decide +kernel
theorem d_D_erase_59 : decode prog_1_method_5_code 59 = .ok (.iload_n 3, 1) := by decide +kernel
theorem d_D_erase_60 : decode prog_1_method_5_code 60 = .ok (.if_icmp .ge 27, 3) := by decide +kernel
theorem d_D_erase_87 : decode prog_1_method_5_code 87 = .ok (.iload_n 3, 1) := by decide +kernel
theorem d_D_erase_88 : decode prog_1_method_5_code 88 = .ok (.iload_n 2, 1) := by decide +kernel
theorem d_D_erase_89 : decode prog_1_method_5_code 89 = .ok (.isub, 1) := by decide +kernel
theorem d_D_erase_90 : decode prog_1_method_5_code 90 = .ok (.ireturn, 1) := by decide +kernel
theorem d_L_erase_7 : decode method_4_code 7 = .ok (.i2l, 1) := by decide +kernel
theorem d_L_erase_8 : decode method_4_code 8 = .ok (.lastore, 1) := by decide +kernel
theorem d_L_erase_9 : decode method_4_code 9 = .ok (.goto 6, 3) := by decide +kernel
theorem d_L_erase_15 : decode method_4_code 15 = .ok (.iconst 0, 1) := by decide +kernel
theorem d_L_erase_16 : decode method_4_code 16 = .ok (.ireturn, 1) := by decide +kernel
theorem d_L_law_215 : decode code 215 = .ok (.istore 5, 2) := by decide +kernel
theorem d_L_law_217 : decode code 217 = .ok (.aload_n 2, 1) := by decide +kernel
theorem d_L_law_218 : decode code 218 = .ok (.aload_n 0, 1) := by decide +kernel
theorem d_L_law_219 : decode code 219 = .ok (.iload 4, 2) := by decide +kernel
theorem d_L_law_221 : decode code 221 = .ok (.iconst 1, 1) := by decide +kernel
theorem d_L_law_222 : decode code 222 = .ok (.iadd, 1) := by decide +kernel
theorem d_L_law_223 : decode code 223 = .ok (.iaload, 1) := by decide +kernel
theorem d_L_law_224 : decode code 224 = .ok (.invokevirtual 87, 3) := by decide +kernel
theorem d_M_erase_0 : decode prog_6_method_16_code 0 = .ok (.aload_n 0, 1) := by decide +kernel
theorem d_M_erase_1 : decode prog_6_method_16_code 1 = .ok (.invokevirtual 116, 3) := by decide +kernel
theorem d_M_erase_4 : decode prog_6_method_16_code 4 = .ok (.istore_n 2, 1) := by decide +kernel
theorem d_M_erase_5 : decode prog_6_method_16_code 5 = .ok (.aload_n 0, 1) := by decide +kernel
theorem d_M_erase_6 : decode prog_6_method_16_code 6 = .ok (.invokevirtual 120, 3) := by decide +kernel
theorem d_M_erase_9 : decode prog_6_method_16_code 9 = .ok (.istore_n 3, 1) := by decide +kernel
theorem d_M_erase_10 : decode prog_6_method_16_code 10 = .ok (.iload_n 2, 1) := by decide +kernel
theorem d_M_erase_11 : decode prog_6_method_16_code 11 = .ok (.iload_n 3, 1) := by decide +kernel
theorem d_M_erase_12 : decode prog_6_method_16_code 12 = .ok (.if_icmp .ne 76, 3) := by decide +kernel
theorem d_M_erase_15 : decode prog_6_method_16_code 15 = .ok (.aload_n 0, 1) := by decide +kernel
theorem d_M_erase_16 : decode prog_6_method_16_code 16 = .ok (.invokevirtual 123, 3) := by decide +kernel
theorem d_M_textLength_0 : decode prog_6_method_7_code 0 = .ok (.aload_n 0, 1) := by decide +kernel
theorem d_M_textLength_1 : decode prog_6_method_7_code 1 = .ok (.getfield 20, 3) := by decide +kernel
theorem d_M_textLength_4 : decode prog_6_method_7_code 4 = .ok (.aload_n 0, 1) := by decide +kernel
theorem d_M_textLength_5 : decode prog_6_method_7_code 5 = .ok (.getfield 92, 3) := by decide +kernel
theorem d_M_textLength_8 : decode prog_6_method_7_code 8 = .ok (.iaload, 1) := by decide +kernel
theorem d_M_textLength_9 : decode prog_6_method_7_code 9 = .ok (.ireturn, 1) := by decide +kernel
theorem d_M_erase_19 : decode prog_6_method_16_code 19 = .ok (.aload_n 0, 1) := by decide +kernel
theorem d_M_erase_20 : decode prog_6_method_16_code 20 = .ok (.getfield 95, 3) := by decide +kernel
theorem d_M_erase_23 : decode prog_6_method_16_code 23 = .ok (.isub, 1) := by decide +kernel
theorem d_M_erase_24 : decode prog_6_method_16_code 24 = .ok (.istore 4, 2) := by decide +kernel
theorem d_M_erase_26 : decode prog_6_method_16_code 26 = .ok (.iload_n 1, 1) := by decide +kernel
theorem d_M_erase_27 : decode prog_6_method_16_code 27 = .ok (.ifCond .lt 10, 3) := by decide +kernel
theorem d_M_erase_37 : decode prog_6_method_16_code 37 = .ok (.iload_n 1, 1) := by decide +kernel
theorem d_M_erase_38 : decode prog_6_method_16_code 38 = .ok (.aload_n 0, 1) := by decide +kernel
theorem d_M_erase_39 : decode prog_6_method_16_code 39 = .ok (.getfield 95, 3) := by decide +kernel
theorem d_M_erase_42 : decode prog_6_method_16_code 42 = .ok (.ineg, 1) := by decide +kernel
theorem d_M_erase_43 : decode prog_6_method_16_code 43 = .ok (.if_icmp .ge 7, 3) := by decide +kernel
theorem d_M_erase_46 : decode prog_6_method_16_code 46 = .ok (.iconst 0, 1) := by decide +kernel
theorem d_M_erase_47 : decode prog_6_method_16_code 47 = .ok (.goto 9, 3) := by decide +kernel
theorem d_M_erase_56 : decode prog_6_method_16_code 56 = .ok (.istore_n 2, 1) := by decide +kernel
theorem d_M_erase_57 : decode prog_6_method_16_code 57 = .ok (.iload_n 1, 1) := by decide +kernel
theorem d_M_erase_58 : decode prog_6_method_16_code 58 = .ok (.ifCond .ge 10, 3) := by decide +kernel
theorem d_M_erase_61 : decode prog_6_method_16_code 61 = .ok (.aload_n 0, 1) := by decide +kernel
theorem d_M_erase_62 : decode prog_6_method_16_code 62 = .ok (.getfield 95, 3) := by decide +kernel
theorem d_M_erase_65 : decode prog_6_method_16_code 65 = .ok (.goto 22, 3) := by decide +kernel
theorem d_M_erase_87 : decode prog_6_method_16_code 87 = .ok (.istore_n 3, 1) := by decide +kernel
theorem d_M_erase_88 : decode prog_6_method_16_code 88 = .ok (.aload_n 0, 1) := by decide +kernel
theorem d_M_erase_89 : decode prog_6_method_16_code 89 = .ok (.iload_n 3, 1) := by decide +kernel
theorem d_M_erase_90 : decode prog_6_method_16_code 90 = .ok (.iload_n 2, 1) := by decide +kernel
theorem d_M_erase_91 : decode prog_6_method_16_code 91 = .ok (.if_icmp .le 16, 3) := by decide +kernel
theorem d_M_erase_107 : decode prog_6_method_16_code 107 = .ok (.iconst 0, 1) := by decide +kernel
theorem d_M_erase_108 : decode prog_6_method_16_code 108 = .ok (.putfield 82, 3) := by decide +kernel
theorem d_M_erase_111 : decode prog_6_method_16_code 111 = .ok (.aload_n 0, 1) := by decide +kernel
theorem d_M_erase_112 : decode prog_6_method_16_code 112 = .ok (.getfield 82, 3) := by decide +kernel
theorem d_M_erase_115 : decode prog_6_method_16_code 115 = .ok (.ifCond .gt 8, 3) := by decide +kernel
theorem d_M_erase_118 : decode prog_6_method_16_code 118 = .ok (.iload_n 2, 1) := by decide +kernel
theorem d_M_erase_119 : decode prog_6_method_16_code 119 = .ok (.iload_n 3, 1) := by decide +kernel
theorem d_M_erase_120 : decode prog_6_method_16_code 120 = .ok (.if_icmp .ne 5, 3) := by decide +kernel
theorem d_M_erase_123 : decode prog_6_method_16_code 123 = .ok (.iconst 0, 1) := by decide +kernel
theorem d_M_erase_124 : decode prog_6_method_16_code 124 = .ok (.ireturn, 1) := by decide +kernel
theorem d_L_law_227 : decode code 227 = .ok (.istore 6, 2) := by decide +kernel
theorem d_L_law_229 : decode code 229 = .ok (.aload_n 2, 1) := by decide +kernel
theorem d_L_law_230 : decode code 230 = .ok (.invokevirtual 81, 3) := by decide +kernel
theorem d_L_law_233 : decode code 233 = .ok (.iload 5, 2) := by decide +kernel
theorem d_L_law_235 : decode code 235 = .ok (.if_icmp .eq 5, 3) := by decide +kernel
theorem d_L_law_240 : decode code 240 = .ok (.iload 5, 2) := by decide +kernel
theorem d_L_law_242 : decode code 242 = .ok (.ifCond .ne 15, 3) := by decide +kernel
theorem d_L_law_245 : decode code 245 = .ok (.aload_n 3, 1) := by decide +kernel
theorem d_L_law_246 : decode code 246 = .ok (.iconst 0, 1) := by decide +kernel
theorem d_L_law_247 : decode code 247 = .ok (.laload, 1) := by decide +kernel
theorem d_L_law_248 : decode code 248 = .ok (.iload 6, 2) := by decide +kernel
theorem d_L_law_250 : decode code 250 = .ok (.i2l, 1) := by decide +kernel
theorem d_L_law_251 : decode code 251 = .ok (.lcmp, 1) := by decide +kernel
theorem d_L_law_252 : decode code 252 = .ok (.ifCond .eq 5, 3) := by decide +kernel
theorem d_L_law_257 : decode code 257 = .ok (.goto 577, 3) := by decide +kernel
theorem d_D_erase_33 : decode prog_1_method_5_code 33 = .ok (.iload_n 2, 1) := by decide +kernel
theorem d_D_erase_34 : decode prog_1_method_5_code 34 = .ok (.iload_n 3, 1) := by decide +kernel
theorem d_D_erase_35 : decode prog_1_method_5_code 35 = .ok (.if_icmp .ne 23, 3) := by decide +kernel
theorem d_D_erase_38 : decode prog_1_method_5_code 38 = .ok (.aload_n 0, 1) := by decide +kernel
theorem d_D_erase_39 : decode prog_1_method_5_code 39 = .ok (.getfield 76, 3) := by decide +kernel
theorem d_D_erase_42 : decode prog_1_method_5_code 42 = .ok (.iload_n 1, 1) := by decide +kernel
theorem d_D_erase_43 : decode prog_1_method_5_code 43 = .ok (.aload_n 0, 1) := by decide +kernel
theorem d_D_erase_44 : decode prog_1_method_5_code 44 = .ok (.getfield 19, 3) := by decide +kernel
theorem d_D_erase_47 : decode prog_1_method_5_code 47 = .ok (.arraylength, 1) := by decide +kernel
theorem d_D_erase_48 : decode prog_1_method_5_code 48 = .ok (.aload_n 0, 1) := by decide +kernel
theorem d_D_erase_49 : decode prog_1_method_5_code 49 = .ok (.getfield 76, 3) := by decide +kernel
theorem d_D_erase_52 : decode prog_1_method_5_code 52 = .ok (.isub, 1) := by decide +kernel
theorem d_D_erase_53 : decode prog_1_method_5_code 53 = .ok (.invokestatic 85, 3) := by decide +kernel
theorem d_D_erase_56 : decode prog_1_method_5_code 56 = .ok (.iadd, 1) := by decide +kernel
theorem d_D_erase_57 : decode prog_1_method_5_code 57 = .ok (.istore_n 3, 1) := by decide +kernel
theorem d_M_erase_30 : decode prog_6_method_16_code 30 = .ok (.aload_n 0, 1) := by decide +kernel
theorem d_M_erase_31 : decode prog_6_method_16_code 31 = .ok (.getfield 95, 3) := by decide +kernel
theorem d_M_erase_34 : decode prog_6_method_16_code 34 = .ok (.goto 22, 3) := by decide +kernel
theorem d_M_erase_68 : decode prog_6_method_16_code 68 = .ok (.iload_n 1, 1) := by decide +kernel
theorem d_M_erase_69 : decode prog_6_method_16_code 69 = .ok (.iload 4, 2) := by decide +kernel
theorem d_M_erase_71 : decode prog_6_method_16_code 71 = .ok (.if_icmp .le 10, 3) := by decide +kernel
theorem d_M_erase_74 : decode prog_6_method_16_code 74 = .ok (.aload_n 0, 1) := by decide +kernel
theorem d_M_erase_75 : decode prog_6_method_16_code 75 = .ok (.invokevirtual 123, 3) := by decide +kernel
theorem d_M_erase_78 : decode prog_6_method_16_code 78 = .ok (.goto 9, 3) := by decide +kernel
theorem d_M_erase_81 : decode prog_6_method_16_code 81 = .ok (.aload_n 0, 1) := by decide +kernel
theorem d_M_erase_82 : decode prog_6_method_16_code 82 = .ok (.getfield 95, 3) := by decide +kernel
theorem d_M_erase_85 : decode prog_6_method_16_code 85 = .ok (.iload_n 1, 1) := by decide +kernel
theorem d_M_erase_86 : decode prog_6_method_16_code 86 = .ok (.iadd, 1) := by decide +kernel
theorem d_L_law_260 : decode code 260 = .ok (.aload_n 1, 1) := by decide +kernel
theorem d_L_law_261 : decode code 261 = .ok (.aload_n 0, 1) := by decide +kernel
theorem d_L_law_262 : decode code 262 = .ok (.iload 4, 2) := by decide +kernel
theorem d_L_law_264 : decode code 264 = .ok (.iconst 1, 1) := by decide +kernel
theorem d_L_law_265 : decode code 265 = .ok (.iadd, 1) := by decide +kernel
theorem d_L_law_266 : decode code 266 = .ok (.iaload, 1) := by decide +kernel
theorem d_L_law_267 : decode code 267 = .ok (.aload_n 0, 1) := by decide +kernel
theorem d_L_law_268 : decode code 268 = .ok (.iload 4, 2) := by decide +kernel
theorem d_L_law_270 : decode code 270 = .ok (.iconst 2, 1) := by decide +kernel
theorem d_L_law_271 : decode code 271 = .ok (.iadd, 1) := by decide +kernel
theorem d_L_law_272 : decode code 272 = .ok (.iaload, 1) := by decide +kernel
theorem d_L_law_273 : decode code 273 = .ok (.ifCond .eq 7, 3) := by decide +kernel
theorem d_L_law_280 : decode code 280 = .ok (.iconst 0, 1) := by decide +kernel
theorem d_L_law_281 : decode code 281 = .ok (.invokestatic 88, 3) := by decide +kernel
theorem d_L_go_0 : decode method_5_code 0 = .ok (.aload_n 0, 1) := by decide +kernel
theorem d_L_go_1 : decode method_5_code 1 = .ok (.iload_n 1, 1) := by decide +kernel
theorem d_L_go_2 : decode method_5_code 2 = .ok (.iload_n 2, 1) := by decide +kernel
theorem d_L_go_3 : decode method_5_code 3 = .ok (.invokevirtual 19, 3) := by decide +kernel
theorem d_D_go_0 : decode prog_1_method_6_code 0 = .ok (.aload_n 0, 1) := by decide +kernel
theorem d_D_go_1 : decode prog_1_method_6_code 1 = .ok (.iload_n 1, 1) := by decide +kernel
theorem d_D_go_2 : decode prog_1_method_6_code 2 = .ok (.invokevirtual 88, 3) := by decide +kernel
theorem d_D_requirePlace_0 : decode prog_1_method_19_code 0 = .ok (.iload_n 1, 1) := by decide +kernel
theorem d_D_requirePlace_1 : decode prog_1_method_19_code 1 = .ok (.ifCond .lt 12, 3) := by decide +kernel
theorem d_D_requirePlace_4 : decode prog_1_method_19_code 4 = .ok (.iload_n 1, 1) := by decide +kernel
theorem d_D_requirePlace_5 : decode prog_1_method_19_code 5 = .ok (.aload_n 0, 1) := by decide +kernel
theorem d_D_requirePlace_6 : decode prog_1_method_19_code 6 = .ok (.getfield 19, 3) := by decide +kernel
theorem d_D_requirePlace_9 : decode prog_1_method_19_code 9 = .ok (.arraylength, 1) := by decide +kernel
theorem d_D_requirePlace_10 : decode prog_1_method_19_code 10 = .ok (.if_icmp .le 11, 3) := by decide +kernel
theorem d_D_requirePlace_21 : decode prog_1_method_19_code 21 = .ok (.return_, 1) := by decide +kernel
theorem d_D_go_5 : decode prog_1_method_6_code 5 = .ok (.iload_n 2, 1) := by decide +kernel
theorem d_D_go_6 : decode prog_1_method_6_code 6 = .ok (.ifCond .ne 11, 3) := by decide +kernel
theorem d_D_go_9 : decode prog_1_method_6_code 9 = .ok (.aload_n 0, 1) := by decide +kernel
theorem d_D_go_10 : decode prog_1_method_6_code 10 = .ok (.iconst (-1), 1) := by decide +kernel
theorem d_D_go_11 : decode prog_1_method_6_code 11 = .ok (.putfield 29, 3) := by decide +kernel
theorem d_D_go_14 : decode prog_1_method_6_code 14 = .ok (.goto 19, 3) := by decide +kernel
theorem d_D_go_33 : decode prog_1_method_6_code 33 = .ok (.aload_n 0, 1) := by decide +kernel
theorem d_D_go_34 : decode prog_1_method_6_code 34 = .ok (.iload_n 1, 1) := by decide +kernel
theorem d_D_go_35 : decode prog_1_method_6_code 35 = .ok (.putfield 76, 3) := by decide +kernel
theorem d_D_go_38 : decode prog_1_method_6_code 38 = .ok (.aload_n 0, 1) := by decide +kernel
theorem d_D_go_39 : decode prog_1_method_6_code 39 = .ok (.getfield 29, 3) := by decide +kernel
theorem d_D_go_42 : decode prog_1_method_6_code 42 = .ok (.aload_n 0, 1) := by decide +kernel
theorem d_D_go_43 : decode prog_1_method_6_code 43 = .ok (.getfield 76, 3) := by decide +kernel
theorem d_D_go_46 : decode prog_1_method_6_code 46 = .ok (.if_icmp .ne 8, 3) := by decide +kernel
theorem d_D_go_54 : decode prog_1_method_6_code 54 = .ok (.return_, 1) := by decide +kernel
theorem d_L_go_6 : decode method_5_code 6 = .ok (.goto 6, 3) := by decide +kernel
theorem d_L_go_12 : decode method_5_code 12 = .ok (.iconst 0, 1) := by decide +kernel
theorem d_L_go_13 : decode method_5_code 13 = .ok (.ireturn, 1) := by decide +kernel
theorem d_L_law_284 : decode code 284 = .ok (.istore 5, 2) := by decide +kernel
theorem d_L_law_286 : decode code 286 = .ok (.aload_n 2, 1) := by decide +kernel
theorem d_L_law_287 : decode code 287 = .ok (.aload_n 0, 1) := by decide +kernel
theorem d_L_law_288 : decode code 288 = .ok (.iload 4, 2) := by decide +kernel
theorem d_L_law_290 : decode code 290 = .ok (.iconst 1, 1) := by decide +kernel
theorem d_L_law_291 : decode code 291 = .ok (.iadd, 1) := by decide +kernel
theorem d_L_law_292 : decode code 292 = .ok (.iaload, 1) := by decide +kernel
theorem d_L_law_293 : decode code 293 = .ok (.aload_n 0, 1) := by decide +kernel
theorem d_L_law_294 : decode code 294 = .ok (.iload 4, 2) := by decide +kernel
theorem d_L_law_296 : decode code 296 = .ok (.iconst 2, 1) := by decide +kernel
theorem d_L_law_297 : decode code 297 = .ok (.iadd, 1) := by decide +kernel
theorem d_L_law_298 : decode code 298 = .ok (.iaload, 1) := by decide +kernel
theorem d_L_law_299 : decode code 299 = .ok (.ifCond .eq 7, 3) := by decide +kernel
theorem d_L_law_306 : decode code 306 = .ok (.iconst 0, 1) := by decide +kernel
theorem d_L_law_307 : decode code 307 = .ok (.invokevirtual 91, 3) := by decide +kernel
theorem d_M_go_0 : decode prog_6_method_17_code 0 = .ok (.aload_n 0, 1) := by decide +kernel
theorem d_M_go_1 : decode prog_6_method_17_code 1 = .ok (.iload_n 1, 1) := by decide +kernel
theorem d_M_go_2 : decode prog_6_method_17_code 2 = .ok (.ifCond .lt 11, 3) := by decide +kernel
theorem d_M_go_5 : decode prog_6_method_17_code 5 = .ok (.iload_n 1, 1) := by decide +kernel
theorem d_M_go_6 : decode prog_6_method_17_code 6 = .ok (.aload_n 0, 1) := by decide +kernel
theorem d_M_go_7 : decode prog_6_method_17_code 7 = .ok (.invokevirtual 123, 3) := by decide +kernel
theorem d_M_go_10 : decode prog_6_method_17_code 10 = .ok (.if_icmp .le 7, 3) := by decide +kernel
theorem d_M_go_17 : decode prog_6_method_17_code 17 = .ok (.iconst 0, 1) := by decide +kernel
theorem d_M_go_18 : decode prog_6_method_17_code 18 = .ok (.putfield 82, 3) := by decide +kernel
theorem d_M_go_21 : decode prog_6_method_17_code 21 = .ok (.aload_n 0, 1) := by decide +kernel
theorem d_M_go_22 : decode prog_6_method_17_code 22 = .ok (.getfield 82, 3) := by decide +kernel
theorem d_M_go_25 : decode prog_6_method_17_code 25 = .ok (.ifCond .le 4, 3) := by decide +kernel
theorem d_M_go_29 : decode prog_6_method_17_code 29 = .ok (.aload_n 0, 1) := by decide +kernel
theorem d_M_go_30 : decode prog_6_method_17_code 30 = .ok (.iload_n 2, 1) := by decide +kernel
theorem d_M_go_31 : decode prog_6_method_17_code 31 = .ok (.ifCond .ne 7, 3) := by decide +kernel
theorem d_M_go_34 : decode prog_6_method_17_code 34 = .ok (.iconst (-1), 1) := by decide +kernel
theorem d_M_go_35 : decode prog_6_method_17_code 35 = .ok (.goto 21, 3) := by decide +kernel
theorem d_M_go_56 : decode prog_6_method_17_code 56 = .ok (.putfield 33, 3) := by decide +kernel
theorem d_M_go_59 : decode prog_6_method_17_code 59 = .ok (.aload_n 0, 1) := by decide +kernel
theorem d_M_go_60 : decode prog_6_method_17_code 60 = .ok (.iload_n 1, 1) := by decide +kernel
theorem d_M_go_61 : decode prog_6_method_17_code 61 = .ok (.putfield 95, 3) := by decide +kernel
theorem d_M_go_64 : decode prog_6_method_17_code 64 = .ok (.aload_n 0, 1) := by decide +kernel
theorem d_M_go_65 : decode prog_6_method_17_code 65 = .ok (.aload_n 0, 1) := by decide +kernel
theorem d_M_go_66 : decode prog_6_method_17_code 66 = .ok (.getfield 33, 3) := by decide +kernel
theorem d_M_go_69 : decode prog_6_method_17_code 69 = .ok (.aload_n 0, 1) := by decide +kernel
theorem d_M_go_70 : decode prog_6_method_17_code 70 = .ok (.getfield 95, 3) := by decide +kernel
theorem d_M_go_73 : decode prog_6_method_17_code 73 = .ok (.if_icmp .ne 7, 3) := by decide +kernel
theorem d_M_go_80 : decode prog_6_method_17_code 80 = .ok (.aload_n 0, 1) := by decide +kernel
theorem d_M_go_81 : decode prog_6_method_17_code 81 = .ok (.getfield 33, 3) := by decide +kernel
theorem d_M_go_84 : decode prog_6_method_17_code 84 = .ok (.putfield 33, 3) := by decide +kernel
theorem d_M_go_87 : decode prog_6_method_17_code 87 = .ok (.return_, 1) := by decide +kernel
theorem d_L_law_310 : decode code 310 = .ok (.aload_n 2, 1) := by decide +kernel
theorem d_L_law_311 : decode code 311 = .ok (.invokevirtual 81, 3) := by decide +kernel
theorem d_L_law_314 : decode code 314 = .ok (.iload 5, 2) := by decide +kernel
theorem d_L_law_316 : decode code 316 = .ok (.if_icmp .eq 5, 3) := by decide +kernel
theorem d_L_law_321 : decode code 321 = .ok (.goto 513, 3) := by decide +kernel
theorem d_L_law_276 : decode code 276 = .ok (.iconst 1, 1) := by decide +kernel
theorem d_L_law_277 : decode code 277 = .ok (.goto 4, 3) := by decide +kernel
theorem d_D_go_17 : decode prog_1_method_6_code 17 = .ok (.aload_n 0, 1) := by decide +kernel
theorem d_D_go_18 : decode prog_1_method_6_code 18 = .ok (.getfield 29, 3) := by decide +kernel
theorem d_D_go_21 : decode prog_1_method_6_code 21 = .ok (.iconst (-1), 1) := by decide +kernel
theorem d_D_go_22 : decode prog_1_method_6_code 22 = .ok (.if_icmp .ne 11, 3) := by decide +kernel
theorem d_D_go_25 : decode prog_1_method_6_code 25 = .ok (.aload_n 0, 1) := by decide +kernel
theorem d_D_go_26 : decode prog_1_method_6_code 26 = .ok (.aload_n 0, 1) := by decide +kernel
theorem d_D_go_27 : decode prog_1_method_6_code 27 = .ok (.getfield 76, 3) := by decide +kernel
theorem d_D_go_30 : decode prog_1_method_6_code 30 = .ok (.putfield 29, 3) := by decide +kernel
theorem d_D_go_49 : decode prog_1_method_6_code 49 = .ok (.aload_n 0, 1) := by decide +kernel
theorem d_D_go_50 : decode prog_1_method_6_code 50 = .ok (.iconst (-1), 1) := by decide +kernel
theorem d_D_go_51 : decode prog_1_method_6_code 51 = .ok (.putfield 29, 3) := by decide +kernel
theorem d_L_law_302 : decode code 302 = .ok (.iconst 1, 1) := by decide +kernel
theorem d_L_law_303 : decode code 303 = .ok (.goto 4, 3) := by decide +kernel
theorem d_M_go_38 : decode prog_6_method_17_code 38 = .ok (.aload_n 0, 1) := by decide +kernel
theorem d_M_go_39 : decode prog_6_method_17_code 39 = .ok (.getfield 33, 3) := by decide +kernel
theorem d_M_go_42 : decode prog_6_method_17_code 42 = .ok (.ifCond .ge 10, 3) := by decide +kernel
theorem d_M_go_45 : decode prog_6_method_17_code 45 = .ok (.aload_n 0, 1) := by decide +kernel
theorem d_M_go_46 : decode prog_6_method_17_code 46 = .ok (.getfield 95, 3) := by decide +kernel
theorem d_M_go_49 : decode prog_6_method_17_code 49 = .ok (.goto 7, 3) := by decide +kernel
theorem d_M_go_76 : decode prog_6_method_17_code 76 = .ok (.iconst (-1), 1) := by decide +kernel
theorem d_M_go_77 : decode prog_6_method_17_code 77 = .ok (.goto 7, 3) := by decide +kernel
theorem d_D_requirePlace_13 : decode prog_1_method_19_code 13 = .ok (.new 143, 3) := by decide +kernel
theorem d_D_requirePlace_16 : decode prog_1_method_19_code 16 = .ok (.dup, 1) := by decide +kernel
theorem d_D_requirePlace_17 : decode prog_1_method_19_code 17 = .ok (.invokespecial 145, 3) := by decide +kernel
theorem d_D_requirePlace_20 : decode prog_1_method_19_code 20 = .ok (.athrow, 1) := by decide +kernel
theorem d_L_go_9 : decode method_5_code 9 = .ok (.astore_n 3, 1) := by decide +kernel
theorem d_L_go_10 : decode method_5_code 10 = .ok (.iconst 1, 1) := by decide +kernel
theorem d_L_go_11 : decode method_5_code 11 = .ok (.ireturn, 1) := by decide +kernel
theorem d_M_go_13 : decode prog_6_method_17_code 13 = .ok (.iconst 1, 1) := by decide +kernel
theorem d_M_go_14 : decode prog_6_method_17_code 14 = .ok (.goto 4, 3) := by decide +kernel
theorem d_M_go_28 : decode prog_6_method_17_code 28 = .ok (.return_, 1) := by decide +kernel
theorem d_L_law_324 : decode code 324 = .ok (.aload_n 1, 1) := by decide +kernel
theorem d_L_law_325 : decode code 325 = .ok (.invokestatic 92, 3) := by decide +kernel
theorem d_L_compile_0 : decode method_6_code 0 = .ok (.aload_n 0, 1) := by decide +kernel
theorem d_L_compile_1 : decode method_6_code 1 = .ok (.invokevirtual 25, 3) := by decide +kernel
theorem d_D_compile_0 : decode prog_1_method_7_code 0 = .ok (.aload_n 0, 1) := by decide +kernel
theorem d_D_compile_1 : decode prog_1_method_7_code 1 = .ok (.aload_n 0, 1) := by decide +kernel
theorem d_D_compile_2 : decode prog_1_method_7_code 2 = .ok (.getfield 35, 3) := by decide +kernel
theorem d_D_compile_5 : decode prog_1_method_7_code 5 = .ok (.aload_n 0, 1) := by decide +kernel
theorem d_D_compile_6 : decode prog_1_method_7_code 6 = .ok (.getfield 9, 3) := by decide +kernel
theorem d_D_compile_9 : decode prog_1_method_7_code 9 = .ok (.aload_n 0, 1) := by decide +kernel
theorem d_D_compile_10 : decode prog_1_method_7_code 10 = .ok (.getfield 56, 3) := by decide +kernel
theorem d_D_compile_13 : decode prog_1_method_7_code 13 = .ok (.invokevirtual 92, 3) := by decide +kernel
theorem d_P_read_0 : decode prog_3_method_3_code 0 = .ok (.aload_n 0, 1) := by decide +kernel
theorem d_P_read_1 : decode prog_3_method_3_code 1 = .ok (.aload_n 1, 1) := by decide +kernel
theorem d_P_read_2 : decode prog_3_method_3_code 2 = .ok (.putfield 31, 3) := by decide +kernel
theorem d_P_read_5 : decode prog_3_method_3_code 5 = .ok (.aload_n 0, 1) := by decide +kernel
theorem d_P_read_6 : decode prog_3_method_3_code 6 = .ok (.iload_n 2, 1) := by decide +kernel
theorem d_P_read_7 : decode prog_3_method_3_code 7 = .ok (.putfield 35, 3) := by decide +kernel
theorem d_P_read_10 : decode prog_3_method_3_code 10 = .ok (.aload_n 0, 1) := by decide +kernel
theorem d_P_read_11 : decode prog_3_method_3_code 11 = .ok (.iconst 0, 1) := by decide +kernel
theorem d_P_read_12 : decode prog_3_method_3_code 12 = .ok (.putfield 39, 3) := by decide +kernel
theorem d_P_read_15 : decode prog_3_method_3_code 15 = .ok (.aload_n 0, 1) := by decide +kernel
theorem d_P_read_16 : decode prog_3_method_3_code 16 = .ok (.iconst (-1), 1) := by decide +kernel
theorem d_P_read_17 : decode prog_3_method_3_code 17 = .ok (.putfield 42, 3) := by decide +kernel
theorem d_P_read_20 : decode prog_3_method_3_code 20 = .ok (.aload_n 0, 1) := by decide +kernel
theorem d_P_read_21 : decode prog_3_method_3_code 21 = .ok (.getfield 27, 3) := by decide +kernel
theorem d_P_read_24 : decode prog_3_method_3_code 24 = .ok (.iconst 0, 1) := by decide +kernel
theorem d_P_read_25 : decode prog_3_method_3_code 25 = .ok (.putfield 45, 3) := by decide +kernel
theorem d_P_read_28 : decode prog_3_method_3_code 28 = .ok (.aload_n 0, 1) := by decide +kernel
theorem d_P_read_29 : decode prog_3_method_3_code 29 = .ok (.iconst 0, 1) := by decide +kernel
theorem d_P_read_30 : decode prog_3_method_3_code 30 = .ok (.putfield 46, 3) := by decide +kernel
theorem d_P_read_33 : decode prog_3_method_3_code 33 = .ok (.aload_n 0, 1) := by decide +kernel
theorem d_P_read_34 : decode prog_3_method_3_code 34 = .ok (.iconst (-1), 1) := by decide +kernel
theorem d_P_read_35 : decode prog_3_method_3_code 35 = .ok (.invokevirtual 49, 3) := by decide +kernel
theorem d_P_openChoice_0 : decode prog_3_method_12_code 0 = .ok (.aload_n 0, 1) := by decide +kernel
theorem d_P_openChoice_1 : decode prog_3_method_12_code 1 = .ok (.getfield 27, 3) := by decide +kernel
theorem d_P_openChoice_4 : decode prog_3_method_12_code 4 = .ok (.iconst 0, 1) := by decide +kernel
theorem d_P_openChoice_5 : decode prog_3_method_12_code 5 = .ok (.invokevirtual 113, 3) := by decide +kernel
theorem d_A_addNode_0 : decode prog_2_method_2_code 0 = .ok (.aload_n 0, 1) := by decide +kernel
theorem d_A_addNode_1 : decode prog_2_method_2_code 1 = .ok (.getfield 28, 3) := by decide +kernel
theorem d_A_addNode_4 : decode prog_2_method_2_code 4 = .ok (.istore_n 2, 1) := by decide +kernel
theorem d_A_addNode_5 : decode prog_2_method_2_code 5 = .ok (.aload_n 0, 1) := by decide +kernel
theorem d_A_addNode_6 : decode prog_2_method_2_code 6 = .ok (.getfield 11, 3) := by decide +kernel
theorem d_A_addNode_9 : decode prog_2_method_2_code 9 = .ok (.iload_n 2, 1) := by decide +kernel
theorem d_A_addNode_10 : decode prog_2_method_2_code 10 = .ok (.iload_n 1, 1) := by decide +kernel
