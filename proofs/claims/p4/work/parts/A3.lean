-- 14.dec00
theorem d_M_add_0 : decode prog_6_method_9_code 0 = .ok (.aload_n 0, 1) := by decide +kernel
theorem d_M_add_1 : decode prog_6_method_9_code 1 = .ok (.getfield 79, 3) := by decide +kernel
theorem d_M_add_4 : decode prog_6_method_9_code 4 = .ok (.aload_n 0, 1) := by decide +kernel
theorem d_M_add_5 : decode prog_6_method_9_code 5 = .ok (.getfield 101, 3) := by decide +kernel
theorem d_M_add_8 : decode prog_6_method_9_code 8 = .ok (.iload_n 1, 1) := by decide +kernel
theorem d_M_add_9 : decode prog_6_method_9_code 9 = .ok (.castore, 1) := by decide +kernel
theorem d_M_add_10 : decode prog_6_method_9_code 10 = .ok (.aload_n 0, 1) := by decide +kernel
theorem d_M_add_11 : decode prog_6_method_9_code 11 = .ok (.dup, 1) := by decide +kernel
theorem d_M_add_12 : decode prog_6_method_9_code 12 = .ok (.getfield 101, 3) := by decide +kernel
theorem d_M_add_15 : decode prog_6_method_9_code 15 = .ok (.iconst 1, 1) := by decide +kernel
theorem d_M_add_16 : decode prog_6_method_9_code 16 = .ok (.iadd, 1) := by decide +kernel
theorem d_M_add_17 : decode prog_6_method_9_code 17 = .ok (.putfield 101, 3) := by decide +kernel
theorem d_M_add_20 : decode prog_6_method_9_code 20 = .ok (.return_, 1) := by decide +kernel
theorem d_M_addSlip_0 : decode prog_6_method_11_code 0 = .ok (.iconst 0, 1) := by decide +kernel
theorem d_M_addSlip_1 : decode prog_6_method_11_code 1 = .ok (.istore_n 1, 1) := by decide +kernel
theorem d_M_addSlip_2 : decode prog_6_method_11_code 2 = .ok (.iload_n 1, 1) := by decide +kernel
theorem d_M_addSlip_3 : decode prog_6_method_11_code 3 = .ok (.aload_n 0, 1) := by decide +kernel
theorem d_M_addSlip_4 : decode prog_6_method_11_code 4 = .ok (.getfield 89, 3) := by decide +kernel
theorem d_M_addSlip_7 : decode prog_6_method_11_code 7 = .ok (.if_icmp .ge 19, 3) := by decide +kernel
theorem d_M_addSlip_26 : decode prog_6_method_11_code 26 = .ok (.return_, 1) := by decide +kernel
theorem d_M_addSlip_10 : decode prog_6_method_11_code 10 = .ok (.aload_n 0, 1) := by decide +kernel
theorem d_M_addSlip_11 : decode prog_6_method_11_code 11 = .ok (.aload_n 0, 1) := by decide +kernel
theorem d_M_addSlip_12 : decode prog_6_method_11_code 12 = .ok (.getfield 7, 3) := by decide +kernel
theorem d_M_addSlip_15 : decode prog_6_method_11_code 15 = .ok (.iload_n 1, 1) := by decide +kernel
theorem d_M_addSlip_16 : decode prog_6_method_11_code 16 = .ok (.caload, 1) := by decide +kernel
theorem d_M_addSlip_17 : decode prog_6_method_11_code 17 = .ok (.invokevirtual 108, 3) := by decide +kernel
theorem d_M_addSlip_20 : decode prog_6_method_11_code 20 = .ok (.iinc 1 1, 3) := by decide +kernel
theorem d_M_addSlip_23 : decode prog_6_method_11_code 23 = .ok (.goto (-21), 3) := by decide +kernel
theorem d_M_addText_0 : decode prog_6_method_10_code 0 = .ok (.iload_n 1, 1) := by decide +kernel
theorem d_M_addText_1 : decode prog_6_method_10_code 1 = .ok (.istore_n 3, 1) := by decide +kernel
theorem d_M_addText_2 : decode prog_6_method_10_code 2 = .ok (.iload_n 3, 1) := by decide +kernel
theorem d_M_addText_3 : decode prog_6_method_10_code 3 = .ok (.iload_n 2, 1) := by decide +kernel
theorem d_M_addText_4 : decode prog_6_method_10_code 4 = .ok (.if_icmp .ge 22, 3) := by decide +kernel
theorem d_M_addText_26 : decode prog_6_method_10_code 26 = .ok (.return_, 1) := by decide +kernel
theorem d_M_addText_7 : decode prog_6_method_10_code 7 = .ok (.aload_n 0, 1) := by decide +kernel
theorem d_M_addText_8 : decode prog_6_method_10_code 8 = .ok (.iload_n 3, 1) := by decide +kernel
theorem d_M_addText_9 : decode prog_6_method_10_code 9 = .ok (.invokevirtual 104, 3) := by decide +kernel
theorem d_M_charAt_0 : decode prog_6_method_6_code 0 = .ok (.aload_n 0, 1) := by decide +kernel
theorem d_M_charAt_1 : decode prog_6_method_6_code 1 = .ok (.getfield 17, 3) := by decide +kernel
theorem d_M_charAt_4 : decode prog_6_method_6_code 4 = .ok (.sipush 160, 3) := by decide +kernel
theorem d_M_charAt_7 : decode prog_6_method_6_code 7 = .ok (.aload_n 0, 1) := by decide +kernel
theorem d_M_charAt_8 : decode prog_6_method_6_code 8 = .ok (.getfield 92, 3) := by decide +kernel
theorem d_M_charAt_11 : decode prog_6_method_6_code 11 = .ok (.imul, 1) := by decide +kernel
theorem d_M_charAt_12 : decode prog_6_method_6_code 12 = .ok (.iload_n 1, 1) := by decide +kernel
theorem d_M_charAt_13 : decode prog_6_method_6_code 13 = .ok (.iadd, 1) := by decide +kernel
theorem d_M_charAt_14 : decode prog_6_method_6_code 14 = .ok (.caload, 1) := by decide +kernel
theorem d_M_charAt_15 : decode prog_6_method_6_code 15 = .ok (.ireturn, 1) := by decide +kernel
theorem d_M_addText_12 : decode prog_6_method_10_code 12 = .ok (.istore 4, 2) := by decide +kernel
theorem d_M_addText_14 : decode prog_6_method_10_code 14 = .ok (.aload_n 0, 1) := by decide +kernel
theorem d_M_addText_15 : decode prog_6_method_10_code 15 = .ok (.iload 4, 2) := by decide +kernel
theorem d_M_addText_17 : decode prog_6_method_10_code 17 = .ok (.invokevirtual 108, 3) := by decide +kernel
theorem d_M_addText_20 : decode prog_6_method_10_code 20 = .ok (.iinc 3 1, 3) := by decide +kernel
theorem d_M_addText_23 : decode prog_6_method_10_code 23 = .ok (.goto (-21), 3) := by decide +kernel
theorem d_M_at_0 : decode prog_6_method_48_code 0 = .ok (.aload_n 0, 1) := by decide +kernel
theorem d_M_at_1 : decode prog_6_method_48_code 1 = .ok (.iload_n 1, 1) := by decide +kernel
theorem d_M_at_2 : decode prog_6_method_48_code 2 = .ok (.ifCond .lt 11, 3) := by decide +kernel
theorem d_M_at_5 : decode prog_6_method_48_code 5 = .ok (.iload_n 1, 1) := by decide +kernel
theorem d_M_at_6 : decode prog_6_method_48_code 6 = .ok (.aload_n 0, 1) := by decide +kernel
theorem d_M_at_7 : decode prog_6_method_48_code 7 = .ok (.invokevirtual 123, 3) := by decide +kernel
theorem d_M_textLength_0 : decode prog_6_method_7_code 0 = .ok (.aload_n 0, 1) := by decide +kernel
theorem d_M_textLength_1 : decode prog_6_method_7_code 1 = .ok (.getfield 20, 3) := by decide +kernel
theorem d_M_textLength_4 : decode prog_6_method_7_code 4 = .ok (.aload_n 0, 1) := by decide +kernel
theorem d_M_textLength_5 : decode prog_6_method_7_code 5 = .ok (.getfield 92, 3) := by decide +kernel
theorem d_M_textLength_8 : decode prog_6_method_7_code 8 = .ok (.iaload, 1) := by decide +kernel
theorem d_M_textLength_9 : decode prog_6_method_7_code 9 = .ok (.ireturn, 1) := by decide +kernel
theorem d_M_at_10 : decode prog_6_method_48_code 10 = .ok (.if_icmp .lt 7, 3) := by decide +kernel
theorem d_M_at_17 : decode prog_6_method_48_code 17 = .ok (.iconst 0, 1) := by decide +kernel
theorem d_M_at_13 : decode prog_6_method_48_code 13 = .ok (.iconst 1, 1) := by decide +kernel
theorem d_M_at_14 : decode prog_6_method_48_code 14 = .ok (.goto 4, 3) := by decide +kernel
theorem d_M_at_18 : decode prog_6_method_48_code 18 = .ok (.putfield 82, 3) := by decide +kernel
theorem d_M_at_21 : decode prog_6_method_48_code 21 = .ok (.aload_n 0, 1) := by decide +kernel
theorem d_M_at_22 : decode prog_6_method_48_code 22 = .ok (.getfield 82, 3) := by decide +kernel
theorem d_M_at_25 : decode prog_6_method_48_code 25 = .ok (.ifCond .ne 11, 3) := by decide +kernel
theorem d_M_at_36 : decode prog_6_method_48_code 36 = .ok (.iconst 0, 1) := by decide +kernel
theorem d_M_at_28 : decode prog_6_method_48_code 28 = .ok (.aload_n 0, 1) := by decide +kernel
theorem d_M_at_29 : decode prog_6_method_48_code 29 = .ok (.iload_n 1, 1) := by decide +kernel
theorem d_M_at_30 : decode prog_6_method_48_code 30 = .ok (.invokevirtual 104, 3) := by decide +kernel
theorem d_M_at_33 : decode prog_6_method_48_code 33 = .ok (.goto 4, 3) := by decide +kernel
theorem d_M_at_37 : decode prog_6_method_48_code 37 = .ok (.ireturn, 1) := by decide +kernel
theorem d_M_behind_0 : decode prog_6_method_29_code 0 = .ok (.iload_n 2, 1) := by decide +kernel
theorem d_M_behind_1 : decode prog_6_method_29_code 1 = .ok (.ifCond .ge 5, 3) := by decide +kernel
theorem d_M_behind_6 : decode prog_6_method_29_code 6 = .ok (.aload_n 0, 1) := by decide +kernel
theorem d_M_behind_7 : decode prog_6_method_29_code 7 = .ok (.aload_n 0, 1) := by decide +kernel
theorem d_M_behind_8 : decode prog_6_method_29_code 8 = .ok (.getfield 60, 3) := by decide +kernel
theorem d_M_behind_11 : decode prog_6_method_29_code 11 = .ok (.iload_n 1, 1) := by decide +kernel
theorem d_M_behind_12 : decode prog_6_method_29_code 12 = .ok (.iaload, 1) := by decide +kernel
theorem d_M_behind_13 : decode prog_6_method_29_code 13 = .ok (.aload_n 0, 1) := by decide +kernel
theorem d_M_behind_14 : decode prog_6_method_29_code 14 = .ok (.getfield 57, 3) := by decide +kernel
theorem d_M_behind_17 : decode prog_6_method_29_code 17 = .ok (.iload_n 2, 1) := by decide +kernel
theorem d_M_behind_18 : decode prog_6_method_29_code 18 = .ok (.iaload, 1) := by decide +kernel
theorem d_M_behind_19 : decode prog_6_method_29_code 19 = .ok (.invokevirtual 152, 3) := by decide +kernel
theorem d_M_link_0 : decode prog_6_method_25_code 0 = .ok (.aload_n 0, 1) := by decide +kernel
theorem d_M_link_1 : decode prog_6_method_25_code 1 = .ok (.getfield 51, 3) := by decide +kernel
theorem d_M_link_4 : decode prog_6_method_25_code 4 = .ok (.iload_n 1, 1) := by decide +kernel
theorem d_M_link_5 : decode prog_6_method_25_code 5 = .ok (.iaload, 1) := by decide +kernel
theorem d_M_link_6 : decode prog_6_method_25_code 6 = .ok (.ifCond .ge 13, 3) := by decide +kernel
theorem d_M_link_19 : decode prog_6_method_25_code 19 = .ok (.aload_n 0, 1) := by decide +kernel
theorem d_M_link_20 : decode prog_6_method_25_code 20 = .ok (.getfield 54, 3) := by decide +kernel
theorem d_M_link_23 : decode prog_6_method_25_code 23 = .ok (.iload_n 1, 1) := by decide +kernel
theorem d_M_link_24 : decode prog_6_method_25_code 24 = .ok (.iload_n 2, 1) := by decide +kernel
theorem d_M_link_25 : decode prog_6_method_25_code 25 = .ok (.iastore, 1) := by decide +kernel
theorem d_M_link_9 : decode prog_6_method_25_code 9 = .ok (.aload_n 0, 1) := by decide +kernel
theorem d_M_link_10 : decode prog_6_method_25_code 10 = .ok (.getfield 51, 3) := by decide +kernel
theorem d_M_link_13 : decode prog_6_method_25_code 13 = .ok (.iload_n 1, 1) := by decide +kernel
theorem d_M_link_14 : decode prog_6_method_25_code 14 = .ok (.iload_n 2, 1) := by decide +kernel
theorem d_M_link_15 : decode prog_6_method_25_code 15 = .ok (.iastore, 1) := by decide +kernel
theorem d_M_link_16 : decode prog_6_method_25_code 16 = .ok (.goto 10, 3) := by decide +kernel
theorem d_M_link_26 : decode prog_6_method_25_code 26 = .ok (.return_, 1) := by decide +kernel
theorem d_M_behind_22 : decode prog_6_method_29_code 22 = .ok (.aload_n 0, 1) := by decide +kernel
theorem d_M_behind_23 : decode prog_6_method_29_code 23 = .ok (.aload_n 0, 1) := by decide +kernel
theorem d_M_behind_24 : decode prog_6_method_29_code 24 = .ok (.getfield 57, 3) := by decide +kernel
theorem d_M_behind_27 : decode prog_6_method_29_code 27 = .ok (.iload_n 1, 1) := by decide +kernel
theorem d_M_behind_28 : decode prog_6_method_29_code 28 = .ok (.iaload, 1) := by decide +kernel
theorem d_M_behind_29 : decode prog_6_method_29_code 29 = .ok (.aload_n 0, 1) := by decide +kernel
theorem d_M_behind_30 : decode prog_6_method_29_code 30 = .ok (.getfield 60, 3) := by decide +kernel
theorem d_M_behind_33 : decode prog_6_method_29_code 33 = .ok (.iload_n 2, 1) := by decide +kernel
theorem d_M_behind_34 : decode prog_6_method_29_code 34 = .ok (.iaload, 1) := by decide +kernel
theorem d_M_behind_35 : decode prog_6_method_29_code 35 = .ok (.invokevirtual 155, 3) := by decide +kernel
theorem d_M_piece_0 : decode prog_6_method_26_code 0 = .ok (.aload_n 0, 1) := by decide +kernel
theorem d_M_piece_1 : decode prog_6_method_26_code 1 = .ok (.getfield 57, 3) := by decide +kernel
theorem d_M_piece_4 : decode prog_6_method_26_code 4 = .ok (.aload_n 0, 1) := by decide +kernel
theorem d_M_piece_5 : decode prog_6_method_26_code 5 = .ok (.getfield 145, 3) := by decide +kernel
theorem d_M_piece_8 : decode prog_6_method_26_code 8 = .ok (.iload_n 1, 1) := by decide +kernel
theorem d_M_piece_9 : decode prog_6_method_26_code 9 = .ok (.iastore, 1) := by decide +kernel
theorem d_M_piece_10 : decode prog_6_method_26_code 10 = .ok (.aload_n 0, 1) := by decide +kernel
theorem d_M_piece_11 : decode prog_6_method_26_code 11 = .ok (.getfield 60, 3) := by decide +kernel
theorem d_M_piece_14 : decode prog_6_method_26_code 14 = .ok (.aload_n 0, 1) := by decide +kernel
theorem d_M_piece_15 : decode prog_6_method_26_code 15 = .ok (.getfield 145, 3) := by decide +kernel
theorem d_M_piece_18 : decode prog_6_method_26_code 18 = .ok (.iload_n 2, 1) := by decide +kernel
theorem d_M_piece_19 : decode prog_6_method_26_code 19 = .ok (.iastore, 1) := by decide +kernel
theorem d_M_piece_20 : decode prog_6_method_26_code 20 = .ok (.aload_n 0, 1) := by decide +kernel
theorem d_M_piece_21 : decode prog_6_method_26_code 21 = .ok (.dup, 1) := by decide +kernel
theorem d_M_piece_22 : decode prog_6_method_26_code 22 = .ok (.getfield 145, 3) := by decide +kernel
theorem d_M_piece_25 : decode prog_6_method_26_code 25 = .ok (.iconst 1, 1) := by decide +kernel
theorem d_M_piece_26 : decode prog_6_method_26_code 26 = .ok (.iadd, 1) := by decide +kernel
theorem d_M_piece_27 : decode prog_6_method_26_code 27 = .ok (.putfield 145, 3) := by decide +kernel
theorem d_M_piece_30 : decode prog_6_method_26_code 30 = .ok (.aload_n 0, 1) := by decide +kernel
theorem d_M_piece_31 : decode prog_6_method_26_code 31 = .ok (.getfield 145, 3) := by decide +kernel
theorem d_M_piece_34 : decode prog_6_method_26_code 34 = .ok (.iconst 1, 1) := by decide +kernel
theorem d_M_piece_35 : decode prog_6_method_26_code 35 = .ok (.isub, 1) := by decide +kernel
theorem d_M_piece_36 : decode prog_6_method_26_code 36 = .ok (.ireturn, 1) := by decide +kernel
theorem d_M_behind_38 : decode prog_6_method_29_code 38 = .ok (.ireturn, 1) := by decide +kernel
theorem d_M_behind_4 : decode prog_6_method_29_code 4 = .ok (.iload_n 1, 1) := by decide +kernel
theorem d_M_behind_5 : decode prog_6_method_29_code 5 = .ok (.ireturn, 1) := by decide +kernel
theorem d_M_breaks_0 : decode prog_6_method_49_code 0 = .ok (.iconst 0, 1) := by decide +kernel
theorem d_M_breaks_1 : decode prog_6_method_49_code 1 = .ok (.istore_n 2, 1) := by decide +kernel
theorem d_M_breaks_2 : decode prog_6_method_49_code 2 = .ok (.iconst 0, 1) := by decide +kernel
theorem d_M_breaks_3 : decode prog_6_method_49_code 3 = .ok (.istore_n 3, 1) := by decide +kernel
theorem d_M_breaks_4 : decode prog_6_method_49_code 4 = .ok (.iload_n 3, 1) := by decide +kernel
theorem d_M_breaks_5 : decode prog_6_method_49_code 5 = .ok (.iload_n 1, 1) := by decide +kernel
theorem d_M_breaks_6 : decode prog_6_method_49_code 6 = .ok (.if_icmp .ge 27, 3) := by decide +kernel
theorem d_M_breaks_33 : decode prog_6_method_49_code 33 = .ok (.iload_n 2, 1) := by decide +kernel
theorem d_M_breaks_34 : decode prog_6_method_49_code 34 = .ok (.ireturn, 1) := by decide +kernel
theorem d_M_breaks_9 : decode prog_6_method_49_code 9 = .ok (.iload_n 2, 1) := by decide +kernel
theorem d_M_breaks_10 : decode prog_6_method_49_code 10 = .ok (.aload_n 0, 1) := by decide +kernel
theorem d_M_breaks_11 : decode prog_6_method_49_code 11 = .ok (.iload_n 3, 1) := by decide +kernel
theorem d_M_breaks_12 : decode prog_6_method_49_code 12 = .ok (.invokevirtual 104, 3) := by decide +kernel
theorem d_M_breaks_15 : decode prog_6_method_49_code 15 = .ok (.bipush 10, 2) := by decide +kernel
theorem d_M_breaks_17 : decode prog_6_method_49_code 17 = .ok (.if_icmp .ne 7, 3) := by decide +kernel
theorem d_M_breaks_24 : decode prog_6_method_49_code 24 = .ok (.iconst 0, 1) := by decide +kernel
theorem d_M_breaks_20 : decode prog_6_method_49_code 20 = .ok (.iconst 1, 1) := by decide +kernel
theorem d_M_breaks_21 : decode prog_6_method_49_code 21 = .ok (.goto 4, 3) := by decide +kernel
theorem d_M_breaks_25 : decode prog_6_method_49_code 25 = .ok (.iadd, 1) := by decide +kernel
theorem d_M_breaks_26 : decode prog_6_method_49_code 26 = .ok (.istore_n 2, 1) := by decide +kernel
theorem d_M_breaks_27 : decode prog_6_method_49_code 27 = .ok (.iinc 3 1, 3) := by decide +kernel
theorem d_M_breaks_30 : decode prog_6_method_49_code 30 = .ok (.goto (-26), 3) := by decide +kernel
theorem d_M_build_0 : decode prog_6_method_35_code 0 = .ok (.aload_n 0, 1) := by decide +kernel
theorem d_M_build_1 : decode prog_6_method_35_code 1 = .ok (.getfield 39, 3) := by decide +kernel
theorem d_M_build_4 : decode prog_6_method_35_code 4 = .ok (.iload_n 1, 1) := by decide +kernel
theorem d_M_build_5 : decode prog_6_method_35_code 5 = .ok (.caload, 1) := by decide +kernel
theorem d_M_build_6 : decode prog_6_method_35_code 6 = .ok (.istore_n 2, 1) := by decide +kernel
theorem d_M_build_7 : decode prog_6_method_35_code 7 = .ok (.aload_n 0, 1) := by decide +kernel
theorem d_M_build_8 : decode prog_6_method_35_code 8 = .ok (.getfield 159, 3) := by decide +kernel
theorem d_M_build_11 : decode prog_6_method_35_code 11 = .ok (.iconst 1, 1) := by decide +kernel
theorem d_M_build_12 : decode prog_6_method_35_code 12 = .ok (.isub, 1) := by decide +kernel
theorem d_M_build_13 : decode prog_6_method_35_code 13 = .ok (.istore_n 3, 1) := by decide +kernel
theorem d_M_build_14 : decode prog_6_method_35_code 14 = .ok (.iload_n 1, 1) := by decide +kernel
theorem d_M_build_15 : decode prog_6_method_35_code 15 = .ok (.iconst 1, 1) := by decide +kernel
theorem d_M_build_16 : decode prog_6_method_35_code 16 = .ok (.iadd, 1) := by decide +kernel
theorem d_M_build_17 : decode prog_6_method_35_code 17 = .ok (.istore 4, 2) := by decide +kernel
theorem d_M_build_19 : decode prog_6_method_35_code 19 = .ok (.iload_n 2, 1) := by decide +kernel
theorem d_M_build_20 : decode prog_6_method_35_code 20 = .ok (.bipush 40, 2) := by decide +kernel
theorem d_M_build_22 : decode prog_6_method_35_code 22 = .ok (.if_icmp .ne 10, 3) := by decide +kernel
theorem d_M_build_32 : decode prog_6_method_35_code 32 = .ok (.iload_n 2, 1) := by decide +kernel
theorem d_M_build_33 : decode prog_6_method_35_code 33 = .ok (.bipush 41, 2) := by decide +kernel
theorem d_M_build_35 : decode prog_6_method_35_code 35 = .ok (.if_icmp .ne 33, 3) := by decide +kernel
theorem d_M_build_68 : decode prog_6_method_35_code 68 = .ok (.iload_n 2, 1) := by decide +kernel
theorem d_M_build_69 : decode prog_6_method_35_code 69 = .ok (.bipush 124, 2) := by decide +kernel
theorem d_M_build_71 : decode prog_6_method_35_code 71 = .ok (.if_icmp .ne 20, 3) := by decide +kernel
theorem d_M_build_91 : decode prog_6_method_35_code 91 = .ok (.iload_n 2, 1) := by decide +kernel
theorem d_M_build_92 : decode prog_6_method_35_code 92 = .ok (.invokestatic 139, 3) := by decide +kernel
theorem d_M_isTimes_0 : decode prog_6_method_22_code 0 = .ok (.iload_n 0, 1) := by decide +kernel
theorem d_M_isTimes_1 : decode prog_6_method_22_code 1 = .ok (.bipush 42, 2) := by decide +kernel
theorem d_M_isTimes_3 : decode prog_6_method_22_code 3 = .ok (.if_icmp .eq 15, 3) := by decide +kernel
theorem d_M_isTimes_6 : decode prog_6_method_22_code 6 = .ok (.iload_n 0, 1) := by decide +kernel
theorem d_M_isTimes_7 : decode prog_6_method_22_code 7 = .ok (.bipush 43, 2) := by decide +kernel
theorem d_M_isTimes_9 : decode prog_6_method_22_code 9 = .ok (.if_icmp .eq 9, 3) := by decide +kernel
theorem d_M_isTimes_12 : decode prog_6_method_22_code 12 = .ok (.iload_n 0, 1) := by decide +kernel
theorem d_M_isTimes_13 : decode prog_6_method_22_code 13 = .ok (.bipush 63, 2) := by decide +kernel
theorem d_M_isTimes_15 : decode prog_6_method_22_code 15 = .ok (.if_icmp .ne 7, 3) := by decide +kernel
theorem d_M_isTimes_22 : decode prog_6_method_22_code 22 = .ok (.iconst 0, 1) := by decide +kernel
theorem d_M_isTimes_18 : decode prog_6_method_22_code 18 = .ok (.iconst 1, 1) := by decide +kernel
theorem d_M_isTimes_19 : decode prog_6_method_22_code 19 = .ok (.goto 4, 3) := by decide +kernel
theorem d_M_isTimes_23 : decode prog_6_method_22_code 23 = .ok (.ireturn, 1) := by decide +kernel
theorem d_M_build_95 : decode prog_6_method_35_code 95 = .ok (.ifCond .eq 44, 3) := by decide +kernel
theorem d_M_build_139 : decode prog_6_method_35_code 139 = .ok (.iload_n 2, 1) := by decide +kernel
theorem d_M_build_140 : decode prog_6_method_35_code 140 = .ok (.bipush 91, 2) := by decide +kernel
theorem d_M_build_142 : decode prog_6_method_35_code 142 = .ok (.if_icmp .ne 50, 3) := by decide +kernel
theorem d_M_build_192 : decode prog_6_method_35_code 192 = .ok (.iload_n 2, 1) := by decide +kernel
theorem d_M_build_193 : decode prog_6_method_35_code 193 = .ok (.bipush 92, 2) := by decide +kernel
theorem d_M_build_195 : decode prog_6_method_35_code 195 = .ok (.if_icmp .ne 33, 3) := by decide +kernel
theorem d_M_build_228 : decode prog_6_method_35_code 228 = .ok (.aload_n 0, 1) := by decide +kernel
theorem d_M_build_229 : decode prog_6_method_35_code 229 = .ok (.iload_n 2, 1) := by decide +kernel
theorem d_M_build_230 : decode prog_6_method_35_code 230 = .ok (.bipush 46, 2) := by decide +kernel
theorem d_M_build_232 : decode prog_6_method_35_code 232 = .ok (.if_icmp .ne 7, 3) := by decide +kernel
theorem d_M_build_239 : decode prog_6_method_35_code 239 = .ok (.iload_n 2, 1) := by decide +kernel
theorem d_M_build_240 : decode prog_6_method_35_code 240 = .ok (.bipush 94, 2) := by decide +kernel
theorem d_M_build_242 : decode prog_6_method_35_code 242 = .ok (.if_icmp .ne 7, 3) := by decide +kernel
theorem d_M_build_249 : decode prog_6_method_35_code 249 = .ok (.iload_n 2, 1) := by decide +kernel
theorem d_M_build_250 : decode prog_6_method_35_code 250 = .ok (.bipush 36, 2) := by decide +kernel
theorem d_M_build_252 : decode prog_6_method_35_code 252 = .ok (.if_icmp .ne 7, 3) := by decide +kernel
theorem d_M_build_259 : decode prog_6_method_35_code 259 = .ok (.iconst 1, 1) := by decide +kernel
theorem d_M_build_255 : decode prog_6_method_35_code 255 = .ok (.iconst 5, 1) := by decide +kernel
theorem d_M_build_256 : decode prog_6_method_35_code 256 = .ok (.goto 4, 3) := by decide +kernel
theorem d_M_build_245 : decode prog_6_method_35_code 245 = .ok (.iconst 4, 1) := by decide +kernel
theorem d_M_build_246 : decode prog_6_method_35_code 246 = .ok (.goto 14, 3) := by decide +kernel
theorem d_M_build_235 : decode prog_6_method_35_code 235 = .ok (.iconst 2, 1) := by decide +kernel
theorem d_M_build_236 : decode prog_6_method_35_code 236 = .ok (.goto 24, 3) := by decide +kernel
theorem d_M_build_198 : decode prog_6_method_35_code 198 = .ok (.aload_n 0, 1) := by decide +kernel
theorem d_M_build_199 : decode prog_6_method_35_code 199 = .ok (.iconst 1, 1) := by decide +kernel
theorem d_M_build_200 : decode prog_6_method_35_code 200 = .ok (.aload_n 0, 1) := by decide +kernel
theorem d_M_build_201 : decode prog_6_method_35_code 201 = .ok (.getfield 39, 3) := by decide +kernel
theorem d_M_build_204 : decode prog_6_method_35_code 204 = .ok (.iload_n 1, 1) := by decide +kernel
theorem d_M_build_205 : decode prog_6_method_35_code 205 = .ok (.iconst 1, 1) := by decide +kernel
theorem d_M_build_206 : decode prog_6_method_35_code 206 = .ok (.iadd, 1) := by decide +kernel
theorem d_M_build_207 : decode prog_6_method_35_code 207 = .ok (.caload, 1) := by decide +kernel
theorem d_M_build_208 : decode prog_6_method_35_code 208 = .ok (.iconst 0, 1) := by decide +kernel
theorem d_M_build_209 : decode prog_6_method_35_code 209 = .ok (.invokevirtual 184, 3) := by decide +kernel
theorem d_M_single_0 : decode prog_6_method_27_code 0 = .ok (.aload_n 0, 1) := by decide +kernel
theorem d_M_single_1 : decode prog_6_method_27_code 1 = .ok (.iload_n 1, 1) := by decide +kernel
theorem d_M_single_2 : decode prog_6_method_27_code 2 = .ok (.iload_n 2, 1) := by decide +kernel
theorem d_M_single_3 : decode prog_6_method_27_code 3 = .ok (.iload_n 3, 1) := by decide +kernel
theorem d_M_single_4 : decode prog_6_method_27_code 4 = .ok (.invokevirtual 148, 3) := by decide +kernel
theorem d_M_node_0 : decode prog_6_method_24_code 0 = .ok (.aload_n 0, 1) := by decide +kernel
theorem d_M_node_1 : decode prog_6_method_24_code 1 = .ok (.getfield 42, 3) := by decide +kernel
theorem d_M_node_4 : decode prog_6_method_24_code 4 = .ok (.aload_n 0, 1) := by decide +kernel
theorem d_M_node_5 : decode prog_6_method_24_code 5 = .ok (.getfield 142, 3) := by decide +kernel
theorem d_M_node_8 : decode prog_6_method_24_code 8 = .ok (.iload_n 1, 1) := by decide +kernel
theorem d_M_node_9 : decode prog_6_method_24_code 9 = .ok (.iastore, 1) := by decide +kernel
theorem d_M_node_10 : decode prog_6_method_24_code 10 = .ok (.aload_n 0, 1) := by decide +kernel
theorem d_M_node_11 : decode prog_6_method_24_code 11 = .ok (.getfield 45, 3) := by decide +kernel
theorem d_M_node_14 : decode prog_6_method_24_code 14 = .ok (.aload_n 0, 1) := by decide +kernel
theorem d_M_node_15 : decode prog_6_method_24_code 15 = .ok (.getfield 142, 3) := by decide +kernel
theorem d_M_node_18 : decode prog_6_method_24_code 18 = .ok (.iload_n 2, 1) := by decide +kernel
theorem d_M_node_19 : decode prog_6_method_24_code 19 = .ok (.iastore, 1) := by decide +kernel
theorem d_M_node_20 : decode prog_6_method_24_code 20 = .ok (.aload_n 0, 1) := by decide +kernel
theorem d_M_node_21 : decode prog_6_method_24_code 21 = .ok (.getfield 48, 3) := by decide +kernel
theorem d_M_node_24 : decode prog_6_method_24_code 24 = .ok (.aload_n 0, 1) := by decide +kernel
theorem d_M_node_25 : decode prog_6_method_24_code 25 = .ok (.getfield 142, 3) := by decide +kernel
theorem d_M_node_28 : decode prog_6_method_24_code 28 = .ok (.iload_n 3, 1) := by decide +kernel
theorem d_M_node_29 : decode prog_6_method_24_code 29 = .ok (.iastore, 1) := by decide +kernel
theorem d_M_node_30 : decode prog_6_method_24_code 30 = .ok (.aload_n 0, 1) := by decide +kernel
theorem d_M_node_31 : decode prog_6_method_24_code 31 = .ok (.getfield 51, 3) := by decide +kernel
theorem d_M_node_34 : decode prog_6_method_24_code 34 = .ok (.aload_n 0, 1) := by decide +kernel
theorem d_M_node_35 : decode prog_6_method_24_code 35 = .ok (.getfield 142, 3) := by decide +kernel
theorem d_M_node_38 : decode prog_6_method_24_code 38 = .ok (.iconst (-1), 1) := by decide +kernel
theorem d_M_node_39 : decode prog_6_method_24_code 39 = .ok (.iastore, 1) := by decide +kernel
theorem d_M_node_40 : decode prog_6_method_24_code 40 = .ok (.aload_n 0, 1) := by decide +kernel
theorem d_M_node_41 : decode prog_6_method_24_code 41 = .ok (.getfield 54, 3) := by decide +kernel
theorem d_M_node_44 : decode prog_6_method_24_code 44 = .ok (.aload_n 0, 1) := by decide +kernel
theorem d_M_node_45 : decode prog_6_method_24_code 45 = .ok (.getfield 142, 3) := by decide +kernel
theorem d_M_node_48 : decode prog_6_method_24_code 48 = .ok (.iconst (-1), 1) := by decide +kernel
theorem d_M_node_49 : decode prog_6_method_24_code 49 = .ok (.iastore, 1) := by decide +kernel
theorem d_M_node_50 : decode prog_6_method_24_code 50 = .ok (.aload_n 0, 1) := by decide +kernel
theorem d_M_node_51 : decode prog_6_method_24_code 51 = .ok (.dup, 1) := by decide +kernel
theorem d_M_node_52 : decode prog_6_method_24_code 52 = .ok (.getfield 142, 3) := by decide +kernel
theorem d_M_node_55 : decode prog_6_method_24_code 55 = .ok (.iconst 1, 1) := by decide +kernel
theorem d_M_node_56 : decode prog_6_method_24_code 56 = .ok (.iadd, 1) := by decide +kernel
theorem d_M_node_57 : decode prog_6_method_24_code 57 = .ok (.putfield 142, 3) := by decide +kernel
theorem d_M_node_60 : decode prog_6_method_24_code 60 = .ok (.aload_n 0, 1) := by decide +kernel
theorem d_M_node_61 : decode prog_6_method_24_code 61 = .ok (.getfield 142, 3) := by decide +kernel
theorem d_M_node_64 : decode prog_6_method_24_code 64 = .ok (.iconst 1, 1) := by decide +kernel
theorem d_M_node_65 : decode prog_6_method_24_code 65 = .ok (.isub, 1) := by decide +kernel
theorem d_M_node_66 : decode prog_6_method_24_code 66 = .ok (.ireturn, 1) := by decide +kernel
theorem d_M_single_7 : decode prog_6_method_27_code 7 = .ok (.istore 4, 2) := by decide +kernel
theorem d_M_single_9 : decode prog_6_method_27_code 9 = .ok (.aload_n 0, 1) := by decide +kernel
theorem d_M_single_10 : decode prog_6_method_27_code 10 = .ok (.iconst 0, 1) := by decide +kernel
theorem d_M_single_11 : decode prog_6_method_27_code 11 = .ok (.iconst 0, 1) := by decide +kernel
theorem d_M_single_12 : decode prog_6_method_27_code 12 = .ok (.iconst 0, 1) := by decide +kernel
theorem d_M_single_13 : decode prog_6_method_27_code 13 = .ok (.invokevirtual 148, 3) := by decide +kernel
theorem d_M_single_16 : decode prog_6_method_27_code 16 = .ok (.istore 5, 2) := by decide +kernel
theorem d_M_single_18 : decode prog_6_method_27_code 18 = .ok (.aload_n 0, 1) := by decide +kernel
theorem d_M_single_19 : decode prog_6_method_27_code 19 = .ok (.iload 4, 2) := by decide +kernel
theorem d_M_single_21 : decode prog_6_method_27_code 21 = .ok (.iload 5, 2) := by decide +kernel
theorem d_M_single_23 : decode prog_6_method_27_code 23 = .ok (.invokevirtual 152, 3) := by decide +kernel
theorem d_M_single_26 : decode prog_6_method_27_code 26 = .ok (.aload_n 0, 1) := by decide +kernel
theorem d_M_single_27 : decode prog_6_method_27_code 27 = .ok (.iload 4, 2) := by decide +kernel
theorem d_M_single_29 : decode prog_6_method_27_code 29 = .ok (.iload 5, 2) := by decide +kernel
theorem d_M_single_31 : decode prog_6_method_27_code 31 = .ok (.invokevirtual 155, 3) := by decide +kernel
theorem d_M_single_34 : decode prog_6_method_27_code 34 = .ok (.ireturn, 1) := by decide +kernel
theorem d_M_build_212 : decode prog_6_method_35_code 212 = .ok (.istore 5, 2) := by decide +kernel
theorem d_M_build_214 : decode prog_6_method_35_code 214 = .ok (.aload_n 0, 1) := by decide +kernel
theorem d_M_build_215 : decode prog_6_method_35_code 215 = .ok (.iload 5, 2) := by decide +kernel
theorem d_M_build_217 : decode prog_6_method_35_code 217 = .ok (.invokevirtual 177, 3) := by decide +kernel
theorem d_M_newPart_0 : decode prog_6_method_34_code 0 = .ok (.aload_n 0, 1) := by decide +kernel
theorem d_M_newPart_1 : decode prog_6_method_34_code 1 = .ok (.getfield 159, 3) := by decide +kernel
theorem d_M_newPart_4 : decode prog_6_method_34_code 4 = .ok (.iconst 1, 1) := by decide +kernel
theorem d_M_newPart_5 : decode prog_6_method_34_code 5 = .ok (.isub, 1) := by decide +kernel
theorem d_M_newPart_6 : decode prog_6_method_34_code 6 = .ok (.istore_n 2, 1) := by decide +kernel
theorem d_M_newPart_7 : decode prog_6_method_34_code 7 = .ok (.aload_n 0, 1) := by decide +kernel
theorem d_M_newPart_8 : decode prog_6_method_34_code 8 = .ok (.getfield 66, 3) := by decide +kernel
theorem d_M_newPart_11 : decode prog_6_method_34_code 11 = .ok (.iload_n 2, 1) := by decide +kernel
theorem d_M_newPart_12 : decode prog_6_method_34_code 12 = .ok (.aload_n 0, 1) := by decide +kernel
theorem d_M_newPart_13 : decode prog_6_method_34_code 13 = .ok (.aload_n 0, 1) := by decide +kernel
theorem d_M_newPart_14 : decode prog_6_method_34_code 14 = .ok (.getfield 66, 3) := by decide +kernel
theorem d_M_newPart_17 : decode prog_6_method_34_code 17 = .ok (.iload_n 2, 1) := by decide +kernel
theorem d_M_newPart_18 : decode prog_6_method_34_code 18 = .ok (.iaload, 1) := by decide +kernel
theorem d_M_newPart_19 : decode prog_6_method_34_code 19 = .ok (.aload_n 0, 1) := by decide +kernel
theorem d_M_newPart_20 : decode prog_6_method_34_code 20 = .ok (.getfield 69, 3) := by decide +kernel
theorem d_M_newPart_23 : decode prog_6_method_34_code 23 = .ok (.iload_n 2, 1) := by decide +kernel
theorem d_M_newPart_24 : decode prog_6_method_34_code 24 = .ok (.iaload, 1) := by decide +kernel
theorem d_M_newPart_25 : decode prog_6_method_34_code 25 = .ok (.invokevirtual 165, 3) := by decide +kernel
theorem d_M_newPart_28 : decode prog_6_method_34_code 28 = .ok (.iastore, 1) := by decide +kernel
theorem d_M_newPart_29 : decode prog_6_method_34_code 29 = .ok (.aload_n 0, 1) := by decide +kernel
theorem d_M_newPart_30 : decode prog_6_method_34_code 30 = .ok (.getfield 69, 3) := by decide +kernel
theorem d_M_newPart_33 : decode prog_6_method_34_code 33 = .ok (.iload_n 2, 1) := by decide +kernel
theorem d_M_newPart_34 : decode prog_6_method_34_code 34 = .ok (.iload_n 1, 1) := by decide +kernel
theorem d_M_newPart_35 : decode prog_6_method_34_code 35 = .ok (.iastore, 1) := by decide +kernel
theorem d_M_newPart_36 : decode prog_6_method_34_code 36 = .ok (.return_, 1) := by decide +kernel
theorem d_M_build_220 : decode prog_6_method_35_code 220 = .ok (.iload_n 1, 1) := by decide +kernel
theorem d_M_build_221 : decode prog_6_method_35_code 221 = .ok (.iconst 2, 1) := by decide +kernel
theorem d_M_build_222 : decode prog_6_method_35_code 222 = .ok (.iadd, 1) := by decide +kernel
theorem d_M_build_223 : decode prog_6_method_35_code 223 = .ok (.istore 4, 2) := by decide +kernel
theorem d_M_build_225 : decode prog_6_method_35_code 225 = .ok (.goto 48, 3) := by decide +kernel
theorem d_M_build_145 : decode prog_6_method_35_code 145 = .ok (.iload_n 1, 1) := by decide +kernel
theorem d_M_build_146 : decode prog_6_method_35_code 146 = .ok (.iconst 2, 1) := by decide +kernel
theorem d_M_build_147 : decode prog_6_method_35_code 147 = .ok (.iadd, 1) := by decide +kernel
theorem d_M_build_148 : decode prog_6_method_35_code 148 = .ok (.istore 4, 2) := by decide +kernel
theorem d_M_build_98 : decode prog_6_method_35_code 98 = .ok (.aload_n 0, 1) := by decide +kernel
theorem d_M_build_99 : decode prog_6_method_35_code 99 = .ok (.getfield 69, 3) := by decide +kernel
theorem d_M_build_102 : decode prog_6_method_35_code 102 = .ok (.iload_n 3, 1) := by decide +kernel
theorem d_M_build_103 : decode prog_6_method_35_code 103 = .ok (.aload_n 0, 1) := by decide +kernel
theorem d_M_build_104 : decode prog_6_method_35_code 104 = .ok (.aload_n 0, 1) := by decide +kernel
theorem d_M_build_105 : decode prog_6_method_35_code 105 = .ok (.getfield 69, 3) := by decide +kernel
theorem d_M_build_108 : decode prog_6_method_35_code 108 = .ok (.iload_n 3, 1) := by decide +kernel
theorem d_M_build_109 : decode prog_6_method_35_code 109 = .ok (.iaload, 1) := by decide +kernel
theorem d_M_build_110 : decode prog_6_method_35_code 110 = .ok (.iload_n 2, 1) := by decide +kernel
theorem d_M_build_111 : decode prog_6_method_35_code 111 = .ok (.bipush 43, 2) := by decide +kernel
theorem d_M_build_113 : decode prog_6_method_35_code 113 = .ok (.if_icmp .eq 7, 3) := by decide +kernel
theorem d_M_build_120 : decode prog_6_method_35_code 120 = .ok (.iconst 0, 1) := by decide +kernel
theorem d_M_build_116 : decode prog_6_method_35_code 116 = .ok (.iconst 1, 1) := by decide +kernel
theorem d_M_build_117 : decode prog_6_method_35_code 117 = .ok (.goto 4, 3) := by decide +kernel
theorem d_M_build_74 : decode prog_6_method_35_code 74 = .ok (.aload_n 0, 1) := by decide +kernel
theorem d_M_build_75 : decode prog_6_method_35_code 75 = .ok (.invokevirtual 174, 3) := by decide +kernel
theorem d_M_endRow_0 : decode prog_6_method_33_code 0 = .ok (.aload_n 0, 1) := by decide +kernel
theorem d_M_endRow_1 : decode prog_6_method_33_code 1 = .ok (.getfield 159, 3) := by decide +kernel
theorem d_M_endRow_4 : decode prog_6_method_33_code 4 = .ok (.iconst 1, 1) := by decide +kernel
theorem d_M_endRow_5 : decode prog_6_method_33_code 5 = .ok (.isub, 1) := by decide +kernel
theorem d_M_endRow_6 : decode prog_6_method_33_code 6 = .ok (.istore_n 1, 1) := by decide +kernel
theorem d_M_endRow_7 : decode prog_6_method_33_code 7 = .ok (.aload_n 0, 1) := by decide +kernel
theorem d_M_endRow_8 : decode prog_6_method_33_code 8 = .ok (.aload_n 0, 1) := by decide +kernel
theorem d_M_endRow_9 : decode prog_6_method_33_code 9 = .ok (.getfield 66, 3) := by decide +kernel
theorem d_M_endRow_12 : decode prog_6_method_33_code 12 = .ok (.iload_n 1, 1) := by decide +kernel
theorem d_M_endRow_13 : decode prog_6_method_33_code 13 = .ok (.iaload, 1) := by decide +kernel
theorem d_M_endRow_14 : decode prog_6_method_33_code 14 = .ok (.aload_n 0, 1) := by decide +kernel
theorem d_M_endRow_15 : decode prog_6_method_33_code 15 = .ok (.getfield 69, 3) := by decide +kernel
theorem d_M_endRow_18 : decode prog_6_method_33_code 18 = .ok (.iload_n 1, 1) := by decide +kernel
theorem d_M_endRow_19 : decode prog_6_method_33_code 19 = .ok (.iaload, 1) := by decide +kernel
theorem d_M_endRow_20 : decode prog_6_method_33_code 20 = .ok (.invokevirtual 165, 3) := by decide +kernel
theorem d_M_endRow_23 : decode prog_6_method_33_code 23 = .ok (.istore_n 2, 1) := by decide +kernel
theorem d_M_endRow_24 : decode prog_6_method_33_code 24 = .ok (.aload_n 0, 1) := by decide +kernel
theorem d_M_endRow_25 : decode prog_6_method_33_code 25 = .ok (.getfield 63, 3) := by decide +kernel
theorem d_M_endRow_28 : decode prog_6_method_33_code 28 = .ok (.iload_n 1, 1) := by decide +kernel
theorem d_M_endRow_29 : decode prog_6_method_33_code 29 = .ok (.aload_n 0, 1) := by decide +kernel
theorem d_M_endRow_30 : decode prog_6_method_33_code 30 = .ok (.aload_n 0, 1) := by decide +kernel
theorem d_M_endRow_31 : decode prog_6_method_33_code 31 = .ok (.getfield 63, 3) := by decide +kernel
theorem d_M_endRow_34 : decode prog_6_method_33_code 34 = .ok (.iload_n 1, 1) := by decide +kernel
theorem d_M_endRow_35 : decode prog_6_method_33_code 35 = .ok (.iaload, 1) := by decide +kernel
theorem d_M_endRow_36 : decode prog_6_method_33_code 36 = .ok (.iload_n 2, 1) := by decide +kernel
theorem d_M_endRow_37 : decode prog_6_method_33_code 37 = .ok (.invokevirtual 168, 3) := by decide +kernel
theorem d_M_either_0 : decode prog_6_method_30_code 0 = .ok (.iload_n 1, 1) := by decide +kernel
theorem d_M_either_1 : decode prog_6_method_30_code 1 = .ok (.ifCond .ge 5, 3) := by decide +kernel
theorem d_M_either_6 : decode prog_6_method_30_code 6 = .ok (.aload_n 0, 1) := by decide +kernel
theorem d_M_either_7 : decode prog_6_method_30_code 7 = .ok (.iconst 0, 1) := by decide +kernel
theorem d_M_either_8 : decode prog_6_method_30_code 8 = .ok (.iconst 0, 1) := by decide +kernel
theorem d_M_either_9 : decode prog_6_method_30_code 9 = .ok (.iconst 0, 1) := by decide +kernel
theorem d_M_either_10 : decode prog_6_method_30_code 10 = .ok (.invokevirtual 148, 3) := by decide +kernel
theorem d_M_either_13 : decode prog_6_method_30_code 13 = .ok (.istore_n 3, 1) := by decide +kernel
theorem d_M_either_14 : decode prog_6_method_30_code 14 = .ok (.aload_n 0, 1) := by decide +kernel
theorem d_M_either_15 : decode prog_6_method_30_code 15 = .ok (.iconst 0, 1) := by decide +kernel
theorem d_M_either_16 : decode prog_6_method_30_code 16 = .ok (.iconst 0, 1) := by decide +kernel
theorem d_M_either_17 : decode prog_6_method_30_code 17 = .ok (.iconst 0, 1) := by decide +kernel
theorem d_M_either_18 : decode prog_6_method_30_code 18 = .ok (.invokevirtual 148, 3) := by decide +kernel
theorem d_M_either_21 : decode prog_6_method_30_code 21 = .ok (.istore 4, 2) := by decide +kernel
theorem d_M_either_23 : decode prog_6_method_30_code 23 = .ok (.aload_n 0, 1) := by decide +kernel
theorem d_M_either_24 : decode prog_6_method_30_code 24 = .ok (.iload_n 3, 1) := by decide +kernel
theorem d_M_either_25 : decode prog_6_method_30_code 25 = .ok (.aload_n 0, 1) := by decide +kernel
theorem d_M_either_26 : decode prog_6_method_30_code 26 = .ok (.getfield 57, 3) := by decide +kernel
theorem d_M_either_29 : decode prog_6_method_30_code 29 = .ok (.iload_n 1, 1) := by decide +kernel
theorem d_M_either_30 : decode prog_6_method_30_code 30 = .ok (.iaload, 1) := by decide +kernel
-- 14.dec01
theorem d_M_either_31 : decode prog_6_method_30_code 31 = .ok (.invokevirtual 152, 3) := by decide +kernel
theorem d_M_either_34 : decode prog_6_method_30_code 34 = .ok (.aload_n 0, 1) := by decide +kernel
theorem d_M_either_35 : decode prog_6_method_30_code 35 = .ok (.iload_n 3, 1) := by decide +kernel
theorem d_M_either_36 : decode prog_6_method_30_code 36 = .ok (.aload_n 0, 1) := by decide +kernel
theorem d_M_either_37 : decode prog_6_method_30_code 37 = .ok (.getfield 57, 3) := by decide +kernel
theorem d_M_either_40 : decode prog_6_method_30_code 40 = .ok (.iload_n 2, 1) := by decide +kernel
theorem d_M_either_41 : decode prog_6_method_30_code 41 = .ok (.iaload, 1) := by decide +kernel
theorem d_M_either_42 : decode prog_6_method_30_code 42 = .ok (.invokevirtual 152, 3) := by decide +kernel
theorem d_M_either_45 : decode prog_6_method_30_code 45 = .ok (.aload_n 0, 1) := by decide +kernel
theorem d_M_either_46 : decode prog_6_method_30_code 46 = .ok (.aload_n 0, 1) := by decide +kernel
theorem d_M_either_47 : decode prog_6_method_30_code 47 = .ok (.getfield 60, 3) := by decide +kernel
theorem d_M_either_50 : decode prog_6_method_30_code 50 = .ok (.iload_n 1, 1) := by decide +kernel
theorem d_M_either_51 : decode prog_6_method_30_code 51 = .ok (.iaload, 1) := by decide +kernel
theorem d_M_either_52 : decode prog_6_method_30_code 52 = .ok (.iload 4, 2) := by decide +kernel
theorem d_M_either_54 : decode prog_6_method_30_code 54 = .ok (.invokevirtual 152, 3) := by decide +kernel
theorem d_M_either_57 : decode prog_6_method_30_code 57 = .ok (.aload_n 0, 1) := by decide +kernel
theorem d_M_either_58 : decode prog_6_method_30_code 58 = .ok (.aload_n 0, 1) := by decide +kernel
theorem d_M_either_59 : decode prog_6_method_30_code 59 = .ok (.getfield 60, 3) := by decide +kernel
theorem d_M_either_62 : decode prog_6_method_30_code 62 = .ok (.iload_n 2, 1) := by decide +kernel
theorem d_M_either_63 : decode prog_6_method_30_code 63 = .ok (.iaload, 1) := by decide +kernel
theorem d_M_either_64 : decode prog_6_method_30_code 64 = .ok (.iload 4, 2) := by decide +kernel
theorem d_M_either_66 : decode prog_6_method_30_code 66 = .ok (.invokevirtual 152, 3) := by decide +kernel
theorem d_M_either_69 : decode prog_6_method_30_code 69 = .ok (.aload_n 0, 1) := by decide +kernel
theorem d_M_either_70 : decode prog_6_method_30_code 70 = .ok (.iload_n 3, 1) := by decide +kernel
theorem d_M_either_71 : decode prog_6_method_30_code 71 = .ok (.iload 4, 2) := by decide +kernel
theorem d_M_either_73 : decode prog_6_method_30_code 73 = .ok (.invokevirtual 155, 3) := by decide +kernel
theorem d_M_either_76 : decode prog_6_method_30_code 76 = .ok (.ireturn, 1) := by decide +kernel
theorem d_M_either_4 : decode prog_6_method_30_code 4 = .ok (.iload_n 2, 1) := by decide +kernel
theorem d_M_either_5 : decode prog_6_method_30_code 5 = .ok (.ireturn, 1) := by decide +kernel
theorem d_M_endRow_40 : decode prog_6_method_33_code 40 = .ok (.iastore, 1) := by decide +kernel
theorem d_M_endRow_41 : decode prog_6_method_33_code 41 = .ok (.aload_n 0, 1) := by decide +kernel
theorem d_M_endRow_42 : decode prog_6_method_33_code 42 = .ok (.getfield 69, 3) := by decide +kernel
theorem d_M_endRow_45 : decode prog_6_method_33_code 45 = .ok (.iload_n 1, 1) := by decide +kernel
theorem d_M_endRow_46 : decode prog_6_method_33_code 46 = .ok (.iconst (-1), 1) := by decide +kernel
theorem d_M_endRow_47 : decode prog_6_method_33_code 47 = .ok (.iastore, 1) := by decide +kernel
theorem d_M_endRow_48 : decode prog_6_method_33_code 48 = .ok (.return_, 1) := by decide +kernel
theorem d_M_build_78 : decode prog_6_method_35_code 78 = .ok (.aload_n 0, 1) := by decide +kernel
theorem d_M_build_79 : decode prog_6_method_35_code 79 = .ok (.getfield 66, 3) := by decide +kernel
theorem d_M_build_82 : decode prog_6_method_35_code 82 = .ok (.iload_n 3, 1) := by decide +kernel
theorem d_M_build_83 : decode prog_6_method_35_code 83 = .ok (.aload_n 0, 1) := by decide +kernel
theorem d_M_build_84 : decode prog_6_method_35_code 84 = .ok (.invokevirtual 162, 3) := by decide +kernel
theorem d_M_nothing_0 : decode prog_6_method_28_code 0 = .ok (.aload_n 0, 1) := by decide +kernel
theorem d_M_nothing_1 : decode prog_6_method_28_code 1 = .ok (.iconst 0, 1) := by decide +kernel
theorem d_M_nothing_2 : decode prog_6_method_28_code 2 = .ok (.iconst 0, 1) := by decide +kernel
theorem d_M_nothing_3 : decode prog_6_method_28_code 3 = .ok (.iconst 0, 1) := by decide +kernel
theorem d_M_nothing_4 : decode prog_6_method_28_code 4 = .ok (.invokevirtual 148, 3) := by decide +kernel
theorem d_M_nothing_7 : decode prog_6_method_28_code 7 = .ok (.istore_n 1, 1) := by decide +kernel
theorem d_M_nothing_8 : decode prog_6_method_28_code 8 = .ok (.aload_n 0, 1) := by decide +kernel
theorem d_M_nothing_9 : decode prog_6_method_28_code 9 = .ok (.iload_n 1, 1) := by decide +kernel
theorem d_M_nothing_10 : decode prog_6_method_28_code 10 = .ok (.iload_n 1, 1) := by decide +kernel
theorem d_M_nothing_11 : decode prog_6_method_28_code 11 = .ok (.invokevirtual 155, 3) := by decide +kernel
theorem d_M_nothing_14 : decode prog_6_method_28_code 14 = .ok (.ireturn, 1) := by decide +kernel
theorem d_M_build_87 : decode prog_6_method_35_code 87 = .ok (.iastore, 1) := by decide +kernel
theorem d_M_build_88 : decode prog_6_method_35_code 88 = .ok (.goto 185, 3) := by decide +kernel
theorem d_M_build_38 : decode prog_6_method_35_code 38 = .ok (.aload_n 0, 1) := by decide +kernel
theorem d_M_build_39 : decode prog_6_method_35_code 39 = .ok (.invokevirtual 174, 3) := by decide +kernel
theorem d_M_build_42 : decode prog_6_method_35_code 42 = .ok (.aload_n 0, 1) := by decide +kernel
theorem d_M_build_43 : decode prog_6_method_35_code 43 = .ok (.dup, 1) := by decide +kernel
theorem d_M_build_44 : decode prog_6_method_35_code 44 = .ok (.getfield 159, 3) := by decide +kernel
theorem d_M_build_47 : decode prog_6_method_35_code 47 = .ok (.iconst 1, 1) := by decide +kernel
theorem d_M_build_48 : decode prog_6_method_35_code 48 = .ok (.isub, 1) := by decide +kernel
theorem d_M_build_49 : decode prog_6_method_35_code 49 = .ok (.putfield 159, 3) := by decide +kernel
theorem d_M_build_52 : decode prog_6_method_35_code 52 = .ok (.aload_n 0, 1) := by decide +kernel
theorem d_M_build_53 : decode prog_6_method_35_code 53 = .ok (.aload_n 0, 1) := by decide +kernel
theorem d_M_build_54 : decode prog_6_method_35_code 54 = .ok (.getfield 63, 3) := by decide +kernel
theorem d_M_build_57 : decode prog_6_method_35_code 57 = .ok (.aload_n 0, 1) := by decide +kernel
theorem d_M_build_58 : decode prog_6_method_35_code 58 = .ok (.getfield 159, 3) := by decide +kernel
theorem d_M_build_61 : decode prog_6_method_35_code 61 = .ok (.iaload, 1) := by decide +kernel
theorem d_M_build_62 : decode prog_6_method_35_code 62 = .ok (.invokevirtual 177, 3) := by decide +kernel
theorem d_M_build_65 : decode prog_6_method_35_code 65 = .ok (.goto 208, 3) := by decide +kernel
theorem d_M_build_25 : decode prog_6_method_35_code 25 = .ok (.aload_n 0, 1) := by decide +kernel
theorem d_M_build_26 : decode prog_6_method_35_code 26 = .ok (.invokevirtual 171, 3) := by decide +kernel
theorem d_M_openGroup_0 : decode prog_6_method_32_code 0 = .ok (.aload_n 0, 1) := by decide +kernel
theorem d_M_openGroup_1 : decode prog_6_method_32_code 1 = .ok (.getfield 63, 3) := by decide +kernel
theorem d_M_openGroup_4 : decode prog_6_method_32_code 4 = .ok (.aload_n 0, 1) := by decide +kernel
theorem d_M_openGroup_5 : decode prog_6_method_32_code 5 = .ok (.getfield 159, 3) := by decide +kernel
theorem d_M_openGroup_8 : decode prog_6_method_32_code 8 = .ok (.iconst (-1), 1) := by decide +kernel
theorem d_M_openGroup_9 : decode prog_6_method_32_code 9 = .ok (.iastore, 1) := by decide +kernel
theorem d_M_openGroup_10 : decode prog_6_method_32_code 10 = .ok (.aload_n 0, 1) := by decide +kernel
theorem d_M_openGroup_11 : decode prog_6_method_32_code 11 = .ok (.getfield 66, 3) := by decide +kernel
theorem d_M_openGroup_14 : decode prog_6_method_32_code 14 = .ok (.aload_n 0, 1) := by decide +kernel
theorem d_M_openGroup_15 : decode prog_6_method_32_code 15 = .ok (.getfield 159, 3) := by decide +kernel
theorem d_M_openGroup_18 : decode prog_6_method_32_code 18 = .ok (.aload_n 0, 1) := by decide +kernel
theorem d_M_openGroup_19 : decode prog_6_method_32_code 19 = .ok (.invokevirtual 162, 3) := by decide +kernel
theorem d_M_openGroup_22 : decode prog_6_method_32_code 22 = .ok (.iastore, 1) := by decide +kernel
theorem d_M_openGroup_23 : decode prog_6_method_32_code 23 = .ok (.aload_n 0, 1) := by decide +kernel
theorem d_M_openGroup_24 : decode prog_6_method_32_code 24 = .ok (.getfield 69, 3) := by decide +kernel
theorem d_M_openGroup_27 : decode prog_6_method_32_code 27 = .ok (.aload_n 0, 1) := by decide +kernel
theorem d_M_openGroup_28 : decode prog_6_method_32_code 28 = .ok (.getfield 159, 3) := by decide +kernel
theorem d_M_openGroup_31 : decode prog_6_method_32_code 31 = .ok (.iconst (-1), 1) := by decide +kernel
theorem d_M_openGroup_32 : decode prog_6_method_32_code 32 = .ok (.iastore, 1) := by decide +kernel
theorem d_M_openGroup_33 : decode prog_6_method_32_code 33 = .ok (.aload_n 0, 1) := by decide +kernel
theorem d_M_openGroup_34 : decode prog_6_method_32_code 34 = .ok (.dup, 1) := by decide +kernel
theorem d_M_openGroup_35 : decode prog_6_method_32_code 35 = .ok (.getfield 159, 3) := by decide +kernel
theorem d_M_openGroup_38 : decode prog_6_method_32_code 38 = .ok (.iconst 1, 1) := by decide +kernel
theorem d_M_openGroup_39 : decode prog_6_method_32_code 39 = .ok (.iadd, 1) := by decide +kernel
theorem d_M_openGroup_40 : decode prog_6_method_32_code 40 = .ok (.putfield 159, 3) := by decide +kernel
theorem d_M_openGroup_43 : decode prog_6_method_32_code 43 = .ok (.return_, 1) := by decide +kernel
theorem d_M_build_29 : decode prog_6_method_35_code 29 = .ok (.goto 244, 3) := by decide +kernel
theorem d_M_build_260 : decode prog_6_method_35_code 260 = .ok (.iload_n 2, 1) := by decide +kernel
theorem d_M_build_261 : decode prog_6_method_35_code 261 = .ok (.iconst 0, 1) := by decide +kernel
theorem d_M_build_262 : decode prog_6_method_35_code 262 = .ok (.invokevirtual 184, 3) := by decide +kernel
theorem d_M_build_265 : decode prog_6_method_35_code 265 = .ok (.istore 5, 2) := by decide +kernel
theorem d_M_build_267 : decode prog_6_method_35_code 267 = .ok (.aload_n 0, 1) := by decide +kernel
theorem d_M_build_268 : decode prog_6_method_35_code 268 = .ok (.iload 5, 2) := by decide +kernel
theorem d_M_build_270 : decode prog_6_method_35_code 270 = .ok (.invokevirtual 177, 3) := by decide +kernel
theorem d_M_build_273 : decode prog_6_method_35_code 273 = .ok (.iload 4, 2) := by decide +kernel
theorem d_M_build_275 : decode prog_6_method_35_code 275 = .ok (.ireturn, 1) := by decide +kernel
theorem d_M_build_150 : decode prog_6_method_35_code 150 = .ok (.aload_n 0, 1) := by decide +kernel
theorem d_M_build_151 : decode prog_6_method_35_code 151 = .ok (.getfield 39, 3) := by decide +kernel
theorem d_M_build_154 : decode prog_6_method_35_code 154 = .ok (.iload 4, 2) := by decide +kernel
theorem d_M_build_156 : decode prog_6_method_35_code 156 = .ok (.caload, 1) := by decide +kernel
theorem d_M_build_157 : decode prog_6_method_35_code 157 = .ok (.bipush 93, 2) := by decide +kernel
theorem d_M_build_159 : decode prog_6_method_35_code 159 = .ok (.if_icmp .eq 9, 3) := by decide +kernel
theorem d_M_build_168 : decode prog_6_method_35_code 168 = .ok (.aload_n 0, 1) := by decide +kernel
theorem d_M_build_169 : decode prog_6_method_35_code 169 = .ok (.iconst 3, 1) := by decide +kernel
theorem d_M_build_170 : decode prog_6_method_35_code 170 = .ok (.iload_n 1, 1) := by decide +kernel
theorem d_M_build_171 : decode prog_6_method_35_code 171 = .ok (.iconst 1, 1) := by decide +kernel
theorem d_M_build_172 : decode prog_6_method_35_code 172 = .ok (.iadd, 1) := by decide +kernel
theorem d_M_build_173 : decode prog_6_method_35_code 173 = .ok (.iload 4, 2) := by decide +kernel
theorem d_M_build_175 : decode prog_6_method_35_code 175 = .ok (.invokevirtual 184, 3) := by decide +kernel
theorem d_M_build_178 : decode prog_6_method_35_code 178 = .ok (.istore 5, 2) := by decide +kernel
theorem d_M_build_180 : decode prog_6_method_35_code 180 = .ok (.aload_n 0, 1) := by decide +kernel
theorem d_M_build_181 : decode prog_6_method_35_code 181 = .ok (.iload 5, 2) := by decide +kernel
theorem d_M_build_183 : decode prog_6_method_35_code 183 = .ok (.invokevirtual 177, 3) := by decide +kernel
theorem d_M_build_186 : decode prog_6_method_35_code 186 = .ok (.iinc 4 1, 3) := by decide +kernel
theorem d_M_build_189 : decode prog_6_method_35_code 189 = .ok (.goto 84, 3) := by decide +kernel
theorem d_M_build_162 : decode prog_6_method_35_code 162 = .ok (.iinc 4 1, 3) := by decide +kernel
theorem d_M_build_165 : decode prog_6_method_35_code 165 = .ok (.goto (-15), 3) := by decide +kernel
theorem d_M_build_121 : decode prog_6_method_35_code 121 = .ok (.iload_n 2, 1) := by decide +kernel
theorem d_M_build_122 : decode prog_6_method_35_code 122 = .ok (.bipush 63, 2) := by decide +kernel
theorem d_M_build_124 : decode prog_6_method_35_code 124 = .ok (.if_icmp .eq 7, 3) := by decide +kernel
theorem d_M_build_131 : decode prog_6_method_35_code 131 = .ok (.iconst 0, 1) := by decide +kernel
theorem d_M_build_127 : decode prog_6_method_35_code 127 = .ok (.iconst 1, 1) := by decide +kernel
theorem d_M_build_128 : decode prog_6_method_35_code 128 = .ok (.goto 4, 3) := by decide +kernel
theorem d_M_build_132 : decode prog_6_method_35_code 132 = .ok (.invokevirtual 180, 3) := by decide +kernel
theorem d_M_times_0 : decode prog_6_method_31_code 0 = .ok (.aload_n 0, 1) := by decide +kernel
theorem d_M_times_1 : decode prog_6_method_31_code 1 = .ok (.iconst 0, 1) := by decide +kernel
theorem d_M_times_2 : decode prog_6_method_31_code 2 = .ok (.iconst 0, 1) := by decide +kernel
theorem d_M_times_3 : decode prog_6_method_31_code 3 = .ok (.iconst 0, 1) := by decide +kernel
theorem d_M_times_4 : decode prog_6_method_31_code 4 = .ok (.invokevirtual 148, 3) := by decide +kernel
theorem d_M_times_7 : decode prog_6_method_31_code 7 = .ok (.istore 4, 2) := by decide +kernel
theorem d_M_times_9 : decode prog_6_method_31_code 9 = .ok (.aload_n 0, 1) := by decide +kernel
theorem d_M_times_10 : decode prog_6_method_31_code 10 = .ok (.iconst 0, 1) := by decide +kernel
theorem d_M_times_11 : decode prog_6_method_31_code 11 = .ok (.iconst 0, 1) := by decide +kernel
theorem d_M_times_12 : decode prog_6_method_31_code 12 = .ok (.iconst 0, 1) := by decide +kernel
theorem d_M_times_13 : decode prog_6_method_31_code 13 = .ok (.invokevirtual 148, 3) := by decide +kernel
theorem d_M_times_16 : decode prog_6_method_31_code 16 = .ok (.istore 5, 2) := by decide +kernel
theorem d_M_times_18 : decode prog_6_method_31_code 18 = .ok (.aload_n 0, 1) := by decide +kernel
theorem d_M_times_19 : decode prog_6_method_31_code 19 = .ok (.iload 4, 2) := by decide +kernel
theorem d_M_times_21 : decode prog_6_method_31_code 21 = .ok (.aload_n 0, 1) := by decide +kernel
theorem d_M_times_22 : decode prog_6_method_31_code 22 = .ok (.getfield 57, 3) := by decide +kernel
theorem d_M_times_25 : decode prog_6_method_31_code 25 = .ok (.iload_n 1, 1) := by decide +kernel
theorem d_M_times_26 : decode prog_6_method_31_code 26 = .ok (.iaload, 1) := by decide +kernel
theorem d_M_times_27 : decode prog_6_method_31_code 27 = .ok (.invokevirtual 152, 3) := by decide +kernel
theorem d_M_times_30 : decode prog_6_method_31_code 30 = .ok (.aload_n 0, 1) := by decide +kernel
theorem d_M_times_31 : decode prog_6_method_31_code 31 = .ok (.aload_n 0, 1) := by decide +kernel
theorem d_M_times_32 : decode prog_6_method_31_code 32 = .ok (.getfield 60, 3) := by decide +kernel
theorem d_M_times_35 : decode prog_6_method_31_code 35 = .ok (.iload_n 1, 1) := by decide +kernel
theorem d_M_times_36 : decode prog_6_method_31_code 36 = .ok (.iaload, 1) := by decide +kernel
theorem d_M_times_37 : decode prog_6_method_31_code 37 = .ok (.iload 5, 2) := by decide +kernel
theorem d_M_times_39 : decode prog_6_method_31_code 39 = .ok (.invokevirtual 152, 3) := by decide +kernel
theorem d_M_times_42 : decode prog_6_method_31_code 42 = .ok (.iload_n 2, 1) := by decide +kernel
theorem d_M_times_43 : decode prog_6_method_31_code 43 = .ok (.ifCond .eq 11, 3) := by decide +kernel
theorem d_M_times_46 : decode prog_6_method_31_code 46 = .ok (.aload_n 0, 1) := by decide +kernel
theorem d_M_times_47 : decode prog_6_method_31_code 47 = .ok (.iload 4, 2) := by decide +kernel
theorem d_M_times_49 : decode prog_6_method_31_code 49 = .ok (.iload 5, 2) := by decide +kernel
theorem d_M_times_51 : decode prog_6_method_31_code 51 = .ok (.invokevirtual 152, 3) := by decide +kernel
theorem d_M_times_54 : decode prog_6_method_31_code 54 = .ok (.iload_n 3, 1) := by decide +kernel
theorem d_M_times_55 : decode prog_6_method_31_code 55 = .ok (.ifCond .eq 19, 3) := by decide +kernel
theorem d_M_times_58 : decode prog_6_method_31_code 58 = .ok (.aload_n 0, 1) := by decide +kernel
theorem d_M_times_59 : decode prog_6_method_31_code 59 = .ok (.aload_n 0, 1) := by decide +kernel
theorem d_M_times_60 : decode prog_6_method_31_code 60 = .ok (.getfield 60, 3) := by decide +kernel
theorem d_M_times_63 : decode prog_6_method_31_code 63 = .ok (.iload_n 1, 1) := by decide +kernel
theorem d_M_times_64 : decode prog_6_method_31_code 64 = .ok (.iaload, 1) := by decide +kernel
theorem d_M_times_65 : decode prog_6_method_31_code 65 = .ok (.aload_n 0, 1) := by decide +kernel
theorem d_M_times_66 : decode prog_6_method_31_code 66 = .ok (.getfield 57, 3) := by decide +kernel
theorem d_M_times_69 : decode prog_6_method_31_code 69 = .ok (.iload_n 1, 1) := by decide +kernel
theorem d_M_times_70 : decode prog_6_method_31_code 70 = .ok (.iaload, 1) := by decide +kernel
theorem d_M_times_71 : decode prog_6_method_31_code 71 = .ok (.invokevirtual 152, 3) := by decide +kernel
theorem d_M_times_74 : decode prog_6_method_31_code 74 = .ok (.aload_n 0, 1) := by decide +kernel
theorem d_M_times_75 : decode prog_6_method_31_code 75 = .ok (.iload 4, 2) := by decide +kernel
theorem d_M_times_77 : decode prog_6_method_31_code 77 = .ok (.iload 5, 2) := by decide +kernel
theorem d_M_times_79 : decode prog_6_method_31_code 79 = .ok (.invokevirtual 155, 3) := by decide +kernel
theorem d_M_times_82 : decode prog_6_method_31_code 82 = .ok (.ireturn, 1) := by decide +kernel
theorem d_M_build_135 : decode prog_6_method_35_code 135 = .ok (.iastore, 1) := by decide +kernel
theorem d_M_build_136 : decode prog_6_method_35_code 136 = .ok (.goto 137, 3) := by decide +kernel
theorem d_M_come_0 : decode prog_6_method_8_code 0 = .ok (.aload_n 0, 1) := by decide +kernel
theorem d_M_come_1 : decode prog_6_method_8_code 1 = .ok (.getfield 24, 3) := by decide +kernel
theorem d_M_come_4 : decode prog_6_method_8_code 4 = .ok (.aload_n 0, 1) := by decide +kernel
theorem d_M_come_5 : decode prog_6_method_8_code 5 = .ok (.getfield 92, 3) := by decide +kernel
theorem d_M_come_8 : decode prog_6_method_8_code 8 = .ok (.aload_n 0, 1) := by decide +kernel
theorem d_M_come_9 : decode prog_6_method_8_code 9 = .ok (.getfield 95, 3) := by decide +kernel
theorem d_M_come_12 : decode prog_6_method_8_code 12 = .ok (.iastore, 1) := by decide +kernel
theorem d_M_come_13 : decode prog_6_method_8_code 13 = .ok (.aload_n 0, 1) := by decide +kernel
theorem d_M_come_14 : decode prog_6_method_8_code 14 = .ok (.iload_n 1, 1) := by decide +kernel
theorem d_M_come_15 : decode prog_6_method_8_code 15 = .ok (.putfield 92, 3) := by decide +kernel
theorem d_M_come_18 : decode prog_6_method_8_code 18 = .ok (.aload_n 0, 1) := by decide +kernel
theorem d_M_come_19 : decode prog_6_method_8_code 19 = .ok (.aload_n 0, 1) := by decide +kernel
theorem d_M_come_20 : decode prog_6_method_8_code 20 = .ok (.getfield 24, 3) := by decide +kernel
theorem d_M_come_23 : decode prog_6_method_8_code 23 = .ok (.iload_n 1, 1) := by decide +kernel
theorem d_M_come_24 : decode prog_6_method_8_code 24 = .ok (.iaload, 1) := by decide +kernel
theorem d_M_come_25 : decode prog_6_method_8_code 25 = .ok (.putfield 95, 3) := by decide +kernel
theorem d_M_come_28 : decode prog_6_method_8_code 28 = .ok (.aload_n 0, 1) := by decide +kernel
theorem d_M_come_29 : decode prog_6_method_8_code 29 = .ok (.iconst (-1), 1) := by decide +kernel
theorem d_M_come_30 : decode prog_6_method_8_code 30 = .ok (.putfield 33, 3) := by decide +kernel
theorem d_M_come_33 : decode prog_6_method_8_code 33 = .ok (.aload_n 0, 1) := by decide +kernel
theorem d_M_come_34 : decode prog_6_method_8_code 34 = .ok (.dup, 1) := by decide +kernel
theorem d_M_come_35 : decode prog_6_method_8_code 35 = .ok (.getfield 98, 3) := by decide +kernel
theorem d_M_come_38 : decode prog_6_method_8_code 38 = .ok (.iconst 1, 1) := by decide +kernel
theorem d_M_come_39 : decode prog_6_method_8_code 39 = .ok (.iadd, 1) := by decide +kernel
theorem d_M_come_40 : decode prog_6_method_8_code 40 = .ok (.putfield 98, 3) := by decide +kernel
theorem d_M_come_43 : decode prog_6_method_8_code 43 = .ok (.aload_n 0, 1) := by decide +kernel
theorem d_M_come_44 : decode prog_6_method_8_code 44 = .ok (.getfield 30, 3) := by decide +kernel
theorem d_M_come_47 : decode prog_6_method_8_code 47 = .ok (.iload_n 1, 1) := by decide +kernel
theorem d_M_come_48 : decode prog_6_method_8_code 48 = .ok (.aload_n 0, 1) := by decide +kernel
theorem d_M_come_49 : decode prog_6_method_8_code 49 = .ok (.getfield 98, 3) := by decide +kernel
theorem d_M_come_52 : decode prog_6_method_8_code 52 = .ok (.iastore, 1) := by decide +kernel
theorem d_M_come_53 : decode prog_6_method_8_code 53 = .ok (.return_, 1) := by decide +kernel
theorem d_M_compile_0 : decode prog_6_method_36_code 0 = .ok (.aload_n 0, 1) := by decide +kernel
theorem d_M_compile_1 : decode prog_6_method_36_code 1 = .ok (.invokevirtual 187, 3) := by decide +kernel
theorem d_M_good_0 : decode prog_6_method_23_code 0 = .ok (.iconst 0, 1) := by decide +kernel
theorem d_M_good_1 : decode prog_6_method_23_code 1 = .ok (.istore_n 1, 1) := by decide +kernel
theorem d_M_good_2 : decode prog_6_method_23_code 2 = .ok (.iconst 0, 1) := by decide +kernel
theorem d_M_good_3 : decode prog_6_method_23_code 3 = .ok (.istore_n 2, 1) := by decide +kernel
theorem d_M_good_4 : decode prog_6_method_23_code 4 = .ok (.iconst 0, 1) := by decide +kernel
theorem d_M_good_5 : decode prog_6_method_23_code 5 = .ok (.istore_n 3, 1) := by decide +kernel
theorem d_M_good_6 : decode prog_6_method_23_code 6 = .ok (.iload_n 3, 1) := by decide +kernel
theorem d_M_good_7 : decode prog_6_method_23_code 7 = .ok (.aload_n 0, 1) := by decide +kernel
theorem d_M_good_8 : decode prog_6_method_23_code 8 = .ok (.getfield 89, 3) := by decide +kernel
theorem d_M_good_11 : decode prog_6_method_23_code 11 = .ok (.if_icmp .ge 211, 3) := by decide +kernel
theorem d_M_good_222 : decode prog_6_method_23_code 222 = .ok (.iload_n 1, 1) := by decide +kernel
theorem d_M_good_223 : decode prog_6_method_23_code 223 = .ok (.iconst 1, 1) := by decide +kernel
theorem d_M_good_224 : decode prog_6_method_23_code 224 = .ok (.if_icmp .gt 7, 3) := by decide +kernel
theorem d_M_good_227 : decode prog_6_method_23_code 227 = .ok (.iload_n 2, 1) := by decide +kernel
theorem d_M_good_228 : decode prog_6_method_23_code 228 = .ok (.ifCond .le 12, 3) := by decide +kernel
theorem d_M_good_240 : decode prog_6_method_23_code 240 = .ok (.aload_n 0, 1) := by decide +kernel
theorem d_M_good_241 : decode prog_6_method_23_code 241 = .ok (.getfield 89, 3) := by decide +kernel
theorem d_M_good_14 : decode prog_6_method_23_code 14 = .ok (.aload_n 0, 1) := by decide +kernel
theorem d_M_good_15 : decode prog_6_method_23_code 15 = .ok (.getfield 7, 3) := by decide +kernel
theorem d_M_good_18 : decode prog_6_method_23_code 18 = .ok (.iload_n 3, 1) := by decide +kernel
theorem d_M_good_19 : decode prog_6_method_23_code 19 = .ok (.caload, 1) := by decide +kernel
theorem d_M_good_20 : decode prog_6_method_23_code 20 = .ok (.istore 4, 2) := by decide +kernel
theorem d_M_good_22 : decode prog_6_method_23_code 22 = .ok (.iload_n 1, 1) := by decide +kernel
theorem d_M_good_23 : decode prog_6_method_23_code 23 = .ok (.iconst 2, 1) := by decide +kernel
theorem d_M_good_24 : decode prog_6_method_23_code 24 = .ok (.if_icmp .ne 8, 3) := by decide +kernel
theorem d_M_good_32 : decode prog_6_method_23_code 32 = .ok (.iload_n 1, 1) := by decide +kernel
theorem d_M_good_33 : decode prog_6_method_23_code 33 = .ok (.iconst 3, 1) := by decide +kernel
theorem d_M_good_34 : decode prog_6_method_23_code 34 = .ok (.if_icmp .ne 15, 3) := by decide +kernel
theorem d_M_good_37 : decode prog_6_method_23_code 37 = .ok (.iload 4, 2) := by decide +kernel
theorem d_M_good_39 : decode prog_6_method_23_code 39 = .ok (.bipush 94, 2) := by decide +kernel
theorem d_M_good_41 : decode prog_6_method_23_code 41 = .ok (.if_icmp .ne 8, 3) := by decide +kernel
theorem d_M_good_44 : decode prog_6_method_23_code 44 = .ok (.iconst 4, 1) := by decide +kernel
theorem d_M_good_45 : decode prog_6_method_23_code 45 = .ok (.istore_n 1, 1) := by decide +kernel
theorem d_M_good_46 : decode prog_6_method_23_code 46 = .ok (.goto 170, 3) := by decide +kernel
theorem d_M_good_27 : decode prog_6_method_23_code 27 = .ok (.iconst 1, 1) := by decide +kernel
theorem d_M_good_28 : decode prog_6_method_23_code 28 = .ok (.istore_n 1, 1) := by decide +kernel
theorem d_M_good_29 : decode prog_6_method_23_code 29 = .ok (.goto 187, 3) := by decide +kernel
theorem d_M_good_231 : decode prog_6_method_23_code 231 = .ok (.iconst (-1), 1) := by decide +kernel
theorem d_M_good_232 : decode prog_6_method_23_code 232 = .ok (.aload_n 0, 1) := by decide +kernel
theorem d_M_good_233 : decode prog_6_method_23_code 233 = .ok (.getfield 89, 3) := by decide +kernel
theorem d_M_good_236 : decode prog_6_method_23_code 236 = .ok (.isub, 1) := by decide +kernel
theorem d_M_good_237 : decode prog_6_method_23_code 237 = .ok (.goto 7, 3) := by decide +kernel
theorem d_M_good_244 : decode prog_6_method_23_code 244 = .ok (.ireturn, 1) := by decide +kernel
theorem d_M_good_49 : decode prog_6_method_23_code 49 = .ok (.iload_n 1, 1) := by decide +kernel
theorem d_M_good_50 : decode prog_6_method_23_code 50 = .ok (.iconst 2, 1) := by decide +kernel
theorem d_M_good_51 : decode prog_6_method_23_code 51 = .ok (.if_icmp .le 33, 3) := by decide +kernel
theorem d_M_good_84 : decode prog_6_method_23_code 84 = .ok (.iload 4, 2) := by decide +kernel
theorem d_M_good_86 : decode prog_6_method_23_code 86 = .ok (.bipush 40, 2) := by decide +kernel
theorem d_M_good_88 : decode prog_6_method_23_code 88 = .ok (.if_icmp .ne 19, 3) := by decide +kernel
theorem d_M_good_107 : decode prog_6_method_23_code 107 = .ok (.iload 4, 2) := by decide +kernel
theorem d_M_good_109 : decode prog_6_method_23_code 109 = .ok (.bipush 41, 2) := by decide +kernel
theorem d_M_good_111 : decode prog_6_method_23_code 111 = .ok (.if_icmp .ne 15, 3) := by decide +kernel
theorem d_M_good_114 : decode prog_6_method_23_code 114 = .ok (.iload_n 2, 1) := by decide +kernel
theorem d_M_good_115 : decode prog_6_method_23_code 115 = .ok (.ifCond .le 11, 3) := by decide +kernel
theorem d_M_good_118 : decode prog_6_method_23_code 118 = .ok (.iinc 2 (-1), 3) := by decide +kernel
theorem d_M_good_121 : decode prog_6_method_23_code 121 = .ok (.iconst 1, 1) := by decide +kernel
theorem d_M_good_122 : decode prog_6_method_23_code 122 = .ok (.istore_n 1, 1) := by decide +kernel
theorem d_M_good_123 : decode prog_6_method_23_code 123 = .ok (.goto 93, 3) := by decide +kernel
theorem d_M_good_91 : decode prog_6_method_23_code 91 = .ok (.iload_n 2, 1) := by decide +kernel
theorem d_M_good_92 : decode prog_6_method_23_code 92 = .ok (.bipush 8, 2) := by decide +kernel
theorem d_M_good_94 : decode prog_6_method_23_code 94 = .ok (.if_icmp .ne 5, 3) := by decide +kernel
theorem d_M_good_99 : decode prog_6_method_23_code 99 = .ok (.iinc 2 1, 3) := by decide +kernel
theorem d_M_good_102 : decode prog_6_method_23_code 102 = .ok (.iconst 0, 1) := by decide +kernel
theorem d_M_good_103 : decode prog_6_method_23_code 103 = .ok (.istore_n 1, 1) := by decide +kernel
theorem d_M_good_104 : decode prog_6_method_23_code 104 = .ok (.goto 112, 3) := by decide +kernel
theorem d_M_good_97 : decode prog_6_method_23_code 97 = .ok (.iload_n 3, 1) := by decide +kernel
theorem d_M_good_98 : decode prog_6_method_23_code 98 = .ok (.ireturn, 1) := by decide +kernel
theorem d_M_good_54 : decode prog_6_method_23_code 54 = .ok (.iload 4, 2) := by decide +kernel
theorem d_M_good_56 : decode prog_6_method_23_code 56 = .ok (.bipush 93, 2) := by decide +kernel
theorem d_M_good_58 : decode prog_6_method_23_code 58 = .ok (.if_icmp .ne 10, 3) := by decide +kernel
theorem d_M_good_61 : decode prog_6_method_23_code 61 = .ok (.iload_n 1, 1) := by decide +kernel
theorem d_M_good_62 : decode prog_6_method_23_code 62 = .ok (.iconst 5, 1) := by decide +kernel
theorem d_M_good_63 : decode prog_6_method_23_code 63 = .ok (.if_icmp .ge 5, 3) := by decide +kernel
theorem d_M_good_66 : decode prog_6_method_23_code 66 = .ok (.iload_n 3, 1) := by decide +kernel
theorem d_M_good_67 : decode prog_6_method_23_code 67 = .ok (.ireturn, 1) := by decide +kernel
theorem d_M_good_216 : decode prog_6_method_23_code 216 = .ok (.iinc 3 1, 3) := by decide +kernel
theorem d_M_good_219 : decode prog_6_method_23_code 219 = .ok (.goto (-213), 3) := by decide +kernel
theorem d_M_good_126 : decode prog_6_method_23_code 126 = .ok (.iload 4, 2) := by decide +kernel
theorem d_M_good_128 : decode prog_6_method_23_code 128 = .ok (.bipush 124, 2) := by decide +kernel
theorem d_M_good_130 : decode prog_6_method_23_code 130 = .ok (.if_icmp .ne 8, 3) := by decide +kernel
theorem d_M_good_138 : decode prog_6_method_23_code 138 = .ok (.iload 4, 2) := by decide +kernel
theorem d_M_good_140 : decode prog_6_method_23_code 140 = .ok (.bipush 91, 2) := by decide +kernel
theorem d_M_good_142 : decode prog_6_method_23_code 142 = .ok (.if_icmp .eq 10, 3) := by decide +kernel
theorem d_M_good_145 : decode prog_6_method_23_code 145 = .ok (.iload 4, 2) := by decide +kernel
theorem d_M_good_147 : decode prog_6_method_23_code 147 = .ok (.bipush 92, 2) := by decide +kernel
theorem d_M_good_149 : decode prog_6_method_23_code 149 = .ok (.if_icmp .ne 19, 3) := by decide +kernel
theorem d_M_good_168 : decode prog_6_method_23_code 168 = .ok (.iload 4, 2) := by decide +kernel
theorem d_M_good_170 : decode prog_6_method_23_code 170 = .ok (.invokestatic 136, 3) := by decide +kernel
theorem d_M_isPlain_0 : decode prog_6_method_21_code 0 = .ok (.iload_n 0, 1) := by decide +kernel
theorem d_M_isPlain_1 : decode prog_6_method_21_code 1 = .ok (.bipush 40, 2) := by decide +kernel
theorem d_M_isPlain_3 : decode prog_6_method_21_code 3 = .ok (.if_icmp .eq 73, 3) := by decide +kernel
theorem d_M_isPlain_6 : decode prog_6_method_21_code 6 = .ok (.iload_n 0, 1) := by decide +kernel
theorem d_M_isPlain_7 : decode prog_6_method_21_code 7 = .ok (.bipush 41, 2) := by decide +kernel
theorem d_M_isPlain_9 : decode prog_6_method_21_code 9 = .ok (.if_icmp .eq 67, 3) := by decide +kernel
theorem d_M_isPlain_12 : decode prog_6_method_21_code 12 = .ok (.iload_n 0, 1) := by decide +kernel
theorem d_M_isPlain_13 : decode prog_6_method_21_code 13 = .ok (.bipush 91, 2) := by decide +kernel
theorem d_M_isPlain_15 : decode prog_6_method_21_code 15 = .ok (.if_icmp .eq 61, 3) := by decide +kernel
theorem d_M_isPlain_18 : decode prog_6_method_21_code 18 = .ok (.iload_n 0, 1) := by decide +kernel
theorem d_M_isPlain_19 : decode prog_6_method_21_code 19 = .ok (.bipush 93, 2) := by decide +kernel
theorem d_M_isPlain_21 : decode prog_6_method_21_code 21 = .ok (.if_icmp .eq 55, 3) := by decide +kernel
theorem d_M_isPlain_24 : decode prog_6_method_21_code 24 = .ok (.iload_n 0, 1) := by decide +kernel
theorem d_M_isPlain_25 : decode prog_6_method_21_code 25 = .ok (.bipush 124, 2) := by decide +kernel
theorem d_M_isPlain_27 : decode prog_6_method_21_code 27 = .ok (.if_icmp .eq 49, 3) := by decide +kernel
theorem d_M_isPlain_30 : decode prog_6_method_21_code 30 = .ok (.iload_n 0, 1) := by decide +kernel
theorem d_M_isPlain_31 : decode prog_6_method_21_code 31 = .ok (.bipush 42, 2) := by decide +kernel
theorem d_M_isPlain_33 : decode prog_6_method_21_code 33 = .ok (.if_icmp .eq 43, 3) := by decide +kernel
theorem d_M_isPlain_36 : decode prog_6_method_21_code 36 = .ok (.iload_n 0, 1) := by decide +kernel
theorem d_M_isPlain_37 : decode prog_6_method_21_code 37 = .ok (.bipush 43, 2) := by decide +kernel
theorem d_M_isPlain_39 : decode prog_6_method_21_code 39 = .ok (.if_icmp .eq 37, 3) := by decide +kernel
theorem d_M_isPlain_42 : decode prog_6_method_21_code 42 = .ok (.iload_n 0, 1) := by decide +kernel
theorem d_M_isPlain_43 : decode prog_6_method_21_code 43 = .ok (.bipush 63, 2) := by decide +kernel
theorem d_M_isPlain_45 : decode prog_6_method_21_code 45 = .ok (.if_icmp .eq 31, 3) := by decide +kernel
theorem d_M_isPlain_48 : decode prog_6_method_21_code 48 = .ok (.iload_n 0, 1) := by decide +kernel
theorem d_M_isPlain_49 : decode prog_6_method_21_code 49 = .ok (.bipush 46, 2) := by decide +kernel
theorem d_M_isPlain_51 : decode prog_6_method_21_code 51 = .ok (.if_icmp .eq 25, 3) := by decide +kernel
theorem d_M_isPlain_54 : decode prog_6_method_21_code 54 = .ok (.iload_n 0, 1) := by decide +kernel
theorem d_M_isPlain_55 : decode prog_6_method_21_code 55 = .ok (.bipush 94, 2) := by decide +kernel
theorem d_M_isPlain_57 : decode prog_6_method_21_code 57 = .ok (.if_icmp .eq 19, 3) := by decide +kernel
theorem d_M_isPlain_60 : decode prog_6_method_21_code 60 = .ok (.iload_n 0, 1) := by decide +kernel
theorem d_M_isPlain_61 : decode prog_6_method_21_code 61 = .ok (.bipush 36, 2) := by decide +kernel
theorem d_M_isPlain_63 : decode prog_6_method_21_code 63 = .ok (.if_icmp .eq 13, 3) := by decide +kernel
theorem d_M_isPlain_66 : decode prog_6_method_21_code 66 = .ok (.iload_n 0, 1) := by decide +kernel
theorem d_M_isPlain_67 : decode prog_6_method_21_code 67 = .ok (.bipush 92, 2) := by decide +kernel
theorem d_M_isPlain_69 : decode prog_6_method_21_code 69 = .ok (.if_icmp .eq 7, 3) := by decide +kernel
theorem d_M_isPlain_72 : decode prog_6_method_21_code 72 = .ok (.iconst 1, 1) := by decide +kernel
theorem d_M_isPlain_73 : decode prog_6_method_21_code 73 = .ok (.goto 4, 3) := by decide +kernel
theorem d_M_isPlain_76 : decode prog_6_method_21_code 76 = .ok (.iconst 0, 1) := by decide +kernel
theorem d_M_isPlain_77 : decode prog_6_method_21_code 77 = .ok (.ireturn, 1) := by decide +kernel
theorem d_M_good_173 : decode prog_6_method_23_code 173 = .ok (.ifCond .ne 24, 3) := by decide +kernel
theorem d_M_good_176 : decode prog_6_method_23_code 176 = .ok (.iload 4, 2) := by decide +kernel
theorem d_M_good_178 : decode prog_6_method_23_code 178 = .ok (.bipush 46, 2) := by decide +kernel
theorem d_M_good_180 : decode prog_6_method_23_code 180 = .ok (.if_icmp .eq 17, 3) := by decide +kernel
theorem d_M_good_183 : decode prog_6_method_23_code 183 = .ok (.iload 4, 2) := by decide +kernel
theorem d_M_good_185 : decode prog_6_method_23_code 185 = .ok (.bipush 94, 2) := by decide +kernel
theorem d_M_good_187 : decode prog_6_method_23_code 187 = .ok (.if_icmp .eq 10, 3) := by decide +kernel
theorem d_M_good_190 : decode prog_6_method_23_code 190 = .ok (.iload 4, 2) := by decide +kernel
theorem d_M_good_192 : decode prog_6_method_23_code 192 = .ok (.bipush 36, 2) := by decide +kernel
theorem d_M_good_194 : decode prog_6_method_23_code 194 = .ok (.if_icmp .ne 8, 3) := by decide +kernel
theorem d_M_good_202 : decode prog_6_method_23_code 202 = .ok (.iload 4, 2) := by decide +kernel
theorem d_M_good_204 : decode prog_6_method_23_code 204 = .ok (.invokestatic 139, 3) := by decide +kernel
theorem d_M_good_207 : decode prog_6_method_23_code 207 = .ok (.ifCond .eq 7, 3) := by decide +kernel
theorem d_M_good_210 : decode prog_6_method_23_code 210 = .ok (.iload_n 1, 1) := by decide +kernel
theorem d_M_good_211 : decode prog_6_method_23_code 211 = .ok (.ifCond .ne 5, 3) := by decide +kernel
theorem d_M_good_133 : decode prog_6_method_23_code 133 = .ok (.iconst 0, 1) := by decide +kernel
theorem d_M_good_134 : decode prog_6_method_23_code 134 = .ok (.istore_n 1, 1) := by decide +kernel
theorem d_M_good_135 : decode prog_6_method_23_code 135 = .ok (.goto 81, 3) := by decide +kernel
theorem d_M_good_68 : decode prog_6_method_23_code 68 = .ok (.iload 4, 2) := by decide +kernel
theorem d_M_good_70 : decode prog_6_method_23_code 70 = .ok (.bipush 93, 2) := by decide +kernel
theorem d_M_good_72 : decode prog_6_method_23_code 72 = .ok (.if_icmp .ne 7, 3) := by decide +kernel
theorem d_M_good_79 : decode prog_6_method_23_code 79 = .ok (.iconst 5, 1) := by decide +kernel
theorem d_M_good_75 : decode prog_6_method_23_code 75 = .ok (.iconst 1, 1) := by decide +kernel
theorem d_M_good_76 : decode prog_6_method_23_code 76 = .ok (.goto 4, 3) := by decide +kernel
theorem d_M_good_152 : decode prog_6_method_23_code 152 = .ok (.iload 4, 2) := by decide +kernel
theorem d_M_good_154 : decode prog_6_method_23_code 154 = .ok (.bipush 91, 2) := by decide +kernel
theorem d_M_good_156 : decode prog_6_method_23_code 156 = .ok (.if_icmp .ne 7, 3) := by decide +kernel
theorem d_M_good_163 : decode prog_6_method_23_code 163 = .ok (.iconst 2, 1) := by decide +kernel
theorem d_M_good_159 : decode prog_6_method_23_code 159 = .ok (.iconst 3, 1) := by decide +kernel
theorem d_M_good_160 : decode prog_6_method_23_code 160 = .ok (.goto 4, 3) := by decide +kernel
theorem d_M_good_197 : decode prog_6_method_23_code 197 = .ok (.iconst 1, 1) := by decide +kernel
theorem d_M_good_198 : decode prog_6_method_23_code 198 = .ok (.istore_n 1, 1) := by decide +kernel
theorem d_M_good_199 : decode prog_6_method_23_code 199 = .ok (.goto 17, 3) := by decide +kernel
theorem d_M_good_214 : decode prog_6_method_23_code 214 = .ok (.iload_n 3, 1) := by decide +kernel
theorem d_M_good_215 : decode prog_6_method_23_code 215 = .ok (.ireturn, 1) := by decide +kernel
theorem d_M_good_80 : decode prog_6_method_23_code 80 = .ok (.istore_n 1, 1) := by decide +kernel
theorem d_M_good_81 : decode prog_6_method_23_code 81 = .ok (.goto 135, 3) := by decide +kernel
theorem d_M_good_164 : decode prog_6_method_23_code 164 = .ok (.istore_n 1, 1) := by decide +kernel
theorem d_M_good_165 : decode prog_6_method_23_code 165 = .ok (.goto 51, 3) := by decide +kernel
theorem d_M_compile_4 : decode prog_6_method_36_code 4 = .ok (.istore_n 1, 1) := by decide +kernel
theorem d_M_compile_5 : decode prog_6_method_36_code 5 = .ok (.iload_n 1, 1) := by decide +kernel
theorem d_M_compile_6 : decode prog_6_method_36_code 6 = .ok (.aload_n 0, 1) := by decide +kernel
theorem d_M_compile_7 : decode prog_6_method_36_code 7 = .ok (.getfield 89, 3) := by decide +kernel
theorem d_M_compile_10 : decode prog_6_method_36_code 10 = .ok (.if_icmp .ne 7, 3) := by decide +kernel
theorem d_M_compile_17 : decode prog_6_method_36_code 17 = .ok (.iconst 0, 1) := by decide +kernel
theorem d_M_compile_13 : decode prog_6_method_36_code 13 = .ok (.iconst 1, 1) := by decide +kernel
theorem d_M_compile_14 : decode prog_6_method_36_code 14 = .ok (.goto 4, 3) := by decide +kernel
theorem d_M_compile_18 : decode prog_6_method_36_code 18 = .ok (.istore_n 2, 1) := by decide +kernel
theorem d_M_compile_19 : decode prog_6_method_36_code 19 = .ok (.aload_n 0, 1) := by decide +kernel
theorem d_M_compile_20 : decode prog_6_method_36_code 20 = .ok (.iload_n 2, 1) := by decide +kernel
theorem d_M_compile_21 : decode prog_6_method_36_code 21 = .ok (.ifCond .eq 7, 3) := by decide +kernel
-- 14.dec02
theorem d_M_compile_28 : decode prog_6_method_36_code 28 = .ok (.iconst 1, 1) := by decide +kernel
theorem d_M_compile_24 : decode prog_6_method_36_code 24 = .ok (.iconst 0, 1) := by decide +kernel
theorem d_M_compile_25 : decode prog_6_method_36_code 25 = .ok (.goto 4, 3) := by decide +kernel
theorem d_M_compile_29 : decode prog_6_method_36_code 29 = .ok (.putfield 82, 3) := by decide +kernel
theorem d_M_compile_32 : decode prog_6_method_36_code 32 = .ok (.aload_n 0, 1) := by decide +kernel
theorem d_M_compile_33 : decode prog_6_method_36_code 33 = .ok (.iload_n 2, 1) := by decide +kernel
theorem d_M_compile_34 : decode prog_6_method_36_code 34 = .ok (.ifCond .eq 7, 3) := by decide +kernel
theorem d_M_compile_41 : decode prog_6_method_36_code 41 = .ok (.iload_n 1, 1) := by decide +kernel
theorem d_M_compile_42 : decode prog_6_method_36_code 42 = .ok (.ifCond .ge 9, 3) := by decide +kernel
theorem d_M_compile_51 : decode prog_6_method_36_code 51 = .ok (.iload_n 1, 1) := by decide +kernel
theorem d_M_compile_45 : decode prog_6_method_36_code 45 = .ok (.iconst (-1), 1) := by decide +kernel
theorem d_M_compile_46 : decode prog_6_method_36_code 46 = .ok (.iload_n 1, 1) := by decide +kernel
theorem d_M_compile_47 : decode prog_6_method_36_code 47 = .ok (.isub, 1) := by decide +kernel
theorem d_M_compile_48 : decode prog_6_method_36_code 48 = .ok (.goto 4, 3) := by decide +kernel
theorem d_M_compile_37 : decode prog_6_method_36_code 37 = .ok (.iconst (-1), 1) := by decide +kernel
theorem d_M_compile_38 : decode prog_6_method_36_code 38 = .ok (.goto 14, 3) := by decide +kernel
theorem d_M_compile_52 : decode prog_6_method_36_code 52 = .ok (.putfield 36, 3) := by decide +kernel
theorem d_M_compile_55 : decode prog_6_method_36_code 55 = .ok (.iload_n 2, 1) := by decide +kernel
theorem d_M_compile_56 : decode prog_6_method_36_code 56 = .ok (.ifCond .ne 4, 3) := by decide +kernel
theorem d_M_compile_60 : decode prog_6_method_36_code 60 = .ok (.aload_n 0, 1) := by decide +kernel
theorem d_M_compile_61 : decode prog_6_method_36_code 61 = .ok (.aload_n 0, 1) := by decide +kernel
theorem d_M_compile_62 : decode prog_6_method_36_code 62 = .ok (.getfield 89, 3) := by decide +kernel
theorem d_M_compile_65 : decode prog_6_method_36_code 65 = .ok (.putfield 190, 3) := by decide +kernel
theorem d_M_compile_68 : decode prog_6_method_36_code 68 = .ok (.iconst 0, 1) := by decide +kernel
theorem d_M_compile_69 : decode prog_6_method_36_code 69 = .ok (.istore_n 3, 1) := by decide +kernel
theorem d_M_compile_59 : decode prog_6_method_36_code 59 = .ok (.return_, 1) := by decide +kernel
theorem d_M_compile_70 : decode prog_6_method_36_code 70 = .ok (.iload_n 3, 1) := by decide +kernel
theorem d_M_compile_71 : decode prog_6_method_36_code 71 = .ok (.aload_n 0, 1) := by decide +kernel
theorem d_M_compile_72 : decode prog_6_method_36_code 72 = .ok (.getfield 89, 3) := by decide +kernel
theorem d_M_compile_75 : decode prog_6_method_36_code 75 = .ok (.if_icmp .ge 21, 3) := by decide +kernel
theorem d_M_compile_96 : decode prog_6_method_36_code 96 = .ok (.aload_n 0, 1) := by decide +kernel
theorem d_M_compile_97 : decode prog_6_method_36_code 97 = .ok (.iconst 0, 1) := by decide +kernel
theorem d_M_compile_98 : decode prog_6_method_36_code 98 = .ok (.putfield 89, 3) := by decide +kernel
theorem d_M_compile_101 : decode prog_6_method_36_code 101 = .ok (.aload_n 0, 1) := by decide +kernel
theorem d_M_compile_102 : decode prog_6_method_36_code 102 = .ok (.iconst 0, 1) := by decide +kernel
theorem d_M_compile_103 : decode prog_6_method_36_code 103 = .ok (.putfield 142, 3) := by decide +kernel
theorem d_M_compile_106 : decode prog_6_method_36_code 106 = .ok (.aload_n 0, 1) := by decide +kernel
theorem d_M_compile_107 : decode prog_6_method_36_code 107 = .ok (.iconst 0, 1) := by decide +kernel
theorem d_M_compile_108 : decode prog_6_method_36_code 108 = .ok (.putfield 145, 3) := by decide +kernel
theorem d_M_compile_111 : decode prog_6_method_36_code 111 = .ok (.aload_n 0, 1) := by decide +kernel
theorem d_M_compile_112 : decode prog_6_method_36_code 112 = .ok (.iconst 0, 1) := by decide +kernel
theorem d_M_compile_113 : decode prog_6_method_36_code 113 = .ok (.putfield 159, 3) := by decide +kernel
theorem d_M_compile_116 : decode prog_6_method_36_code 116 = .ok (.aload_n 0, 1) := by decide +kernel
theorem d_M_compile_117 : decode prog_6_method_36_code 117 = .ok (.invokevirtual 171, 3) := by decide +kernel
theorem d_M_compile_120 : decode prog_6_method_36_code 120 = .ok (.iconst 0, 1) := by decide +kernel
theorem d_M_compile_121 : decode prog_6_method_36_code 121 = .ok (.istore_n 3, 1) := by decide +kernel
theorem d_M_compile_78 : decode prog_6_method_36_code 78 = .ok (.aload_n 0, 1) := by decide +kernel
theorem d_M_compile_79 : decode prog_6_method_36_code 79 = .ok (.getfield 39, 3) := by decide +kernel
theorem d_M_compile_82 : decode prog_6_method_36_code 82 = .ok (.iload_n 3, 1) := by decide +kernel
theorem d_M_compile_83 : decode prog_6_method_36_code 83 = .ok (.aload_n 0, 1) := by decide +kernel
theorem d_M_compile_84 : decode prog_6_method_36_code 84 = .ok (.getfield 7, 3) := by decide +kernel
theorem d_M_compile_87 : decode prog_6_method_36_code 87 = .ok (.iload_n 3, 1) := by decide +kernel
theorem d_M_compile_88 : decode prog_6_method_36_code 88 = .ok (.caload, 1) := by decide +kernel
theorem d_M_compile_89 : decode prog_6_method_36_code 89 = .ok (.castore, 1) := by decide +kernel
theorem d_M_compile_90 : decode prog_6_method_36_code 90 = .ok (.iinc 3 1, 3) := by decide +kernel
theorem d_M_compile_93 : decode prog_6_method_36_code 93 = .ok (.goto (-23), 3) := by decide +kernel
theorem d_M_compile_122 : decode prog_6_method_36_code 122 = .ok (.iload_n 3, 1) := by decide +kernel
theorem d_M_compile_123 : decode prog_6_method_36_code 123 = .ok (.aload_n 0, 1) := by decide +kernel
theorem d_M_compile_124 : decode prog_6_method_36_code 124 = .ok (.getfield 190, 3) := by decide +kernel
theorem d_M_compile_127 : decode prog_6_method_36_code 127 = .ok (.if_icmp .ge 12, 3) := by decide +kernel
theorem d_M_compile_139 : decode prog_6_method_36_code 139 = .ok (.aload_n 0, 1) := by decide +kernel
theorem d_M_compile_140 : decode prog_6_method_36_code 140 = .ok (.invokevirtual 174, 3) := by decide +kernel
theorem d_M_compile_143 : decode prog_6_method_36_code 143 = .ok (.aload_n 0, 1) := by decide +kernel
theorem d_M_compile_144 : decode prog_6_method_36_code 144 = .ok (.aload_n 0, 1) := by decide +kernel
theorem d_M_compile_145 : decode prog_6_method_36_code 145 = .ok (.getfield 57, 3) := by decide +kernel
theorem d_M_compile_148 : decode prog_6_method_36_code 148 = .ok (.aload_n 0, 1) := by decide +kernel
theorem d_M_compile_149 : decode prog_6_method_36_code 149 = .ok (.getfield 63, 3) := by decide +kernel
theorem d_M_compile_152 : decode prog_6_method_36_code 152 = .ok (.iconst 0, 1) := by decide +kernel
theorem d_M_compile_153 : decode prog_6_method_36_code 153 = .ok (.iaload, 1) := by decide +kernel
theorem d_M_compile_154 : decode prog_6_method_36_code 154 = .ok (.iaload, 1) := by decide +kernel
theorem d_M_compile_155 : decode prog_6_method_36_code 155 = .ok (.putfield 197, 3) := by decide +kernel
theorem d_M_compile_158 : decode prog_6_method_36_code 158 = .ok (.aload_n 0, 1) := by decide +kernel
theorem d_M_compile_159 : decode prog_6_method_36_code 159 = .ok (.aload_n 0, 1) := by decide +kernel
theorem d_M_compile_160 : decode prog_6_method_36_code 160 = .ok (.getfield 60, 3) := by decide +kernel
theorem d_M_compile_163 : decode prog_6_method_36_code 163 = .ok (.aload_n 0, 1) := by decide +kernel
theorem d_M_compile_164 : decode prog_6_method_36_code 164 = .ok (.getfield 63, 3) := by decide +kernel
theorem d_M_compile_167 : decode prog_6_method_36_code 167 = .ok (.iconst 0, 1) := by decide +kernel
theorem d_M_compile_168 : decode prog_6_method_36_code 168 = .ok (.iaload, 1) := by decide +kernel
theorem d_M_compile_169 : decode prog_6_method_36_code 169 = .ok (.iaload, 1) := by decide +kernel
theorem d_M_compile_170 : decode prog_6_method_36_code 170 = .ok (.putfield 200, 3) := by decide +kernel
theorem d_M_compile_173 : decode prog_6_method_36_code 173 = .ok (.aload_n 0, 1) := by decide +kernel
theorem d_M_compile_174 : decode prog_6_method_36_code 174 = .ok (.iconst 1, 1) := by decide +kernel
theorem d_M_compile_175 : decode prog_6_method_36_code 175 = .ok (.putfield 203, 3) := by decide +kernel
theorem d_M_compile_178 : decode prog_6_method_36_code 178 = .ok (.return_, 1) := by decide +kernel
theorem d_M_compile_130 : decode prog_6_method_36_code 130 = .ok (.aload_n 0, 1) := by decide +kernel
theorem d_M_compile_131 : decode prog_6_method_36_code 131 = .ok (.iload_n 3, 1) := by decide +kernel
theorem d_M_compile_132 : decode prog_6_method_36_code 132 = .ok (.invokevirtual 193, 3) := by decide +kernel
theorem d_M_compile_135 : decode prog_6_method_36_code 135 = .ok (.istore_n 3, 1) := by decide +kernel
theorem d_M_compile_136 : decode prog_6_method_36_code 136 = .ok (.goto (-14), 3) := by decide +kernel
theorem d_M_edit_0 : decode prog_6_method_12_code 0 = .ok (.aload_n 0, 1) := by decide +kernel
theorem d_M_edit_1 : decode prog_6_method_12_code 1 = .ok (.getfield 13, 3) := by decide +kernel
theorem d_M_edit_4 : decode prog_6_method_12_code 4 = .ok (.istore_n 2, 1) := by decide +kernel
theorem d_M_edit_5 : decode prog_6_method_12_code 5 = .ok (.aload_n 0, 1) := by decide +kernel
theorem d_M_edit_6 : decode prog_6_method_12_code 6 = .ok (.dup, 1) := by decide +kernel
theorem d_M_edit_7 : decode prog_6_method_12_code 7 = .ok (.getfield 13, 3) := by decide +kernel
theorem d_M_edit_10 : decode prog_6_method_12_code 10 = .ok (.iconst 1, 1) := by decide +kernel
theorem d_M_edit_11 : decode prog_6_method_12_code 11 = .ok (.iadd, 1) := by decide +kernel
theorem d_M_edit_12 : decode prog_6_method_12_code 12 = .ok (.putfield 13, 3) := by decide +kernel
theorem d_M_edit_15 : decode prog_6_method_12_code 15 = .ok (.iconst 0, 1) := by decide +kernel
theorem d_M_edit_16 : decode prog_6_method_12_code 16 = .ok (.istore_n 3, 1) := by decide +kernel
theorem d_M_edit_17 : decode prog_6_method_12_code 17 = .ok (.iload_n 3, 1) := by decide +kernel
theorem d_M_edit_18 : decode prog_6_method_12_code 18 = .ok (.aload_n 0, 1) := by decide +kernel
theorem d_M_edit_19 : decode prog_6_method_12_code 19 = .ok (.getfield 101, 3) := by decide +kernel
theorem d_M_edit_22 : decode prog_6_method_12_code 22 = .ok (.if_icmp .ge 27, 3) := by decide +kernel
theorem d_M_edit_49 : decode prog_6_method_12_code 49 = .ok (.aload_n 0, 1) := by decide +kernel
theorem d_M_edit_50 : decode prog_6_method_12_code 50 = .ok (.getfield 20, 3) := by decide +kernel
theorem d_M_edit_53 : decode prog_6_method_12_code 53 = .ok (.iload_n 2, 1) := by decide +kernel
theorem d_M_edit_54 : decode prog_6_method_12_code 54 = .ok (.aload_n 0, 1) := by decide +kernel
theorem d_M_edit_55 : decode prog_6_method_12_code 55 = .ok (.getfield 101, 3) := by decide +kernel
theorem d_M_edit_58 : decode prog_6_method_12_code 58 = .ok (.iastore, 1) := by decide +kernel
theorem d_M_edit_59 : decode prog_6_method_12_code 59 = .ok (.aload_n 0, 1) := by decide +kernel
theorem d_M_edit_60 : decode prog_6_method_12_code 60 = .ok (.getfield 24, 3) := by decide +kernel
theorem d_M_edit_63 : decode prog_6_method_12_code 63 = .ok (.iload_n 2, 1) := by decide +kernel
theorem d_M_edit_64 : decode prog_6_method_12_code 64 = .ok (.iload_n 1, 1) := by decide +kernel
theorem d_M_edit_65 : decode prog_6_method_12_code 65 = .ok (.iastore, 1) := by decide +kernel
theorem d_M_edit_66 : decode prog_6_method_12_code 66 = .ok (.aload_n 0, 1) := by decide +kernel
theorem d_M_edit_67 : decode prog_6_method_12_code 67 = .ok (.getfield 27, 3) := by decide +kernel
theorem d_M_edit_70 : decode prog_6_method_12_code 70 = .ok (.iload_n 2, 1) := by decide +kernel
theorem d_M_edit_71 : decode prog_6_method_12_code 71 = .ok (.aload_n 0, 1) := by decide +kernel
theorem d_M_edit_72 : decode prog_6_method_12_code 72 = .ok (.getfield 92, 3) := by decide +kernel
theorem d_M_edit_75 : decode prog_6_method_12_code 75 = .ok (.iastore, 1) := by decide +kernel
theorem d_M_edit_76 : decode prog_6_method_12_code 76 = .ok (.aload_n 0, 1) := by decide +kernel
theorem d_M_edit_77 : decode prog_6_method_12_code 77 = .ok (.iload_n 2, 1) := by decide +kernel
theorem d_M_edit_78 : decode prog_6_method_12_code 78 = .ok (.invokevirtual 112, 3) := by decide +kernel
theorem d_M_edit_81 : decode prog_6_method_12_code 81 = .ok (.return_, 1) := by decide +kernel
theorem d_M_edit_25 : decode prog_6_method_12_code 25 = .ok (.aload_n 0, 1) := by decide +kernel
theorem d_M_edit_26 : decode prog_6_method_12_code 26 = .ok (.getfield 17, 3) := by decide +kernel
theorem d_M_edit_29 : decode prog_6_method_12_code 29 = .ok (.sipush 160, 3) := by decide +kernel
theorem d_M_edit_32 : decode prog_6_method_12_code 32 = .ok (.iload_n 2, 1) := by decide +kernel
theorem d_M_edit_33 : decode prog_6_method_12_code 33 = .ok (.imul, 1) := by decide +kernel
theorem d_M_edit_34 : decode prog_6_method_12_code 34 = .ok (.iload_n 3, 1) := by decide +kernel
theorem d_M_edit_35 : decode prog_6_method_12_code 35 = .ok (.iadd, 1) := by decide +kernel
theorem d_M_edit_36 : decode prog_6_method_12_code 36 = .ok (.aload_n 0, 1) := by decide +kernel
theorem d_M_edit_37 : decode prog_6_method_12_code 37 = .ok (.getfield 79, 3) := by decide +kernel
theorem d_M_edit_40 : decode prog_6_method_12_code 40 = .ok (.iload_n 3, 1) := by decide +kernel
theorem d_M_edit_41 : decode prog_6_method_12_code 41 = .ok (.caload, 1) := by decide +kernel
theorem d_M_edit_42 : decode prog_6_method_12_code 42 = .ok (.castore, 1) := by decide +kernel
theorem d_M_edit_43 : decode prog_6_method_12_code 43 = .ok (.iinc 3 1, 3) := by decide +kernel
theorem d_M_edit_46 : decode prog_6_method_12_code 46 = .ok (.goto (-29), 3) := by decide +kernel
theorem d_M_erase_0 : decode prog_6_method_16_code 0 = .ok (.aload_n 0, 1) := by decide +kernel
theorem d_M_erase_1 : decode prog_6_method_16_code 1 = .ok (.invokevirtual 116, 3) := by decide +kernel
theorem d_M_low_0 : decode prog_6_method_13_code 0 = .ok (.aload_n 0, 1) := by decide +kernel
theorem d_M_low_1 : decode prog_6_method_13_code 1 = .ok (.getfield 33, 3) := by decide +kernel
theorem d_M_low_4 : decode prog_6_method_13_code 4 = .ok (.ifCond .lt 21, 3) := by decide +kernel
theorem d_M_low_7 : decode prog_6_method_13_code 7 = .ok (.aload_n 0, 1) := by decide +kernel
theorem d_M_low_8 : decode prog_6_method_13_code 8 = .ok (.getfield 33, 3) := by decide +kernel
theorem d_M_low_11 : decode prog_6_method_13_code 11 = .ok (.aload_n 0, 1) := by decide +kernel
theorem d_M_low_12 : decode prog_6_method_13_code 12 = .ok (.getfield 95, 3) := by decide +kernel
theorem d_M_low_15 : decode prog_6_method_13_code 15 = .ok (.if_icmp .ge 10, 3) := by decide +kernel
theorem d_M_low_18 : decode prog_6_method_13_code 18 = .ok (.aload_n 0, 1) := by decide +kernel
theorem d_M_low_19 : decode prog_6_method_13_code 19 = .ok (.getfield 33, 3) := by decide +kernel
theorem d_M_low_22 : decode prog_6_method_13_code 22 = .ok (.goto 7, 3) := by decide +kernel
theorem d_M_low_25 : decode prog_6_method_13_code 25 = .ok (.aload_n 0, 1) := by decide +kernel
theorem d_M_low_26 : decode prog_6_method_13_code 26 = .ok (.getfield 95, 3) := by decide +kernel
theorem d_M_low_29 : decode prog_6_method_13_code 29 = .ok (.ireturn, 1) := by decide +kernel
theorem d_M_erase_4 : decode prog_6_method_16_code 4 = .ok (.istore_n 2, 1) := by decide +kernel
theorem d_M_erase_5 : decode prog_6_method_16_code 5 = .ok (.aload_n 0, 1) := by decide +kernel
theorem d_M_erase_6 : decode prog_6_method_16_code 6 = .ok (.invokevirtual 120, 3) := by decide +kernel
theorem d_M_high_0 : decode prog_6_method_14_code 0 = .ok (.aload_n 0, 1) := by decide +kernel
theorem d_M_high_1 : decode prog_6_method_14_code 1 = .ok (.getfield 33, 3) := by decide +kernel
theorem d_M_high_4 : decode prog_6_method_14_code 4 = .ok (.aload_n 0, 1) := by decide +kernel
theorem d_M_high_5 : decode prog_6_method_14_code 5 = .ok (.getfield 95, 3) := by decide +kernel
theorem d_M_high_8 : decode prog_6_method_14_code 8 = .ok (.if_icmp .le 10, 3) := by decide +kernel
theorem d_M_high_18 : decode prog_6_method_14_code 18 = .ok (.aload_n 0, 1) := by decide +kernel
theorem d_M_high_19 : decode prog_6_method_14_code 19 = .ok (.getfield 95, 3) := by decide +kernel
theorem d_M_high_11 : decode prog_6_method_14_code 11 = .ok (.aload_n 0, 1) := by decide +kernel
theorem d_M_high_12 : decode prog_6_method_14_code 12 = .ok (.getfield 33, 3) := by decide +kernel
theorem d_M_high_15 : decode prog_6_method_14_code 15 = .ok (.goto 7, 3) := by decide +kernel
theorem d_M_high_22 : decode prog_6_method_14_code 22 = .ok (.ireturn, 1) := by decide +kernel
theorem d_M_erase_9 : decode prog_6_method_16_code 9 = .ok (.istore_n 3, 1) := by decide +kernel
theorem d_M_erase_10 : decode prog_6_method_16_code 10 = .ok (.iload_n 2, 1) := by decide +kernel
theorem d_M_erase_11 : decode prog_6_method_16_code 11 = .ok (.iload_n 3, 1) := by decide +kernel
theorem d_M_erase_12 : decode prog_6_method_16_code 12 = .ok (.if_icmp .ne 76, 3) := by decide +kernel
theorem d_M_erase_15 : decode prog_6_method_16_code 15 = .ok (.aload_n 0, 1) := by decide +kernel
theorem d_M_erase_16 : decode prog_6_method_16_code 16 = .ok (.invokevirtual 123, 3) := by decide +kernel
theorem d_M_erase_19 : decode prog_6_method_16_code 19 = .ok (.aload_n 0, 1) := by decide +kernel
theorem d_M_erase_20 : decode prog_6_method_16_code 20 = .ok (.getfield 95, 3) := by decide +kernel
theorem d_M_erase_23 : decode prog_6_method_16_code 23 = .ok (.isub, 1) := by decide +kernel
theorem d_M_erase_24 : decode prog_6_method_16_code 24 = .ok (.istore 4, 2) := by decide +kernel
theorem d_M_erase_26 : decode prog_6_method_16_code 26 = .ok (.iload_n 1, 1) := by decide +kernel
theorem d_M_erase_27 : decode prog_6_method_16_code 27 = .ok (.ifCond .lt 10, 3) := by decide +kernel
theorem d_M_erase_37 : decode prog_6_method_16_code 37 = .ok (.iload_n 1, 1) := by decide +kernel
theorem d_M_erase_38 : decode prog_6_method_16_code 38 = .ok (.aload_n 0, 1) := by decide +kernel
theorem d_M_erase_39 : decode prog_6_method_16_code 39 = .ok (.getfield 95, 3) := by decide +kernel
theorem d_M_erase_42 : decode prog_6_method_16_code 42 = .ok (.ineg, 1) := by decide +kernel
theorem d_M_erase_43 : decode prog_6_method_16_code 43 = .ok (.if_icmp .ge 7, 3) := by decide +kernel
theorem d_M_erase_50 : decode prog_6_method_16_code 50 = .ok (.aload_n 0, 1) := by decide +kernel
theorem d_M_erase_51 : decode prog_6_method_16_code 51 = .ok (.getfield 95, 3) := by decide +kernel
theorem d_M_erase_54 : decode prog_6_method_16_code 54 = .ok (.iload_n 1, 1) := by decide +kernel
theorem d_M_erase_55 : decode prog_6_method_16_code 55 = .ok (.iadd, 1) := by decide +kernel
theorem d_M_erase_46 : decode prog_6_method_16_code 46 = .ok (.iconst 0, 1) := by decide +kernel
theorem d_M_erase_47 : decode prog_6_method_16_code 47 = .ok (.goto 9, 3) := by decide +kernel
theorem d_M_erase_30 : decode prog_6_method_16_code 30 = .ok (.aload_n 0, 1) := by decide +kernel
theorem d_M_erase_31 : decode prog_6_method_16_code 31 = .ok (.getfield 95, 3) := by decide +kernel
theorem d_M_erase_34 : decode prog_6_method_16_code 34 = .ok (.goto 22, 3) := by decide +kernel
theorem d_M_erase_88 : decode prog_6_method_16_code 88 = .ok (.aload_n 0, 1) := by decide +kernel
theorem d_M_erase_89 : decode prog_6_method_16_code 89 = .ok (.iload_n 3, 1) := by decide +kernel
theorem d_M_erase_90 : decode prog_6_method_16_code 90 = .ok (.iload_n 2, 1) := by decide +kernel
theorem d_M_erase_91 : decode prog_6_method_16_code 91 = .ok (.if_icmp .le 16, 3) := by decide +kernel
theorem d_M_erase_94 : decode prog_6_method_16_code 94 = .ok (.aload_n 0, 1) := by decide +kernel
theorem d_M_erase_95 : decode prog_6_method_16_code 95 = .ok (.getfield 13, 3) := by decide +kernel
theorem d_M_erase_98 : decode prog_6_method_16_code 98 = .ok (.bipush 40, 2) := by decide +kernel
theorem d_M_erase_100 : decode prog_6_method_16_code 100 = .ok (.if_icmp .ne 7, 3) := by decide +kernel
theorem d_M_erase_103 : decode prog_6_method_16_code 103 = .ok (.iconst 1, 1) := by decide +kernel
theorem d_M_erase_104 : decode prog_6_method_16_code 104 = .ok (.goto 4, 3) := by decide +kernel
theorem d_M_erase_56 : decode prog_6_method_16_code 56 = .ok (.istore_n 2, 1) := by decide +kernel
theorem d_M_erase_57 : decode prog_6_method_16_code 57 = .ok (.iload_n 1, 1) := by decide +kernel
theorem d_M_erase_58 : decode prog_6_method_16_code 58 = .ok (.ifCond .ge 10, 3) := by decide +kernel
theorem d_M_erase_68 : decode prog_6_method_16_code 68 = .ok (.iload_n 1, 1) := by decide +kernel
theorem d_M_erase_69 : decode prog_6_method_16_code 69 = .ok (.iload 4, 2) := by decide +kernel
theorem d_M_erase_71 : decode prog_6_method_16_code 71 = .ok (.if_icmp .le 10, 3) := by decide +kernel
theorem d_M_erase_81 : decode prog_6_method_16_code 81 = .ok (.aload_n 0, 1) := by decide +kernel
theorem d_M_erase_82 : decode prog_6_method_16_code 82 = .ok (.getfield 95, 3) := by decide +kernel
theorem d_M_erase_85 : decode prog_6_method_16_code 85 = .ok (.iload_n 1, 1) := by decide +kernel
theorem d_M_erase_86 : decode prog_6_method_16_code 86 = .ok (.iadd, 1) := by decide +kernel
theorem d_M_erase_74 : decode prog_6_method_16_code 74 = .ok (.aload_n 0, 1) := by decide +kernel
theorem d_M_erase_75 : decode prog_6_method_16_code 75 = .ok (.invokevirtual 123, 3) := by decide +kernel
theorem d_M_erase_78 : decode prog_6_method_16_code 78 = .ok (.goto 9, 3) := by decide +kernel
theorem d_M_erase_61 : decode prog_6_method_16_code 61 = .ok (.aload_n 0, 1) := by decide +kernel
theorem d_M_erase_62 : decode prog_6_method_16_code 62 = .ok (.getfield 95, 3) := by decide +kernel
theorem d_M_erase_65 : decode prog_6_method_16_code 65 = .ok (.goto 22, 3) := by decide +kernel
theorem d_M_erase_107 : decode prog_6_method_16_code 107 = .ok (.iconst 0, 1) := by decide +kernel
theorem d_M_erase_108 : decode prog_6_method_16_code 108 = .ok (.putfield 82, 3) := by decide +kernel
theorem d_M_erase_111 : decode prog_6_method_16_code 111 = .ok (.aload_n 0, 1) := by decide +kernel
theorem d_M_erase_112 : decode prog_6_method_16_code 112 = .ok (.getfield 82, 3) := by decide +kernel
theorem d_M_erase_115 : decode prog_6_method_16_code 115 = .ok (.ifCond .gt 8, 3) := by decide +kernel
theorem d_M_erase_118 : decode prog_6_method_16_code 118 = .ok (.iload_n 2, 1) := by decide +kernel
theorem d_M_erase_119 : decode prog_6_method_16_code 119 = .ok (.iload_n 3, 1) := by decide +kernel
theorem d_M_erase_120 : decode prog_6_method_16_code 120 = .ok (.if_icmp .ne 5, 3) := by decide +kernel
theorem d_M_erase_125 : decode prog_6_method_16_code 125 = .ok (.aload_n 0, 1) := by decide +kernel
theorem d_M_erase_126 : decode prog_6_method_16_code 126 = .ok (.iconst 0, 1) := by decide +kernel
theorem d_M_erase_127 : decode prog_6_method_16_code 127 = .ok (.putfield 101, 3) := by decide +kernel
theorem d_M_erase_130 : decode prog_6_method_16_code 130 = .ok (.aload_n 0, 1) := by decide +kernel
theorem d_M_erase_131 : decode prog_6_method_16_code 131 = .ok (.iconst 0, 1) := by decide +kernel
theorem d_M_erase_132 : decode prog_6_method_16_code 132 = .ok (.iload_n 2, 1) := by decide +kernel
theorem d_M_erase_133 : decode prog_6_method_16_code 133 = .ok (.invokevirtual 126, 3) := by decide +kernel
theorem d_M_erase_136 : decode prog_6_method_16_code 136 = .ok (.aload_n 0, 1) := by decide +kernel
theorem d_M_erase_137 : decode prog_6_method_16_code 137 = .ok (.iload_n 3, 1) := by decide +kernel
theorem d_M_erase_138 : decode prog_6_method_16_code 138 = .ok (.aload_n 0, 1) := by decide +kernel
theorem d_M_erase_139 : decode prog_6_method_16_code 139 = .ok (.invokevirtual 123, 3) := by decide +kernel
theorem d_M_erase_142 : decode prog_6_method_16_code 142 = .ok (.invokevirtual 126, 3) := by decide +kernel
theorem d_M_erase_145 : decode prog_6_method_16_code 145 = .ok (.aload_n 0, 1) := by decide +kernel
theorem d_M_erase_146 : decode prog_6_method_16_code 146 = .ok (.iload_n 2, 1) := by decide +kernel
theorem d_M_erase_147 : decode prog_6_method_16_code 147 = .ok (.invokevirtual 133, 3) := by decide +kernel
theorem d_M_erase_150 : decode prog_6_method_16_code 150 = .ok (.iload_n 3, 1) := by decide +kernel
theorem d_M_erase_151 : decode prog_6_method_16_code 151 = .ok (.iload_n 2, 1) := by decide +kernel
theorem d_M_erase_152 : decode prog_6_method_16_code 152 = .ok (.isub, 1) := by decide +kernel
theorem d_M_erase_153 : decode prog_6_method_16_code 153 = .ok (.ireturn, 1) := by decide +kernel
theorem d_M_erase_87 : decode prog_6_method_16_code 87 = .ok (.istore_n 3, 1) := by decide +kernel
theorem d_M_erase_123 : decode prog_6_method_16_code 123 = .ok (.iconst 0, 1) := by decide +kernel
theorem d_M_erase_124 : decode prog_6_method_16_code 124 = .ok (.ireturn, 1) := by decide +kernel
theorem d_M_fault_0 : decode prog_6_method_37_code 0 = .ok (.aload_n 0, 1) := by decide +kernel
theorem d_M_fault_1 : decode prog_6_method_37_code 1 = .ok (.iconst 0, 1) := by decide +kernel
theorem d_M_fault_2 : decode prog_6_method_37_code 2 = .ok (.putfield 82, 3) := by decide +kernel
theorem d_M_fault_5 : decode prog_6_method_37_code 5 = .ok (.aload_n 0, 1) := by decide +kernel
theorem d_M_fault_6 : decode prog_6_method_37_code 6 = .ok (.getfield 36, 3) := by decide +kernel
theorem d_M_fault_9 : decode prog_6_method_37_code 9 = .ok (.ireturn, 1) := by decide +kernel
theorem d_M_figure_0 : decode prog_6_method_52_code 0 = .ok (.aload_n 0, 1) := by decide +kernel
theorem d_M_figure_1 : decode prog_6_method_52_code 1 = .ok (.iload_n 1, 1) := by decide +kernel
theorem d_M_figure_2 : decode prog_6_method_52_code 2 = .ok (.ifCond .lt 8, 3) := by decide +kernel
theorem d_M_figure_5 : decode prog_6_method_52_code 5 = .ok (.iload_n 1, 1) := by decide +kernel
theorem d_M_figure_6 : decode prog_6_method_52_code 6 = .ok (.iconst 4, 1) := by decide +kernel
theorem d_M_figure_7 : decode prog_6_method_52_code 7 = .ok (.if_icmp .le 7, 3) := by decide +kernel
theorem d_M_figure_14 : decode prog_6_method_52_code 14 = .ok (.iconst 0, 1) := by decide +kernel
theorem d_M_figure_10 : decode prog_6_method_52_code 10 = .ok (.iconst 1, 1) := by decide +kernel
theorem d_M_figure_11 : decode prog_6_method_52_code 11 = .ok (.goto 4, 3) := by decide +kernel
theorem d_M_figure_15 : decode prog_6_method_52_code 15 = .ok (.putfield 82, 3) := by decide +kernel
theorem d_M_figure_18 : decode prog_6_method_52_code 18 = .ok (.aload_n 0, 1) := by decide +kernel
theorem d_M_figure_19 : decode prog_6_method_52_code 19 = .ok (.getfield 82, 3) := by decide +kernel
theorem d_M_figure_22 : decode prog_6_method_52_code 22 = .ok (.ifCond .le 7, 3) := by decide +kernel
theorem d_M_figure_29 : decode prog_6_method_52_code 29 = .ok (.iload_n 1, 1) := by decide +kernel
theorem d_M_figure_30 : decode prog_6_method_52_code 30 = .ok (.ifCond .ne 10, 3) := by decide +kernel
theorem d_M_figure_40 : decode prog_6_method_52_code 40 = .ok (.iload_n 1, 1) := by decide +kernel
theorem d_M_figure_41 : decode prog_6_method_52_code 41 = .ok (.iconst 1, 1) := by decide +kernel
theorem d_M_figure_42 : decode prog_6_method_52_code 42 = .ok (.if_icmp .ne 10, 3) := by decide +kernel
theorem d_M_figure_52 : decode prog_6_method_52_code 52 = .ok (.iload_n 1, 1) := by decide +kernel
theorem d_M_figure_53 : decode prog_6_method_52_code 53 = .ok (.iconst 2, 1) := by decide +kernel
theorem d_M_figure_54 : decode prog_6_method_52_code 54 = .ok (.if_icmp .ne 10, 3) := by decide +kernel
theorem d_M_figure_64 : decode prog_6_method_52_code 64 = .ok (.iload_n 1, 1) := by decide +kernel
theorem d_M_figure_65 : decode prog_6_method_52_code 65 = .ok (.iconst 3, 1) := by decide +kernel
theorem d_M_figure_66 : decode prog_6_method_52_code 66 = .ok (.if_icmp .ne 10, 3) := by decide +kernel
theorem d_M_figure_76 : decode prog_6_method_52_code 76 = .ok (.aload_n 0, 1) := by decide +kernel
theorem d_M_figure_77 : decode prog_6_method_52_code 77 = .ok (.getfield 89, 3) := by decide +kernel
theorem d_M_figure_69 : decode prog_6_method_52_code 69 = .ok (.aload_n 0, 1) := by decide +kernel
theorem d_M_figure_70 : decode prog_6_method_52_code 70 = .ok (.getfield 33, 3) := by decide +kernel
theorem d_M_figure_73 : decode prog_6_method_52_code 73 = .ok (.goto 7, 3) := by decide +kernel
theorem d_M_figure_57 : decode prog_6_method_52_code 57 = .ok (.aload_n 0, 1) := by decide +kernel
theorem d_M_figure_58 : decode prog_6_method_52_code 58 = .ok (.getfield 95, 3) := by decide +kernel
theorem d_M_figure_61 : decode prog_6_method_52_code 61 = .ok (.goto 19, 3) := by decide +kernel
theorem d_M_figure_45 : decode prog_6_method_52_code 45 = .ok (.aload_n 0, 1) := by decide +kernel
theorem d_M_figure_46 : decode prog_6_method_52_code 46 = .ok (.getfield 13, 3) := by decide +kernel
theorem d_M_figure_49 : decode prog_6_method_52_code 49 = .ok (.goto 31, 3) := by decide +kernel
theorem d_M_figure_33 : decode prog_6_method_52_code 33 = .ok (.aload_n 0, 1) := by decide +kernel
theorem d_M_figure_34 : decode prog_6_method_52_code 34 = .ok (.getfield 92, 3) := by decide +kernel
theorem d_M_figure_37 : decode prog_6_method_52_code 37 = .ok (.goto 43, 3) := by decide +kernel
theorem d_M_figure_25 : decode prog_6_method_52_code 25 = .ok (.iconst 0, 1) := by decide +kernel
theorem d_M_figure_26 : decode prog_6_method_52_code 26 = .ok (.goto 54, 3) := by decide +kernel
theorem d_M_figure_80 : decode prog_6_method_52_code 80 = .ok (.ireturn, 1) := by decide +kernel
theorem d_M_find_0 : decode prog_6_method_45_code 0 = .ok (.aload_n 0, 1) := by decide +kernel
theorem d_M_find_1 : decode prog_6_method_45_code 1 = .ok (.aload_n 0, 1) := by decide +kernel
theorem d_M_find_2 : decode prog_6_method_45_code 2 = .ok (.getfield 203, 3) := by decide +kernel
theorem d_M_find_5 : decode prog_6_method_45_code 5 = .ok (.ifCond .ne 7, 3) := by decide +kernel
theorem d_M_find_12 : decode prog_6_method_45_code 12 = .ok (.iload_n 1, 1) := by decide +kernel
theorem d_M_find_13 : decode prog_6_method_45_code 13 = .ok (.ifCond .lt 11, 3) := by decide +kernel
theorem d_M_find_16 : decode prog_6_method_45_code 16 = .ok (.iload_n 1, 1) := by decide +kernel
theorem d_M_find_17 : decode prog_6_method_45_code 17 = .ok (.aload_n 0, 1) := by decide +kernel
theorem d_M_find_18 : decode prog_6_method_45_code 18 = .ok (.invokevirtual 123, 3) := by decide +kernel
theorem d_M_find_21 : decode prog_6_method_45_code 21 = .ok (.if_icmp .le 7, 3) := by decide +kernel
theorem d_M_find_28 : decode prog_6_method_45_code 28 = .ok (.iconst 0, 1) := by decide +kernel
theorem d_M_find_8 : decode prog_6_method_45_code 8 = .ok (.iconst 1, 1) := by decide +kernel
theorem d_M_find_9 : decode prog_6_method_45_code 9 = .ok (.goto 20, 3) := by decide +kernel
theorem d_M_find_24 : decode prog_6_method_45_code 24 = .ok (.iconst 2, 1) := by decide +kernel
theorem d_M_find_25 : decode prog_6_method_45_code 25 = .ok (.goto 4, 3) := by decide +kernel
theorem d_M_find_29 : decode prog_6_method_45_code 29 = .ok (.putfield 82, 3) := by decide +kernel
theorem d_M_find_32 : decode prog_6_method_45_code 32 = .ok (.aload_n 0, 1) := by decide +kernel
theorem d_M_find_33 : decode prog_6_method_45_code 33 = .ok (.getfield 82, 3) := by decide +kernel
theorem d_M_find_36 : decode prog_6_method_45_code 36 = .ok (.ifCond .ne 16, 3) := by decide +kernel
theorem d_M_find_39 : decode prog_6_method_45_code 39 = .ok (.aload_n 0, 1) := by decide +kernel
theorem d_M_find_40 : decode prog_6_method_45_code 40 = .ok (.iload_n 1, 1) := by decide +kernel
theorem d_M_find_41 : decode prog_6_method_45_code 41 = .ok (.invokevirtual 235, 3) := by decide +kernel
theorem d_M_look_0 : decode prog_6_method_44_code 0 = .ok (.aload_n 0, 1) := by decide +kernel
theorem d_M_look_1 : decode prog_6_method_44_code 1 = .ok (.iconst (-1), 1) := by decide +kernel
theorem d_M_look_2 : decode prog_6_method_44_code 2 = .ok (.putfield 226, 3) := by decide +kernel
theorem d_M_look_5 : decode prog_6_method_44_code 5 = .ok (.iload_n 1, 1) := by decide +kernel
theorem d_M_look_6 : decode prog_6_method_44_code 6 = .ok (.istore_n 2, 1) := by decide +kernel
theorem d_M_look_7 : decode prog_6_method_44_code 7 = .ok (.iload_n 2, 1) := by decide +kernel
theorem d_M_look_8 : decode prog_6_method_44_code 8 = .ok (.aload_n 0, 1) := by decide +kernel
theorem d_M_look_9 : decode prog_6_method_44_code 9 = .ok (.invokevirtual 123, 3) := by decide +kernel
theorem d_M_look_12 : decode prog_6_method_44_code 12 = .ok (.if_icmp .gt 30, 3) := by decide +kernel
theorem d_M_look_15 : decode prog_6_method_44_code 15 = .ok (.aload_n 0, 1) := by decide +kernel
theorem d_M_look_16 : decode prog_6_method_44_code 16 = .ok (.getfield 226, 3) := by decide +kernel
theorem d_M_look_19 : decode prog_6_method_44_code 19 = .ok (.ifCond .ge 23, 3) := by decide +kernel
theorem d_M_look_22 : decode prog_6_method_44_code 22 = .ok (.aload_n 0, 1) := by decide +kernel
theorem d_M_look_23 : decode prog_6_method_44_code 23 = .ok (.iload_n 2, 1) := by decide +kernel
theorem d_M_look_24 : decode prog_6_method_44_code 24 = .ok (.putfield 229, 3) := by decide +kernel
theorem d_M_look_27 : decode prog_6_method_44_code 27 = .ok (.aload_n 0, 1) := by decide +kernel
theorem d_M_look_28 : decode prog_6_method_44_code 28 = .ok (.aload_n 0, 1) := by decide +kernel
theorem d_M_look_29 : decode prog_6_method_44_code 29 = .ok (.iload_n 2, 1) := by decide +kernel
theorem d_M_look_30 : decode prog_6_method_44_code 30 = .ok (.invokevirtual 232, 3) := by decide +kernel
theorem d_M_longest_0 : decode prog_6_method_43_code 0 = .ok (.iconst 0, 1) := by decide +kernel
theorem d_M_longest_1 : decode prog_6_method_43_code 1 = .ok (.istore_n 2, 1) := by decide +kernel
theorem d_M_longest_2 : decode prog_6_method_43_code 2 = .ok (.iload_n 2, 1) := by decide +kernel
theorem d_M_longest_3 : decode prog_6_method_43_code 3 = .ok (.aload_n 0, 1) := by decide +kernel
theorem d_M_longest_4 : decode prog_6_method_43_code 4 = .ok (.getfield 142, 3) := by decide +kernel
theorem d_M_longest_7 : decode prog_6_method_43_code 7 = .ok (.if_icmp .ge 28, 3) := by decide +kernel
theorem d_M_longest_35 : decode prog_6_method_43_code 35 = .ok (.iconst (-1), 1) := by decide +kernel
theorem d_M_longest_36 : decode prog_6_method_43_code 36 = .ok (.istore_n 2, 1) := by decide +kernel
theorem d_M_longest_37 : decode prog_6_method_43_code 37 = .ok (.iload_n 1, 1) := by decide +kernel
theorem d_M_longest_38 : decode prog_6_method_43_code 38 = .ok (.istore_n 3, 1) := by decide +kernel
theorem d_M_longest_39 : decode prog_6_method_43_code 39 = .ok (.iconst 1, 1) := by decide +kernel
theorem d_M_longest_40 : decode prog_6_method_43_code 40 = .ok (.istore 4, 2) := by decide +kernel
theorem d_M_longest_10 : decode prog_6_method_43_code 10 = .ok (.aload_n 0, 1) := by decide +kernel
theorem d_M_longest_11 : decode prog_6_method_43_code 11 = .ok (.getfield 72, 3) := by decide +kernel
theorem d_M_longest_14 : decode prog_6_method_43_code 14 = .ok (.iload_n 2, 1) := by decide +kernel
theorem d_M_longest_15 : decode prog_6_method_43_code 15 = .ok (.iload_n 2, 1) := by decide +kernel
theorem d_M_longest_16 : decode prog_6_method_43_code 16 = .ok (.aload_n 0, 1) := by decide +kernel
theorem d_M_longest_17 : decode prog_6_method_43_code 17 = .ok (.getfield 197, 3) := by decide +kernel
theorem d_M_longest_20 : decode prog_6_method_43_code 20 = .ok (.if_icmp .ne 7, 3) := by decide +kernel
theorem d_M_longest_27 : decode prog_6_method_43_code 27 = .ok (.iconst 0, 1) := by decide +kernel
theorem d_M_longest_23 : decode prog_6_method_43_code 23 = .ok (.iconst 1, 1) := by decide +kernel
theorem d_M_longest_24 : decode prog_6_method_43_code 24 = .ok (.goto 4, 3) := by decide +kernel
theorem d_M_longest_42 : decode prog_6_method_43_code 42 = .ok (.iload 4, 2) := by decide +kernel
theorem d_M_longest_44 : decode prog_6_method_43_code 44 = .ok (.ifCond .eq 164, 3) := by decide +kernel
theorem d_M_longest_208 : decode prog_6_method_43_code 208 = .ok (.iload_n 2, 1) := by decide +kernel
theorem d_M_longest_209 : decode prog_6_method_43_code 209 = .ok (.ireturn, 1) := by decide +kernel
theorem d_M_longest_47 : decode prog_6_method_43_code 47 = .ok (.aload_n 0, 1) := by decide +kernel
theorem d_M_longest_48 : decode prog_6_method_43_code 48 = .ok (.iload_n 3, 1) := by decide +kernel
theorem d_M_longest_49 : decode prog_6_method_43_code 49 = .ok (.invokevirtual 219, 3) := by decide +kernel
theorem d_M_spread_0 : decode prog_6_method_41_code 0 = .ok (.iconst 1, 1) := by decide +kernel
theorem d_M_spread_1 : decode prog_6_method_41_code 1 = .ok (.istore_n 2, 1) := by decide +kernel
theorem d_M_spread_2 : decode prog_6_method_41_code 2 = .ok (.iload_n 2, 1) := by decide +kernel
theorem d_M_spread_3 : decode prog_6_method_41_code 3 = .ok (.ifCond .eq 88, 3) := by decide +kernel
theorem d_M_spread_91 : decode prog_6_method_41_code 91 = .ok (.return_, 1) := by decide +kernel
theorem d_M_spread_6 : decode prog_6_method_41_code 6 = .ok (.iconst 0, 1) := by decide +kernel
theorem d_M_spread_7 : decode prog_6_method_41_code 7 = .ok (.istore_n 2, 1) := by decide +kernel
theorem d_M_spread_8 : decode prog_6_method_41_code 8 = .ok (.iconst 0, 1) := by decide +kernel
theorem d_M_spread_9 : decode prog_6_method_41_code 9 = .ok (.istore_n 3, 1) := by decide +kernel
theorem d_M_spread_10 : decode prog_6_method_41_code 10 = .ok (.iload_n 3, 1) := by decide +kernel
theorem d_M_spread_11 : decode prog_6_method_41_code 11 = .ok (.aload_n 0, 1) := by decide +kernel
theorem d_M_spread_12 : decode prog_6_method_41_code 12 = .ok (.getfield 142, 3) := by decide +kernel
theorem d_M_spread_15 : decode prog_6_method_41_code 15 = .ok (.if_icmp .ge 73, 3) := by decide +kernel
theorem d_M_spread_88 : decode prog_6_method_41_code 88 = .ok (.goto (-86), 3) := by decide +kernel
theorem d_M_spread_18 : decode prog_6_method_41_code 18 = .ok (.aload_n 0, 1) := by decide +kernel
theorem d_M_spread_19 : decode prog_6_method_41_code 19 = .ok (.getfield 72, 3) := by decide +kernel
theorem d_M_spread_22 : decode prog_6_method_41_code 22 = .ok (.iload_n 3, 1) := by decide +kernel
theorem d_M_spread_23 : decode prog_6_method_41_code 23 = .ok (.baload, 1) := by decide +kernel
theorem d_M_spread_24 : decode prog_6_method_41_code 24 = .ok (.ifCond .eq 58, 3) := by decide +kernel
theorem d_M_spread_27 : decode prog_6_method_41_code 27 = .ok (.aload_n 0, 1) := by decide +kernel
theorem d_M_spread_28 : decode prog_6_method_41_code 28 = .ok (.iload_n 3, 1) := by decide +kernel
theorem d_M_spread_29 : decode prog_6_method_41_code 29 = .ok (.iload_n 1, 1) := by decide +kernel
theorem d_M_spread_30 : decode prog_6_method_41_code 30 = .ok (.invokevirtual 211, 3) := by decide +kernel
theorem d_M_passes_0 : decode prog_6_method_40_code 0 = .ok (.iload_n 2, 1) := by decide +kernel
theorem d_M_passes_1 : decode prog_6_method_40_code 1 = .ok (.ifCond .eq 15, 3) := by decide +kernel
theorem d_M_passes_4 : decode prog_6_method_40_code 4 = .ok (.aload_n 0, 1) := by decide +kernel
theorem d_M_passes_5 : decode prog_6_method_40_code 5 = .ok (.iload_n 2, 1) := by decide +kernel
theorem d_M_passes_6 : decode prog_6_method_40_code 6 = .ok (.iconst 1, 1) := by decide +kernel
theorem d_M_passes_7 : decode prog_6_method_40_code 7 = .ok (.isub, 1) := by decide +kernel
theorem d_M_passes_8 : decode prog_6_method_40_code 8 = .ok (.invokevirtual 104, 3) := by decide +kernel
theorem d_M_passes_11 : decode prog_6_method_40_code 11 = .ok (.bipush 10, 2) := by decide +kernel
theorem d_M_passes_13 : decode prog_6_method_40_code 13 = .ok (.if_icmp .ne 7, 3) := by decide +kernel
-- 14.dec03
theorem d_M_passes_20 : decode prog_6_method_40_code 20 = .ok (.iconst 0, 1) := by decide +kernel
theorem d_M_passes_16 : decode prog_6_method_40_code 16 = .ok (.iconst 1, 1) := by decide +kernel
theorem d_M_passes_17 : decode prog_6_method_40_code 17 = .ok (.goto 4, 3) := by decide +kernel
theorem d_M_passes_21 : decode prog_6_method_40_code 21 = .ok (.istore_n 3, 1) := by decide +kernel
theorem d_M_passes_22 : decode prog_6_method_40_code 22 = .ok (.iload_n 2, 1) := by decide +kernel
theorem d_M_passes_23 : decode prog_6_method_40_code 23 = .ok (.aload_n 0, 1) := by decide +kernel
theorem d_M_passes_24 : decode prog_6_method_40_code 24 = .ok (.invokevirtual 123, 3) := by decide +kernel
theorem d_M_passes_27 : decode prog_6_method_40_code 27 = .ok (.if_icmp .eq 13, 3) := by decide +kernel
theorem d_M_passes_30 : decode prog_6_method_40_code 30 = .ok (.aload_n 0, 1) := by decide +kernel
theorem d_M_passes_31 : decode prog_6_method_40_code 31 = .ok (.iload_n 2, 1) := by decide +kernel
theorem d_M_passes_32 : decode prog_6_method_40_code 32 = .ok (.invokevirtual 104, 3) := by decide +kernel
theorem d_M_passes_35 : decode prog_6_method_40_code 35 = .ok (.bipush 10, 2) := by decide +kernel
theorem d_M_passes_37 : decode prog_6_method_40_code 37 = .ok (.if_icmp .ne 7, 3) := by decide +kernel
theorem d_M_passes_44 : decode prog_6_method_40_code 44 = .ok (.iconst 0, 1) := by decide +kernel
theorem d_M_passes_40 : decode prog_6_method_40_code 40 = .ok (.iconst 1, 1) := by decide +kernel
theorem d_M_passes_41 : decode prog_6_method_40_code 41 = .ok (.goto 4, 3) := by decide +kernel
theorem d_M_passes_45 : decode prog_6_method_40_code 45 = .ok (.istore 4, 2) := by decide +kernel
theorem d_M_passes_47 : decode prog_6_method_40_code 47 = .ok (.aload_n 0, 1) := by decide +kernel
theorem d_M_passes_48 : decode prog_6_method_40_code 48 = .ok (.getfield 42, 3) := by decide +kernel
theorem d_M_passes_51 : decode prog_6_method_40_code 51 = .ok (.iload_n 1, 1) := by decide +kernel
theorem d_M_passes_52 : decode prog_6_method_40_code 52 = .ok (.iaload, 1) := by decide +kernel
theorem d_M_passes_53 : decode prog_6_method_40_code 53 = .ok (.ifCond .eq 32, 3) := by decide +kernel
theorem d_M_passes_56 : decode prog_6_method_40_code 56 = .ok (.aload_n 0, 1) := by decide +kernel
theorem d_M_passes_57 : decode prog_6_method_40_code 57 = .ok (.getfield 42, 3) := by decide +kernel
theorem d_M_passes_60 : decode prog_6_method_40_code 60 = .ok (.iload_n 1, 1) := by decide +kernel
theorem d_M_passes_61 : decode prog_6_method_40_code 61 = .ok (.iaload, 1) := by decide +kernel
theorem d_M_passes_62 : decode prog_6_method_40_code 62 = .ok (.iconst 4, 1) := by decide +kernel
theorem d_M_passes_63 : decode prog_6_method_40_code 63 = .ok (.if_icmp .ne 7, 3) := by decide +kernel
theorem d_M_passes_66 : decode prog_6_method_40_code 66 = .ok (.iload_n 3, 1) := by decide +kernel
theorem d_M_passes_67 : decode prog_6_method_40_code 67 = .ok (.ifCond .ne 18, 3) := by decide +kernel
theorem d_M_passes_85 : decode prog_6_method_40_code 85 = .ok (.iconst 1, 1) := by decide +kernel
theorem d_M_passes_86 : decode prog_6_method_40_code 86 = .ok (.goto 4, 3) := by decide +kernel
theorem d_M_passes_70 : decode prog_6_method_40_code 70 = .ok (.aload_n 0, 1) := by decide +kernel
theorem d_M_passes_71 : decode prog_6_method_40_code 71 = .ok (.getfield 42, 3) := by decide +kernel
theorem d_M_passes_74 : decode prog_6_method_40_code 74 = .ok (.iload_n 1, 1) := by decide +kernel
theorem d_M_passes_75 : decode prog_6_method_40_code 75 = .ok (.iaload, 1) := by decide +kernel
theorem d_M_passes_76 : decode prog_6_method_40_code 76 = .ok (.iconst 5, 1) := by decide +kernel
theorem d_M_passes_77 : decode prog_6_method_40_code 77 = .ok (.if_icmp .ne 12, 3) := by decide +kernel
theorem d_M_passes_80 : decode prog_6_method_40_code 80 = .ok (.iload 4, 2) := by decide +kernel
theorem d_M_passes_82 : decode prog_6_method_40_code 82 = .ok (.ifCond .eq 7, 3) := by decide +kernel
theorem d_M_passes_90 : decode prog_6_method_40_code 90 = .ok (.ireturn, 1) := by decide +kernel
theorem d_M_passes_89 : decode prog_6_method_40_code 89 = .ok (.iconst 0, 1) := by decide +kernel
theorem d_M_spread_33 : decode prog_6_method_41_code 33 = .ok (.ifCond .eq 49, 3) := by decide +kernel
theorem d_M_spread_36 : decode prog_6_method_41_code 36 = .ok (.aload_n 0, 1) := by decide +kernel
theorem d_M_spread_37 : decode prog_6_method_41_code 37 = .ok (.aload_n 0, 1) := by decide +kernel
theorem d_M_spread_38 : decode prog_6_method_41_code 38 = .ok (.getfield 51, 3) := by decide +kernel
theorem d_M_spread_41 : decode prog_6_method_41_code 41 = .ok (.iload_n 3, 1) := by decide +kernel
theorem d_M_spread_42 : decode prog_6_method_41_code 42 = .ok (.iaload, 1) := by decide +kernel
theorem d_M_spread_43 : decode prog_6_method_41_code 43 = .ok (.invokevirtual 215, 3) := by decide +kernel
theorem d_M_reach_0 : decode prog_6_method_42_code 0 = .ok (.iload_n 1, 1) := by decide +kernel
theorem d_M_reach_1 : decode prog_6_method_42_code 1 = .ok (.ifCond .lt 16, 3) := by decide +kernel
theorem d_M_reach_4 : decode prog_6_method_42_code 4 = .ok (.aload_n 0, 1) := by decide +kernel
theorem d_M_reach_5 : decode prog_6_method_42_code 5 = .ok (.getfield 72, 3) := by decide +kernel
theorem d_M_reach_8 : decode prog_6_method_42_code 8 = .ok (.iload_n 1, 1) := by decide +kernel
theorem d_M_reach_9 : decode prog_6_method_42_code 9 = .ok (.baload, 1) := by decide +kernel
theorem d_M_reach_10 : decode prog_6_method_42_code 10 = .ok (.ifCond .ne 7, 3) := by decide +kernel
theorem d_M_reach_13 : decode prog_6_method_42_code 13 = .ok (.iconst 1, 1) := by decide +kernel
theorem d_M_reach_14 : decode prog_6_method_42_code 14 = .ok (.goto 4, 3) := by decide +kernel
theorem d_M_reach_17 : decode prog_6_method_42_code 17 = .ok (.iconst 0, 1) := by decide +kernel
theorem d_M_reach_18 : decode prog_6_method_42_code 18 = .ok (.istore_n 2, 1) := by decide +kernel
theorem d_M_reach_19 : decode prog_6_method_42_code 19 = .ok (.iload_n 2, 1) := by decide +kernel
theorem d_M_reach_20 : decode prog_6_method_42_code 20 = .ok (.ifCond .eq 10, 3) := by decide +kernel
theorem d_M_reach_23 : decode prog_6_method_42_code 23 = .ok (.aload_n 0, 1) := by decide +kernel
theorem d_M_reach_24 : decode prog_6_method_42_code 24 = .ok (.getfield 72, 3) := by decide +kernel
theorem d_M_reach_27 : decode prog_6_method_42_code 27 = .ok (.iload_n 1, 1) := by decide +kernel
theorem d_M_reach_28 : decode prog_6_method_42_code 28 = .ok (.iconst 1, 1) := by decide +kernel
theorem d_M_reach_29 : decode prog_6_method_42_code 29 = .ok (.bastore, 1) := by decide +kernel
theorem d_M_reach_30 : decode prog_6_method_42_code 30 = .ok (.iload_n 2, 1) := by decide +kernel
theorem d_M_reach_31 : decode prog_6_method_42_code 31 = .ok (.ireturn, 1) := by decide +kernel
theorem d_M_spread_46 : decode prog_6_method_41_code 46 = .ok (.ifCond .ne 7, 3) := by decide +kernel
theorem d_M_spread_49 : decode prog_6_method_41_code 49 = .ok (.iload_n 2, 1) := by decide +kernel
theorem d_M_spread_50 : decode prog_6_method_41_code 50 = .ok (.ifCond .eq 7, 3) := by decide +kernel
theorem d_M_spread_57 : decode prog_6_method_41_code 57 = .ok (.iconst 0, 1) := by decide +kernel
theorem d_M_spread_82 : decode prog_6_method_41_code 82 = .ok (.iinc 3 1, 3) := by decide +kernel
theorem d_M_spread_85 : decode prog_6_method_41_code 85 = .ok (.goto (-75), 3) := by decide +kernel
theorem d_M_spread_53 : decode prog_6_method_41_code 53 = .ok (.iconst 1, 1) := by decide +kernel
theorem d_M_spread_54 : decode prog_6_method_41_code 54 = .ok (.goto 4, 3) := by decide +kernel
theorem d_M_spread_58 : decode prog_6_method_41_code 58 = .ok (.istore_n 2, 1) := by decide +kernel
theorem d_M_spread_59 : decode prog_6_method_41_code 59 = .ok (.aload_n 0, 1) := by decide +kernel
theorem d_M_spread_60 : decode prog_6_method_41_code 60 = .ok (.aload_n 0, 1) := by decide +kernel
theorem d_M_spread_61 : decode prog_6_method_41_code 61 = .ok (.getfield 54, 3) := by decide +kernel
theorem d_M_spread_64 : decode prog_6_method_41_code 64 = .ok (.iload_n 3, 1) := by decide +kernel
theorem d_M_spread_65 : decode prog_6_method_41_code 65 = .ok (.iaload, 1) := by decide +kernel
theorem d_M_spread_66 : decode prog_6_method_41_code 66 = .ok (.invokevirtual 215, 3) := by decide +kernel
theorem d_M_spread_69 : decode prog_6_method_41_code 69 = .ok (.ifCond .ne 7, 3) := by decide +kernel
theorem d_M_spread_72 : decode prog_6_method_41_code 72 = .ok (.iload_n 2, 1) := by decide +kernel
theorem d_M_spread_73 : decode prog_6_method_41_code 73 = .ok (.ifCond .eq 7, 3) := by decide +kernel
theorem d_M_spread_80 : decode prog_6_method_41_code 80 = .ok (.iconst 0, 1) := by decide +kernel
theorem d_M_spread_76 : decode prog_6_method_41_code 76 = .ok (.iconst 1, 1) := by decide +kernel
theorem d_M_spread_77 : decode prog_6_method_41_code 77 = .ok (.goto 4, 3) := by decide +kernel
theorem d_M_spread_81 : decode prog_6_method_41_code 81 = .ok (.istore_n 2, 1) := by decide +kernel
theorem d_M_longest_52 : decode prog_6_method_43_code 52 = .ok (.aload_n 0, 1) := by decide +kernel
theorem d_M_longest_53 : decode prog_6_method_43_code 53 = .ok (.getfield 72, 3) := by decide +kernel
theorem d_M_longest_56 : decode prog_6_method_43_code 56 = .ok (.aload_n 0, 1) := by decide +kernel
theorem d_M_longest_57 : decode prog_6_method_43_code 57 = .ok (.getfield 200, 3) := by decide +kernel
theorem d_M_longest_60 : decode prog_6_method_43_code 60 = .ok (.baload, 1) := by decide +kernel
theorem d_M_longest_61 : decode prog_6_method_43_code 61 = .ok (.ifCond .eq 12, 3) := by decide +kernel
theorem d_M_longest_64 : decode prog_6_method_43_code 64 = .ok (.iload_n 3, 1) := by decide +kernel
theorem d_M_longest_65 : decode prog_6_method_43_code 65 = .ok (.iload_n 1, 1) := by decide +kernel
theorem d_M_longest_66 : decode prog_6_method_43_code 66 = .ok (.if_icmp .le 7, 3) := by decide +kernel
theorem d_M_longest_69 : decode prog_6_method_43_code 69 = .ok (.iload_n 3, 1) := by decide +kernel
theorem d_M_longest_70 : decode prog_6_method_43_code 70 = .ok (.goto 4, 3) := by decide +kernel
theorem d_M_longest_28 : decode prog_6_method_43_code 28 = .ok (.bastore, 1) := by decide +kernel
theorem d_M_longest_29 : decode prog_6_method_43_code 29 = .ok (.iinc 2 1, 3) := by decide +kernel
theorem d_M_longest_32 : decode prog_6_method_43_code 32 = .ok (.goto (-30), 3) := by decide +kernel
theorem d_M_longest_73 : decode prog_6_method_43_code 73 = .ok (.iload_n 2, 1) := by decide +kernel
theorem d_M_longest_74 : decode prog_6_method_43_code 74 = .ok (.istore_n 2, 1) := by decide +kernel
theorem d_M_longest_75 : decode prog_6_method_43_code 75 = .ok (.iconst 0, 1) := by decide +kernel
theorem d_M_longest_76 : decode prog_6_method_43_code 76 = .ok (.istore 4, 2) := by decide +kernel
theorem d_M_longest_78 : decode prog_6_method_43_code 78 = .ok (.iconst 0, 1) := by decide +kernel
theorem d_M_longest_79 : decode prog_6_method_43_code 79 = .ok (.istore 5, 2) := by decide +kernel
theorem d_M_longest_81 : decode prog_6_method_43_code 81 = .ok (.iload 5, 2) := by decide +kernel
theorem d_M_longest_83 : decode prog_6_method_43_code 83 = .ok (.aload_n 0, 1) := by decide +kernel
theorem d_M_longest_84 : decode prog_6_method_43_code 84 = .ok (.getfield 142, 3) := by decide +kernel
theorem d_M_longest_87 : decode prog_6_method_43_code 87 = .ok (.if_icmp .ge 17, 3) := by decide +kernel
theorem d_M_longest_104 : decode prog_6_method_43_code 104 = .ok (.iconst 0, 1) := by decide +kernel
theorem d_M_longest_105 : decode prog_6_method_43_code 105 = .ok (.istore 5, 2) := by decide +kernel
theorem d_M_longest_90 : decode prog_6_method_43_code 90 = .ok (.aload_n 0, 1) := by decide +kernel
theorem d_M_longest_91 : decode prog_6_method_43_code 91 = .ok (.getfield 76, 3) := by decide +kernel
theorem d_M_longest_94 : decode prog_6_method_43_code 94 = .ok (.iload 5, 2) := by decide +kernel
theorem d_M_longest_96 : decode prog_6_method_43_code 96 = .ok (.iconst 0, 1) := by decide +kernel
theorem d_M_longest_97 : decode prog_6_method_43_code 97 = .ok (.bastore, 1) := by decide +kernel
theorem d_M_longest_98 : decode prog_6_method_43_code 98 = .ok (.iinc 5 1, 3) := by decide +kernel
theorem d_M_longest_101 : decode prog_6_method_43_code 101 = .ok (.goto (-20), 3) := by decide +kernel
theorem d_M_longest_107 : decode prog_6_method_43_code 107 = .ok (.iload 5, 2) := by decide +kernel
theorem d_M_longest_109 : decode prog_6_method_43_code 109 = .ok (.aload_n 0, 1) := by decide +kernel
theorem d_M_longest_110 : decode prog_6_method_43_code 110 = .ok (.getfield 142, 3) := by decide +kernel
theorem d_M_longest_113 : decode prog_6_method_43_code 113 = .ok (.if_icmp .ge 57, 3) := by decide +kernel
theorem d_M_longest_116 : decode prog_6_method_43_code 116 = .ok (.iload_n 3, 1) := by decide +kernel
theorem d_M_longest_117 : decode prog_6_method_43_code 117 = .ok (.aload_n 0, 1) := by decide +kernel
theorem d_M_longest_118 : decode prog_6_method_43_code 118 = .ok (.invokevirtual 123, 3) := by decide +kernel
theorem d_M_longest_121 : decode prog_6_method_43_code 121 = .ok (.if_icmp .ge 49, 3) := by decide +kernel
theorem d_M_longest_124 : decode prog_6_method_43_code 124 = .ok (.aload_n 0, 1) := by decide +kernel
theorem d_M_longest_125 : decode prog_6_method_43_code 125 = .ok (.getfield 72, 3) := by decide +kernel
theorem d_M_longest_128 : decode prog_6_method_43_code 128 = .ok (.iload 5, 2) := by decide +kernel
theorem d_M_longest_130 : decode prog_6_method_43_code 130 = .ok (.baload, 1) := by decide +kernel
theorem d_M_longest_131 : decode prog_6_method_43_code 131 = .ok (.ifCond .eq 33, 3) := by decide +kernel
theorem d_M_longest_134 : decode prog_6_method_43_code 134 = .ok (.aload_n 0, 1) := by decide +kernel
theorem d_M_longest_135 : decode prog_6_method_43_code 135 = .ok (.iload 5, 2) := by decide +kernel
theorem d_M_longest_137 : decode prog_6_method_43_code 137 = .ok (.aload_n 0, 1) := by decide +kernel
theorem d_M_longest_138 : decode prog_6_method_43_code 138 = .ok (.iload_n 3, 1) := by decide +kernel
theorem d_M_longest_139 : decode prog_6_method_43_code 139 = .ok (.invokevirtual 104, 3) := by decide +kernel
theorem d_M_longest_142 : decode prog_6_method_43_code 142 = .ok (.invokevirtual 222, 3) := by decide +kernel
theorem d_M_takes_0 : decode prog_6_method_39_code 0 = .ok (.aload_n 0, 1) := by decide +kernel
theorem d_M_takes_1 : decode prog_6_method_39_code 1 = .ok (.getfield 42, 3) := by decide +kernel
theorem d_M_takes_4 : decode prog_6_method_39_code 4 = .ok (.iload_n 1, 1) := by decide +kernel
theorem d_M_takes_5 : decode prog_6_method_39_code 5 = .ok (.iaload, 1) := by decide +kernel
theorem d_M_takes_6 : decode prog_6_method_39_code 6 = .ok (.iconst 1, 1) := by decide +kernel
theorem d_M_takes_7 : decode prog_6_method_39_code 7 = .ok (.if_icmp .ne 13, 3) := by decide +kernel
theorem d_M_takes_10 : decode prog_6_method_39_code 10 = .ok (.iload_n 2, 1) := by decide +kernel
theorem d_M_takes_11 : decode prog_6_method_39_code 11 = .ok (.aload_n 0, 1) := by decide +kernel
theorem d_M_takes_12 : decode prog_6_method_39_code 12 = .ok (.getfield 45, 3) := by decide +kernel
theorem d_M_takes_15 : decode prog_6_method_39_code 15 = .ok (.iload_n 1, 1) := by decide +kernel
theorem d_M_takes_16 : decode prog_6_method_39_code 16 = .ok (.iaload, 1) := by decide +kernel
theorem d_M_takes_17 : decode prog_6_method_39_code 17 = .ok (.if_icmp .eq 49, 3) := by decide +kernel
theorem d_M_takes_20 : decode prog_6_method_39_code 20 = .ok (.aload_n 0, 1) := by decide +kernel
theorem d_M_takes_21 : decode prog_6_method_39_code 21 = .ok (.getfield 42, 3) := by decide +kernel
theorem d_M_takes_24 : decode prog_6_method_39_code 24 = .ok (.iload_n 1, 1) := by decide +kernel
theorem d_M_takes_25 : decode prog_6_method_39_code 25 = .ok (.iaload, 1) := by decide +kernel
theorem d_M_takes_26 : decode prog_6_method_39_code 26 = .ok (.iconst 2, 1) := by decide +kernel
theorem d_M_takes_27 : decode prog_6_method_39_code 27 = .ok (.if_icmp .ne 9, 3) := by decide +kernel
theorem d_M_takes_30 : decode prog_6_method_39_code 30 = .ok (.iload_n 2, 1) := by decide +kernel
theorem d_M_takes_31 : decode prog_6_method_39_code 31 = .ok (.bipush 10, 2) := by decide +kernel
theorem d_M_takes_33 : decode prog_6_method_39_code 33 = .ok (.if_icmp .ne 33, 3) := by decide +kernel
theorem d_M_takes_66 : decode prog_6_method_39_code 66 = .ok (.iconst 1, 1) := by decide +kernel
theorem d_M_takes_67 : decode prog_6_method_39_code 67 = .ok (.goto 4, 3) := by decide +kernel
theorem d_M_takes_36 : decode prog_6_method_39_code 36 = .ok (.aload_n 0, 1) := by decide +kernel
theorem d_M_takes_37 : decode prog_6_method_39_code 37 = .ok (.getfield 42, 3) := by decide +kernel
theorem d_M_takes_40 : decode prog_6_method_39_code 40 = .ok (.iload_n 1, 1) := by decide +kernel
theorem d_M_takes_41 : decode prog_6_method_39_code 41 = .ok (.iaload, 1) := by decide +kernel
theorem d_M_takes_42 : decode prog_6_method_39_code 42 = .ok (.iconst 3, 1) := by decide +kernel
theorem d_M_takes_43 : decode prog_6_method_39_code 43 = .ok (.if_icmp .ne 27, 3) := by decide +kernel
theorem d_M_takes_46 : decode prog_6_method_39_code 46 = .ok (.aload_n 0, 1) := by decide +kernel
theorem d_M_takes_47 : decode prog_6_method_39_code 47 = .ok (.iload_n 2, 1) := by decide +kernel
theorem d_M_takes_48 : decode prog_6_method_39_code 48 = .ok (.aload_n 0, 1) := by decide +kernel
theorem d_M_takes_49 : decode prog_6_method_39_code 49 = .ok (.getfield 45, 3) := by decide +kernel
theorem d_M_takes_52 : decode prog_6_method_39_code 52 = .ok (.iload_n 1, 1) := by decide +kernel
theorem d_M_takes_53 : decode prog_6_method_39_code 53 = .ok (.iaload, 1) := by decide +kernel
theorem d_M_takes_54 : decode prog_6_method_39_code 54 = .ok (.aload_n 0, 1) := by decide +kernel
theorem d_M_takes_55 : decode prog_6_method_39_code 55 = .ok (.getfield 48, 3) := by decide +kernel
theorem d_M_takes_58 : decode prog_6_method_39_code 58 = .ok (.iload_n 1, 1) := by decide +kernel
theorem d_M_takes_59 : decode prog_6_method_39_code 59 = .ok (.iaload, 1) := by decide +kernel
theorem d_M_takes_60 : decode prog_6_method_39_code 60 = .ok (.invokevirtual 207, 3) := by decide +kernel
theorem d_M_inSet_0 : decode prog_6_method_38_code 0 = .ok (.aload_n 0, 1) := by decide +kernel
theorem d_M_inSet_1 : decode prog_6_method_38_code 1 = .ok (.getfield 39, 3) := by decide +kernel
theorem d_M_inSet_4 : decode prog_6_method_38_code 4 = .ok (.iload_n 2, 1) := by decide +kernel
theorem d_M_inSet_5 : decode prog_6_method_38_code 5 = .ok (.caload, 1) := by decide +kernel
theorem d_M_inSet_6 : decode prog_6_method_38_code 6 = .ok (.bipush 94, 2) := by decide +kernel
theorem d_M_inSet_8 : decode prog_6_method_38_code 8 = .ok (.if_icmp .ne 7, 3) := by decide +kernel
theorem d_M_inSet_15 : decode prog_6_method_38_code 15 = .ok (.iconst 0, 1) := by decide +kernel
theorem d_M_inSet_11 : decode prog_6_method_38_code 11 = .ok (.iconst 1, 1) := by decide +kernel
theorem d_M_inSet_12 : decode prog_6_method_38_code 12 = .ok (.goto 4, 3) := by decide +kernel
theorem d_M_inSet_16 : decode prog_6_method_38_code 16 = .ok (.istore 4, 2) := by decide +kernel
theorem d_M_inSet_18 : decode prog_6_method_38_code 18 = .ok (.iconst 0, 1) := by decide +kernel
theorem d_M_inSet_19 : decode prog_6_method_38_code 19 = .ok (.istore 5, 2) := by decide +kernel
theorem d_M_inSet_21 : decode prog_6_method_38_code 21 = .ok (.iload 4, 2) := by decide +kernel
theorem d_M_inSet_23 : decode prog_6_method_38_code 23 = .ok (.ifCond .eq 9, 3) := by decide +kernel
theorem d_M_inSet_32 : decode prog_6_method_38_code 32 = .ok (.iload_n 2, 1) := by decide +kernel
theorem d_M_inSet_26 : decode prog_6_method_38_code 26 = .ok (.iload_n 2, 1) := by decide +kernel
theorem d_M_inSet_27 : decode prog_6_method_38_code 27 = .ok (.iconst 1, 1) := by decide +kernel
theorem d_M_inSet_28 : decode prog_6_method_38_code 28 = .ok (.iadd, 1) := by decide +kernel
theorem d_M_inSet_29 : decode prog_6_method_38_code 29 = .ok (.goto 4, 3) := by decide +kernel
theorem d_M_inSet_33 : decode prog_6_method_38_code 33 = .ok (.istore 6, 2) := by decide +kernel
theorem d_M_inSet_35 : decode prog_6_method_38_code 35 = .ok (.iload 6, 2) := by decide +kernel
theorem d_M_inSet_37 : decode prog_6_method_38_code 37 = .ok (.iload_n 3, 1) := by decide +kernel
theorem d_M_inSet_38 : decode prog_6_method_38_code 38 = .ok (.if_icmp .ge 124, 3) := by decide +kernel
theorem d_M_inSet_162 : decode prog_6_method_38_code 162 = .ok (.iload 5, 2) := by decide +kernel
theorem d_M_inSet_164 : decode prog_6_method_38_code 164 = .ok (.iload 4, 2) := by decide +kernel
theorem d_M_inSet_166 : decode prog_6_method_38_code 166 = .ok (.if_icmp .eq 7, 3) := by decide +kernel
theorem d_M_inSet_173 : decode prog_6_method_38_code 173 = .ok (.iconst 0, 1) := by decide +kernel
theorem d_M_inSet_169 : decode prog_6_method_38_code 169 = .ok (.iconst 1, 1) := by decide +kernel
theorem d_M_inSet_170 : decode prog_6_method_38_code 170 = .ok (.goto 4, 3) := by decide +kernel
theorem d_M_inSet_41 : decode prog_6_method_38_code 41 = .ok (.iload 6, 2) := by decide +kernel
theorem d_M_inSet_43 : decode prog_6_method_38_code 43 = .ok (.iconst 2, 1) := by decide +kernel
theorem d_M_inSet_44 : decode prog_6_method_38_code 44 = .ok (.iadd, 1) := by decide +kernel
theorem d_M_inSet_45 : decode prog_6_method_38_code 45 = .ok (.iload_n 3, 1) := by decide +kernel
theorem d_M_inSet_46 : decode prog_6_method_38_code 46 = .ok (.if_icmp .ge 40, 3) := by decide +kernel
theorem d_M_inSet_49 : decode prog_6_method_38_code 49 = .ok (.aload_n 0, 1) := by decide +kernel
theorem d_M_inSet_50 : decode prog_6_method_38_code 50 = .ok (.getfield 39, 3) := by decide +kernel
theorem d_M_inSet_53 : decode prog_6_method_38_code 53 = .ok (.iload 6, 2) := by decide +kernel
theorem d_M_inSet_55 : decode prog_6_method_38_code 55 = .ok (.iconst 1, 1) := by decide +kernel
theorem d_M_inSet_56 : decode prog_6_method_38_code 56 = .ok (.iadd, 1) := by decide +kernel
theorem d_M_inSet_57 : decode prog_6_method_38_code 57 = .ok (.caload, 1) := by decide +kernel
theorem d_M_inSet_58 : decode prog_6_method_38_code 58 = .ok (.bipush 45, 2) := by decide +kernel
theorem d_M_inSet_60 : decode prog_6_method_38_code 60 = .ok (.if_icmp .ne 26, 3) := by decide +kernel
theorem d_M_inSet_63 : decode prog_6_method_38_code 63 = .ok (.aload_n 0, 1) := by decide +kernel
theorem d_M_inSet_64 : decode prog_6_method_38_code 64 = .ok (.getfield 39, 3) := by decide +kernel
theorem d_M_inSet_67 : decode prog_6_method_38_code 67 = .ok (.iload 6, 2) := by decide +kernel
theorem d_M_inSet_69 : decode prog_6_method_38_code 69 = .ok (.iconst 2, 1) := by decide +kernel
theorem d_M_inSet_70 : decode prog_6_method_38_code 70 = .ok (.iadd, 1) := by decide +kernel
theorem d_M_inSet_71 : decode prog_6_method_38_code 71 = .ok (.caload, 1) := by decide +kernel
theorem d_M_inSet_72 : decode prog_6_method_38_code 72 = .ok (.aload_n 0, 1) := by decide +kernel
theorem d_M_inSet_73 : decode prog_6_method_38_code 73 = .ok (.getfield 39, 3) := by decide +kernel
theorem d_M_inSet_76 : decode prog_6_method_38_code 76 = .ok (.iload 6, 2) := by decide +kernel
theorem d_M_inSet_78 : decode prog_6_method_38_code 78 = .ok (.caload, 1) := by decide +kernel
theorem d_M_inSet_79 : decode prog_6_method_38_code 79 = .ok (.if_icmp .lt 7, 3) := by decide +kernel
theorem d_M_inSet_82 : decode prog_6_method_38_code 82 = .ok (.iconst 1, 1) := by decide +kernel
theorem d_M_inSet_83 : decode prog_6_method_38_code 83 = .ok (.goto 4, 3) := by decide +kernel
theorem d_M_inSet_174 : decode prog_6_method_38_code 174 = .ok (.ireturn, 1) := by decide +kernel
theorem d_M_inSet_86 : decode prog_6_method_38_code 86 = .ok (.iconst 0, 1) := by decide +kernel
theorem d_M_inSet_87 : decode prog_6_method_38_code 87 = .ok (.istore 7, 2) := by decide +kernel
theorem d_M_inSet_89 : decode prog_6_method_38_code 89 = .ok (.iload 7, 2) := by decide +kernel
theorem d_M_inSet_91 : decode prog_6_method_38_code 91 = .ok (.ifCond .eq 15, 3) := by decide +kernel
theorem d_M_inSet_106 : decode prog_6_method_38_code 106 = .ok (.aload_n 0, 1) := by decide +kernel
theorem d_M_inSet_107 : decode prog_6_method_38_code 107 = .ok (.getfield 39, 3) := by decide +kernel
theorem d_M_inSet_110 : decode prog_6_method_38_code 110 = .ok (.iload 6, 2) := by decide +kernel
theorem d_M_inSet_112 : decode prog_6_method_38_code 112 = .ok (.caload, 1) := by decide +kernel
theorem d_M_inSet_94 : decode prog_6_method_38_code 94 = .ok (.aload_n 0, 1) := by decide +kernel
theorem d_M_inSet_95 : decode prog_6_method_38_code 95 = .ok (.getfield 39, 3) := by decide +kernel
theorem d_M_inSet_98 : decode prog_6_method_38_code 98 = .ok (.iload 6, 2) := by decide +kernel
theorem d_M_inSet_100 : decode prog_6_method_38_code 100 = .ok (.iconst 2, 1) := by decide +kernel
theorem d_M_inSet_101 : decode prog_6_method_38_code 101 = .ok (.iadd, 1) := by decide +kernel
theorem d_M_inSet_102 : decode prog_6_method_38_code 102 = .ok (.caload, 1) := by decide +kernel
theorem d_M_inSet_103 : decode prog_6_method_38_code 103 = .ok (.goto 10, 3) := by decide +kernel
theorem d_M_inSet_113 : decode prog_6_method_38_code 113 = .ok (.istore 8, 2) := by decide +kernel
theorem d_M_inSet_115 : decode prog_6_method_38_code 115 = .ok (.iload 5, 2) := by decide +kernel
theorem d_M_inSet_117 : decode prog_6_method_38_code 117 = .ok (.ifCond .ne 20, 3) := by decide +kernel
theorem d_M_inSet_120 : decode prog_6_method_38_code 120 = .ok (.iload_n 1, 1) := by decide +kernel
theorem d_M_inSet_121 : decode prog_6_method_38_code 121 = .ok (.aload_n 0, 1) := by decide +kernel
theorem d_M_inSet_122 : decode prog_6_method_38_code 122 = .ok (.getfield 39, 3) := by decide +kernel
theorem d_M_inSet_125 : decode prog_6_method_38_code 125 = .ok (.iload 6, 2) := by decide +kernel
theorem d_M_inSet_127 : decode prog_6_method_38_code 127 = .ok (.caload, 1) := by decide +kernel
theorem d_M_inSet_128 : decode prog_6_method_38_code 128 = .ok (.if_icmp .lt 13, 3) := by decide +kernel
theorem d_M_inSet_131 : decode prog_6_method_38_code 131 = .ok (.iload_n 1, 1) := by decide +kernel
theorem d_M_inSet_132 : decode prog_6_method_38_code 132 = .ok (.iload 8, 2) := by decide +kernel
theorem d_M_inSet_134 : decode prog_6_method_38_code 134 = .ok (.if_icmp .gt 7, 3) := by decide +kernel
theorem d_M_inSet_137 : decode prog_6_method_38_code 137 = .ok (.iconst 1, 1) := by decide +kernel
theorem d_M_inSet_138 : decode prog_6_method_38_code 138 = .ok (.goto 4, 3) := by decide +kernel
theorem d_M_inSet_141 : decode prog_6_method_38_code 141 = .ok (.iconst 0, 1) := by decide +kernel
theorem d_M_inSet_142 : decode prog_6_method_38_code 142 = .ok (.istore 5, 2) := by decide +kernel
theorem d_M_inSet_144 : decode prog_6_method_38_code 144 = .ok (.iload 6, 2) := by decide +kernel
theorem d_M_inSet_146 : decode prog_6_method_38_code 146 = .ok (.iload 7, 2) := by decide +kernel
theorem d_M_inSet_148 : decode prog_6_method_38_code 148 = .ok (.ifCond .eq 7, 3) := by decide +kernel
theorem d_M_inSet_155 : decode prog_6_method_38_code 155 = .ok (.iconst 1, 1) := by decide +kernel
theorem d_M_inSet_151 : decode prog_6_method_38_code 151 = .ok (.iconst 3, 1) := by decide +kernel
theorem d_M_inSet_152 : decode prog_6_method_38_code 152 = .ok (.goto 4, 3) := by decide +kernel
theorem d_M_inSet_156 : decode prog_6_method_38_code 156 = .ok (.iadd, 1) := by decide +kernel
theorem d_M_inSet_157 : decode prog_6_method_38_code 157 = .ok (.istore 6, 2) := by decide +kernel
theorem d_M_inSet_159 : decode prog_6_method_38_code 159 = .ok (.goto (-124), 3) := by decide +kernel
theorem d_M_takes_63 : decode prog_6_method_39_code 63 = .ok (.ifCond .eq 7, 3) := by decide +kernel
theorem d_M_takes_71 : decode prog_6_method_39_code 71 = .ok (.ireturn, 1) := by decide +kernel
theorem d_M_takes_70 : decode prog_6_method_39_code 70 = .ok (.iconst 0, 1) := by decide +kernel
theorem d_M_longest_145 : decode prog_6_method_43_code 145 = .ok (.ifCond .eq 19, 3) := by decide +kernel
theorem d_M_longest_148 : decode prog_6_method_43_code 148 = .ok (.aload_n 0, 1) := by decide +kernel
theorem d_M_longest_149 : decode prog_6_method_43_code 149 = .ok (.getfield 76, 3) := by decide +kernel
theorem d_M_longest_152 : decode prog_6_method_43_code 152 = .ok (.aload_n 0, 1) := by decide +kernel
theorem d_M_longest_153 : decode prog_6_method_43_code 153 = .ok (.getfield 51, 3) := by decide +kernel
theorem d_M_longest_156 : decode prog_6_method_43_code 156 = .ok (.iload 5, 2) := by decide +kernel
theorem d_M_longest_158 : decode prog_6_method_43_code 158 = .ok (.iaload, 1) := by decide +kernel
theorem d_M_longest_159 : decode prog_6_method_43_code 159 = .ok (.iconst 1, 1) := by decide +kernel
theorem d_M_longest_160 : decode prog_6_method_43_code 160 = .ok (.bastore, 1) := by decide +kernel
theorem d_M_longest_161 : decode prog_6_method_43_code 161 = .ok (.iconst 1, 1) := by decide +kernel
theorem d_M_longest_162 : decode prog_6_method_43_code 162 = .ok (.istore 4, 2) := by decide +kernel
theorem d_M_longest_170 : decode prog_6_method_43_code 170 = .ok (.iconst 0, 1) := by decide +kernel
theorem d_M_longest_171 : decode prog_6_method_43_code 171 = .ok (.istore 5, 2) := by decide +kernel
theorem d_M_longest_164 : decode prog_6_method_43_code 164 = .ok (.iinc 5 1, 3) := by decide +kernel
theorem d_M_longest_167 : decode prog_6_method_43_code 167 = .ok (.goto (-60), 3) := by decide +kernel
theorem d_M_longest_173 : decode prog_6_method_43_code 173 = .ok (.iload 5, 2) := by decide +kernel
theorem d_M_longest_175 : decode prog_6_method_43_code 175 = .ok (.aload_n 0, 1) := by decide +kernel
theorem d_M_longest_176 : decode prog_6_method_43_code 176 = .ok (.getfield 142, 3) := by decide +kernel
theorem d_M_longest_179 : decode prog_6_method_43_code 179 = .ok (.if_icmp .ge 23, 3) := by decide +kernel
theorem d_M_longest_202 : decode prog_6_method_43_code 202 = .ok (.iinc 3 1, 3) := by decide +kernel
theorem d_M_longest_205 : decode prog_6_method_43_code 205 = .ok (.goto (-163), 3) := by decide +kernel
theorem d_M_longest_182 : decode prog_6_method_43_code 182 = .ok (.aload_n 0, 1) := by decide +kernel
theorem d_M_longest_183 : decode prog_6_method_43_code 183 = .ok (.getfield 72, 3) := by decide +kernel
theorem d_M_longest_186 : decode prog_6_method_43_code 186 = .ok (.iload 5, 2) := by decide +kernel
theorem d_M_longest_188 : decode prog_6_method_43_code 188 = .ok (.aload_n 0, 1) := by decide +kernel
theorem d_M_longest_189 : decode prog_6_method_43_code 189 = .ok (.getfield 76, 3) := by decide +kernel
theorem d_M_longest_192 : decode prog_6_method_43_code 192 = .ok (.iload 5, 2) := by decide +kernel
theorem d_M_longest_194 : decode prog_6_method_43_code 194 = .ok (.baload, 1) := by decide +kernel
theorem d_M_longest_195 : decode prog_6_method_43_code 195 = .ok (.bastore, 1) := by decide +kernel
theorem d_M_longest_196 : decode prog_6_method_43_code 196 = .ok (.iinc 5 1, 3) := by decide +kernel
theorem d_M_longest_199 : decode prog_6_method_43_code 199 = .ok (.goto (-26), 3) := by decide +kernel
theorem d_M_look_33 : decode prog_6_method_44_code 33 = .ok (.putfield 226, 3) := by decide +kernel
theorem d_M_look_36 : decode prog_6_method_44_code 36 = .ok (.iinc 2 1, 3) := by decide +kernel
theorem d_M_look_39 : decode prog_6_method_44_code 39 = .ok (.goto (-32), 3) := by decide +kernel
theorem d_M_look_42 : decode prog_6_method_44_code 42 = .ok (.aload_n 0, 1) := by decide +kernel
theorem d_M_look_43 : decode prog_6_method_44_code 43 = .ok (.getfield 226, 3) := by decide +kernel
theorem d_M_look_46 : decode prog_6_method_44_code 46 = .ok (.ifCond .lt 7, 3) := by decide +kernel
theorem d_M_look_53 : decode prog_6_method_44_code 53 = .ok (.iconst 0, 1) := by decide +kernel
theorem d_M_look_49 : decode prog_6_method_44_code 49 = .ok (.iconst 1, 1) := by decide +kernel
theorem d_M_look_50 : decode prog_6_method_44_code 50 = .ok (.goto 4, 3) := by decide +kernel
theorem d_M_look_54 : decode prog_6_method_44_code 54 = .ok (.ireturn, 1) := by decide +kernel
theorem d_M_find_44 : decode prog_6_method_45_code 44 = .ok (.ifCond .ne 8, 3) := by decide +kernel
theorem d_M_find_47 : decode prog_6_method_45_code 47 = .ok (.aload_n 0, 1) := by decide +kernel
theorem d_M_find_48 : decode prog_6_method_45_code 48 = .ok (.iconst 3, 1) := by decide +kernel
theorem d_M_find_49 : decode prog_6_method_45_code 49 = .ok (.putfield 82, 3) := by decide +kernel
theorem d_M_find_52 : decode prog_6_method_45_code 52 = .ok (.aload_n 0, 1) := by decide +kernel
theorem d_M_find_53 : decode prog_6_method_45_code 53 = .ok (.getfield 82, 3) := by decide +kernel
theorem d_M_find_56 : decode prog_6_method_45_code 56 = .ok (.ifCond .le 5, 3) := by decide +kernel
theorem d_M_find_61 : decode prog_6_method_45_code 61 = .ok (.aload_n 0, 1) := by decide +kernel
theorem d_M_find_62 : decode prog_6_method_45_code 62 = .ok (.aload_n 0, 1) := by decide +kernel
theorem d_M_find_63 : decode prog_6_method_45_code 63 = .ok (.getfield 229, 3) := by decide +kernel
theorem d_M_find_66 : decode prog_6_method_45_code 66 = .ok (.putfield 33, 3) := by decide +kernel
theorem d_M_find_69 : decode prog_6_method_45_code 69 = .ok (.aload_n 0, 1) := by decide +kernel
theorem d_M_find_70 : decode prog_6_method_45_code 70 = .ok (.aload_n 0, 1) := by decide +kernel
theorem d_M_find_71 : decode prog_6_method_45_code 71 = .ok (.getfield 226, 3) := by decide +kernel
theorem d_M_find_74 : decode prog_6_method_45_code 74 = .ok (.putfield 95, 3) := by decide +kernel
theorem d_M_find_77 : decode prog_6_method_45_code 77 = .ok (.aload_n 0, 1) := by decide +kernel
theorem d_M_find_78 : decode prog_6_method_45_code 78 = .ok (.getfield 33, 3) := by decide +kernel
theorem d_M_find_81 : decode prog_6_method_45_code 81 = .ok (.ireturn, 1) := by decide +kernel
theorem d_M_find_59 : decode prog_6_method_45_code 59 = .ok (.iconst 0, 1) := by decide +kernel
theorem d_M_find_60 : decode prog_6_method_45_code 60 = .ok (.ireturn, 1) := by decide +kernel
theorem d_M_go_0 : decode prog_6_method_17_code 0 = .ok (.aload_n 0, 1) := by decide +kernel
theorem d_M_go_1 : decode prog_6_method_17_code 1 = .ok (.iload_n 1, 1) := by decide +kernel
theorem d_M_go_2 : decode prog_6_method_17_code 2 = .ok (.ifCond .lt 11, 3) := by decide +kernel
theorem d_M_go_5 : decode prog_6_method_17_code 5 = .ok (.iload_n 1, 1) := by decide +kernel
theorem d_M_go_6 : decode prog_6_method_17_code 6 = .ok (.aload_n 0, 1) := by decide +kernel
theorem d_M_go_7 : decode prog_6_method_17_code 7 = .ok (.invokevirtual 123, 3) := by decide +kernel
theorem d_M_go_10 : decode prog_6_method_17_code 10 = .ok (.if_icmp .le 7, 3) := by decide +kernel
theorem d_M_go_17 : decode prog_6_method_17_code 17 = .ok (.iconst 0, 1) := by decide +kernel
theorem d_M_go_13 : decode prog_6_method_17_code 13 = .ok (.iconst 1, 1) := by decide +kernel
theorem d_M_go_14 : decode prog_6_method_17_code 14 = .ok (.goto 4, 3) := by decide +kernel
theorem d_M_go_18 : decode prog_6_method_17_code 18 = .ok (.putfield 82, 3) := by decide +kernel
theorem d_M_go_21 : decode prog_6_method_17_code 21 = .ok (.aload_n 0, 1) := by decide +kernel
theorem d_M_go_22 : decode prog_6_method_17_code 22 = .ok (.getfield 82, 3) := by decide +kernel
theorem d_M_go_25 : decode prog_6_method_17_code 25 = .ok (.ifCond .le 4, 3) := by decide +kernel
theorem d_M_go_29 : decode prog_6_method_17_code 29 = .ok (.aload_n 0, 1) := by decide +kernel
theorem d_M_go_30 : decode prog_6_method_17_code 30 = .ok (.iload_n 2, 1) := by decide +kernel
theorem d_M_go_31 : decode prog_6_method_17_code 31 = .ok (.ifCond .ne 7, 3) := by decide +kernel
theorem d_M_go_38 : decode prog_6_method_17_code 38 = .ok (.aload_n 0, 1) := by decide +kernel
theorem d_M_go_39 : decode prog_6_method_17_code 39 = .ok (.getfield 33, 3) := by decide +kernel
theorem d_M_go_42 : decode prog_6_method_17_code 42 = .ok (.ifCond .ge 10, 3) := by decide +kernel
theorem d_M_go_52 : decode prog_6_method_17_code 52 = .ok (.aload_n 0, 1) := by decide +kernel
theorem d_M_go_53 : decode prog_6_method_17_code 53 = .ok (.getfield 33, 3) := by decide +kernel
theorem d_M_go_45 : decode prog_6_method_17_code 45 = .ok (.aload_n 0, 1) := by decide +kernel
theorem d_M_go_46 : decode prog_6_method_17_code 46 = .ok (.getfield 95, 3) := by decide +kernel
theorem d_M_go_49 : decode prog_6_method_17_code 49 = .ok (.goto 7, 3) := by decide +kernel
theorem d_M_go_34 : decode prog_6_method_17_code 34 = .ok (.iconst (-1), 1) := by decide +kernel
theorem d_M_go_35 : decode prog_6_method_17_code 35 = .ok (.goto 21, 3) := by decide +kernel
theorem d_M_go_28 : decode prog_6_method_17_code 28 = .ok (.return_, 1) := by decide +kernel
theorem d_M_go_56 : decode prog_6_method_17_code 56 = .ok (.putfield 33, 3) := by decide +kernel
theorem d_M_go_59 : decode prog_6_method_17_code 59 = .ok (.aload_n 0, 1) := by decide +kernel
theorem d_M_go_60 : decode prog_6_method_17_code 60 = .ok (.iload_n 1, 1) := by decide +kernel
theorem d_M_go_61 : decode prog_6_method_17_code 61 = .ok (.putfield 95, 3) := by decide +kernel
theorem d_M_go_64 : decode prog_6_method_17_code 64 = .ok (.aload_n 0, 1) := by decide +kernel
theorem d_M_go_65 : decode prog_6_method_17_code 65 = .ok (.aload_n 0, 1) := by decide +kernel
theorem d_M_go_66 : decode prog_6_method_17_code 66 = .ok (.getfield 33, 3) := by decide +kernel
theorem d_M_go_69 : decode prog_6_method_17_code 69 = .ok (.aload_n 0, 1) := by decide +kernel
theorem d_M_go_70 : decode prog_6_method_17_code 70 = .ok (.getfield 95, 3) := by decide +kernel
theorem d_M_go_73 : decode prog_6_method_17_code 73 = .ok (.if_icmp .ne 7, 3) := by decide +kernel
theorem d_M_go_80 : decode prog_6_method_17_code 80 = .ok (.aload_n 0, 1) := by decide +kernel
theorem d_M_go_81 : decode prog_6_method_17_code 81 = .ok (.getfield 33, 3) := by decide +kernel
theorem d_M_go_76 : decode prog_6_method_17_code 76 = .ok (.iconst (-1), 1) := by decide +kernel
theorem d_M_go_77 : decode prog_6_method_17_code 77 = .ok (.goto 7, 3) := by decide +kernel
theorem d_M_go_84 : decode prog_6_method_17_code 84 = .ok (.putfield 33, 3) := by decide +kernel
theorem d_M_go_87 : decode prog_6_method_17_code 87 = .ok (.return_, 1) := by decide +kernel
theorem d_M_insert_0 : decode prog_6_method_15_code 0 = .ok (.aload_n 0, 1) := by decide +kernel
theorem d_M_insert_1 : decode prog_6_method_15_code 1 = .ok (.invokevirtual 116, 3) := by decide +kernel
theorem d_M_insert_4 : decode prog_6_method_15_code 4 = .ok (.istore_n 1, 1) := by decide +kernel
theorem d_M_insert_5 : decode prog_6_method_15_code 5 = .ok (.aload_n 0, 1) := by decide +kernel
theorem d_M_insert_6 : decode prog_6_method_15_code 6 = .ok (.invokevirtual 120, 3) := by decide +kernel
theorem d_M_insert_9 : decode prog_6_method_15_code 9 = .ok (.istore_n 2, 1) := by decide +kernel
theorem d_M_insert_10 : decode prog_6_method_15_code 10 = .ok (.iload_n 2, 1) := by decide +kernel
theorem d_M_insert_11 : decode prog_6_method_15_code 11 = .ok (.iload_n 1, 1) := by decide +kernel
theorem d_M_insert_12 : decode prog_6_method_15_code 12 = .ok (.if_icmp .gt 10, 3) := by decide +kernel
theorem d_M_insert_15 : decode prog_6_method_15_code 15 = .ok (.aload_n 0, 1) := by decide +kernel
theorem d_M_insert_16 : decode prog_6_method_15_code 16 = .ok (.getfield 89, 3) := by decide +kernel
theorem d_M_insert_19 : decode prog_6_method_15_code 19 = .ok (.ifCond .le 7, 3) := by decide +kernel
theorem d_M_insert_26 : decode prog_6_method_15_code 26 = .ok (.iconst 0, 1) := by decide +kernel
-- 14.dec04
theorem d_M_insert_22 : decode prog_6_method_15_code 22 = .ok (.iconst 1, 1) := by decide +kernel
theorem d_M_insert_23 : decode prog_6_method_15_code 23 = .ok (.goto 4, 3) := by decide +kernel
theorem d_M_insert_27 : decode prog_6_method_15_code 27 = .ok (.istore_n 3, 1) := by decide +kernel
theorem d_M_insert_28 : decode prog_6_method_15_code 28 = .ok (.aload_n 0, 1) := by decide +kernel
theorem d_M_insert_29 : decode prog_6_method_15_code 29 = .ok (.iload_n 3, 1) := by decide +kernel
theorem d_M_insert_30 : decode prog_6_method_15_code 30 = .ok (.ifCond .eq 35, 3) := by decide +kernel
theorem d_M_insert_33 : decode prog_6_method_15_code 33 = .ok (.aload_n 0, 1) := by decide +kernel
theorem d_M_insert_34 : decode prog_6_method_15_code 34 = .ok (.invokevirtual 123, 3) := by decide +kernel
theorem d_M_insert_37 : decode prog_6_method_15_code 37 = .ok (.iload_n 2, 1) := by decide +kernel
theorem d_M_insert_38 : decode prog_6_method_15_code 38 = .ok (.iload_n 1, 1) := by decide +kernel
theorem d_M_insert_39 : decode prog_6_method_15_code 39 = .ok (.isub, 1) := by decide +kernel
theorem d_M_insert_40 : decode prog_6_method_15_code 40 = .ok (.isub, 1) := by decide +kernel
theorem d_M_insert_41 : decode prog_6_method_15_code 41 = .ok (.aload_n 0, 1) := by decide +kernel
theorem d_M_insert_42 : decode prog_6_method_15_code 42 = .ok (.getfield 89, 3) := by decide +kernel
theorem d_M_insert_45 : decode prog_6_method_15_code 45 = .ok (.iadd, 1) := by decide +kernel
theorem d_M_insert_46 : decode prog_6_method_15_code 46 = .ok (.sipush 160, 3) := by decide +kernel
theorem d_M_insert_49 : decode prog_6_method_15_code 49 = .ok (.if_icmp .gt 12, 3) := by decide +kernel
theorem d_M_insert_52 : decode prog_6_method_15_code 52 = .ok (.aload_n 0, 1) := by decide +kernel
theorem d_M_insert_53 : decode prog_6_method_15_code 53 = .ok (.getfield 13, 3) := by decide +kernel
theorem d_M_insert_56 : decode prog_6_method_15_code 56 = .ok (.bipush 40, 2) := by decide +kernel
theorem d_M_insert_58 : decode prog_6_method_15_code 58 = .ok (.if_icmp .ne 7, 3) := by decide +kernel
theorem d_M_insert_65 : decode prog_6_method_15_code 65 = .ok (.iconst 0, 1) := by decide +kernel
theorem d_M_insert_61 : decode prog_6_method_15_code 61 = .ok (.iconst 1, 1) := by decide +kernel
theorem d_M_insert_62 : decode prog_6_method_15_code 62 = .ok (.goto 4, 3) := by decide +kernel
theorem d_M_insert_66 : decode prog_6_method_15_code 66 = .ok (.putfield 82, 3) := by decide +kernel
theorem d_M_insert_69 : decode prog_6_method_15_code 69 = .ok (.aload_n 0, 1) := by decide +kernel
theorem d_M_insert_70 : decode prog_6_method_15_code 70 = .ok (.getfield 82, 3) := by decide +kernel
theorem d_M_insert_73 : decode prog_6_method_15_code 73 = .ok (.ifCond .le 5, 3) := by decide +kernel
theorem d_M_insert_78 : decode prog_6_method_15_code 78 = .ok (.iload_n 3, 1) := by decide +kernel
theorem d_M_insert_79 : decode prog_6_method_15_code 79 = .ok (.ifCond .eq 39, 3) := by decide +kernel
theorem d_M_insert_82 : decode prog_6_method_15_code 82 = .ok (.aload_n 0, 1) := by decide +kernel
theorem d_M_insert_83 : decode prog_6_method_15_code 83 = .ok (.iconst 0, 1) := by decide +kernel
theorem d_M_insert_84 : decode prog_6_method_15_code 84 = .ok (.putfield 101, 3) := by decide +kernel
theorem d_M_insert_87 : decode prog_6_method_15_code 87 = .ok (.aload_n 0, 1) := by decide +kernel
theorem d_M_insert_88 : decode prog_6_method_15_code 88 = .ok (.iconst 0, 1) := by decide +kernel
theorem d_M_insert_89 : decode prog_6_method_15_code 89 = .ok (.iload_n 1, 1) := by decide +kernel
theorem d_M_insert_90 : decode prog_6_method_15_code 90 = .ok (.invokevirtual 126, 3) := by decide +kernel
theorem d_M_insert_93 : decode prog_6_method_15_code 93 = .ok (.aload_n 0, 1) := by decide +kernel
theorem d_M_insert_94 : decode prog_6_method_15_code 94 = .ok (.invokevirtual 130, 3) := by decide +kernel
theorem d_M_insert_97 : decode prog_6_method_15_code 97 = .ok (.aload_n 0, 1) := by decide +kernel
theorem d_M_insert_98 : decode prog_6_method_15_code 98 = .ok (.getfield 101, 3) := by decide +kernel
theorem d_M_insert_101 : decode prog_6_method_15_code 101 = .ok (.istore 4, 2) := by decide +kernel
theorem d_M_insert_103 : decode prog_6_method_15_code 103 = .ok (.aload_n 0, 1) := by decide +kernel
theorem d_M_insert_104 : decode prog_6_method_15_code 104 = .ok (.iload_n 2, 1) := by decide +kernel
theorem d_M_insert_105 : decode prog_6_method_15_code 105 = .ok (.aload_n 0, 1) := by decide +kernel
theorem d_M_insert_106 : decode prog_6_method_15_code 106 = .ok (.invokevirtual 123, 3) := by decide +kernel
theorem d_M_insert_109 : decode prog_6_method_15_code 109 = .ok (.invokevirtual 126, 3) := by decide +kernel
theorem d_M_insert_112 : decode prog_6_method_15_code 112 = .ok (.aload_n 0, 1) := by decide +kernel
theorem d_M_insert_113 : decode prog_6_method_15_code 113 = .ok (.iload 4, 2) := by decide +kernel
theorem d_M_insert_115 : decode prog_6_method_15_code 115 = .ok (.invokevirtual 133, 3) := by decide +kernel
theorem d_M_insert_76 : decode prog_6_method_15_code 76 = .ok (.iconst 0, 1) := by decide +kernel
theorem d_M_insert_77 : decode prog_6_method_15_code 77 = .ok (.ireturn, 1) := by decide +kernel
theorem d_M_insert_118 : decode prog_6_method_15_code 118 = .ok (.aload_n 0, 1) := by decide +kernel
theorem d_M_insert_119 : decode prog_6_method_15_code 119 = .ok (.iconst 0, 1) := by decide +kernel
theorem d_M_insert_120 : decode prog_6_method_15_code 120 = .ok (.putfield 89, 3) := by decide +kernel
theorem d_M_insert_123 : decode prog_6_method_15_code 123 = .ok (.aload_n 0, 1) := by decide +kernel
theorem d_M_insert_124 : decode prog_6_method_15_code 124 = .ok (.getfield 92, 3) := by decide +kernel
theorem d_M_insert_127 : decode prog_6_method_15_code 127 = .ok (.ireturn, 1) := by decide +kernel
theorem d_M_isCharacter_0 : decode prog_6_method_3_code 0 = .ok (.iload_n 0, 1) := by decide +kernel
theorem d_M_isCharacter_1 : decode prog_6_method_3_code 1 = .ok (.bipush 10, 2) := by decide +kernel
theorem d_M_isCharacter_3 : decode prog_6_method_3_code 3 = .ok (.if_icmp .eq 15, 3) := by decide +kernel
theorem d_M_isCharacter_6 : decode prog_6_method_3_code 6 = .ok (.iload_n 0, 1) := by decide +kernel
theorem d_M_isCharacter_7 : decode prog_6_method_3_code 7 = .ok (.bipush 32, 2) := by decide +kernel
theorem d_M_isCharacter_9 : decode prog_6_method_3_code 9 = .ok (.if_icmp .lt 13, 3) := by decide +kernel
theorem d_M_isCharacter_12 : decode prog_6_method_3_code 12 = .ok (.iload_n 0, 1) := by decide +kernel
theorem d_M_isCharacter_13 : decode prog_6_method_3_code 13 = .ok (.bipush 126, 2) := by decide +kernel
theorem d_M_isCharacter_15 : decode prog_6_method_3_code 15 = .ok (.if_icmp .gt 7, 3) := by decide +kernel
theorem d_M_isCharacter_18 : decode prog_6_method_3_code 18 = .ok (.iconst 1, 1) := by decide +kernel
theorem d_M_isCharacter_19 : decode prog_6_method_3_code 19 = .ok (.goto 4, 3) := by decide +kernel
theorem d_M_isCharacter_22 : decode prog_6_method_3_code 22 = .ok (.iconst 0, 1) := by decide +kernel
theorem d_M_isCharacter_23 : decode prog_6_method_3_code 23 = .ok (.ireturn, 1) := by decide +kernel
theorem d_M_jump_0 : decode prog_6_method_20_code 0 = .ok (.aload_n 0, 1) := by decide +kernel
theorem d_M_jump_1 : decode prog_6_method_20_code 1 = .ok (.iload_n 1, 1) := by decide +kernel
theorem d_M_jump_2 : decode prog_6_method_20_code 2 = .ok (.ifCond .lt 11, 3) := by decide +kernel
theorem d_M_jump_5 : decode prog_6_method_20_code 5 = .ok (.iload_n 1, 1) := by decide +kernel
theorem d_M_jump_6 : decode prog_6_method_20_code 6 = .ok (.aload_n 0, 1) := by decide +kernel
theorem d_M_jump_7 : decode prog_6_method_20_code 7 = .ok (.getfield 13, 3) := by decide +kernel
theorem d_M_jump_10 : decode prog_6_method_20_code 10 = .ok (.if_icmp .lt 7, 3) := by decide +kernel
theorem d_M_jump_17 : decode prog_6_method_20_code 17 = .ok (.iconst 0, 1) := by decide +kernel
theorem d_M_jump_13 : decode prog_6_method_20_code 13 = .ok (.iconst 1, 1) := by decide +kernel
theorem d_M_jump_14 : decode prog_6_method_20_code 14 = .ok (.goto 4, 3) := by decide +kernel
theorem d_M_jump_18 : decode prog_6_method_20_code 18 = .ok (.putfield 82, 3) := by decide +kernel
theorem d_M_jump_21 : decode prog_6_method_20_code 21 = .ok (.aload_n 0, 1) := by decide +kernel
theorem d_M_jump_22 : decode prog_6_method_20_code 22 = .ok (.getfield 82, 3) := by decide +kernel
theorem d_M_jump_25 : decode prog_6_method_20_code 25 = .ok (.ifCond .ne 8, 3) := by decide +kernel
theorem d_M_jump_28 : decode prog_6_method_20_code 28 = .ok (.aload_n 0, 1) := by decide +kernel
theorem d_M_jump_29 : decode prog_6_method_20_code 29 = .ok (.iload_n 1, 1) := by decide +kernel
theorem d_M_jump_30 : decode prog_6_method_20_code 30 = .ok (.invokevirtual 112, 3) := by decide +kernel
theorem d_M_jump_33 : decode prog_6_method_20_code 33 = .ok (.return_, 1) := by decide +kernel
theorem d_M_length_0 : decode prog_6_method_47_code 0 = .ok (.aload_n 0, 1) := by decide +kernel
theorem d_M_length_1 : decode prog_6_method_47_code 1 = .ok (.iconst 0, 1) := by decide +kernel
theorem d_M_length_2 : decode prog_6_method_47_code 2 = .ok (.putfield 82, 3) := by decide +kernel
theorem d_M_length_5 : decode prog_6_method_47_code 5 = .ok (.aload_n 0, 1) := by decide +kernel
theorem d_M_length_6 : decode prog_6_method_47_code 6 = .ok (.invokevirtual 123, 3) := by decide +kernel
theorem d_M_length_9 : decode prog_6_method_47_code 9 = .ok (.ireturn, 1) := by decide +kernel
theorem d_M_line_0 : decode prog_6_method_51_code 0 = .ok (.aload_n 0, 1) := by decide +kernel
theorem d_M_line_1 : decode prog_6_method_51_code 1 = .ok (.aload_n 0, 1) := by decide +kernel
theorem d_M_line_2 : decode prog_6_method_51_code 2 = .ok (.invokevirtual 123, 3) := by decide +kernel
theorem d_M_line_5 : decode prog_6_method_51_code 5 = .ok (.invokevirtual 238, 3) := by decide +kernel
theorem d_M_line_8 : decode prog_6_method_51_code 8 = .ok (.iconst 1, 1) := by decide +kernel
theorem d_M_line_9 : decode prog_6_method_51_code 9 = .ok (.iadd, 1) := by decide +kernel
theorem d_M_line_10 : decode prog_6_method_51_code 10 = .ok (.istore_n 3, 1) := by decide +kernel
theorem d_M_line_11 : decode prog_6_method_51_code 11 = .ok (.iload_n 1, 1) := by decide +kernel
theorem d_M_line_12 : decode prog_6_method_51_code 12 = .ok (.ifCond .eq 32, 3) := by decide +kernel
theorem d_M_line_15 : decode prog_6_method_51_code 15 = .ok (.iload_n 1, 1) := by decide +kernel
theorem d_M_line_16 : decode prog_6_method_51_code 16 = .ok (.iconst 1, 1) := by decide +kernel
theorem d_M_line_17 : decode prog_6_method_51_code 17 = .ok (.if_icmp .ne 18, 3) := by decide +kernel
theorem d_M_line_35 : decode prog_6_method_51_code 35 = .ok (.iload_n 2, 1) := by decide +kernel
theorem d_M_line_36 : decode prog_6_method_51_code 36 = .ok (.ifCond .lt 12, 3) := by decide +kernel
theorem d_M_line_39 : decode prog_6_method_51_code 39 = .ok (.iload_n 2, 1) := by decide +kernel
theorem d_M_line_40 : decode prog_6_method_51_code 40 = .ok (.iload_n 3, 1) := by decide +kernel
theorem d_M_line_41 : decode prog_6_method_51_code 41 = .ok (.if_icmp .ge 7, 3) := by decide +kernel
theorem d_M_line_20 : decode prog_6_method_51_code 20 = .ok (.iload_n 2, 1) := by decide +kernel
theorem d_M_line_21 : decode prog_6_method_51_code 21 = .ok (.ifCond .lt 27, 3) := by decide +kernel
theorem d_M_line_24 : decode prog_6_method_51_code 24 = .ok (.iload_n 2, 1) := by decide +kernel
theorem d_M_line_25 : decode prog_6_method_51_code 25 = .ok (.aload_n 0, 1) := by decide +kernel
theorem d_M_line_26 : decode prog_6_method_51_code 26 = .ok (.invokevirtual 123, 3) := by decide +kernel
theorem d_M_line_29 : decode prog_6_method_51_code 29 = .ok (.if_icmp .gt 19, 3) := by decide +kernel
theorem d_M_line_32 : decode prog_6_method_51_code 32 = .ok (.goto 12, 3) := by decide +kernel
theorem d_M_line_44 : decode prog_6_method_51_code 44 = .ok (.iconst 1, 1) := by decide +kernel
theorem d_M_line_45 : decode prog_6_method_51_code 45 = .ok (.goto 4, 3) := by decide +kernel
theorem d_M_line_48 : decode prog_6_method_51_code 48 = .ok (.iconst 0, 1) := by decide +kernel
theorem d_M_line_49 : decode prog_6_method_51_code 49 = .ok (.istore 4, 2) := by decide +kernel
theorem d_M_line_51 : decode prog_6_method_51_code 51 = .ok (.aload_n 0, 1) := by decide +kernel
theorem d_M_line_52 : decode prog_6_method_51_code 52 = .ok (.iload_n 1, 1) := by decide +kernel
theorem d_M_line_53 : decode prog_6_method_51_code 53 = .ok (.ifCond .lt 8, 3) := by decide +kernel
theorem d_M_line_56 : decode prog_6_method_51_code 56 = .ok (.iload_n 1, 1) := by decide +kernel
theorem d_M_line_57 : decode prog_6_method_51_code 57 = .ok (.iconst 3, 1) := by decide +kernel
theorem d_M_line_58 : decode prog_6_method_51_code 58 = .ok (.if_icmp .le 7, 3) := by decide +kernel
theorem d_M_line_65 : decode prog_6_method_51_code 65 = .ok (.iload 4, 2) := by decide +kernel
theorem d_M_line_67 : decode prog_6_method_51_code 67 = .ok (.ifCond .ne 7, 3) := by decide +kernel
theorem d_M_line_74 : decode prog_6_method_51_code 74 = .ok (.iconst 0, 1) := by decide +kernel
theorem d_M_line_70 : decode prog_6_method_51_code 70 = .ok (.iconst 2, 1) := by decide +kernel
theorem d_M_line_71 : decode prog_6_method_51_code 71 = .ok (.goto 4, 3) := by decide +kernel
theorem d_M_line_61 : decode prog_6_method_51_code 61 = .ok (.iconst 1, 1) := by decide +kernel
theorem d_M_line_62 : decode prog_6_method_51_code 62 = .ok (.goto 13, 3) := by decide +kernel
theorem d_M_line_75 : decode prog_6_method_51_code 75 = .ok (.putfield 82, 3) := by decide +kernel
theorem d_M_line_78 : decode prog_6_method_51_code 78 = .ok (.aload_n 0, 1) := by decide +kernel
theorem d_M_line_79 : decode prog_6_method_51_code 79 = .ok (.getfield 82, 3) := by decide +kernel
theorem d_M_line_82 : decode prog_6_method_51_code 82 = .ok (.ifCond .le 5, 3) := by decide +kernel
theorem d_M_line_87 : decode prog_6_method_51_code 87 = .ok (.iload_n 1, 1) := by decide +kernel
theorem d_M_line_88 : decode prog_6_method_51_code 88 = .ok (.iconst 2, 1) := by decide +kernel
theorem d_M_line_89 : decode prog_6_method_51_code 89 = .ok (.if_icmp .ge 17, 3) := by decide +kernel
theorem d_M_line_106 : decode prog_6_method_51_code 106 = .ok (.aload_n 0, 1) := by decide +kernel
theorem d_M_line_107 : decode prog_6_method_51_code 107 = .ok (.iload_n 2, 1) := by decide +kernel
theorem d_M_line_108 : decode prog_6_method_51_code 108 = .ok (.invokevirtual 241, 3) := by decide +kernel
theorem d_M_lineStart_0 : decode prog_6_method_50_code 0 = .ok (.iconst 0, 1) := by decide +kernel
theorem d_M_lineStart_1 : decode prog_6_method_50_code 1 = .ok (.istore_n 2, 1) := by decide +kernel
theorem d_M_lineStart_2 : decode prog_6_method_50_code 2 = .ok (.aload_n 0, 1) := by decide +kernel
theorem d_M_lineStart_3 : decode prog_6_method_50_code 3 = .ok (.iload_n 2, 1) := by decide +kernel
theorem d_M_lineStart_4 : decode prog_6_method_50_code 4 = .ok (.invokevirtual 238, 3) := by decide +kernel
theorem d_M_lineStart_7 : decode prog_6_method_50_code 7 = .ok (.iload_n 1, 1) := by decide +kernel
theorem d_M_lineStart_8 : decode prog_6_method_50_code 8 = .ok (.if_icmp .ge 9, 3) := by decide +kernel
theorem d_M_lineStart_17 : decode prog_6_method_50_code 17 = .ok (.iload_n 2, 1) := by decide +kernel
theorem d_M_lineStart_18 : decode prog_6_method_50_code 18 = .ok (.ireturn, 1) := by decide +kernel
theorem d_M_lineStart_11 : decode prog_6_method_50_code 11 = .ok (.iinc 2 1, 3) := by decide +kernel
theorem d_M_lineStart_14 : decode prog_6_method_50_code 14 = .ok (.goto (-12), 3) := by decide +kernel
theorem d_M_line_111 : decode prog_6_method_51_code 111 = .ok (.istore 5, 2) := by decide +kernel
theorem d_M_line_113 : decode prog_6_method_51_code 113 = .ok (.iload 5, 2) := by decide +kernel
theorem d_M_line_115 : decode prog_6_method_51_code 115 = .ok (.istore 6, 2) := by decide +kernel
theorem d_M_line_92 : decode prog_6_method_51_code 92 = .ok (.iload_n 1, 1) := by decide +kernel
theorem d_M_line_93 : decode prog_6_method_51_code 93 = .ok (.ifCond .ne 7, 3) := by decide +kernel
theorem d_M_line_100 : decode prog_6_method_51_code 100 = .ok (.aload_n 0, 1) := by decide +kernel
theorem d_M_line_101 : decode prog_6_method_51_code 101 = .ok (.iload_n 2, 1) := by decide +kernel
theorem d_M_line_102 : decode prog_6_method_51_code 102 = .ok (.invokevirtual 238, 3) := by decide +kernel
theorem d_M_line_96 : decode prog_6_method_51_code 96 = .ok (.iload_n 3, 1) := by decide +kernel
theorem d_M_line_97 : decode prog_6_method_51_code 97 = .ok (.goto 8, 3) := by decide +kernel
theorem d_M_line_85 : decode prog_6_method_51_code 85 = .ok (.iconst 0, 1) := by decide +kernel
theorem d_M_line_86 : decode prog_6_method_51_code 86 = .ok (.ireturn, 1) := by decide +kernel
theorem d_M_line_117 : decode prog_6_method_51_code 117 = .ok (.iload 6, 2) := by decide +kernel
theorem d_M_line_119 : decode prog_6_method_51_code 119 = .ok (.aload_n 0, 1) := by decide +kernel
theorem d_M_line_120 : decode prog_6_method_51_code 120 = .ok (.invokevirtual 123, 3) := by decide +kernel
theorem d_M_line_123 : decode prog_6_method_51_code 123 = .ok (.if_icmp .ge 20, 3) := by decide +kernel
theorem d_M_line_126 : decode prog_6_method_51_code 126 = .ok (.aload_n 0, 1) := by decide +kernel
theorem d_M_line_127 : decode prog_6_method_51_code 127 = .ok (.iload 6, 2) := by decide +kernel
theorem d_M_line_129 : decode prog_6_method_51_code 129 = .ok (.invokevirtual 104, 3) := by decide +kernel
theorem d_M_line_132 : decode prog_6_method_51_code 132 = .ok (.bipush 10, 2) := by decide +kernel
theorem d_M_line_134 : decode prog_6_method_51_code 134 = .ok (.if_icmp .eq 9, 3) := by decide +kernel
theorem d_M_line_137 : decode prog_6_method_51_code 137 = .ok (.iinc 6 1, 3) := by decide +kernel
theorem d_M_line_140 : decode prog_6_method_51_code 140 = .ok (.goto (-23), 3) := by decide +kernel
theorem d_M_line_105 : decode prog_6_method_51_code 105 = .ok (.ireturn, 1) := by decide +kernel
theorem d_M_line_143 : decode prog_6_method_51_code 143 = .ok (.iload_n 1, 1) := by decide +kernel
theorem d_M_line_144 : decode prog_6_method_51_code 144 = .ok (.iconst 2, 1) := by decide +kernel
theorem d_M_line_145 : decode prog_6_method_51_code 145 = .ok (.if_icmp .ne 8, 3) := by decide +kernel
theorem d_M_line_153 : decode prog_6_method_51_code 153 = .ok (.iload 6, 2) := by decide +kernel
theorem d_M_line_155 : decode prog_6_method_51_code 155 = .ok (.iload 5, 2) := by decide +kernel
theorem d_M_line_157 : decode prog_6_method_51_code 157 = .ok (.isub, 1) := by decide +kernel
theorem d_M_line_148 : decode prog_6_method_51_code 148 = .ok (.iload 5, 2) := by decide +kernel
theorem d_M_line_150 : decode prog_6_method_51_code 150 = .ok (.goto 8, 3) := by decide +kernel
theorem d_M_line_158 : decode prog_6_method_51_code 158 = .ok (.ireturn, 1) := by decide +kernel
theorem d_M_parent_0 : decode prog_6_method_53_code 0 = .ok (.aload_n 0, 1) := by decide +kernel
theorem d_M_parent_1 : decode prog_6_method_53_code 1 = .ok (.iload_n 1, 1) := by decide +kernel
theorem d_M_parent_2 : decode prog_6_method_53_code 2 = .ok (.ifCond .lt 11, 3) := by decide +kernel
theorem d_M_parent_5 : decode prog_6_method_53_code 5 = .ok (.iload_n 1, 1) := by decide +kernel
theorem d_M_parent_6 : decode prog_6_method_53_code 6 = .ok (.aload_n 0, 1) := by decide +kernel
theorem d_M_parent_7 : decode prog_6_method_53_code 7 = .ok (.getfield 13, 3) := by decide +kernel
theorem d_M_parent_10 : decode prog_6_method_53_code 10 = .ok (.if_icmp .lt 7, 3) := by decide +kernel
theorem d_M_parent_17 : decode prog_6_method_53_code 17 = .ok (.iconst 0, 1) := by decide +kernel
theorem d_M_parent_13 : decode prog_6_method_53_code 13 = .ok (.iconst 1, 1) := by decide +kernel
theorem d_M_parent_14 : decode prog_6_method_53_code 14 = .ok (.goto 4, 3) := by decide +kernel
theorem d_M_parent_18 : decode prog_6_method_53_code 18 = .ok (.putfield 82, 3) := by decide +kernel
theorem d_M_parent_21 : decode prog_6_method_53_code 21 = .ok (.aload_n 0, 1) := by decide +kernel
theorem d_M_parent_22 : decode prog_6_method_53_code 22 = .ok (.getfield 82, 3) := by decide +kernel
theorem d_M_parent_25 : decode prog_6_method_53_code 25 = .ok (.ifCond .ne 12, 3) := by decide +kernel
theorem d_M_parent_37 : decode prog_6_method_53_code 37 = .ok (.iconst 0, 1) := by decide +kernel
theorem d_M_parent_28 : decode prog_6_method_53_code 28 = .ok (.aload_n 0, 1) := by decide +kernel
theorem d_M_parent_29 : decode prog_6_method_53_code 29 = .ok (.getfield 27, 3) := by decide +kernel
theorem d_M_parent_32 : decode prog_6_method_53_code 32 = .ok (.iload_n 1, 1) := by decide +kernel
theorem d_M_parent_33 : decode prog_6_method_53_code 33 = .ok (.iaload, 1) := by decide +kernel
theorem d_M_parent_34 : decode prog_6_method_53_code 34 = .ok (.goto 4, 3) := by decide +kernel
theorem d_M_parent_38 : decode prog_6_method_53_code 38 = .ok (.ireturn, 1) := by decide +kernel
theorem d_M_redo_0 : decode prog_6_method_19_code 0 = .ok (.iconst (-1), 1) := by decide +kernel
theorem d_M_redo_1 : decode prog_6_method_19_code 1 = .ok (.istore_n 1, 1) := by decide +kernel
theorem d_M_redo_2 : decode prog_6_method_19_code 2 = .ok (.iconst 0, 1) := by decide +kernel
theorem d_M_redo_3 : decode prog_6_method_19_code 3 = .ok (.istore_n 2, 1) := by decide +kernel
theorem d_M_redo_4 : decode prog_6_method_19_code 4 = .ok (.iload_n 2, 1) := by decide +kernel
theorem d_M_redo_5 : decode prog_6_method_19_code 5 = .ok (.aload_n 0, 1) := by decide +kernel
theorem d_M_redo_6 : decode prog_6_method_19_code 6 = .ok (.getfield 13, 3) := by decide +kernel
theorem d_M_redo_9 : decode prog_6_method_19_code 9 = .ok (.if_icmp .ge 47, 3) := by decide +kernel
theorem d_M_redo_56 : decode prog_6_method_19_code 56 = .ok (.aload_n 0, 1) := by decide +kernel
theorem d_M_redo_57 : decode prog_6_method_19_code 57 = .ok (.iload_n 1, 1) := by decide +kernel
theorem d_M_redo_58 : decode prog_6_method_19_code 58 = .ok (.ifCond .ge 7, 3) := by decide +kernel
theorem d_M_redo_65 : decode prog_6_method_19_code 65 = .ok (.iconst 0, 1) := by decide +kernel
theorem d_M_redo_61 : decode prog_6_method_19_code 61 = .ok (.iconst 1, 1) := by decide +kernel
theorem d_M_redo_62 : decode prog_6_method_19_code 62 = .ok (.goto 4, 3) := by decide +kernel
theorem d_M_redo_12 : decode prog_6_method_19_code 12 = .ok (.aload_n 0, 1) := by decide +kernel
theorem d_M_redo_13 : decode prog_6_method_19_code 13 = .ok (.getfield 27, 3) := by decide +kernel
theorem d_M_redo_16 : decode prog_6_method_19_code 16 = .ok (.iload_n 2, 1) := by decide +kernel
theorem d_M_redo_17 : decode prog_6_method_19_code 17 = .ok (.iaload, 1) := by decide +kernel
theorem d_M_redo_18 : decode prog_6_method_19_code 18 = .ok (.aload_n 0, 1) := by decide +kernel
theorem d_M_redo_19 : decode prog_6_method_19_code 19 = .ok (.getfield 92, 3) := by decide +kernel
theorem d_M_redo_22 : decode prog_6_method_19_code 22 = .ok (.if_icmp .ne 26, 3) := by decide +kernel
theorem d_M_redo_25 : decode prog_6_method_19_code 25 = .ok (.iload_n 1, 1) := by decide +kernel
theorem d_M_redo_26 : decode prog_6_method_19_code 26 = .ok (.ifCond .lt 18, 3) := by decide +kernel
theorem d_M_redo_29 : decode prog_6_method_19_code 29 = .ok (.aload_n 0, 1) := by decide +kernel
theorem d_M_redo_30 : decode prog_6_method_19_code 30 = .ok (.getfield 30, 3) := by decide +kernel
theorem d_M_redo_33 : decode prog_6_method_19_code 33 = .ok (.iload_n 2, 1) := by decide +kernel
theorem d_M_redo_34 : decode prog_6_method_19_code 34 = .ok (.iaload, 1) := by decide +kernel
theorem d_M_redo_35 : decode prog_6_method_19_code 35 = .ok (.aload_n 0, 1) := by decide +kernel
theorem d_M_redo_36 : decode prog_6_method_19_code 36 = .ok (.getfield 30, 3) := by decide +kernel
theorem d_M_redo_39 : decode prog_6_method_19_code 39 = .ok (.iload_n 1, 1) := by decide +kernel
theorem d_M_redo_40 : decode prog_6_method_19_code 40 = .ok (.iaload, 1) := by decide +kernel
theorem d_M_redo_41 : decode prog_6_method_19_code 41 = .ok (.if_icmp .le 7, 3) := by decide +kernel
theorem d_M_redo_66 : decode prog_6_method_19_code 66 = .ok (.putfield 82, 3) := by decide +kernel
theorem d_M_redo_69 : decode prog_6_method_19_code 69 = .ok (.aload_n 0, 1) := by decide +kernel
theorem d_M_redo_70 : decode prog_6_method_19_code 70 = .ok (.getfield 82, 3) := by decide +kernel
theorem d_M_redo_73 : decode prog_6_method_19_code 73 = .ok (.ifCond .ne 8, 3) := by decide +kernel
theorem d_M_redo_76 : decode prog_6_method_19_code 76 = .ok (.aload_n 0, 1) := by decide +kernel
theorem d_M_redo_77 : decode prog_6_method_19_code 77 = .ok (.iload_n 1, 1) := by decide +kernel
theorem d_M_redo_78 : decode prog_6_method_19_code 78 = .ok (.invokevirtual 112, 3) := by decide +kernel
theorem d_M_redo_48 : decode prog_6_method_19_code 48 = .ok (.iload_n 1, 1) := by decide +kernel
theorem d_M_redo_44 : decode prog_6_method_19_code 44 = .ok (.iload_n 2, 1) := by decide +kernel
theorem d_M_redo_45 : decode prog_6_method_19_code 45 = .ok (.goto 4, 3) := by decide +kernel
theorem d_M_redo_81 : decode prog_6_method_19_code 81 = .ok (.aload_n 0, 1) := by decide +kernel
theorem d_M_redo_82 : decode prog_6_method_19_code 82 = .ok (.getfield 82, 3) := by decide +kernel
theorem d_M_redo_85 : decode prog_6_method_19_code 85 = .ok (.ifCond .ne 10, 3) := by decide +kernel
theorem d_M_redo_95 : decode prog_6_method_19_code 95 = .ok (.iconst 0, 1) := by decide +kernel
theorem d_M_redo_88 : decode prog_6_method_19_code 88 = .ok (.aload_n 0, 1) := by decide +kernel
theorem d_M_redo_89 : decode prog_6_method_19_code 89 = .ok (.getfield 92, 3) := by decide +kernel
theorem d_M_redo_92 : decode prog_6_method_19_code 92 = .ok (.goto 4, 3) := by decide +kernel
theorem d_M_redo_49 : decode prog_6_method_19_code 49 = .ok (.istore_n 1, 1) := by decide +kernel
theorem d_M_redo_50 : decode prog_6_method_19_code 50 = .ok (.iinc 2 1, 3) := by decide +kernel
theorem d_M_redo_53 : decode prog_6_method_19_code 53 = .ok (.goto (-49), 3) := by decide +kernel
theorem d_M_redo_96 : decode prog_6_method_19_code 96 = .ok (.ireturn, 1) := by decide +kernel
theorem d_M_replace_0 : decode prog_6_method_46_code 0 = .ok (.aload_n 0, 1) := by decide +kernel
theorem d_M_replace_1 : decode prog_6_method_46_code 1 = .ok (.aload_n 0, 1) := by decide +kernel
theorem d_M_replace_2 : decode prog_6_method_46_code 2 = .ok (.getfield 203, 3) := by decide +kernel
theorem d_M_replace_5 : decode prog_6_method_46_code 5 = .ok (.ifCond .eq 7, 3) := by decide +kernel
theorem d_M_replace_12 : decode prog_6_method_46_code 12 = .ok (.iconst 1, 1) := by decide +kernel
theorem d_M_replace_8 : decode prog_6_method_46_code 8 = .ok (.iconst 0, 1) := by decide +kernel
theorem d_M_replace_9 : decode prog_6_method_46_code 9 = .ok (.goto 4, 3) := by decide +kernel
theorem d_M_replace_13 : decode prog_6_method_46_code 13 = .ok (.putfield 82, 3) := by decide +kernel
theorem d_M_replace_16 : decode prog_6_method_46_code 16 = .ok (.aload_n 0, 1) := by decide +kernel
theorem d_M_replace_17 : decode prog_6_method_46_code 17 = .ok (.getfield 82, 3) := by decide +kernel
theorem d_M_replace_20 : decode prog_6_method_46_code 20 = .ok (.ifCond .le 5, 3) := by decide +kernel
theorem d_M_replace_25 : decode prog_6_method_46_code 25 = .ok (.aload_n 0, 1) := by decide +kernel
theorem d_M_replace_26 : decode prog_6_method_46_code 26 = .ok (.iconst 0, 1) := by decide +kernel
theorem d_M_replace_27 : decode prog_6_method_46_code 27 = .ok (.putfield 101, 3) := by decide +kernel
theorem d_M_replace_30 : decode prog_6_method_46_code 30 = .ok (.iconst 0, 1) := by decide +kernel
theorem d_M_replace_31 : decode prog_6_method_46_code 31 = .ok (.istore_n 1, 1) := by decide +kernel
theorem d_M_replace_32 : decode prog_6_method_46_code 32 = .ok (.iconst 0, 1) := by decide +kernel
theorem d_M_replace_33 : decode prog_6_method_46_code 33 = .ok (.istore_n 2, 1) := by decide +kernel
theorem d_M_replace_34 : decode prog_6_method_46_code 34 = .ok (.iconst 0, 1) := by decide +kernel
theorem d_M_replace_35 : decode prog_6_method_46_code 35 = .ok (.istore_n 3, 1) := by decide +kernel
theorem d_M_replace_23 : decode prog_6_method_46_code 23 = .ok (.iconst 0, 1) := by decide +kernel
theorem d_M_replace_24 : decode prog_6_method_46_code 24 = .ok (.ireturn, 1) := by decide +kernel
theorem d_M_replace_36 : decode prog_6_method_46_code 36 = .ok (.aload_n 0, 1) := by decide +kernel
theorem d_M_replace_37 : decode prog_6_method_46_code 37 = .ok (.iload_n 2, 1) := by decide +kernel
theorem d_M_replace_38 : decode prog_6_method_46_code 38 = .ok (.invokevirtual 235, 3) := by decide +kernel
theorem d_M_replace_41 : decode prog_6_method_46_code 41 = .ok (.ifCond .eq 32, 3) := by decide +kernel
theorem d_M_replace_73 : decode prog_6_method_46_code 73 = .ok (.aload_n 0, 1) := by decide +kernel
theorem d_M_replace_74 : decode prog_6_method_46_code 74 = .ok (.iload_n 2, 1) := by decide +kernel
theorem d_M_replace_75 : decode prog_6_method_46_code 75 = .ok (.aload_n 0, 1) := by decide +kernel
theorem d_M_replace_76 : decode prog_6_method_46_code 76 = .ok (.invokevirtual 123, 3) := by decide +kernel
theorem d_M_replace_79 : decode prog_6_method_46_code 79 = .ok (.invokevirtual 126, 3) := by decide +kernel
theorem d_M_replace_82 : decode prog_6_method_46_code 82 = .ok (.aload_n 0, 1) := by decide +kernel
theorem d_M_replace_83 : decode prog_6_method_46_code 83 = .ok (.iload_n 1, 1) := by decide +kernel
theorem d_M_replace_84 : decode prog_6_method_46_code 84 = .ok (.ifCond .le 26, 3) := by decide +kernel
theorem d_M_replace_87 : decode prog_6_method_46_code 87 = .ok (.aload_n 0, 1) := by decide +kernel
theorem d_M_replace_88 : decode prog_6_method_46_code 88 = .ok (.getfield 101, 3) := by decide +kernel
theorem d_M_replace_91 : decode prog_6_method_46_code 91 = .ok (.sipush 160, 3) := by decide +kernel
theorem d_M_replace_94 : decode prog_6_method_46_code 94 = .ok (.if_icmp .gt 12, 3) := by decide +kernel
theorem d_M_replace_97 : decode prog_6_method_46_code 97 = .ok (.aload_n 0, 1) := by decide +kernel
theorem d_M_replace_98 : decode prog_6_method_46_code 98 = .ok (.getfield 13, 3) := by decide +kernel
theorem d_M_replace_101 : decode prog_6_method_46_code 101 = .ok (.bipush 40, 2) := by decide +kernel
theorem d_M_replace_103 : decode prog_6_method_46_code 103 = .ok (.if_icmp .ne 7, 3) := by decide +kernel
theorem d_M_replace_44 : decode prog_6_method_46_code 44 = .ok (.aload_n 0, 1) := by decide +kernel
theorem d_M_replace_45 : decode prog_6_method_46_code 45 = .ok (.iload_n 2, 1) := by decide +kernel
theorem d_M_replace_46 : decode prog_6_method_46_code 46 = .ok (.aload_n 0, 1) := by decide +kernel
theorem d_M_replace_47 : decode prog_6_method_46_code 47 = .ok (.getfield 229, 3) := by decide +kernel
theorem d_M_replace_50 : decode prog_6_method_46_code 50 = .ok (.invokevirtual 126, 3) := by decide +kernel
theorem d_M_replace_53 : decode prog_6_method_46_code 53 = .ok (.aload_n 0, 1) := by decide +kernel
theorem d_M_replace_54 : decode prog_6_method_46_code 54 = .ok (.invokevirtual 130, 3) := by decide +kernel
theorem d_M_replace_57 : decode prog_6_method_46_code 57 = .ok (.aload_n 0, 1) := by decide +kernel
theorem d_M_replace_58 : decode prog_6_method_46_code 58 = .ok (.getfield 101, 3) := by decide +kernel
theorem d_M_replace_61 : decode prog_6_method_46_code 61 = .ok (.istore_n 3, 1) := by decide +kernel
theorem d_M_replace_62 : decode prog_6_method_46_code 62 = .ok (.aload_n 0, 1) := by decide +kernel
theorem d_M_replace_63 : decode prog_6_method_46_code 63 = .ok (.getfield 226, 3) := by decide +kernel
theorem d_M_replace_66 : decode prog_6_method_46_code 66 = .ok (.istore_n 2, 1) := by decide +kernel
theorem d_M_replace_67 : decode prog_6_method_46_code 67 = .ok (.iinc 1 1, 3) := by decide +kernel
theorem d_M_replace_70 : decode prog_6_method_46_code 70 = .ok (.goto (-34), 3) := by decide +kernel
theorem d_M_replace_110 : decode prog_6_method_46_code 110 = .ok (.iconst 0, 1) := by decide +kernel
theorem d_M_replace_106 : decode prog_6_method_46_code 106 = .ok (.iconst 1, 1) := by decide +kernel
theorem d_M_replace_107 : decode prog_6_method_46_code 107 = .ok (.goto 4, 3) := by decide +kernel
theorem d_M_replace_111 : decode prog_6_method_46_code 111 = .ok (.putfield 82, 3) := by decide +kernel
theorem d_M_replace_114 : decode prog_6_method_46_code 114 = .ok (.aload_n 0, 1) := by decide +kernel
theorem d_M_replace_115 : decode prog_6_method_46_code 115 = .ok (.getfield 82, 3) := by decide +kernel
theorem d_M_replace_118 : decode prog_6_method_46_code 118 = .ok (.ifCond .le 5, 3) := by decide +kernel
theorem d_M_replace_123 : decode prog_6_method_46_code 123 = .ok (.iload_n 1, 1) := by decide +kernel
theorem d_M_replace_124 : decode prog_6_method_46_code 124 = .ok (.ifCond .le 8, 3) := by decide +kernel
theorem d_M_replace_127 : decode prog_6_method_46_code 127 = .ok (.aload_n 0, 1) := by decide +kernel
theorem d_M_replace_128 : decode prog_6_method_46_code 128 = .ok (.iload_n 3, 1) := by decide +kernel
theorem d_M_replace_129 : decode prog_6_method_46_code 129 = .ok (.invokevirtual 133, 3) := by decide +kernel
theorem d_M_replace_121 : decode prog_6_method_46_code 121 = .ok (.iconst 0, 1) := by decide +kernel
theorem d_M_replace_122 : decode prog_6_method_46_code 122 = .ok (.ireturn, 1) := by decide +kernel
theorem d_M_replace_132 : decode prog_6_method_46_code 132 = .ok (.aload_n 0, 1) := by decide +kernel
theorem d_M_replace_133 : decode prog_6_method_46_code 133 = .ok (.iconst 0, 1) := by decide +kernel
theorem d_M_replace_134 : decode prog_6_method_46_code 134 = .ok (.putfield 89, 3) := by decide +kernel
theorem d_M_replace_137 : decode prog_6_method_46_code 137 = .ok (.iload_n 1, 1) := by decide +kernel
theorem d_M_replace_138 : decode prog_6_method_46_code 138 = .ok (.ireturn, 1) := by decide +kernel
theorem d_M_thrown_0 : decode prog_6_method_2_code 0 = .ok (.aload_n 0, 1) := by decide +kernel
theorem d_M_thrown_1 : decode prog_6_method_2_code 1 = .ok (.getfield 82, 3) := by decide +kernel
theorem d_M_thrown_4 : decode prog_6_method_2_code 4 = .ok (.ireturn, 1) := by decide +kernel
theorem d_M_type_0 : decode prog_6_method_4_code 0 = .ok (.aload_n 0, 1) := by decide +kernel
theorem d_M_type_1 : decode prog_6_method_4_code 1 = .ok (.iconst 0, 1) := by decide +kernel
theorem d_M_type_2 : decode prog_6_method_4_code 2 = .ok (.putfield 82, 3) := by decide +kernel
theorem d_M_type_5 : decode prog_6_method_4_code 5 = .ok (.iload_n 1, 1) := by decide +kernel
theorem d_M_type_6 : decode prog_6_method_4_code 6 = .ok (.invokestatic 85, 3) := by decide +kernel
theorem d_M_type_9 : decode prog_6_method_4_code 9 = .ok (.ifCond .eq 12, 3) := by decide +kernel
theorem d_M_type_12 : decode prog_6_method_4_code 12 = .ok (.aload_n 0, 1) := by decide +kernel
theorem d_M_type_13 : decode prog_6_method_4_code 13 = .ok (.getfield 89, 3) := by decide +kernel
theorem d_M_type_16 : decode prog_6_method_4_code 16 = .ok (.bipush 24, 2) := by decide +kernel
theorem d_M_type_18 : decode prog_6_method_4_code 18 = .ok (.if_icmp .ne 5, 3) := by decide +kernel
theorem d_M_type_23 : decode prog_6_method_4_code 23 = .ok (.aload_n 0, 1) := by decide +kernel
theorem d_M_type_24 : decode prog_6_method_4_code 24 = .ok (.getfield 7, 3) := by decide +kernel
theorem d_M_type_27 : decode prog_6_method_4_code 27 = .ok (.aload_n 0, 1) := by decide +kernel
theorem d_M_type_28 : decode prog_6_method_4_code 28 = .ok (.getfield 89, 3) := by decide +kernel
theorem d_M_type_31 : decode prog_6_method_4_code 31 = .ok (.iload_n 1, 1) := by decide +kernel
theorem d_M_type_32 : decode prog_6_method_4_code 32 = .ok (.castore, 1) := by decide +kernel
theorem d_M_type_33 : decode prog_6_method_4_code 33 = .ok (.aload_n 0, 1) := by decide +kernel
theorem d_M_type_34 : decode prog_6_method_4_code 34 = .ok (.dup, 1) := by decide +kernel
theorem d_M_type_35 : decode prog_6_method_4_code 35 = .ok (.getfield 89, 3) := by decide +kernel
theorem d_M_type_38 : decode prog_6_method_4_code 38 = .ok (.iconst 1, 1) := by decide +kernel
theorem d_M_type_39 : decode prog_6_method_4_code 39 = .ok (.iadd, 1) := by decide +kernel
theorem d_M_type_40 : decode prog_6_method_4_code 40 = .ok (.putfield 89, 3) := by decide +kernel
theorem d_M_type_43 : decode prog_6_method_4_code 43 = .ok (.iconst 1, 1) := by decide +kernel
theorem d_M_type_44 : decode prog_6_method_4_code 44 = .ok (.ireturn, 1) := by decide +kernel
theorem d_M_type_21 : decode prog_6_method_4_code 21 = .ok (.iconst 0, 1) := by decide +kernel
theorem d_M_type_22 : decode prog_6_method_4_code 22 = .ok (.ireturn, 1) := by decide +kernel
theorem d_M_undo_0 : decode prog_6_method_18_code 0 = .ok (.aload_n 0, 1) := by decide +kernel
theorem d_M_undo_1 : decode prog_6_method_18_code 1 = .ok (.aload_n 0, 1) := by decide +kernel
theorem d_M_undo_2 : decode prog_6_method_18_code 2 = .ok (.getfield 92, 3) := by decide +kernel
theorem d_M_undo_5 : decode prog_6_method_18_code 5 = .ok (.ifCond .ne 7, 3) := by decide +kernel
theorem d_M_undo_12 : decode prog_6_method_18_code 12 = .ok (.iconst 0, 1) := by decide +kernel
theorem d_M_undo_8 : decode prog_6_method_18_code 8 = .ok (.iconst 1, 1) := by decide +kernel
theorem d_M_undo_9 : decode prog_6_method_18_code 9 = .ok (.goto 4, 3) := by decide +kernel
theorem d_M_undo_13 : decode prog_6_method_18_code 13 = .ok (.putfield 82, 3) := by decide +kernel
theorem d_M_undo_16 : decode prog_6_method_18_code 16 = .ok (.aload_n 0, 1) := by decide +kernel
theorem d_M_undo_17 : decode prog_6_method_18_code 17 = .ok (.getfield 82, 3) := by decide +kernel
theorem d_M_undo_20 : decode prog_6_method_18_code 20 = .ok (.ifCond .ne 16, 3) := by decide +kernel
theorem d_M_undo_23 : decode prog_6_method_18_code 23 = .ok (.aload_n 0, 1) := by decide +kernel
theorem d_M_undo_24 : decode prog_6_method_18_code 24 = .ok (.aload_n 0, 1) := by decide +kernel
theorem d_M_undo_25 : decode prog_6_method_18_code 25 = .ok (.getfield 27, 3) := by decide +kernel
theorem d_M_undo_28 : decode prog_6_method_18_code 28 = .ok (.aload_n 0, 1) := by decide +kernel
theorem d_M_undo_29 : decode prog_6_method_18_code 29 = .ok (.getfield 92, 3) := by decide +kernel
theorem d_M_undo_32 : decode prog_6_method_18_code 32 = .ok (.iaload, 1) := by decide +kernel
theorem d_M_undo_33 : decode prog_6_method_18_code 33 = .ok (.invokevirtual 112, 3) := by decide +kernel
theorem d_M_undo_36 : decode prog_6_method_18_code 36 = .ok (.aload_n 0, 1) := by decide +kernel
theorem d_M_undo_37 : decode prog_6_method_18_code 37 = .ok (.getfield 82, 3) := by decide +kernel
theorem d_M_undo_40 : decode prog_6_method_18_code 40 = .ok (.ifCond .ne 10, 3) := by decide +kernel
theorem d_M_undo_50 : decode prog_6_method_18_code 50 = .ok (.iconst 0, 1) := by decide +kernel
theorem d_M_undo_43 : decode prog_6_method_18_code 43 = .ok (.aload_n 0, 1) := by decide +kernel
theorem d_M_undo_44 : decode prog_6_method_18_code 44 = .ok (.getfield 92, 3) := by decide +kernel
theorem d_M_undo_47 : decode prog_6_method_18_code 47 = .ok (.goto 4, 3) := by decide +kernel
theorem d_M_undo_51 : decode prog_6_method_18_code 51 = .ok (.ireturn, 1) := by decide +kernel
theorem d_M_wipe_0 : decode prog_6_method_5_code 0 = .ok (.aload_n 0, 1) := by decide +kernel
theorem d_M_wipe_1 : decode prog_6_method_5_code 1 = .ok (.iconst 0, 1) := by decide +kernel
theorem d_M_wipe_2 : decode prog_6_method_5_code 2 = .ok (.putfield 82, 3) := by decide +kernel
theorem d_M_wipe_5 : decode prog_6_method_5_code 5 = .ok (.aload_n 0, 1) := by decide +kernel
theorem d_M_wipe_6 : decode prog_6_method_5_code 6 = .ok (.getfield 89, 3) := by decide +kernel
-- 14.dec05
theorem d_M_wipe_9 : decode prog_6_method_5_code 9 = .ok (.istore_n 1, 1) := by decide +kernel
theorem d_M_wipe_10 : decode prog_6_method_5_code 10 = .ok (.aload_n 0, 1) := by decide +kernel
theorem d_M_wipe_11 : decode prog_6_method_5_code 11 = .ok (.iconst 0, 1) := by decide +kernel
theorem d_M_wipe_12 : decode prog_6_method_5_code 12 = .ok (.putfield 89, 3) := by decide +kernel
theorem d_M_wipe_15 : decode prog_6_method_5_code 15 = .ok (.iload_n 1, 1) := by decide +kernel
theorem d_M_wipe_16 : decode prog_6_method_5_code 16 = .ok (.ireturn, 1) := by decide +kernel
theorem d_D_at_0 : decode prog_1_method_15_code 0 = .ok (.iload_n 1, 1) := by decide +kernel
theorem d_D_at_1 : decode prog_1_method_15_code 1 = .ok (.ifCond .lt 12, 3) := by decide +kernel
theorem d_D_at_4 : decode prog_1_method_15_code 4 = .ok (.iload_n 1, 1) := by decide +kernel
theorem d_D_at_5 : decode prog_1_method_15_code 5 = .ok (.aload_n 0, 1) := by decide +kernel
theorem d_D_at_6 : decode prog_1_method_15_code 6 = .ok (.getfield 19, 3) := by decide +kernel
theorem d_D_at_9 : decode prog_1_method_15_code 9 = .ok (.arraylength, 1) := by decide +kernel
theorem d_D_at_10 : decode prog_1_method_15_code 10 = .ok (.if_icmp .lt 11, 3) := by decide +kernel
theorem d_D_at_21 : decode prog_1_method_15_code 21 = .ok (.aload_n 0, 1) := by decide +kernel
theorem d_D_at_22 : decode prog_1_method_15_code 22 = .ok (.getfield 19, 3) := by decide +kernel
theorem d_D_at_25 : decode prog_1_method_15_code 25 = .ok (.iload_n 1, 1) := by decide +kernel
theorem d_D_at_26 : decode prog_1_method_15_code 26 = .ok (.caload, 1) := by decide +kernel
theorem d_D_at_27 : decode prog_1_method_15_code 27 = .ok (.ireturn, 1) := by decide +kernel
theorem d_D_at_13 : decode prog_1_method_15_code 13 = .ok (.new 143, 3) := by decide +kernel
theorem d_D_at_16 : decode prog_1_method_15_code 16 = .ok (.dup, 1) := by decide +kernel
theorem d_D_at_17 : decode prog_1_method_15_code 17 = .ok (.invokespecial 145, 3) := by decide +kernel
theorem d_D_at_20 : decode prog_1_method_15_code 20 = .ok (.athrow, 1) := by decide +kernel
theorem d_D_breaksBefore_0 : decode prog_1_method_29_code 0 = .ok (.iconst 0, 1) := by decide +kernel
theorem d_D_breaksBefore_1 : decode prog_1_method_29_code 1 = .ok (.istore_n 2, 1) := by decide +kernel
theorem d_D_breaksBefore_2 : decode prog_1_method_29_code 2 = .ok (.iconst 0, 1) := by decide +kernel
theorem d_D_breaksBefore_3 : decode prog_1_method_29_code 3 = .ok (.istore_n 3, 1) := by decide +kernel
theorem d_D_breaksBefore_4 : decode prog_1_method_29_code 4 = .ok (.iload_n 3, 1) := by decide +kernel
theorem d_D_breaksBefore_5 : decode prog_1_method_29_code 5 = .ok (.iload_n 1, 1) := by decide +kernel
theorem d_D_breaksBefore_6 : decode prog_1_method_29_code 6 = .ok (.if_icmp .ge 23, 3) := by decide +kernel
theorem d_D_breaksBefore_29 : decode prog_1_method_29_code 29 = .ok (.iload_n 2, 1) := by decide +kernel
theorem d_D_breaksBefore_30 : decode prog_1_method_29_code 30 = .ok (.ireturn, 1) := by decide +kernel
theorem d_D_breaksBefore_9 : decode prog_1_method_29_code 9 = .ok (.aload_n 0, 1) := by decide +kernel
theorem d_D_breaksBefore_10 : decode prog_1_method_29_code 10 = .ok (.getfield 19, 3) := by decide +kernel
theorem d_D_breaksBefore_13 : decode prog_1_method_29_code 13 = .ok (.iload_n 3, 1) := by decide +kernel
theorem d_D_breaksBefore_14 : decode prog_1_method_29_code 14 = .ok (.caload, 1) := by decide +kernel
theorem d_D_breaksBefore_15 : decode prog_1_method_29_code 15 = .ok (.bipush 10, 2) := by decide +kernel
theorem d_D_breaksBefore_17 : decode prog_1_method_29_code 17 = .ok (.if_icmp .ne 6, 3) := by decide +kernel
theorem d_D_breaksBefore_20 : decode prog_1_method_29_code 20 = .ok (.iinc 2 1, 3) := by decide +kernel
theorem d_D_breaksBefore_23 : decode prog_1_method_29_code 23 = .ok (.iinc 3 1, 3) := by decide +kernel
theorem d_D_breaksBefore_26 : decode prog_1_method_29_code 26 = .ok (.goto (-22), 3) := by decide +kernel
theorem d_D_collectMatches_0 : decode prog_1_method_26_code 0 = .ok (.iconst 0, 1) := by decide +kernel
theorem d_D_collectMatches_1 : decode prog_1_method_26_code 1 = .ok (.istore_n 1, 1) := by decide +kernel
theorem d_D_collectMatches_2 : decode prog_1_method_26_code 2 = .ok (.iconst 0, 1) := by decide +kernel
theorem d_D_collectMatches_3 : decode prog_1_method_26_code 3 = .ok (.istore_n 2, 1) := by decide +kernel
theorem d_D_collectMatches_4 : decode prog_1_method_26_code 4 = .ok (.iload_n 2, 1) := by decide +kernel
theorem d_D_collectMatches_5 : decode prog_1_method_26_code 5 = .ok (.sipush 160, 3) := by decide +kernel
theorem d_D_collectMatches_8 : decode prog_1_method_26_code 8 = .ok (.if_icmp .ge 60, 3) := by decide +kernel
theorem d_D_collectMatches_68 : decode prog_1_method_26_code 68 = .ok (.sipush 160, 3) := by decide +kernel
theorem d_D_collectMatches_71 : decode prog_1_method_26_code 71 = .ok (.ireturn, 1) := by decide +kernel
theorem d_D_collectMatches_11 : decode prog_1_method_26_code 11 = .ok (.aload_n 0, 1) := by decide +kernel
theorem d_D_collectMatches_12 : decode prog_1_method_26_code 12 = .ok (.getfield 42, 3) := by decide +kernel
theorem d_D_collectMatches_15 : decode prog_1_method_26_code 15 = .ok (.aload_n 0, 1) := by decide +kernel
theorem d_D_collectMatches_16 : decode prog_1_method_26_code 16 = .ok (.getfield 19, 3) := by decide +kernel
theorem d_D_collectMatches_19 : decode prog_1_method_26_code 19 = .ok (.iload_n 1, 1) := by decide +kernel
theorem d_D_collectMatches_20 : decode prog_1_method_26_code 20 = .ok (.invokevirtual 107, 3) := by decide +kernel
theorem d_A_seek_0 : decode prog_2_method_5_code 0 = .ok (.iload_n 2, 1) := by decide +kernel
theorem d_A_seek_1 : decode prog_2_method_5_code 1 = .ok (.istore_n 3, 1) := by decide +kernel
theorem d_A_seek_2 : decode prog_2_method_5_code 2 = .ok (.iload_n 3, 1) := by decide +kernel
theorem d_A_seek_3 : decode prog_2_method_5_code 3 = .ok (.aload_n 1, 1) := by decide +kernel
theorem d_A_seek_4 : decode prog_2_method_5_code 4 = .ok (.arraylength, 1) := by decide +kernel
theorem d_A_seek_5 : decode prog_2_method_5_code 5 = .ok (.if_icmp .ge 36, 3) := by decide +kernel
theorem d_A_seek_41 : decode prog_2_method_5_code 41 = .ok (.iconst 0, 1) := by decide +kernel
theorem d_A_seek_42 : decode prog_2_method_5_code 42 = .ok (.ireturn, 1) := by decide +kernel
theorem d_A_seek_8 : decode prog_2_method_5_code 8 = .ok (.aload_n 0, 1) := by decide +kernel
theorem d_A_seek_9 : decode prog_2_method_5_code 9 = .ok (.aload_n 1, 1) := by decide +kernel
theorem d_A_seek_10 : decode prog_2_method_5_code 10 = .ok (.iload_n 3, 1) := by decide +kernel
theorem d_A_seek_11 : decode prog_2_method_5_code 11 = .ok (.invokevirtual 34, 3) := by decide +kernel
theorem d_A_longestFit_0 : decode prog_2_method_6_code 0 = .ok (.iconst (-1), 1) := by decide +kernel
theorem d_A_longestFit_1 : decode prog_2_method_6_code 1 = .ok (.istore_n 3, 1) := by decide +kernel
theorem d_A_longestFit_2 : decode prog_2_method_6_code 2 = .ok (.aload_n 0, 1) := by decide +kernel
theorem d_A_longestFit_3 : decode prog_2_method_6_code 3 = .ok (.lconst 1, 1) := by decide +kernel
theorem d_A_longestFit_4 : decode prog_2_method_6_code 4 = .ok (.aload_n 0, 1) := by decide +kernel
theorem d_A_longestFit_5 : decode prog_2_method_6_code 5 = .ok (.getfield 44, 3) := by decide +kernel
theorem d_A_longestFit_8 : decode prog_2_method_6_code 8 = .ok (.lshl, 1) := by decide +kernel
theorem d_A_longestFit_9 : decode prog_2_method_6_code 9 = .ok (.aload_n 1, 1) := by decide +kernel
theorem d_A_longestFit_10 : decode prog_2_method_6_code 10 = .ok (.iload_n 2, 1) := by decide +kernel
theorem d_A_longestFit_11 : decode prog_2_method_6_code 11 = .ok (.invokevirtual 47, 3) := by decide +kernel
theorem d_A_spread_0 : decode prog_2_method_9_code 0 = .ok (.iload 4, 2) := by decide +kernel
theorem d_A_spread_2 : decode prog_2_method_9_code 2 = .ok (.ifCond .eq 14, 3) := by decide +kernel
theorem d_A_spread_5 : decode prog_2_method_9_code 5 = .ok (.aload_n 3, 1) := by decide +kernel
theorem d_A_spread_6 : decode prog_2_method_9_code 6 = .ok (.iload 4, 2) := by decide +kernel
theorem d_A_spread_8 : decode prog_2_method_9_code 8 = .ok (.iconst 1, 1) := by decide +kernel
theorem d_A_spread_9 : decode prog_2_method_9_code 9 = .ok (.isub, 1) := by decide +kernel
theorem d_A_spread_10 : decode prog_2_method_9_code 10 = .ok (.caload, 1) := by decide +kernel
theorem d_A_spread_11 : decode prog_2_method_9_code 11 = .ok (.bipush 10, 2) := by decide +kernel
theorem d_A_spread_13 : decode prog_2_method_9_code 13 = .ok (.if_icmp .ne 7, 3) := by decide +kernel
theorem d_A_spread_20 : decode prog_2_method_9_code 20 = .ok (.iconst 0, 1) := by decide +kernel
theorem d_A_spread_16 : decode prog_2_method_9_code 16 = .ok (.iconst 1, 1) := by decide +kernel
theorem d_A_spread_17 : decode prog_2_method_9_code 17 = .ok (.goto 4, 3) := by decide +kernel
theorem d_A_spread_21 : decode prog_2_method_9_code 21 = .ok (.istore 5, 2) := by decide +kernel
theorem d_A_spread_23 : decode prog_2_method_9_code 23 = .ok (.iload 4, 2) := by decide +kernel
theorem d_A_spread_25 : decode prog_2_method_9_code 25 = .ok (.aload_n 3, 1) := by decide +kernel
theorem d_A_spread_26 : decode prog_2_method_9_code 26 = .ok (.arraylength, 1) := by decide +kernel
theorem d_A_spread_27 : decode prog_2_method_9_code 27 = .ok (.if_icmp .eq 12, 3) := by decide +kernel
theorem d_A_spread_30 : decode prog_2_method_9_code 30 = .ok (.aload_n 3, 1) := by decide +kernel
theorem d_A_spread_31 : decode prog_2_method_9_code 31 = .ok (.iload 4, 2) := by decide +kernel
theorem d_A_spread_33 : decode prog_2_method_9_code 33 = .ok (.caload, 1) := by decide +kernel
theorem d_A_spread_34 : decode prog_2_method_9_code 34 = .ok (.bipush 10, 2) := by decide +kernel
theorem d_A_spread_36 : decode prog_2_method_9_code 36 = .ok (.if_icmp .ne 7, 3) := by decide +kernel
theorem d_A_spread_43 : decode prog_2_method_9_code 43 = .ok (.iconst 0, 1) := by decide +kernel
theorem d_A_spread_39 : decode prog_2_method_9_code 39 = .ok (.iconst 1, 1) := by decide +kernel
theorem d_A_spread_40 : decode prog_2_method_9_code 40 = .ok (.goto 4, 3) := by decide +kernel
theorem d_A_spread_44 : decode prog_2_method_9_code 44 = .ok (.istore 6, 2) := by decide +kernel
theorem d_A_spread_46 : decode prog_2_method_9_code 46 = .ok (.lload_n 1, 1) := by decide +kernel
theorem d_A_spread_47 : decode prog_2_method_9_code 47 = .ok (.lstore 7, 2) := by decide +kernel
theorem d_A_spread_49 : decode prog_2_method_9_code 49 = .ok (.lload_n 1, 1) := by decide +kernel
theorem d_A_spread_50 : decode prog_2_method_9_code 50 = .ok (.lstore 9, 2) := by decide +kernel
theorem d_A_spread_52 : decode prog_2_method_9_code 52 = .ok (.iconst 0, 1) := by decide +kernel
theorem d_A_spread_53 : decode prog_2_method_9_code 53 = .ok (.istore 11, 2) := by decide +kernel
theorem d_A_spread_55 : decode prog_2_method_9_code 55 = .ok (.iload 11, 2) := by decide +kernel
theorem d_A_spread_57 : decode prog_2_method_9_code 57 = .ok (.aload_n 0, 1) := by decide +kernel
theorem d_A_spread_58 : decode prog_2_method_9_code 58 = .ok (.getfield 28, 3) := by decide +kernel
theorem d_A_spread_61 : decode prog_2_method_9_code 61 = .ok (.if_icmp .ge 65, 3) := by decide +kernel
theorem d_A_spread_64 : decode prog_2_method_9_code 64 = .ok (.lload 9, 2) := by decide +kernel
theorem d_A_spread_66 : decode prog_2_method_9_code 66 = .ok (.lconst 0, 1) := by decide +kernel
theorem d_A_spread_67 : decode prog_2_method_9_code 67 = .ok (.lcmp, 1) := by decide +kernel
theorem d_A_spread_68 : decode prog_2_method_9_code 68 = .ok (.ifCond .eq 58, 3) := by decide +kernel
theorem d_A_spread_71 : decode prog_2_method_9_code 71 = .ok (.lload 9, 2) := by decide +kernel
theorem d_A_spread_73 : decode prog_2_method_9_code 73 = .ok (.invokestatic 58, 3) := by decide +kernel
theorem d_Jl_numberOfTrailingZeros_0 : decode prog_12_method_49_code 0 = .ok (.lload_n 0, 1) := by decide +kernel
theorem d_Jl_numberOfTrailingZeros_1 : decode prog_12_method_49_code 1 = .ok (.l2i, 1) := by decide +kernel
theorem d_Jl_numberOfTrailingZeros_2 : decode prog_12_method_49_code 2 = .ok (.istore_n 2, 1) := by decide +kernel
theorem d_Jl_numberOfTrailingZeros_3 : decode prog_12_method_49_code 3 = .ok (.iload_n 2, 1) := by decide +kernel
theorem d_Jl_numberOfTrailingZeros_4 : decode prog_12_method_49_code 4 = .ok (.ifCond .ne 17, 3) := by decide +kernel
theorem d_Jl_numberOfTrailingZeros_21 : decode prog_12_method_49_code 21 = .ok (.iload_n 2, 1) := by decide +kernel
theorem d_Jl_numberOfTrailingZeros_22 : decode prog_12_method_49_code 22 = .ok (.invokestatic 311, 3) := by decide +kernel
theorem d_Ji_numberOfTrailingZeros_0 : decode prog_11_method_48_code 0 = .ok (.iload_n 0, 1) := by decide +kernel
theorem d_Ji_numberOfTrailingZeros_1 : decode prog_11_method_48_code 1 = .ok (.iconst (-1), 1) := by decide +kernel
theorem d_Ji_numberOfTrailingZeros_2 : decode prog_11_method_48_code 2 = .ok (.ixor, 1) := by decide +kernel
theorem d_Ji_numberOfTrailingZeros_3 : decode prog_11_method_48_code 3 = .ok (.iload_n 0, 1) := by decide +kernel
theorem d_Ji_numberOfTrailingZeros_4 : decode prog_11_method_48_code 4 = .ok (.iconst 1, 1) := by decide +kernel
theorem d_Ji_numberOfTrailingZeros_5 : decode prog_11_method_48_code 5 = .ok (.isub, 1) := by decide +kernel
theorem d_Ji_numberOfTrailingZeros_6 : decode prog_11_method_48_code 6 = .ok (.iand, 1) := by decide +kernel
theorem d_Ji_numberOfTrailingZeros_7 : decode prog_11_method_48_code 7 = .ok (.istore_n 0, 1) := by decide +kernel
theorem d_Ji_numberOfTrailingZeros_8 : decode prog_11_method_48_code 8 = .ok (.iload_n 0, 1) := by decide +kernel
theorem d_Ji_numberOfTrailingZeros_9 : decode prog_11_method_48_code 9 = .ok (.ifCond .gt 8, 3) := by decide +kernel
theorem d_Ji_numberOfTrailingZeros_17 : decode prog_11_method_48_code 17 = .ok (.iconst 1, 1) := by decide +kernel
theorem d_Ji_numberOfTrailingZeros_18 : decode prog_11_method_48_code 18 = .ok (.istore_n 1, 1) := by decide +kernel
theorem d_Ji_numberOfTrailingZeros_19 : decode prog_11_method_48_code 19 = .ok (.iload_n 0, 1) := by decide +kernel
theorem d_Ji_numberOfTrailingZeros_20 : decode prog_11_method_48_code 20 = .ok (.ldc_w 264, 3) := by decide +kernel
theorem d_Ji_numberOfTrailingZeros_23 : decode prog_11_method_48_code 23 = .ok (.if_icmp .le 11, 3) := by decide +kernel
theorem d_Ji_numberOfTrailingZeros_26 : decode prog_11_method_48_code 26 = .ok (.iinc 1 16, 3) := by decide +kernel
theorem d_Ji_numberOfTrailingZeros_29 : decode prog_11_method_48_code 29 = .ok (.iload_n 0, 1) := by decide +kernel
theorem d_Ji_numberOfTrailingZeros_30 : decode prog_11_method_48_code 30 = .ok (.bipush 16, 2) := by decide +kernel
theorem d_Ji_numberOfTrailingZeros_32 : decode prog_11_method_48_code 32 = .ok (.iushr, 1) := by decide +kernel
theorem d_Ji_numberOfTrailingZeros_33 : decode prog_11_method_48_code 33 = .ok (.istore_n 0, 1) := by decide +kernel
theorem d_Ji_numberOfTrailingZeros_12 : decode prog_11_method_48_code 12 = .ok (.iload_n 0, 1) := by decide +kernel
theorem d_Ji_numberOfTrailingZeros_13 : decode prog_11_method_48_code 13 = .ok (.bipush 32, 2) := by decide +kernel
theorem d_Ji_numberOfTrailingZeros_15 : decode prog_11_method_48_code 15 = .ok (.iand, 1) := by decide +kernel
theorem d_Ji_numberOfTrailingZeros_16 : decode prog_11_method_48_code 16 = .ok (.ireturn, 1) := by decide +kernel
theorem d_Ji_numberOfTrailingZeros_34 : decode prog_11_method_48_code 34 = .ok (.iload_n 0, 1) := by decide +kernel
theorem d_Ji_numberOfTrailingZeros_35 : decode prog_11_method_48_code 35 = .ok (.sipush 256, 3) := by decide +kernel
theorem d_Ji_numberOfTrailingZeros_38 : decode prog_11_method_48_code 38 = .ok (.if_icmp .le 11, 3) := by decide +kernel
theorem d_Ji_numberOfTrailingZeros_41 : decode prog_11_method_48_code 41 = .ok (.iinc 1 8, 3) := by decide +kernel
theorem d_Ji_numberOfTrailingZeros_44 : decode prog_11_method_48_code 44 = .ok (.iload_n 0, 1) := by decide +kernel
theorem d_Ji_numberOfTrailingZeros_45 : decode prog_11_method_48_code 45 = .ok (.bipush 8, 2) := by decide +kernel
theorem d_Ji_numberOfTrailingZeros_47 : decode prog_11_method_48_code 47 = .ok (.iushr, 1) := by decide +kernel
theorem d_Ji_numberOfTrailingZeros_48 : decode prog_11_method_48_code 48 = .ok (.istore_n 0, 1) := by decide +kernel
theorem d_Ji_numberOfTrailingZeros_49 : decode prog_11_method_48_code 49 = .ok (.iload_n 0, 1) := by decide +kernel
theorem d_Ji_numberOfTrailingZeros_50 : decode prog_11_method_48_code 50 = .ok (.bipush 16, 2) := by decide +kernel
theorem d_Ji_numberOfTrailingZeros_52 : decode prog_11_method_48_code 52 = .ok (.if_icmp .le 10, 3) := by decide +kernel
theorem d_Ji_numberOfTrailingZeros_55 : decode prog_11_method_48_code 55 = .ok (.iinc 1 4, 3) := by decide +kernel
theorem d_Ji_numberOfTrailingZeros_58 : decode prog_11_method_48_code 58 = .ok (.iload_n 0, 1) := by decide +kernel
theorem d_Ji_numberOfTrailingZeros_59 : decode prog_11_method_48_code 59 = .ok (.iconst 4, 1) := by decide +kernel
theorem d_Ji_numberOfTrailingZeros_60 : decode prog_11_method_48_code 60 = .ok (.iushr, 1) := by decide +kernel
theorem d_Ji_numberOfTrailingZeros_61 : decode prog_11_method_48_code 61 = .ok (.istore_n 0, 1) := by decide +kernel
theorem d_Ji_numberOfTrailingZeros_62 : decode prog_11_method_48_code 62 = .ok (.iload_n 0, 1) := by decide +kernel
theorem d_Ji_numberOfTrailingZeros_63 : decode prog_11_method_48_code 63 = .ok (.iconst 4, 1) := by decide +kernel
theorem d_Ji_numberOfTrailingZeros_64 : decode prog_11_method_48_code 64 = .ok (.if_icmp .le 10, 3) := by decide +kernel
theorem d_Ji_numberOfTrailingZeros_67 : decode prog_11_method_48_code 67 = .ok (.iinc 1 2, 3) := by decide +kernel
theorem d_Ji_numberOfTrailingZeros_70 : decode prog_11_method_48_code 70 = .ok (.iload_n 0, 1) := by decide +kernel
theorem d_Ji_numberOfTrailingZeros_71 : decode prog_11_method_48_code 71 = .ok (.iconst 2, 1) := by decide +kernel
theorem d_Ji_numberOfTrailingZeros_72 : decode prog_11_method_48_code 72 = .ok (.iushr, 1) := by decide +kernel
theorem d_Ji_numberOfTrailingZeros_73 : decode prog_11_method_48_code 73 = .ok (.istore_n 0, 1) := by decide +kernel
theorem d_Ji_numberOfTrailingZeros_74 : decode prog_11_method_48_code 74 = .ok (.iload_n 1, 1) := by decide +kernel
theorem d_Ji_numberOfTrailingZeros_75 : decode prog_11_method_48_code 75 = .ok (.iload_n 0, 1) := by decide +kernel
theorem d_Ji_numberOfTrailingZeros_76 : decode prog_11_method_48_code 76 = .ok (.iconst 1, 1) := by decide +kernel
theorem d_Ji_numberOfTrailingZeros_77 : decode prog_11_method_48_code 77 = .ok (.iushr, 1) := by decide +kernel
theorem d_Ji_numberOfTrailingZeros_78 : decode prog_11_method_48_code 78 = .ok (.iadd, 1) := by decide +kernel
theorem d_Ji_numberOfTrailingZeros_79 : decode prog_11_method_48_code 79 = .ok (.ireturn, 1) := by decide +kernel
theorem d_Jl_numberOfTrailingZeros_7 : decode prog_12_method_49_code 7 = .ok (.bipush 32, 2) := by decide +kernel
theorem d_Jl_numberOfTrailingZeros_9 : decode prog_12_method_49_code 9 = .ok (.lload_n 0, 1) := by decide +kernel
theorem d_Jl_numberOfTrailingZeros_10 : decode prog_12_method_49_code 10 = .ok (.bipush 32, 2) := by decide +kernel
theorem d_Jl_numberOfTrailingZeros_12 : decode prog_12_method_49_code 12 = .ok (.lushr, 1) := by decide +kernel
theorem d_Jl_numberOfTrailingZeros_13 : decode prog_12_method_49_code 13 = .ok (.l2i, 1) := by decide +kernel
theorem d_Jl_numberOfTrailingZeros_14 : decode prog_12_method_49_code 14 = .ok (.invokestatic 311, 3) := by decide +kernel
theorem d_Jl_numberOfTrailingZeros_17 : decode prog_12_method_49_code 17 = .ok (.iadd, 1) := by decide +kernel
theorem d_Jl_numberOfTrailingZeros_18 : decode prog_12_method_49_code 18 = .ok (.goto 7, 3) := by decide +kernel
theorem d_Jl_numberOfTrailingZeros_25 : decode prog_12_method_49_code 25 = .ok (.ireturn, 1) := by decide +kernel
theorem d_A_spread_76 : decode prog_2_method_9_code 76 = .ok (.istore 12, 2) := by decide +kernel
theorem d_A_spread_78 : decode prog_2_method_9_code 78 = .ok (.lload 9, 2) := by decide +kernel
theorem d_A_spread_80 : decode prog_2_method_9_code 80 = .ok (.lload 9, 2) := by decide +kernel
theorem d_A_spread_82 : decode prog_2_method_9_code 82 = .ok (.lconst 1, 1) := by decide +kernel
theorem d_A_spread_83 : decode prog_2_method_9_code 83 = .ok (.lsub, 1) := by decide +kernel
theorem d_A_spread_84 : decode prog_2_method_9_code 84 = .ok (.land, 1) := by decide +kernel
theorem d_A_spread_85 : decode prog_2_method_9_code 85 = .ok (.lstore 9, 2) := by decide +kernel
theorem d_A_spread_87 : decode prog_2_method_9_code 87 = .ok (.aload_n 0, 1) := by decide +kernel
theorem d_A_spread_88 : decode prog_2_method_9_code 88 = .ok (.iload 12, 2) := by decide +kernel
theorem d_A_spread_90 : decode prog_2_method_9_code 90 = .ok (.iload 5, 2) := by decide +kernel
theorem d_A_spread_92 : decode prog_2_method_9_code 92 = .ok (.iload 6, 2) := by decide +kernel
theorem d_A_spread_94 : decode prog_2_method_9_code 94 = .ok (.invokevirtual 72, 3) := by decide +kernel
theorem d_A_waysOut_0 : decode prog_2_method_10_code 0 = .ok (.aload_n 0, 1) := by decide +kernel
theorem d_A_waysOut_1 : decode prog_2_method_10_code 1 = .ok (.getfield 11, 3) := by decide +kernel
theorem d_A_waysOut_4 : decode prog_2_method_10_code 4 = .ok (.iload_n 1, 1) := by decide +kernel
theorem d_A_waysOut_5 : decode prog_2_method_10_code 5 = .ok (.iaload, 1) := by decide +kernel
theorem d_A_waysOut_6 : decode prog_2_method_10_code 6 = .ok (.tableswitch 86 0 3 #[30, 86, 50, 68], 30) := by decide +kernel
theorem d_A_waysOut_36 : decode prog_2_method_10_code 36 = .ok (.aload_n 0, 1) := by decide +kernel
theorem d_A_waysOut_37 : decode prog_2_method_10_code 37 = .ok (.getfield 15, 3) := by decide +kernel
theorem d_A_waysOut_40 : decode prog_2_method_10_code 40 = .ok (.iload_n 1, 1) := by decide +kernel
theorem d_A_waysOut_41 : decode prog_2_method_10_code 41 = .ok (.iaload, 1) := by decide +kernel
theorem d_A_waysOut_42 : decode prog_2_method_10_code 42 = .ok (.invokestatic 68, 3) := by decide +kernel
theorem d_A_asSet_0 : decode prog_2_method_11_code 0 = .ok (.iload_n 0, 1) := by decide +kernel
theorem d_A_asSet_1 : decode prog_2_method_11_code 1 = .ok (.iconst (-1), 1) := by decide +kernel
theorem d_A_asSet_2 : decode prog_2_method_11_code 2 = .ok (.if_icmp .ne 7, 3) := by decide +kernel
theorem d_A_asSet_9 : decode prog_2_method_11_code 9 = .ok (.lconst 1, 1) := by decide +kernel
theorem d_A_asSet_10 : decode prog_2_method_11_code 10 = .ok (.iload_n 0, 1) := by decide +kernel
theorem d_A_asSet_11 : decode prog_2_method_11_code 11 = .ok (.lshl, 1) := by decide +kernel
theorem d_A_asSet_5 : decode prog_2_method_11_code 5 = .ok (.lconst 0, 1) := by decide +kernel
theorem d_A_asSet_6 : decode prog_2_method_11_code 6 = .ok (.goto 6, 3) := by decide +kernel
theorem d_A_asSet_12 : decode prog_2_method_11_code 12 = .ok (.lreturn, 1) := by decide +kernel
theorem d_A_waysOut_45 : decode prog_2_method_10_code 45 = .ok (.aload_n 0, 1) := by decide +kernel
theorem d_A_waysOut_46 : decode prog_2_method_10_code 46 = .ok (.getfield 18, 3) := by decide +kernel
theorem d_A_waysOut_49 : decode prog_2_method_10_code 49 = .ok (.iload_n 1, 1) := by decide +kernel
theorem d_A_waysOut_50 : decode prog_2_method_10_code 50 = .ok (.iaload, 1) := by decide +kernel
theorem d_A_waysOut_51 : decode prog_2_method_10_code 51 = .ok (.invokestatic 68, 3) := by decide +kernel
theorem d_A_waysOut_54 : decode prog_2_method_10_code 54 = .ok (.lor, 1) := by decide +kernel
theorem d_A_waysOut_55 : decode prog_2_method_10_code 55 = .ok (.lreturn, 1) := by decide +kernel
theorem d_A_waysOut_92 : decode prog_2_method_10_code 92 = .ok (.lconst 0, 1) := by decide +kernel
theorem d_A_waysOut_93 : decode prog_2_method_10_code 93 = .ok (.lreturn, 1) := by decide +kernel
theorem d_A_waysOut_56 : decode prog_2_method_10_code 56 = .ok (.iload_n 2, 1) := by decide +kernel
theorem d_A_waysOut_57 : decode prog_2_method_10_code 57 = .ok (.ifCond .eq 15, 3) := by decide +kernel
theorem d_A_waysOut_72 : decode prog_2_method_10_code 72 = .ok (.lconst 0, 1) := by decide +kernel
theorem d_A_waysOut_60 : decode prog_2_method_10_code 60 = .ok (.aload_n 0, 1) := by decide +kernel
theorem d_A_waysOut_61 : decode prog_2_method_10_code 61 = .ok (.getfield 15, 3) := by decide +kernel
theorem d_A_waysOut_64 : decode prog_2_method_10_code 64 = .ok (.iload_n 1, 1) := by decide +kernel
theorem d_A_waysOut_65 : decode prog_2_method_10_code 65 = .ok (.iaload, 1) := by decide +kernel
theorem d_A_waysOut_66 : decode prog_2_method_10_code 66 = .ok (.invokestatic 68, 3) := by decide +kernel
theorem d_A_waysOut_69 : decode prog_2_method_10_code 69 = .ok (.goto 4, 3) := by decide +kernel
theorem d_A_waysOut_74 : decode prog_2_method_10_code 74 = .ok (.iload_n 3, 1) := by decide +kernel
theorem d_A_waysOut_75 : decode prog_2_method_10_code 75 = .ok (.ifCond .eq 15, 3) := by decide +kernel
theorem d_A_waysOut_90 : decode prog_2_method_10_code 90 = .ok (.lconst 0, 1) := by decide +kernel
theorem d_A_waysOut_78 : decode prog_2_method_10_code 78 = .ok (.aload_n 0, 1) := by decide +kernel
theorem d_A_waysOut_79 : decode prog_2_method_10_code 79 = .ok (.getfield 15, 3) := by decide +kernel
theorem d_A_waysOut_82 : decode prog_2_method_10_code 82 = .ok (.iload_n 1, 1) := by decide +kernel
theorem d_A_waysOut_83 : decode prog_2_method_10_code 83 = .ok (.iaload, 1) := by decide +kernel
theorem d_A_waysOut_84 : decode prog_2_method_10_code 84 = .ok (.invokestatic 68, 3) := by decide +kernel
theorem d_A_waysOut_87 : decode prog_2_method_10_code 87 = .ok (.goto 4, 3) := by decide +kernel
theorem d_A_waysOut_73 : decode prog_2_method_10_code 73 = .ok (.lreturn, 1) := by decide +kernel
theorem d_A_waysOut_91 : decode prog_2_method_10_code 91 = .ok (.lreturn, 1) := by decide +kernel
theorem d_A_spread_97 : decode prog_2_method_9_code 97 = .ok (.lload 7, 2) := by decide +kernel
theorem d_A_spread_99 : decode prog_2_method_9_code 99 = .ok (.ldc2_w 32, 3) := by decide +kernel
theorem d_A_spread_102 : decode prog_2_method_9_code 102 = .ok (.lxor, 1) := by decide +kernel
theorem d_A_spread_103 : decode prog_2_method_9_code 103 = .ok (.land, 1) := by decide +kernel
theorem d_A_spread_104 : decode prog_2_method_9_code 104 = .ok (.lstore 13, 2) := by decide +kernel
theorem d_A_spread_106 : decode prog_2_method_9_code 106 = .ok (.lload 7, 2) := by decide +kernel
theorem d_A_spread_108 : decode prog_2_method_9_code 108 = .ok (.lload 13, 2) := by decide +kernel
theorem d_A_spread_110 : decode prog_2_method_9_code 110 = .ok (.lor, 1) := by decide +kernel
theorem d_A_spread_111 : decode prog_2_method_9_code 111 = .ok (.lstore 7, 2) := by decide +kernel
theorem d_A_spread_113 : decode prog_2_method_9_code 113 = .ok (.lload 9, 2) := by decide +kernel
theorem d_A_spread_115 : decode prog_2_method_9_code 115 = .ok (.lload 13, 2) := by decide +kernel
theorem d_A_spread_117 : decode prog_2_method_9_code 117 = .ok (.lor, 1) := by decide +kernel
theorem d_A_spread_118 : decode prog_2_method_9_code 118 = .ok (.lstore 9, 2) := by decide +kernel
theorem d_A_spread_120 : decode prog_2_method_9_code 120 = .ok (.iinc 11 1, 3) := by decide +kernel
theorem d_A_spread_123 : decode prog_2_method_9_code 123 = .ok (.goto (-68), 3) := by decide +kernel
theorem d_A_spread_126 : decode prog_2_method_9_code 126 = .ok (.lload 7, 2) := by decide +kernel
theorem d_A_spread_128 : decode prog_2_method_9_code 128 = .ok (.lreturn, 1) := by decide +kernel
theorem d_A_longestFit_14 : decode prog_2_method_6_code 14 = .ok (.lstore 4, 2) := by decide +kernel
theorem d_A_longestFit_16 : decode prog_2_method_6_code 16 = .ok (.iload_n 2, 1) := by decide +kernel
theorem d_A_longestFit_17 : decode prog_2_method_6_code 17 = .ok (.istore 6, 2) := by decide +kernel
theorem d_A_longestFit_19 : decode prog_2_method_6_code 19 = .ok (.iload 6, 2) := by decide +kernel
theorem d_A_longestFit_21 : decode prog_2_method_6_code 21 = .ok (.aload_n 1, 1) := by decide +kernel
theorem d_A_longestFit_22 : decode prog_2_method_6_code 22 = .ok (.arraylength, 1) := by decide +kernel
theorem d_A_longestFit_23 : decode prog_2_method_6_code 23 = .ok (.if_icmp .ge 56, 3) := by decide +kernel
theorem d_A_longestFit_26 : decode prog_2_method_6_code 26 = .ok (.lload 4, 2) := by decide +kernel
theorem d_A_longestFit_28 : decode prog_2_method_6_code 28 = .ok (.lconst 0, 1) := by decide +kernel
theorem d_A_longestFit_29 : decode prog_2_method_6_code 29 = .ok (.lcmp, 1) := by decide +kernel
theorem d_A_longestFit_30 : decode prog_2_method_6_code 30 = .ok (.ifCond .eq 49, 3) := by decide +kernel
theorem d_A_longestFit_33 : decode prog_2_method_6_code 33 = .ok (.aload_n 0, 1) := by decide +kernel
theorem d_A_longestFit_34 : decode prog_2_method_6_code 34 = .ok (.aload_n 0, 1) := by decide +kernel
theorem d_A_longestFit_35 : decode prog_2_method_6_code 35 = .ok (.lload 4, 2) := by decide +kernel
theorem d_A_longestFit_37 : decode prog_2_method_6_code 37 = .ok (.aload_n 1, 1) := by decide +kernel
theorem d_A_longestFit_38 : decode prog_2_method_6_code 38 = .ok (.iload 6, 2) := by decide +kernel
theorem d_A_longestFit_40 : decode prog_2_method_6_code 40 = .ok (.caload, 1) := by decide +kernel
theorem d_A_longestFit_41 : decode prog_2_method_6_code 41 = .ok (.invokevirtual 51, 3) := by decide +kernel
theorem d_A_consume_0 : decode prog_2_method_7_code 0 = .ok (.lconst 0, 1) := by decide +kernel
theorem d_A_consume_1 : decode prog_2_method_7_code 1 = .ok (.lstore 4, 2) := by decide +kernel
theorem d_A_consume_3 : decode prog_2_method_7_code 3 = .ok (.lload_n 1, 1) := by decide +kernel
theorem d_A_consume_4 : decode prog_2_method_7_code 4 = .ok (.lstore 6, 2) := by decide +kernel
theorem d_A_consume_6 : decode prog_2_method_7_code 6 = .ok (.iconst 0, 1) := by decide +kernel
theorem d_A_consume_7 : decode prog_2_method_7_code 7 = .ok (.istore 8, 2) := by decide +kernel
theorem d_A_consume_9 : decode prog_2_method_7_code 9 = .ok (.iload 8, 2) := by decide +kernel
theorem d_A_consume_11 : decode prog_2_method_7_code 11 = .ok (.aload_n 0, 1) := by decide +kernel
theorem d_A_consume_12 : decode prog_2_method_7_code 12 = .ok (.getfield 28, 3) := by decide +kernel
theorem d_A_consume_15 : decode prog_2_method_7_code 15 = .ok (.if_icmp .ge 68, 3) := by decide +kernel
theorem d_A_consume_18 : decode prog_2_method_7_code 18 = .ok (.lload 6, 2) := by decide +kernel
theorem d_A_consume_20 : decode prog_2_method_7_code 20 = .ok (.lconst 0, 1) := by decide +kernel
theorem d_A_consume_21 : decode prog_2_method_7_code 21 = .ok (.lcmp, 1) := by decide +kernel
theorem d_A_consume_22 : decode prog_2_method_7_code 22 = .ok (.ifCond .eq 61, 3) := by decide +kernel
theorem d_A_consume_25 : decode prog_2_method_7_code 25 = .ok (.lload 6, 2) := by decide +kernel
theorem d_A_consume_27 : decode prog_2_method_7_code 27 = .ok (.invokestatic 58, 3) := by decide +kernel
theorem d_A_consume_30 : decode prog_2_method_7_code 30 = .ok (.istore 9, 2) := by decide +kernel
theorem d_A_consume_32 : decode prog_2_method_7_code 32 = .ok (.lload 6, 2) := by decide +kernel
theorem d_A_consume_34 : decode prog_2_method_7_code 34 = .ok (.lload 6, 2) := by decide +kernel
theorem d_A_consume_36 : decode prog_2_method_7_code 36 = .ok (.lconst 1, 1) := by decide +kernel
theorem d_A_consume_37 : decode prog_2_method_7_code 37 = .ok (.lsub, 1) := by decide +kernel
theorem d_A_consume_38 : decode prog_2_method_7_code 38 = .ok (.land, 1) := by decide +kernel
theorem d_A_consume_39 : decode prog_2_method_7_code 39 = .ok (.lstore 6, 2) := by decide +kernel
theorem d_A_consume_41 : decode prog_2_method_7_code 41 = .ok (.aload_n 0, 1) := by decide +kernel
theorem d_A_consume_42 : decode prog_2_method_7_code 42 = .ok (.getfield 11, 3) := by decide +kernel
theorem d_A_consume_45 : decode prog_2_method_7_code 45 = .ok (.iload 9, 2) := by decide +kernel
theorem d_A_consume_47 : decode prog_2_method_7_code 47 = .ok (.iaload, 1) := by decide +kernel
theorem d_A_consume_48 : decode prog_2_method_7_code 48 = .ok (.iconst 1, 1) := by decide +kernel
theorem d_A_consume_49 : decode prog_2_method_7_code 49 = .ok (.if_icmp .ne 28, 3) := by decide +kernel
theorem d_A_consume_52 : decode prog_2_method_7_code 52 = .ok (.aload_n 0, 1) := by decide +kernel
theorem d_A_consume_53 : decode prog_2_method_7_code 53 = .ok (.iload 9, 2) := by decide +kernel
theorem d_A_consume_55 : decode prog_2_method_7_code 55 = .ok (.iload_n 3, 1) := by decide +kernel
theorem d_A_consume_56 : decode prog_2_method_7_code 56 = .ok (.invokevirtual 64, 3) := by decide +kernel
theorem d_A_takes_0 : decode prog_2_method_8_code 0 = .ok (.iload_n 2, 1) := by decide +kernel
theorem d_A_takes_1 : decode prog_2_method_8_code 1 = .ok (.bipush 64, 2) := by decide +kernel
theorem d_A_takes_3 : decode prog_2_method_8_code 3 = .ok (.if_icmp .ge 12, 3) := by decide +kernel
theorem d_A_takes_15 : decode prog_2_method_8_code 15 = .ok (.aload_n 0, 1) := by decide +kernel
theorem d_A_takes_16 : decode prog_2_method_8_code 16 = .ok (.getfield 25, 3) := by decide +kernel
theorem d_A_takes_19 : decode prog_2_method_8_code 19 = .ok (.iload_n 1, 1) := by decide +kernel
theorem d_A_takes_20 : decode prog_2_method_8_code 20 = .ok (.laload, 1) := by decide +kernel
theorem d_A_takes_6 : decode prog_2_method_8_code 6 = .ok (.aload_n 0, 1) := by decide +kernel
theorem d_A_takes_7 : decode prog_2_method_8_code 7 = .ok (.getfield 21, 3) := by decide +kernel
theorem d_A_takes_10 : decode prog_2_method_8_code 10 = .ok (.iload_n 1, 1) := by decide +kernel
theorem d_A_takes_11 : decode prog_2_method_8_code 11 = .ok (.laload, 1) := by decide +kernel
theorem d_A_takes_12 : decode prog_2_method_8_code 12 = .ok (.goto 9, 3) := by decide +kernel
theorem d_A_takes_21 : decode prog_2_method_8_code 21 = .ok (.lstore_n 3, 1) := by decide +kernel
theorem d_A_takes_22 : decode prog_2_method_8_code 22 = .ok (.lload_n 3, 1) := by decide +kernel
theorem d_A_takes_23 : decode prog_2_method_8_code 23 = .ok (.iload_n 2, 1) := by decide +kernel
theorem d_A_takes_24 : decode prog_2_method_8_code 24 = .ok (.bipush 63, 2) := by decide +kernel
theorem d_A_takes_26 : decode prog_2_method_8_code 26 = .ok (.iand, 1) := by decide +kernel
theorem d_A_takes_27 : decode prog_2_method_8_code 27 = .ok (.lushr, 1) := by decide +kernel
theorem d_A_takes_28 : decode prog_2_method_8_code 28 = .ok (.lconst 1, 1) := by decide +kernel
theorem d_A_takes_29 : decode prog_2_method_8_code 29 = .ok (.land, 1) := by decide +kernel
theorem d_A_takes_30 : decode prog_2_method_8_code 30 = .ok (.lconst 0, 1) := by decide +kernel
theorem d_A_takes_31 : decode prog_2_method_8_code 31 = .ok (.lcmp, 1) := by decide +kernel
theorem d_A_takes_32 : decode prog_2_method_8_code 32 = .ok (.ifCond .eq 7, 3) := by decide +kernel
theorem d_A_takes_39 : decode prog_2_method_8_code 39 = .ok (.iconst 0, 1) := by decide +kernel
theorem d_A_takes_35 : decode prog_2_method_8_code 35 = .ok (.iconst 1, 1) := by decide +kernel
theorem d_A_takes_36 : decode prog_2_method_8_code 36 = .ok (.goto 4, 3) := by decide +kernel
theorem d_A_takes_40 : decode prog_2_method_8_code 40 = .ok (.ireturn, 1) := by decide +kernel
theorem d_A_consume_59 : decode prog_2_method_7_code 59 = .ok (.ifCond .eq 18, 3) := by decide +kernel
theorem d_A_consume_62 : decode prog_2_method_7_code 62 = .ok (.lload 4, 2) := by decide +kernel
theorem d_A_consume_64 : decode prog_2_method_7_code 64 = .ok (.aload_n 0, 1) := by decide +kernel
theorem d_A_consume_65 : decode prog_2_method_7_code 65 = .ok (.getfield 15, 3) := by decide +kernel
theorem d_A_consume_68 : decode prog_2_method_7_code 68 = .ok (.iload 9, 2) := by decide +kernel
theorem d_A_consume_70 : decode prog_2_method_7_code 70 = .ok (.iaload, 1) := by decide +kernel
theorem d_A_consume_71 : decode prog_2_method_7_code 71 = .ok (.invokestatic 68, 3) := by decide +kernel
theorem d_A_consume_74 : decode prog_2_method_7_code 74 = .ok (.lor, 1) := by decide +kernel
theorem d_A_consume_75 : decode prog_2_method_7_code 75 = .ok (.lstore 4, 2) := by decide +kernel
theorem d_A_consume_83 : decode prog_2_method_7_code 83 = .ok (.lload 4, 2) := by decide +kernel
theorem d_A_consume_85 : decode prog_2_method_7_code 85 = .ok (.lreturn, 1) := by decide +kernel
theorem d_A_consume_77 : decode prog_2_method_7_code 77 = .ok (.iinc 8 1, 3) := by decide +kernel
theorem d_A_consume_80 : decode prog_2_method_7_code 80 = .ok (.goto (-71), 3) := by decide +kernel
theorem d_A_longestFit_44 : decode prog_2_method_6_code 44 = .ok (.aload_n 1, 1) := by decide +kernel
theorem d_A_longestFit_45 : decode prog_2_method_6_code 45 = .ok (.iload 6, 2) := by decide +kernel
theorem d_A_longestFit_47 : decode prog_2_method_6_code 47 = .ok (.iconst 1, 1) := by decide +kernel
theorem d_A_longestFit_48 : decode prog_2_method_6_code 48 = .ok (.iadd, 1) := by decide +kernel
theorem d_A_longestFit_49 : decode prog_2_method_6_code 49 = .ok (.invokevirtual 47, 3) := by decide +kernel
theorem d_A_longestFit_52 : decode prog_2_method_6_code 52 = .ok (.lstore 4, 2) := by decide +kernel
theorem d_A_longestFit_54 : decode prog_2_method_6_code 54 = .ok (.lload 4, 2) := by decide +kernel
theorem d_A_longestFit_56 : decode prog_2_method_6_code 56 = .ok (.lconst 1, 1) := by decide +kernel
theorem d_A_longestFit_57 : decode prog_2_method_6_code 57 = .ok (.aload_n 0, 1) := by decide +kernel
theorem d_A_longestFit_58 : decode prog_2_method_6_code 58 = .ok (.getfield 55, 3) := by decide +kernel
theorem d_A_longestFit_61 : decode prog_2_method_6_code 61 = .ok (.lshl, 1) := by decide +kernel
theorem d_A_longestFit_62 : decode prog_2_method_6_code 62 = .ok (.land, 1) := by decide +kernel
theorem d_A_longestFit_63 : decode prog_2_method_6_code 63 = .ok (.lconst 0, 1) := by decide +kernel
theorem d_A_longestFit_64 : decode prog_2_method_6_code 64 = .ok (.lcmp, 1) := by decide +kernel
theorem d_A_longestFit_65 : decode prog_2_method_6_code 65 = .ok (.ifCond .eq 8, 3) := by decide +kernel
theorem d_A_longestFit_68 : decode prog_2_method_6_code 68 = .ok (.iload 6, 2) := by decide +kernel
theorem d_A_longestFit_70 : decode prog_2_method_6_code 70 = .ok (.iconst 1, 1) := by decide +kernel
theorem d_A_longestFit_71 : decode prog_2_method_6_code 71 = .ok (.iadd, 1) := by decide +kernel
theorem d_A_longestFit_72 : decode prog_2_method_6_code 72 = .ok (.istore_n 3, 1) := by decide +kernel
theorem d_A_longestFit_79 : decode prog_2_method_6_code 79 = .ok (.iload_n 3, 1) := by decide +kernel
theorem d_A_longestFit_80 : decode prog_2_method_6_code 80 = .ok (.ireturn, 1) := by decide +kernel
theorem d_A_longestFit_73 : decode prog_2_method_6_code 73 = .ok (.iinc 6 1, 3) := by decide +kernel
theorem d_A_longestFit_76 : decode prog_2_method_6_code 76 = .ok (.goto (-57), 3) := by decide +kernel
theorem d_A_seek_14 : decode prog_2_method_5_code 14 = .ok (.istore 4, 2) := by decide +kernel
theorem d_A_seek_16 : decode prog_2_method_5_code 16 = .ok (.iload 4, 2) := by decide +kernel
theorem d_A_seek_18 : decode prog_2_method_5_code 18 = .ok (.iconst (-1), 1) := by decide +kernel
theorem d_A_seek_19 : decode prog_2_method_5_code 19 = .ok (.if_icmp .eq 16, 3) := by decide +kernel
theorem d_A_seek_35 : decode prog_2_method_5_code 35 = .ok (.iinc 3 1, 3) := by decide +kernel
theorem d_A_seek_38 : decode prog_2_method_5_code 38 = .ok (.goto (-36), 3) := by decide +kernel
theorem d_A_seek_22 : decode prog_2_method_5_code 22 = .ok (.aload_n 0, 1) := by decide +kernel
theorem d_A_seek_23 : decode prog_2_method_5_code 23 = .ok (.iload_n 3, 1) := by decide +kernel
theorem d_A_seek_24 : decode prog_2_method_5_code 24 = .ok (.putfield 38, 3) := by decide +kernel
theorem d_A_seek_27 : decode prog_2_method_5_code 27 = .ok (.aload_n 0, 1) := by decide +kernel
theorem d_A_seek_28 : decode prog_2_method_5_code 28 = .ok (.iload 4, 2) := by decide +kernel
theorem d_A_seek_30 : decode prog_2_method_5_code 30 = .ok (.putfield 41, 3) := by decide +kernel
theorem d_A_seek_33 : decode prog_2_method_5_code 33 = .ok (.iconst 1, 1) := by decide +kernel
theorem d_A_seek_34 : decode prog_2_method_5_code 34 = .ok (.ireturn, 1) := by decide +kernel
theorem d_D_collectMatches_23 : decode prog_1_method_26_code 23 = .ok (.ifCond .ne 5, 3) := by decide +kernel
theorem d_D_collectMatches_28 : decode prog_1_method_26_code 28 = .ok (.aload_n 0, 1) := by decide +kernel
theorem d_D_collectMatches_29 : decode prog_1_method_26_code 29 = .ok (.getfield 49, 3) := by decide +kernel
theorem d_D_collectMatches_32 : decode prog_1_method_26_code 32 = .ok (.iload_n 2, 1) := by decide +kernel
theorem d_D_collectMatches_33 : decode prog_1_method_26_code 33 = .ok (.aload_n 0, 1) := by decide +kernel
theorem d_D_collectMatches_34 : decode prog_1_method_26_code 34 = .ok (.getfield 42, 3) := by decide +kernel
-- 14.dec06
theorem d_D_collectMatches_37 : decode prog_1_method_26_code 37 = .ok (.getfield 114, 3) := by decide +kernel
theorem d_D_collectMatches_40 : decode prog_1_method_26_code 40 = .ok (.iastore, 1) := by decide +kernel
theorem d_D_collectMatches_41 : decode prog_1_method_26_code 41 = .ok (.aload_n 0, 1) := by decide +kernel
theorem d_D_collectMatches_42 : decode prog_1_method_26_code 42 = .ok (.getfield 53, 3) := by decide +kernel
theorem d_D_collectMatches_45 : decode prog_1_method_26_code 45 = .ok (.iload_n 2, 1) := by decide +kernel
theorem d_D_collectMatches_46 : decode prog_1_method_26_code 46 = .ok (.aload_n 0, 1) := by decide +kernel
theorem d_D_collectMatches_47 : decode prog_1_method_26_code 47 = .ok (.getfield 42, 3) := by decide +kernel
theorem d_D_collectMatches_50 : decode prog_1_method_26_code 50 = .ok (.getfield 117, 3) := by decide +kernel
theorem d_D_collectMatches_53 : decode prog_1_method_26_code 53 = .ok (.iastore, 1) := by decide +kernel
theorem d_D_collectMatches_54 : decode prog_1_method_26_code 54 = .ok (.aload_n 0, 1) := by decide +kernel
theorem d_D_collectMatches_55 : decode prog_1_method_26_code 55 = .ok (.getfield 42, 3) := by decide +kernel
theorem d_D_collectMatches_58 : decode prog_1_method_26_code 58 = .ok (.getfield 117, 3) := by decide +kernel
theorem d_D_collectMatches_61 : decode prog_1_method_26_code 61 = .ok (.istore_n 1, 1) := by decide +kernel
theorem d_D_collectMatches_62 : decode prog_1_method_26_code 62 = .ok (.iinc 2 1, 3) := by decide +kernel
theorem d_D_collectMatches_65 : decode prog_1_method_26_code 65 = .ok (.goto (-61), 3) := by decide +kernel
theorem d_D_collectMatches_26 : decode prog_1_method_26_code 26 = .ok (.iload_n 2, 1) := by decide +kernel
theorem d_D_collectMatches_27 : decode prog_1_method_26_code 27 = .ok (.ireturn, 1) := by decide +kernel
theorem d_D_compile_0 : decode prog_1_method_7_code 0 = .ok (.aload_n 0, 1) := by decide +kernel
theorem d_D_compile_1 : decode prog_1_method_7_code 1 = .ok (.aload_n 0, 1) := by decide +kernel
theorem d_D_compile_2 : decode prog_1_method_7_code 2 = .ok (.getfield 35, 3) := by decide +kernel
theorem d_D_compile_5 : decode prog_1_method_7_code 5 = .ok (.aload_n 0, 1) := by decide +kernel
theorem d_D_compile_6 : decode prog_1_method_7_code 6 = .ok (.getfield 9, 3) := by decide +kernel
theorem d_D_compile_9 : decode prog_1_method_7_code 9 = .ok (.aload_n 0, 1) := by decide +kernel
theorem d_D_compile_10 : decode prog_1_method_7_code 10 = .ok (.getfield 56, 3) := by decide +kernel
theorem d_D_compile_13 : decode prog_1_method_7_code 13 = .ok (.invokevirtual 92, 3) := by decide +kernel
theorem d_P_read_0 : decode prog_3_method_3_code 0 = .ok (.aload_n 0, 1) := by decide +kernel
theorem d_P_read_1 : decode prog_3_method_3_code 1 = .ok (.aload_n 1, 1) := by decide +kernel
theorem d_P_read_2 : decode prog_3_method_3_code 2 = .ok (.putfield 31, 3) := by decide +kernel
theorem d_P_read_5 : decode prog_3_method_3_code 5 = .ok (.aload_n 0, 1) := by decide +kernel
theorem d_P_read_6 : decode prog_3_method_3_code 6 = .ok (.iload_n 2, 1) := by decide +kernel
theorem d_P_read_7 : decode prog_3_method_3_code 7 = .ok (.putfield 35, 3) := by decide +kernel
theorem d_P_read_10 : decode prog_3_method_3_code 10 = .ok (.aload_n 0, 1) := by decide +kernel
theorem d_P_read_11 : decode prog_3_method_3_code 11 = .ok (.iconst 0, 1) := by decide +kernel
theorem d_P_read_12 : decode prog_3_method_3_code 12 = .ok (.putfield 39, 3) := by decide +kernel
theorem d_P_read_15 : decode prog_3_method_3_code 15 = .ok (.aload_n 0, 1) := by decide +kernel
theorem d_P_read_16 : decode prog_3_method_3_code 16 = .ok (.iconst (-1), 1) := by decide +kernel
theorem d_P_read_17 : decode prog_3_method_3_code 17 = .ok (.putfield 42, 3) := by decide +kernel
theorem d_P_read_20 : decode prog_3_method_3_code 20 = .ok (.aload_n 0, 1) := by decide +kernel
theorem d_P_read_21 : decode prog_3_method_3_code 21 = .ok (.getfield 27, 3) := by decide +kernel
theorem d_P_read_24 : decode prog_3_method_3_code 24 = .ok (.iconst 0, 1) := by decide +kernel
theorem d_P_read_25 : decode prog_3_method_3_code 25 = .ok (.putfield 45, 3) := by decide +kernel
theorem d_P_read_28 : decode prog_3_method_3_code 28 = .ok (.aload_n 0, 1) := by decide +kernel
theorem d_P_read_29 : decode prog_3_method_3_code 29 = .ok (.iconst 0, 1) := by decide +kernel
theorem d_P_read_30 : decode prog_3_method_3_code 30 = .ok (.putfield 46, 3) := by decide +kernel
theorem d_P_read_33 : decode prog_3_method_3_code 33 = .ok (.aload_n 0, 1) := by decide +kernel
theorem d_P_read_34 : decode prog_3_method_3_code 34 = .ok (.iconst (-1), 1) := by decide +kernel
theorem d_P_read_35 : decode prog_3_method_3_code 35 = .ok (.invokevirtual 49, 3) := by decide +kernel
theorem d_P_openChoice_0 : decode prog_3_method_12_code 0 = .ok (.aload_n 0, 1) := by decide +kernel
theorem d_P_openChoice_1 : decode prog_3_method_12_code 1 = .ok (.getfield 27, 3) := by decide +kernel
theorem d_P_openChoice_4 : decode prog_3_method_12_code 4 = .ok (.iconst 0, 1) := by decide +kernel
theorem d_P_openChoice_5 : decode prog_3_method_12_code 5 = .ok (.invokevirtual 113, 3) := by decide +kernel
theorem d_A_addNode_0 : decode prog_2_method_2_code 0 = .ok (.aload_n 0, 1) := by decide +kernel
theorem d_A_addNode_1 : decode prog_2_method_2_code 1 = .ok (.getfield 28, 3) := by decide +kernel
theorem d_A_addNode_4 : decode prog_2_method_2_code 4 = .ok (.istore_n 2, 1) := by decide +kernel
theorem d_A_addNode_5 : decode prog_2_method_2_code 5 = .ok (.aload_n 0, 1) := by decide +kernel
theorem d_A_addNode_6 : decode prog_2_method_2_code 6 = .ok (.getfield 11, 3) := by decide +kernel
theorem d_A_addNode_9 : decode prog_2_method_2_code 9 = .ok (.iload_n 2, 1) := by decide +kernel
theorem d_A_addNode_10 : decode prog_2_method_2_code 10 = .ok (.iload_n 1, 1) := by decide +kernel
theorem d_A_addNode_11 : decode prog_2_method_2_code 11 = .ok (.iastore, 1) := by decide +kernel
theorem d_A_addNode_12 : decode prog_2_method_2_code 12 = .ok (.aload_n 0, 1) := by decide +kernel
theorem d_A_addNode_13 : decode prog_2_method_2_code 13 = .ok (.getfield 15, 3) := by decide +kernel
theorem d_A_addNode_16 : decode prog_2_method_2_code 16 = .ok (.iload_n 2, 1) := by decide +kernel
theorem d_A_addNode_17 : decode prog_2_method_2_code 17 = .ok (.iconst (-1), 1) := by decide +kernel
theorem d_A_addNode_18 : decode prog_2_method_2_code 18 = .ok (.iastore, 1) := by decide +kernel
theorem d_A_addNode_19 : decode prog_2_method_2_code 19 = .ok (.aload_n 0, 1) := by decide +kernel
theorem d_A_addNode_20 : decode prog_2_method_2_code 20 = .ok (.getfield 18, 3) := by decide +kernel
theorem d_A_addNode_23 : decode prog_2_method_2_code 23 = .ok (.iload_n 2, 1) := by decide +kernel
theorem d_A_addNode_24 : decode prog_2_method_2_code 24 = .ok (.iconst (-1), 1) := by decide +kernel
theorem d_A_addNode_25 : decode prog_2_method_2_code 25 = .ok (.iastore, 1) := by decide +kernel
theorem d_A_addNode_26 : decode prog_2_method_2_code 26 = .ok (.aload_n 0, 1) := by decide +kernel
theorem d_A_addNode_27 : decode prog_2_method_2_code 27 = .ok (.getfield 21, 3) := by decide +kernel
theorem d_A_addNode_30 : decode prog_2_method_2_code 30 = .ok (.iload_n 2, 1) := by decide +kernel
theorem d_A_addNode_31 : decode prog_2_method_2_code 31 = .ok (.lconst 0, 1) := by decide +kernel
theorem d_A_addNode_32 : decode prog_2_method_2_code 32 = .ok (.lastore, 1) := by decide +kernel
theorem d_A_addNode_33 : decode prog_2_method_2_code 33 = .ok (.aload_n 0, 1) := by decide +kernel
theorem d_A_addNode_34 : decode prog_2_method_2_code 34 = .ok (.getfield 25, 3) := by decide +kernel
theorem d_A_addNode_37 : decode prog_2_method_2_code 37 = .ok (.iload_n 2, 1) := by decide +kernel
theorem d_A_addNode_38 : decode prog_2_method_2_code 38 = .ok (.lconst 0, 1) := by decide +kernel
theorem d_A_addNode_39 : decode prog_2_method_2_code 39 = .ok (.lastore, 1) := by decide +kernel
theorem d_A_addNode_40 : decode prog_2_method_2_code 40 = .ok (.aload_n 0, 1) := by decide +kernel
theorem d_A_addNode_41 : decode prog_2_method_2_code 41 = .ok (.dup, 1) := by decide +kernel
theorem d_A_addNode_42 : decode prog_2_method_2_code 42 = .ok (.getfield 28, 3) := by decide +kernel
theorem d_A_addNode_45 : decode prog_2_method_2_code 45 = .ok (.iconst 1, 1) := by decide +kernel
theorem d_A_addNode_46 : decode prog_2_method_2_code 46 = .ok (.iadd, 1) := by decide +kernel
theorem d_A_addNode_47 : decode prog_2_method_2_code 47 = .ok (.putfield 28, 3) := by decide +kernel
theorem d_A_addNode_50 : decode prog_2_method_2_code 50 = .ok (.iload_n 2, 1) := by decide +kernel
theorem d_A_addNode_51 : decode prog_2_method_2_code 51 = .ok (.ireturn, 1) := by decide +kernel
theorem d_P_openChoice_8 : decode prog_3_method_12_code 8 = .ok (.istore_n 2, 1) := by decide +kernel
theorem d_P_openChoice_9 : decode prog_3_method_12_code 9 = .ok (.aload_n 0, 1) := by decide +kernel
theorem d_P_openChoice_10 : decode prog_3_method_12_code 10 = .ok (.getfield 9, 3) := by decide +kernel
theorem d_P_openChoice_13 : decode prog_3_method_12_code 13 = .ok (.aload_n 0, 1) := by decide +kernel
theorem d_P_openChoice_14 : decode prog_3_method_12_code 14 = .ok (.getfield 46, 3) := by decide +kernel
theorem d_P_openChoice_17 : decode prog_3_method_12_code 17 = .ok (.iload_n 2, 1) := by decide +kernel
theorem d_P_openChoice_18 : decode prog_3_method_12_code 18 = .ok (.iastore, 1) := by decide +kernel
theorem d_P_openChoice_19 : decode prog_3_method_12_code 19 = .ok (.aload_n 0, 1) := by decide +kernel
theorem d_P_openChoice_20 : decode prog_3_method_12_code 20 = .ok (.getfield 15, 3) := by decide +kernel
theorem d_P_openChoice_23 : decode prog_3_method_12_code 23 = .ok (.aload_n 0, 1) := by decide +kernel
theorem d_P_openChoice_24 : decode prog_3_method_12_code 24 = .ok (.getfield 46, 3) := by decide +kernel
theorem d_P_openChoice_27 : decode prog_3_method_12_code 27 = .ok (.aload_n 0, 1) := by decide +kernel
theorem d_P_openChoice_28 : decode prog_3_method_12_code 28 = .ok (.getfield 27, 3) := by decide +kernel
theorem d_P_openChoice_31 : decode prog_3_method_12_code 31 = .ok (.iconst 0, 1) := by decide +kernel
theorem d_P_openChoice_32 : decode prog_3_method_12_code 32 = .ok (.invokevirtual 113, 3) := by decide +kernel
theorem d_P_openChoice_35 : decode prog_3_method_12_code 35 = .ok (.iastore, 1) := by decide +kernel
theorem d_P_openChoice_36 : decode prog_3_method_12_code 36 = .ok (.aload_n 0, 1) := by decide +kernel
theorem d_P_openChoice_37 : decode prog_3_method_12_code 37 = .ok (.getfield 21, 3) := by decide +kernel
theorem d_P_openChoice_40 : decode prog_3_method_12_code 40 = .ok (.aload_n 0, 1) := by decide +kernel
theorem d_P_openChoice_41 : decode prog_3_method_12_code 41 = .ok (.getfield 46, 3) := by decide +kernel
theorem d_P_openChoice_44 : decode prog_3_method_12_code 44 = .ok (.iload_n 1, 1) := by decide +kernel
theorem d_P_openChoice_45 : decode prog_3_method_12_code 45 = .ok (.iastore, 1) := by decide +kernel
theorem d_P_openChoice_46 : decode prog_3_method_12_code 46 = .ok (.aload_n 0, 1) := by decide +kernel
theorem d_P_openChoice_47 : decode prog_3_method_12_code 47 = .ok (.iload_n 2, 1) := by decide +kernel
theorem d_P_openChoice_48 : decode prog_3_method_12_code 48 = .ok (.invokevirtual 116, 3) := by decide +kernel
theorem d_P_beginRow_0 : decode prog_3_method_16_code 0 = .ok (.aload_n 0, 1) := by decide +kernel
theorem d_P_beginRow_1 : decode prog_3_method_16_code 1 = .ok (.getfield 18, 3) := by decide +kernel
theorem d_P_beginRow_4 : decode prog_3_method_16_code 4 = .ok (.aload_n 0, 1) := by decide +kernel
theorem d_P_beginRow_5 : decode prog_3_method_16_code 5 = .ok (.getfield 46, 3) := by decide +kernel
theorem d_P_beginRow_8 : decode prog_3_method_16_code 8 = .ok (.iload_n 1, 1) := by decide +kernel
theorem d_P_beginRow_9 : decode prog_3_method_16_code 9 = .ok (.iastore, 1) := by decide +kernel
theorem d_P_beginRow_10 : decode prog_3_method_16_code 10 = .ok (.aload_n 0, 1) := by decide +kernel
theorem d_P_beginRow_11 : decode prog_3_method_16_code 11 = .ok (.iconst (-1), 1) := by decide +kernel
theorem d_P_beginRow_12 : decode prog_3_method_16_code 12 = .ok (.putfield 126, 3) := by decide +kernel
theorem d_P_beginRow_15 : decode prog_3_method_16_code 15 = .ok (.aload_n 0, 1) := by decide +kernel
theorem d_P_beginRow_16 : decode prog_3_method_16_code 16 = .ok (.iconst (-1), 1) := by decide +kernel
theorem d_P_beginRow_17 : decode prog_3_method_16_code 17 = .ok (.putfield 129, 3) := by decide +kernel
theorem d_P_beginRow_20 : decode prog_3_method_16_code 20 = .ok (.aload_n 0, 1) := by decide +kernel
theorem d_P_beginRow_21 : decode prog_3_method_16_code 21 = .ok (.iload_n 1, 1) := by decide +kernel
theorem d_P_beginRow_22 : decode prog_3_method_16_code 22 = .ok (.putfield 62, 3) := by decide +kernel
theorem d_P_beginRow_25 : decode prog_3_method_16_code 25 = .ok (.return_, 1) := by decide +kernel
theorem d_P_openChoice_51 : decode prog_3_method_12_code 51 = .ok (.return_, 1) := by decide +kernel
theorem d_P_read_38 : decode prog_3_method_3_code 38 = .ok (.iconst 0, 1) := by decide +kernel
theorem d_P_read_39 : decode prog_3_method_3_code 39 = .ok (.istore_n 3, 1) := by decide +kernel
theorem d_P_read_40 : decode prog_3_method_3_code 40 = .ok (.iload_n 3, 1) := by decide +kernel
theorem d_P_read_41 : decode prog_3_method_3_code 41 = .ok (.aload_n 0, 1) := by decide +kernel
theorem d_P_read_42 : decode prog_3_method_3_code 42 = .ok (.getfield 35, 3) := by decide +kernel
theorem d_P_read_45 : decode prog_3_method_3_code 45 = .ok (.if_icmp .ge 32, 3) := by decide +kernel
theorem d_P_read_48 : decode prog_3_method_3_code 48 = .ok (.aload_n 0, 1) := by decide +kernel
theorem d_P_read_49 : decode prog_3_method_3_code 49 = .ok (.getfield 39, 3) := by decide +kernel
theorem d_P_read_52 : decode prog_3_method_3_code 52 = .ok (.aload_n 0, 1) := by decide +kernel
theorem d_P_read_53 : decode prog_3_method_3_code 53 = .ok (.getfield 35, 3) := by decide +kernel
theorem d_P_read_56 : decode prog_3_method_3_code 56 = .ok (.if_icmp .ge 21, 3) := by decide +kernel
theorem d_P_read_59 : decode prog_3_method_3_code 59 = .ok (.aload_n 0, 1) := by decide +kernel
theorem d_P_read_60 : decode prog_3_method_3_code 60 = .ok (.getfield 42, 3) := by decide +kernel
theorem d_P_read_63 : decode prog_3_method_3_code 63 = .ok (.iconst (-1), 1) := by decide +kernel
theorem d_P_read_64 : decode prog_3_method_3_code 64 = .ok (.if_icmp .ne 13, 3) := by decide +kernel
theorem d_P_read_67 : decode prog_3_method_3_code 67 = .ok (.aload_n 0, 1) := by decide +kernel
theorem d_P_read_68 : decode prog_3_method_3_code 68 = .ok (.invokevirtual 53, 3) := by decide +kernel
theorem d_P_readNext_0 : decode prog_3_method_5_code 0 = .ok (.aload_n 0, 1) := by decide +kernel
theorem d_P_readNext_1 : decode prog_3_method_5_code 1 = .ok (.getfield 31, 3) := by decide +kernel
theorem d_P_readNext_4 : decode prog_3_method_5_code 4 = .ok (.aload_n 0, 1) := by decide +kernel
theorem d_P_readNext_5 : decode prog_3_method_5_code 5 = .ok (.getfield 39, 3) := by decide +kernel
theorem d_P_readNext_8 : decode prog_3_method_5_code 8 = .ok (.caload, 1) := by decide +kernel
theorem d_P_readNext_9 : decode prog_3_method_5_code 9 = .ok (.istore_n 1, 1) := by decide +kernel
theorem d_P_readNext_10 : decode prog_3_method_5_code 10 = .ok (.iload_n 1, 1) := by decide +kernel
theorem d_P_readNext_11 : decode prog_3_method_5_code 11 = .ok (.lookupswitch 135 #[(40, 81), (41, 88), (42, 102), (43, 102), (63, 102), (91, 110), (92, 128), (93, 117), (124, 95)], 81) := by decide +kernel
theorem d_P_readNext_92 : decode prog_3_method_5_code 92 = .ok (.aload_n 0, 1) := by decide +kernel
theorem d_P_readNext_93 : decode prog_3_method_5_code 93 = .ok (.invokevirtual 71, 3) := by decide +kernel
theorem d_P_openGroup_0 : decode prog_3_method_13_code 0 = .ok (.aload_n 0, 1) := by decide +kernel
theorem d_P_openGroup_1 : decode prog_3_method_13_code 1 = .ok (.getfield 46, 3) := by decide +kernel
theorem d_P_openGroup_4 : decode prog_3_method_13_code 4 = .ok (.bipush 8, 2) := by decide +kernel
theorem d_P_openGroup_6 : decode prog_3_method_13_code 6 = .ok (.if_icmp .ne 12, 3) := by decide +kernel
theorem d_P_openGroup_18 : decode prog_3_method_13_code 18 = .ok (.aload_n 0, 1) := by decide +kernel
theorem d_P_openGroup_19 : decode prog_3_method_13_code 19 = .ok (.dup, 1) := by decide +kernel
theorem d_P_openGroup_20 : decode prog_3_method_13_code 20 = .ok (.getfield 46, 3) := by decide +kernel
theorem d_P_openGroup_23 : decode prog_3_method_13_code 23 = .ok (.iconst 1, 1) := by decide +kernel
theorem d_P_openGroup_24 : decode prog_3_method_13_code 24 = .ok (.iadd, 1) := by decide +kernel
theorem d_P_openGroup_25 : decode prog_3_method_13_code 25 = .ok (.putfield 46, 3) := by decide +kernel
theorem d_P_openGroup_28 : decode prog_3_method_13_code 28 = .ok (.aload_n 0, 1) := by decide +kernel
theorem d_P_openGroup_29 : decode prog_3_method_13_code 29 = .ok (.aload_n 0, 1) := by decide +kernel
theorem d_P_openGroup_30 : decode prog_3_method_13_code 30 = .ok (.getfield 62, 3) := by decide +kernel
theorem d_P_openGroup_33 : decode prog_3_method_13_code 33 = .ok (.invokevirtual 49, 3) := by decide +kernel
theorem d_P_openGroup_36 : decode prog_3_method_13_code 36 = .ok (.return_, 1) := by decide +kernel
theorem d_P_openGroup_9 : decode prog_3_method_13_code 9 = .ok (.aload_n 0, 1) := by decide +kernel
theorem d_P_openGroup_10 : decode prog_3_method_13_code 10 = .ok (.aload_n 0, 1) := by decide +kernel
theorem d_P_openGroup_11 : decode prog_3_method_13_code 11 = .ok (.getfield 39, 3) := by decide +kernel
theorem d_P_openGroup_14 : decode prog_3_method_13_code 14 = .ok (.putfield 42, 3) := by decide +kernel
theorem d_P_openGroup_17 : decode prog_3_method_13_code 17 = .ok (.return_, 1) := by decide +kernel
theorem d_P_readNext_96 : decode prog_3_method_5_code 96 = .ok (.goto 55, 3) := by decide +kernel
theorem d_P_readNext_99 : decode prog_3_method_5_code 99 = .ok (.aload_n 0, 1) := by decide +kernel
theorem d_P_readNext_100 : decode prog_3_method_5_code 100 = .ok (.invokevirtual 74, 3) := by decide +kernel
theorem d_P_closeGroup_0 : decode prog_3_method_14_code 0 = .ok (.aload_n 0, 1) := by decide +kernel
theorem d_P_closeGroup_1 : decode prog_3_method_14_code 1 = .ok (.getfield 46, 3) := by decide +kernel
theorem d_P_closeGroup_4 : decode prog_3_method_14_code 4 = .ok (.ifCond .ne 12, 3) := by decide +kernel
theorem d_P_closeGroup_16 : decode prog_3_method_14_code 16 = .ok (.aload_n 0, 1) := by decide +kernel
theorem d_P_closeGroup_17 : decode prog_3_method_14_code 17 = .ok (.getfield 9, 3) := by decide +kernel
theorem d_P_closeGroup_20 : decode prog_3_method_14_code 20 = .ok (.aload_n 0, 1) := by decide +kernel
theorem d_P_closeGroup_21 : decode prog_3_method_14_code 21 = .ok (.getfield 46, 3) := by decide +kernel
theorem d_P_closeGroup_24 : decode prog_3_method_14_code 24 = .ok (.iaload, 1) := by decide +kernel
theorem d_P_closeGroup_25 : decode prog_3_method_14_code 25 = .ok (.istore_n 1, 1) := by decide +kernel
theorem d_P_closeGroup_26 : decode prog_3_method_14_code 26 = .ok (.aload_n 0, 1) := by decide +kernel
theorem d_P_closeGroup_27 : decode prog_3_method_14_code 27 = .ok (.getfield 15, 3) := by decide +kernel
theorem d_P_closeGroup_30 : decode prog_3_method_14_code 30 = .ok (.aload_n 0, 1) := by decide +kernel
theorem d_P_closeGroup_31 : decode prog_3_method_14_code 31 = .ok (.getfield 46, 3) := by decide +kernel
theorem d_P_closeGroup_34 : decode prog_3_method_14_code 34 = .ok (.iaload, 1) := by decide +kernel
theorem d_P_closeGroup_35 : decode prog_3_method_14_code 35 = .ok (.istore_n 2, 1) := by decide +kernel
theorem d_P_closeGroup_36 : decode prog_3_method_14_code 36 = .ok (.aload_n 0, 1) := by decide +kernel
theorem d_P_closeGroup_37 : decode prog_3_method_14_code 37 = .ok (.getfield 27, 3) := by decide +kernel
theorem d_P_closeGroup_40 : decode prog_3_method_14_code 40 = .ok (.getfield 59, 3) := by decide +kernel
theorem d_P_closeGroup_43 : decode prog_3_method_14_code 43 = .ok (.aload_n 0, 1) := by decide +kernel
theorem d_P_closeGroup_44 : decode prog_3_method_14_code 44 = .ok (.getfield 62, 3) := by decide +kernel
theorem d_P_closeGroup_47 : decode prog_3_method_14_code 47 = .ok (.iload_n 2, 1) := by decide +kernel
theorem d_P_closeGroup_48 : decode prog_3_method_14_code 48 = .ok (.iastore, 1) := by decide +kernel
theorem d_P_closeGroup_49 : decode prog_3_method_14_code 49 = .ok (.aload_n 0, 1) := by decide +kernel
theorem d_P_closeGroup_50 : decode prog_3_method_14_code 50 = .ok (.aload_n 0, 1) := by decide +kernel
theorem d_P_closeGroup_51 : decode prog_3_method_14_code 51 = .ok (.getfield 21, 3) := by decide +kernel
theorem d_P_closeGroup_54 : decode prog_3_method_14_code 54 = .ok (.aload_n 0, 1) := by decide +kernel
theorem d_P_closeGroup_55 : decode prog_3_method_14_code 55 = .ok (.getfield 46, 3) := by decide +kernel
theorem d_P_closeGroup_58 : decode prog_3_method_14_code 58 = .ok (.iaload, 1) := by decide +kernel
theorem d_P_closeGroup_59 : decode prog_3_method_14_code 59 = .ok (.putfield 62, 3) := by decide +kernel
theorem d_P_closeGroup_62 : decode prog_3_method_14_code 62 = .ok (.aload_n 0, 1) := by decide +kernel
theorem d_P_closeGroup_63 : decode prog_3_method_14_code 63 = .ok (.dup, 1) := by decide +kernel
theorem d_P_closeGroup_64 : decode prog_3_method_14_code 64 = .ok (.getfield 46, 3) := by decide +kernel
theorem d_P_closeGroup_67 : decode prog_3_method_14_code 67 = .ok (.iconst 1, 1) := by decide +kernel
theorem d_P_closeGroup_68 : decode prog_3_method_14_code 68 = .ok (.isub, 1) := by decide +kernel
theorem d_P_closeGroup_69 : decode prog_3_method_14_code 69 = .ok (.putfield 46, 3) := by decide +kernel
theorem d_P_closeGroup_72 : decode prog_3_method_14_code 72 = .ok (.aload_n 0, 1) := by decide +kernel
theorem d_P_closeGroup_73 : decode prog_3_method_14_code 73 = .ok (.iload_n 1, 1) := by decide +kernel
theorem d_P_closeGroup_74 : decode prog_3_method_14_code 74 = .ok (.iload_n 2, 1) := by decide +kernel
theorem d_P_closeGroup_75 : decode prog_3_method_14_code 75 = .ok (.invokevirtual 119, 3) := by decide +kernel
theorem d_P_addPart_0 : decode prog_3_method_18_code 0 = .ok (.aload_n 0, 1) := by decide +kernel
theorem d_P_addPart_1 : decode prog_3_method_18_code 1 = .ok (.aload_n 0, 1) := by decide +kernel
theorem d_P_addPart_2 : decode prog_3_method_18_code 2 = .ok (.getfield 62, 3) := by decide +kernel
theorem d_P_addPart_5 : decode prog_3_method_18_code 5 = .ok (.putfield 126, 3) := by decide +kernel
theorem d_P_addPart_8 : decode prog_3_method_18_code 8 = .ok (.aload_n 0, 1) := by decide +kernel
theorem d_P_addPart_9 : decode prog_3_method_18_code 9 = .ok (.getfield 27, 3) := by decide +kernel
theorem d_P_addPart_12 : decode prog_3_method_18_code 12 = .ok (.getfield 59, 3) := by decide +kernel
theorem d_P_addPart_15 : decode prog_3_method_18_code 15 = .ok (.aload_n 0, 1) := by decide +kernel
theorem d_P_addPart_16 : decode prog_3_method_18_code 16 = .ok (.getfield 126, 3) := by decide +kernel
theorem d_P_addPart_19 : decode prog_3_method_18_code 19 = .ok (.iload_n 1, 1) := by decide +kernel
theorem d_P_addPart_20 : decode prog_3_method_18_code 20 = .ok (.iastore, 1) := by decide +kernel
theorem d_P_addPart_21 : decode prog_3_method_18_code 21 = .ok (.aload_n 0, 1) := by decide +kernel
theorem d_P_addPart_22 : decode prog_3_method_18_code 22 = .ok (.iload_n 1, 1) := by decide +kernel
theorem d_P_addPart_23 : decode prog_3_method_18_code 23 = .ok (.putfield 129, 3) := by decide +kernel
theorem d_P_addPart_26 : decode prog_3_method_18_code 26 = .ok (.aload_n 0, 1) := by decide +kernel
theorem d_P_addPart_27 : decode prog_3_method_18_code 27 = .ok (.iload_n 2, 1) := by decide +kernel
theorem d_P_addPart_28 : decode prog_3_method_18_code 28 = .ok (.putfield 62, 3) := by decide +kernel
theorem d_P_addPart_31 : decode prog_3_method_18_code 31 = .ok (.return_, 1) := by decide +kernel
theorem d_P_closeGroup_78 : decode prog_3_method_14_code 78 = .ok (.return_, 1) := by decide +kernel
theorem d_P_closeGroup_7 : decode prog_3_method_14_code 7 = .ok (.aload_n 0, 1) := by decide +kernel
theorem d_P_closeGroup_8 : decode prog_3_method_14_code 8 = .ok (.aload_n 0, 1) := by decide +kernel
theorem d_P_closeGroup_9 : decode prog_3_method_14_code 9 = .ok (.getfield 39, 3) := by decide +kernel
theorem d_P_closeGroup_12 : decode prog_3_method_14_code 12 = .ok (.putfield 42, 3) := by decide +kernel
theorem d_P_closeGroup_15 : decode prog_3_method_14_code 15 = .ok (.return_, 1) := by decide +kernel
theorem d_P_readNext_103 : decode prog_3_method_5_code 103 = .ok (.goto 48, 3) := by decide +kernel
theorem d_P_readNext_113 : decode prog_3_method_5_code 113 = .ok (.aload_n 0, 1) := by decide +kernel
theorem d_P_readNext_114 : decode prog_3_method_5_code 114 = .ok (.iload_n 1, 1) := by decide +kernel
theorem d_P_readNext_115 : decode prog_3_method_5_code 115 = .ok (.invokevirtual 80, 3) := by decide +kernel
theorem d_P_repeatPart_0 : decode prog_3_method_19_code 0 = .ok (.aload_n 0, 1) := by decide +kernel
theorem d_P_repeatPart_1 : decode prog_3_method_19_code 1 = .ok (.getfield 129, 3) := by decide +kernel
theorem d_P_repeatPart_4 : decode prog_3_method_19_code 4 = .ok (.iconst (-1), 1) := by decide +kernel
theorem d_P_repeatPart_5 : decode prog_3_method_19_code 5 = .ok (.if_icmp .ne 12, 3) := by decide +kernel
theorem d_P_repeatPart_17 : decode prog_3_method_19_code 17 = .ok (.aload_n 0, 1) := by decide +kernel
theorem d_P_repeatPart_18 : decode prog_3_method_19_code 18 = .ok (.getfield 27, 3) := by decide +kernel
theorem d_P_repeatPart_21 : decode prog_3_method_19_code 21 = .ok (.iconst 0, 1) := by decide +kernel
theorem d_P_repeatPart_22 : decode prog_3_method_19_code 22 = .ok (.invokevirtual 113, 3) := by decide +kernel
theorem d_P_repeatPart_25 : decode prog_3_method_19_code 25 = .ok (.istore_n 2, 1) := by decide +kernel
theorem d_P_repeatPart_26 : decode prog_3_method_19_code 26 = .ok (.aload_n 0, 1) := by decide +kernel
theorem d_P_repeatPart_27 : decode prog_3_method_19_code 27 = .ok (.getfield 27, 3) := by decide +kernel
theorem d_P_repeatPart_30 : decode prog_3_method_19_code 30 = .ok (.getfield 123, 3) := by decide +kernel
theorem d_P_repeatPart_33 : decode prog_3_method_19_code 33 = .ok (.iload_n 2, 1) := by decide +kernel
theorem d_P_repeatPart_34 : decode prog_3_method_19_code 34 = .ok (.aload_n 0, 1) := by decide +kernel
theorem d_P_repeatPart_35 : decode prog_3_method_19_code 35 = .ok (.getfield 129, 3) := by decide +kernel
theorem d_P_repeatPart_38 : decode prog_3_method_19_code 38 = .ok (.iastore, 1) := by decide +kernel
theorem d_P_repeatPart_39 : decode prog_3_method_19_code 39 = .ok (.iload_n 2, 1) := by decide +kernel
theorem d_P_repeatPart_40 : decode prog_3_method_19_code 40 = .ok (.istore_n 3, 1) := by decide +kernel
theorem d_P_repeatPart_41 : decode prog_3_method_19_code 41 = .ok (.iload_n 1, 1) := by decide +kernel
theorem d_P_repeatPart_42 : decode prog_3_method_19_code 42 = .ok (.bipush 63, 2) := by decide +kernel
theorem d_P_repeatPart_44 : decode prog_3_method_19_code 44 = .ok (.if_icmp .ne 22, 3) := by decide +kernel
theorem d_P_repeatPart_47 : decode prog_3_method_19_code 47 = .ok (.aload_n 0, 1) := by decide +kernel
theorem d_P_repeatPart_48 : decode prog_3_method_19_code 48 = .ok (.getfield 27, 3) := by decide +kernel
theorem d_P_repeatPart_51 : decode prog_3_method_19_code 51 = .ok (.iconst 0, 1) := by decide +kernel
theorem d_P_repeatPart_52 : decode prog_3_method_19_code 52 = .ok (.invokevirtual 113, 3) := by decide +kernel
theorem d_P_repeatPart_55 : decode prog_3_method_19_code 55 = .ok (.istore_n 3, 1) := by decide +kernel
theorem d_P_repeatPart_56 : decode prog_3_method_19_code 56 = .ok (.aload_n 0, 1) := by decide +kernel
theorem d_P_repeatPart_57 : decode prog_3_method_19_code 57 = .ok (.getfield 27, 3) := by decide +kernel
theorem d_P_repeatPart_60 : decode prog_3_method_19_code 60 = .ok (.getfield 59, 3) := by decide +kernel
theorem d_P_repeatPart_63 : decode prog_3_method_19_code 63 = .ok (.iload_n 2, 1) := by decide +kernel
theorem d_P_repeatPart_64 : decode prog_3_method_19_code 64 = .ok (.iload_n 3, 1) := by decide +kernel
theorem d_P_repeatPart_65 : decode prog_3_method_19_code 65 = .ok (.iastore, 1) := by decide +kernel
theorem d_P_repeatPart_8 : decode prog_3_method_19_code 8 = .ok (.aload_n 0, 1) := by decide +kernel
theorem d_P_repeatPart_9 : decode prog_3_method_19_code 9 = .ok (.aload_n 0, 1) := by decide +kernel
theorem d_P_repeatPart_10 : decode prog_3_method_19_code 10 = .ok (.getfield 39, 3) := by decide +kernel
theorem d_P_repeatPart_13 : decode prog_3_method_19_code 13 = .ok (.putfield 42, 3) := by decide +kernel
theorem d_P_repeatPart_16 : decode prog_3_method_19_code 16 = .ok (.return_, 1) := by decide +kernel
theorem d_P_repeatPart_66 : decode prog_3_method_19_code 66 = .ok (.aload_n 0, 1) := by decide +kernel
theorem d_P_repeatPart_67 : decode prog_3_method_19_code 67 = .ok (.getfield 27, 3) := by decide +kernel
theorem d_P_repeatPart_70 : decode prog_3_method_19_code 70 = .ok (.getfield 59, 3) := by decide +kernel
theorem d_P_repeatPart_73 : decode prog_3_method_19_code 73 = .ok (.aload_n 0, 1) := by decide +kernel
theorem d_P_repeatPart_74 : decode prog_3_method_19_code 74 = .ok (.getfield 62, 3) := by decide +kernel
theorem d_P_repeatPart_77 : decode prog_3_method_19_code 77 = .ok (.iload_n 3, 1) := by decide +kernel
theorem d_P_repeatPart_78 : decode prog_3_method_19_code 78 = .ok (.iastore, 1) := by decide +kernel
theorem d_P_repeatPart_79 : decode prog_3_method_19_code 79 = .ok (.aload_n 0, 1) := by decide +kernel
theorem d_P_repeatPart_80 : decode prog_3_method_19_code 80 = .ok (.iload_n 3, 1) := by decide +kernel
theorem d_P_repeatPart_81 : decode prog_3_method_19_code 81 = .ok (.putfield 62, 3) := by decide +kernel
theorem d_P_repeatPart_84 : decode prog_3_method_19_code 84 = .ok (.iload_n 1, 1) := by decide +kernel
theorem d_P_repeatPart_85 : decode prog_3_method_19_code 85 = .ok (.bipush 43, 2) := by decide +kernel
theorem d_P_repeatPart_87 : decode prog_3_method_19_code 87 = .ok (.if_icmp .eq 21, 3) := by decide +kernel
theorem d_P_repeatPart_90 : decode prog_3_method_19_code 90 = .ok (.aload_n 0, 1) := by decide +kernel
theorem d_P_repeatPart_91 : decode prog_3_method_19_code 91 = .ok (.getfield 27, 3) := by decide +kernel
theorem d_P_repeatPart_94 : decode prog_3_method_19_code 94 = .ok (.getfield 59, 3) := by decide +kernel
theorem d_P_repeatPart_97 : decode prog_3_method_19_code 97 = .ok (.aload_n 0, 1) := by decide +kernel
theorem d_P_repeatPart_98 : decode prog_3_method_19_code 98 = .ok (.getfield 126, 3) := by decide +kernel
theorem d_P_repeatPart_101 : decode prog_3_method_19_code 101 = .ok (.iload_n 2, 1) := by decide +kernel
theorem d_P_repeatPart_102 : decode prog_3_method_19_code 102 = .ok (.iastore, 1) := by decide +kernel
theorem d_P_repeatPart_103 : decode prog_3_method_19_code 103 = .ok (.aload_n 0, 1) := by decide +kernel
theorem d_P_repeatPart_104 : decode prog_3_method_19_code 104 = .ok (.iload_n 2, 1) := by decide +kernel
theorem d_P_repeatPart_105 : decode prog_3_method_19_code 105 = .ok (.putfield 129, 3) := by decide +kernel
theorem d_P_repeatPart_108 : decode prog_3_method_19_code 108 = .ok (.return_, 1) := by decide +kernel
theorem d_P_readNext_118 : decode prog_3_method_5_code 118 = .ok (.goto 33, 3) := by decide +kernel
theorem d_P_readNext_121 : decode prog_3_method_5_code 121 = .ok (.aload_n 0, 1) := by decide +kernel
theorem d_P_readNext_122 : decode prog_3_method_5_code 122 = .ok (.invokevirtual 84, 3) := by decide +kernel
theorem d_P_readSet_0 : decode prog_3_method_10_code 0 = .ok (.aload_n 0, 1) := by decide +kernel
theorem d_P_readSet_1 : decode prog_3_method_10_code 1 = .ok (.getfield 39, 3) := by decide +kernel
theorem d_P_readSet_4 : decode prog_3_method_10_code 4 = .ok (.iconst 1, 1) := by decide +kernel
theorem d_P_readSet_5 : decode prog_3_method_10_code 5 = .ok (.iadd, 1) := by decide +kernel
theorem d_P_readSet_6 : decode prog_3_method_10_code 6 = .ok (.aload_n 0, 1) := by decide +kernel
theorem d_P_readSet_7 : decode prog_3_method_10_code 7 = .ok (.getfield 35, 3) := by decide +kernel
theorem d_P_readSet_10 : decode prog_3_method_10_code 10 = .ok (.if_icmp .ge 23, 3) := by decide +kernel
theorem d_P_readSet_13 : decode prog_3_method_10_code 13 = .ok (.aload_n 0, 1) := by decide +kernel
theorem d_P_readSet_14 : decode prog_3_method_10_code 14 = .ok (.getfield 31, 3) := by decide +kernel
theorem d_P_readSet_17 : decode prog_3_method_10_code 17 = .ok (.aload_n 0, 1) := by decide +kernel
theorem d_P_readSet_18 : decode prog_3_method_10_code 18 = .ok (.getfield 39, 3) := by decide +kernel
theorem d_P_readSet_21 : decode prog_3_method_10_code 21 = .ok (.iconst 1, 1) := by decide +kernel
theorem d_P_readSet_22 : decode prog_3_method_10_code 22 = .ok (.iadd, 1) := by decide +kernel
theorem d_P_readSet_23 : decode prog_3_method_10_code 23 = .ok (.caload, 1) := by decide +kernel
theorem d_P_readSet_24 : decode prog_3_method_10_code 24 = .ok (.bipush 94, 2) := by decide +kernel
theorem d_P_readSet_26 : decode prog_3_method_10_code 26 = .ok (.if_icmp .ne 7, 3) := by decide +kernel
theorem d_P_readSet_29 : decode prog_3_method_10_code 29 = .ok (.iconst 1, 1) := by decide +kernel
theorem d_P_readSet_30 : decode prog_3_method_10_code 30 = .ok (.goto 4, 3) := by decide +kernel
theorem d_P_readSet_33 : decode prog_3_method_10_code 33 = .ok (.iconst 0, 1) := by decide +kernel
theorem d_P_readSet_34 : decode prog_3_method_10_code 34 = .ok (.istore_n 1, 1) := by decide +kernel
theorem d_P_readSet_35 : decode prog_3_method_10_code 35 = .ok (.aload_n 0, 1) := by decide +kernel
theorem d_P_readSet_36 : decode prog_3_method_10_code 36 = .ok (.dup, 1) := by decide +kernel
theorem d_P_readSet_37 : decode prog_3_method_10_code 37 = .ok (.getfield 39, 3) := by decide +kernel
theorem d_P_readSet_40 : decode prog_3_method_10_code 40 = .ok (.iload_n 1, 1) := by decide +kernel
theorem d_P_readSet_41 : decode prog_3_method_10_code 41 = .ok (.ifCond .eq 7, 3) := by decide +kernel
theorem d_P_readSet_48 : decode prog_3_method_10_code 48 = .ok (.iconst 1, 1) := by decide +kernel
theorem d_P_readSet_44 : decode prog_3_method_10_code 44 = .ok (.iconst 2, 1) := by decide +kernel
theorem d_P_readSet_45 : decode prog_3_method_10_code 45 = .ok (.goto 4, 3) := by decide +kernel
theorem d_P_readSet_49 : decode prog_3_method_10_code 49 = .ok (.iadd, 1) := by decide +kernel
theorem d_P_readSet_50 : decode prog_3_method_10_code 50 = .ok (.putfield 39, 3) := by decide +kernel
theorem d_P_readSet_53 : decode prog_3_method_10_code 53 = .ok (.aload_n 0, 1) := by decide +kernel
theorem d_P_readSet_54 : decode prog_3_method_10_code 54 = .ok (.getfield 39, 3) := by decide +kernel
theorem d_P_readSet_57 : decode prog_3_method_10_code 57 = .ok (.istore_n 2, 1) := by decide +kernel
theorem d_P_readSet_58 : decode prog_3_method_10_code 58 = .ok (.aload_n 0, 1) := by decide +kernel
theorem d_P_readSet_59 : decode prog_3_method_10_code 59 = .ok (.iconst 1, 1) := by decide +kernel
theorem d_P_readSet_60 : decode prog_3_method_10_code 60 = .ok (.invokevirtual 93, 3) := by decide +kernel
theorem d_P_addNodeAsPart_0 : decode prog_3_method_17_code 0 = .ok (.aload_n 0, 1) := by decide +kernel
theorem d_P_addNodeAsPart_1 : decode prog_3_method_17_code 1 = .ok (.getfield 27, 3) := by decide +kernel
theorem d_P_addNodeAsPart_4 : decode prog_3_method_17_code 4 = .ok (.iload_n 1, 1) := by decide +kernel
theorem d_P_addNodeAsPart_5 : decode prog_3_method_17_code 5 = .ok (.invokevirtual 113, 3) := by decide +kernel
theorem d_P_addNodeAsPart_8 : decode prog_3_method_17_code 8 = .ok (.istore_n 2, 1) := by decide +kernel
theorem d_P_addNodeAsPart_9 : decode prog_3_method_17_code 9 = .ok (.aload_n 0, 1) := by decide +kernel
theorem d_P_addNodeAsPart_10 : decode prog_3_method_17_code 10 = .ok (.iload_n 2, 1) := by decide +kernel
theorem d_P_addNodeAsPart_11 : decode prog_3_method_17_code 11 = .ok (.iload_n 2, 1) := by decide +kernel
theorem d_P_addNodeAsPart_12 : decode prog_3_method_17_code 12 = .ok (.invokevirtual 119, 3) := by decide +kernel
theorem d_P_addNodeAsPart_15 : decode prog_3_method_17_code 15 = .ok (.iload_n 2, 1) := by decide +kernel
theorem d_P_addNodeAsPart_16 : decode prog_3_method_17_code 16 = .ok (.ireturn, 1) := by decide +kernel
theorem d_P_readSet_63 : decode prog_3_method_10_code 63 = .ok (.istore_n 3, 1) := by decide +kernel
theorem d_P_readSet_64 : decode prog_3_method_10_code 64 = .ok (.iconst 0, 1) := by decide +kernel
theorem d_P_readSet_65 : decode prog_3_method_10_code 65 = .ok (.istore 4, 2) := by decide +kernel
theorem d_P_readSet_67 : decode prog_3_method_10_code 67 = .ok (.iload 4, 2) := by decide +kernel
theorem d_P_readSet_69 : decode prog_3_method_10_code 69 = .ok (.aload_n 0, 1) := by decide +kernel
theorem d_P_readSet_70 : decode prog_3_method_10_code 70 = .ok (.getfield 35, 3) := by decide +kernel
theorem d_P_readSet_73 : decode prog_3_method_10_code 73 = .ok (.if_icmp .ge 39, 3) := by decide +kernel
theorem d_P_readSet_76 : decode prog_3_method_10_code 76 = .ok (.aload_n 0, 1) := by decide +kernel
theorem d_P_readSet_77 : decode prog_3_method_10_code 77 = .ok (.getfield 39, 3) := by decide +kernel
theorem d_P_readSet_80 : decode prog_3_method_10_code 80 = .ok (.aload_n 0, 1) := by decide +kernel
theorem d_P_readSet_81 : decode prog_3_method_10_code 81 = .ok (.getfield 35, 3) := by decide +kernel
theorem d_P_readSet_84 : decode prog_3_method_10_code 84 = .ok (.if_icmp .ge 28, 3) := by decide +kernel
theorem d_P_readSet_87 : decode prog_3_method_10_code 87 = .ok (.aload_n 0, 1) := by decide +kernel
theorem d_P_readSet_88 : decode prog_3_method_10_code 88 = .ok (.getfield 31, 3) := by decide +kernel
theorem d_P_readSet_91 : decode prog_3_method_10_code 91 = .ok (.aload_n 0, 1) := by decide +kernel
theorem d_P_readSet_92 : decode prog_3_method_10_code 92 = .ok (.getfield 39, 3) := by decide +kernel
theorem d_P_readSet_95 : decode prog_3_method_10_code 95 = .ok (.caload, 1) := by decide +kernel
theorem d_P_readSet_96 : decode prog_3_method_10_code 96 = .ok (.bipush 93, 2) := by decide +kernel
theorem d_P_readSet_98 : decode prog_3_method_10_code 98 = .ok (.if_icmp .eq 14, 3) := by decide +kernel
theorem d_P_readSet_101 : decode prog_3_method_10_code 101 = .ok (.aload_n 0, 1) := by decide +kernel
theorem d_P_readSet_102 : decode prog_3_method_10_code 102 = .ok (.iload_n 3, 1) := by decide +kernel
theorem d_P_readSet_103 : decode prog_3_method_10_code 103 = .ok (.invokevirtual 110, 3) := by decide +kernel
theorem d_P_readRange_0 : decode prog_3_method_11_code 0 = .ok (.aload_n 0, 1) := by decide +kernel
theorem d_P_readRange_1 : decode prog_3_method_11_code 1 = .ok (.getfield 31, 3) := by decide +kernel
theorem d_P_readRange_4 : decode prog_3_method_11_code 4 = .ok (.aload_n 0, 1) := by decide +kernel
theorem d_P_readRange_5 : decode prog_3_method_11_code 5 = .ok (.getfield 39, 3) := by decide +kernel
theorem d_P_readRange_8 : decode prog_3_method_11_code 8 = .ok (.caload, 1) := by decide +kernel
theorem d_P_readRange_9 : decode prog_3_method_11_code 9 = .ok (.istore_n 2, 1) := by decide +kernel
theorem d_P_readRange_10 : decode prog_3_method_11_code 10 = .ok (.aload_n 0, 1) := by decide +kernel
theorem d_P_readRange_11 : decode prog_3_method_11_code 11 = .ok (.getfield 39, 3) := by decide +kernel
theorem d_P_readRange_14 : decode prog_3_method_11_code 14 = .ok (.iconst 2, 1) := by decide +kernel
theorem d_P_readRange_15 : decode prog_3_method_11_code 15 = .ok (.iadd, 1) := by decide +kernel
theorem d_P_readRange_16 : decode prog_3_method_11_code 16 = .ok (.aload_n 0, 1) := by decide +kernel
theorem d_P_readRange_17 : decode prog_3_method_11_code 17 = .ok (.getfield 35, 3) := by decide +kernel
theorem d_P_readRange_20 : decode prog_3_method_11_code 20 = .ok (.if_icmp .ge 54, 3) := by decide +kernel
theorem d_P_readRange_23 : decode prog_3_method_11_code 23 = .ok (.aload_n 0, 1) := by decide +kernel
theorem d_P_readRange_24 : decode prog_3_method_11_code 24 = .ok (.getfield 31, 3) := by decide +kernel
theorem d_P_readRange_27 : decode prog_3_method_11_code 27 = .ok (.aload_n 0, 1) := by decide +kernel
theorem d_P_readRange_28 : decode prog_3_method_11_code 28 = .ok (.getfield 39, 3) := by decide +kernel
theorem d_P_readRange_31 : decode prog_3_method_11_code 31 = .ok (.iconst 1, 1) := by decide +kernel
theorem d_P_readRange_32 : decode prog_3_method_11_code 32 = .ok (.iadd, 1) := by decide +kernel
theorem d_P_readRange_33 : decode prog_3_method_11_code 33 = .ok (.caload, 1) := by decide +kernel
theorem d_P_readRange_34 : decode prog_3_method_11_code 34 = .ok (.bipush 45, 2) := by decide +kernel
-- 14.dec07
theorem d_P_readRange_36 : decode prog_3_method_11_code 36 = .ok (.if_icmp .ne 38, 3) := by decide +kernel
theorem d_P_readRange_39 : decode prog_3_method_11_code 39 = .ok (.aload_n 0, 1) := by decide +kernel
theorem d_P_readRange_40 : decode prog_3_method_11_code 40 = .ok (.getfield 31, 3) := by decide +kernel
theorem d_P_readRange_43 : decode prog_3_method_11_code 43 = .ok (.aload_n 0, 1) := by decide +kernel
theorem d_P_readRange_44 : decode prog_3_method_11_code 44 = .ok (.getfield 39, 3) := by decide +kernel
theorem d_P_readRange_47 : decode prog_3_method_11_code 47 = .ok (.iconst 2, 1) := by decide +kernel
theorem d_P_readRange_48 : decode prog_3_method_11_code 48 = .ok (.iadd, 1) := by decide +kernel
theorem d_P_readRange_49 : decode prog_3_method_11_code 49 = .ok (.caload, 1) := by decide +kernel
theorem d_P_readRange_50 : decode prog_3_method_11_code 50 = .ok (.bipush 93, 2) := by decide +kernel
theorem d_P_readRange_52 : decode prog_3_method_11_code 52 = .ok (.if_icmp .eq 22, 3) := by decide +kernel
theorem d_P_readRange_55 : decode prog_3_method_11_code 55 = .ok (.aload_n 0, 1) := by decide +kernel
theorem d_P_readRange_56 : decode prog_3_method_11_code 56 = .ok (.getfield 31, 3) := by decide +kernel
theorem d_P_readRange_59 : decode prog_3_method_11_code 59 = .ok (.aload_n 0, 1) := by decide +kernel
theorem d_P_readRange_60 : decode prog_3_method_11_code 60 = .ok (.getfield 39, 3) := by decide +kernel
theorem d_P_readRange_63 : decode prog_3_method_11_code 63 = .ok (.iconst 2, 1) := by decide +kernel
theorem d_P_readRange_64 : decode prog_3_method_11_code 64 = .ok (.iadd, 1) := by decide +kernel
theorem d_P_readRange_65 : decode prog_3_method_11_code 65 = .ok (.caload, 1) := by decide +kernel
theorem d_P_readRange_66 : decode prog_3_method_11_code 66 = .ok (.iload_n 2, 1) := by decide +kernel
theorem d_P_readRange_67 : decode prog_3_method_11_code 67 = .ok (.if_icmp .lt 7, 3) := by decide +kernel
theorem d_P_readRange_70 : decode prog_3_method_11_code 70 = .ok (.iconst 1, 1) := by decide +kernel
theorem d_P_readRange_71 : decode prog_3_method_11_code 71 = .ok (.goto 4, 3) := by decide +kernel
theorem d_P_readRange_74 : decode prog_3_method_11_code 74 = .ok (.iconst 0, 1) := by decide +kernel
theorem d_P_readRange_75 : decode prog_3_method_11_code 75 = .ok (.istore_n 3, 1) := by decide +kernel
theorem d_P_readRange_76 : decode prog_3_method_11_code 76 = .ok (.iload_n 3, 1) := by decide +kernel
theorem d_P_readRange_77 : decode prog_3_method_11_code 77 = .ok (.ifCond .eq 36, 3) := by decide +kernel
theorem d_P_readRange_113 : decode prog_3_method_11_code 113 = .ok (.aload_n 0, 1) := by decide +kernel
theorem d_P_readRange_114 : decode prog_3_method_11_code 114 = .ok (.getfield 27, 3) := by decide +kernel
theorem d_P_readRange_117 : decode prog_3_method_11_code 117 = .ok (.iload_n 1, 1) := by decide +kernel
theorem d_P_readRange_118 : decode prog_3_method_11_code 118 = .ok (.iload_n 2, 1) := by decide +kernel
theorem d_P_readRange_119 : decode prog_3_method_11_code 119 = .ok (.iload_n 2, 1) := by decide +kernel
theorem d_P_readRange_120 : decode prog_3_method_11_code 120 = .ok (.invokevirtual 103, 3) := by decide +kernel
theorem d_A_takeCodes_0 : decode prog_2_method_3_code 0 = .ok (.iload_n 2, 1) := by decide +kernel
theorem d_A_takeCodes_1 : decode prog_2_method_3_code 1 = .ok (.istore 4, 2) := by decide +kernel
theorem d_A_takeCodes_3 : decode prog_2_method_3_code 3 = .ok (.iload 4, 2) := by decide +kernel
theorem d_A_takeCodes_5 : decode prog_2_method_3_code 5 = .ok (.iload_n 3, 1) := by decide +kernel
theorem d_A_takeCodes_6 : decode prog_2_method_3_code 6 = .ok (.if_icmp .gt 48, 3) := by decide +kernel
theorem d_A_takeCodes_54 : decode prog_2_method_3_code 54 = .ok (.return_, 1) := by decide +kernel
theorem d_A_takeCodes_9 : decode prog_2_method_3_code 9 = .ok (.iload 4, 2) := by decide +kernel
theorem d_A_takeCodes_11 : decode prog_2_method_3_code 11 = .ok (.bipush 64, 2) := by decide +kernel
theorem d_A_takeCodes_13 : decode prog_2_method_3_code 13 = .ok (.if_icmp .ge 19, 3) := by decide +kernel
theorem d_A_takeCodes_32 : decode prog_2_method_3_code 32 = .ok (.aload_n 0, 1) := by decide +kernel
theorem d_A_takeCodes_33 : decode prog_2_method_3_code 33 = .ok (.getfield 25, 3) := by decide +kernel
theorem d_A_takeCodes_36 : decode prog_2_method_3_code 36 = .ok (.iload_n 1, 1) := by decide +kernel
theorem d_A_takeCodes_37 : decode prog_2_method_3_code 37 = .ok (.dup2, 1) := by decide +kernel
theorem d_A_takeCodes_38 : decode prog_2_method_3_code 38 = .ok (.laload, 1) := by decide +kernel
theorem d_A_takeCodes_39 : decode prog_2_method_3_code 39 = .ok (.lconst 1, 1) := by decide +kernel
theorem d_A_takeCodes_40 : decode prog_2_method_3_code 40 = .ok (.iload 4, 2) := by decide +kernel
theorem d_A_takeCodes_42 : decode prog_2_method_3_code 42 = .ok (.bipush 64, 2) := by decide +kernel
theorem d_A_takeCodes_44 : decode prog_2_method_3_code 44 = .ok (.isub, 1) := by decide +kernel
theorem d_A_takeCodes_45 : decode prog_2_method_3_code 45 = .ok (.lshl, 1) := by decide +kernel
theorem d_A_takeCodes_46 : decode prog_2_method_3_code 46 = .ok (.lor, 1) := by decide +kernel
theorem d_A_takeCodes_47 : decode prog_2_method_3_code 47 = .ok (.lastore, 1) := by decide +kernel
theorem d_A_takeCodes_16 : decode prog_2_method_3_code 16 = .ok (.aload_n 0, 1) := by decide +kernel
theorem d_A_takeCodes_17 : decode prog_2_method_3_code 17 = .ok (.getfield 21, 3) := by decide +kernel
theorem d_A_takeCodes_20 : decode prog_2_method_3_code 20 = .ok (.iload_n 1, 1) := by decide +kernel
theorem d_A_takeCodes_21 : decode prog_2_method_3_code 21 = .ok (.dup2, 1) := by decide +kernel
theorem d_A_takeCodes_22 : decode prog_2_method_3_code 22 = .ok (.laload, 1) := by decide +kernel
theorem d_A_takeCodes_23 : decode prog_2_method_3_code 23 = .ok (.lconst 1, 1) := by decide +kernel
theorem d_A_takeCodes_24 : decode prog_2_method_3_code 24 = .ok (.iload 4, 2) := by decide +kernel
theorem d_A_takeCodes_26 : decode prog_2_method_3_code 26 = .ok (.lshl, 1) := by decide +kernel
theorem d_A_takeCodes_27 : decode prog_2_method_3_code 27 = .ok (.lor, 1) := by decide +kernel
theorem d_A_takeCodes_28 : decode prog_2_method_3_code 28 = .ok (.lastore, 1) := by decide +kernel
theorem d_A_takeCodes_29 : decode prog_2_method_3_code 29 = .ok (.goto 19, 3) := by decide +kernel
theorem d_A_takeCodes_48 : decode prog_2_method_3_code 48 = .ok (.iinc 4 1, 3) := by decide +kernel
theorem d_A_takeCodes_51 : decode prog_2_method_3_code 51 = .ok (.goto (-48), 3) := by decide +kernel
theorem d_P_readRange_123 : decode prog_3_method_11_code 123 = .ok (.aload_n 0, 1) := by decide +kernel
theorem d_P_readRange_124 : decode prog_3_method_11_code 124 = .ok (.dup, 1) := by decide +kernel
theorem d_P_readRange_125 : decode prog_3_method_11_code 125 = .ok (.getfield 39, 3) := by decide +kernel
theorem d_P_readRange_128 : decode prog_3_method_11_code 128 = .ok (.iconst 1, 1) := by decide +kernel
theorem d_P_readRange_129 : decode prog_3_method_11_code 129 = .ok (.iadd, 1) := by decide +kernel
theorem d_P_readRange_130 : decode prog_3_method_11_code 130 = .ok (.putfield 39, 3) := by decide +kernel
theorem d_P_readRange_80 : decode prog_3_method_11_code 80 = .ok (.aload_n 0, 1) := by decide +kernel
theorem d_P_readRange_81 : decode prog_3_method_11_code 81 = .ok (.getfield 27, 3) := by decide +kernel
theorem d_P_readRange_84 : decode prog_3_method_11_code 84 = .ok (.iload_n 1, 1) := by decide +kernel
theorem d_P_readRange_85 : decode prog_3_method_11_code 85 = .ok (.iload_n 2, 1) := by decide +kernel
theorem d_P_readRange_86 : decode prog_3_method_11_code 86 = .ok (.aload_n 0, 1) := by decide +kernel
theorem d_P_readRange_87 : decode prog_3_method_11_code 87 = .ok (.getfield 31, 3) := by decide +kernel
theorem d_P_readRange_90 : decode prog_3_method_11_code 90 = .ok (.aload_n 0, 1) := by decide +kernel
theorem d_P_readRange_91 : decode prog_3_method_11_code 91 = .ok (.getfield 39, 3) := by decide +kernel
theorem d_P_readRange_94 : decode prog_3_method_11_code 94 = .ok (.iconst 2, 1) := by decide +kernel
theorem d_P_readRange_95 : decode prog_3_method_11_code 95 = .ok (.iadd, 1) := by decide +kernel
theorem d_P_readRange_96 : decode prog_3_method_11_code 96 = .ok (.caload, 1) := by decide +kernel
theorem d_P_readRange_97 : decode prog_3_method_11_code 97 = .ok (.invokevirtual 103, 3) := by decide +kernel
theorem d_P_readRange_100 : decode prog_3_method_11_code 100 = .ok (.aload_n 0, 1) := by decide +kernel
theorem d_P_readRange_101 : decode prog_3_method_11_code 101 = .ok (.dup, 1) := by decide +kernel
theorem d_P_readRange_102 : decode prog_3_method_11_code 102 = .ok (.getfield 39, 3) := by decide +kernel
theorem d_P_readRange_105 : decode prog_3_method_11_code 105 = .ok (.iconst 3, 1) := by decide +kernel
theorem d_P_readRange_106 : decode prog_3_method_11_code 106 = .ok (.iadd, 1) := by decide +kernel
theorem d_P_readRange_107 : decode prog_3_method_11_code 107 = .ok (.putfield 39, 3) := by decide +kernel
theorem d_P_readRange_110 : decode prog_3_method_11_code 110 = .ok (.goto 23, 3) := by decide +kernel
theorem d_P_readRange_133 : decode prog_3_method_11_code 133 = .ok (.return_, 1) := by decide +kernel
theorem d_P_readSet_106 : decode prog_3_method_10_code 106 = .ok (.iinc 4 1, 3) := by decide +kernel
theorem d_P_readSet_109 : decode prog_3_method_10_code 109 = .ok (.goto (-42), 3) := by decide +kernel
theorem d_P_readSet_112 : decode prog_3_method_10_code 112 = .ok (.aload_n 0, 1) := by decide +kernel
theorem d_P_readSet_113 : decode prog_3_method_10_code 113 = .ok (.getfield 39, 3) := by decide +kernel
theorem d_P_readSet_116 : decode prog_3_method_10_code 116 = .ok (.aload_n 0, 1) := by decide +kernel
theorem d_P_readSet_117 : decode prog_3_method_10_code 117 = .ok (.getfield 35, 3) := by decide +kernel
theorem d_P_readSet_120 : decode prog_3_method_10_code 120 = .ok (.if_icmp .eq 11, 3) := by decide +kernel
theorem d_P_readSet_123 : decode prog_3_method_10_code 123 = .ok (.aload_n 0, 1) := by decide +kernel
theorem d_P_readSet_124 : decode prog_3_method_10_code 124 = .ok (.getfield 39, 3) := by decide +kernel
theorem d_P_readSet_127 : decode prog_3_method_10_code 127 = .ok (.iload_n 2, 1) := by decide +kernel
theorem d_P_readSet_128 : decode prog_3_method_10_code 128 = .ok (.if_icmp .ne 12, 3) := by decide +kernel
theorem d_P_readSet_140 : decode prog_3_method_10_code 140 = .ok (.iload_n 1, 1) := by decide +kernel
theorem d_P_readSet_141 : decode prog_3_method_10_code 141 = .ok (.ifCond .eq 11, 3) := by decide +kernel
theorem d_P_readSet_144 : decode prog_3_method_10_code 144 = .ok (.aload_n 0, 1) := by decide +kernel
theorem d_P_readSet_145 : decode prog_3_method_10_code 145 = .ok (.getfield 27, 3) := by decide +kernel
theorem d_P_readSet_148 : decode prog_3_method_10_code 148 = .ok (.iload_n 3, 1) := by decide +kernel
theorem d_P_readSet_149 : decode prog_3_method_10_code 149 = .ok (.invokevirtual 107, 3) := by decide +kernel
theorem d_A_takeOtherCodes_0 : decode prog_2_method_4_code 0 = .ok (.aload_n 0, 1) := by decide +kernel
theorem d_A_takeOtherCodes_1 : decode prog_2_method_4_code 1 = .ok (.getfield 21, 3) := by decide +kernel
theorem d_A_takeOtherCodes_4 : decode prog_2_method_4_code 4 = .ok (.iload_n 1, 1) := by decide +kernel
theorem d_A_takeOtherCodes_5 : decode prog_2_method_4_code 5 = .ok (.aload_n 0, 1) := by decide +kernel
theorem d_A_takeOtherCodes_6 : decode prog_2_method_4_code 6 = .ok (.getfield 21, 3) := by decide +kernel
theorem d_A_takeOtherCodes_9 : decode prog_2_method_4_code 9 = .ok (.iload_n 1, 1) := by decide +kernel
theorem d_A_takeOtherCodes_10 : decode prog_2_method_4_code 10 = .ok (.laload, 1) := by decide +kernel
theorem d_A_takeOtherCodes_11 : decode prog_2_method_4_code 11 = .ok (.ldc2_w 32, 3) := by decide +kernel
theorem d_A_takeOtherCodes_14 : decode prog_2_method_4_code 14 = .ok (.lxor, 1) := by decide +kernel
theorem d_A_takeOtherCodes_15 : decode prog_2_method_4_code 15 = .ok (.lastore, 1) := by decide +kernel
theorem d_A_takeOtherCodes_16 : decode prog_2_method_4_code 16 = .ok (.aload_n 0, 1) := by decide +kernel
theorem d_A_takeOtherCodes_17 : decode prog_2_method_4_code 17 = .ok (.getfield 25, 3) := by decide +kernel
theorem d_A_takeOtherCodes_20 : decode prog_2_method_4_code 20 = .ok (.iload_n 1, 1) := by decide +kernel
theorem d_A_takeOtherCodes_21 : decode prog_2_method_4_code 21 = .ok (.aload_n 0, 1) := by decide +kernel
theorem d_A_takeOtherCodes_22 : decode prog_2_method_4_code 22 = .ok (.getfield 25, 3) := by decide +kernel
theorem d_A_takeOtherCodes_25 : decode prog_2_method_4_code 25 = .ok (.iload_n 1, 1) := by decide +kernel
theorem d_A_takeOtherCodes_26 : decode prog_2_method_4_code 26 = .ok (.laload, 1) := by decide +kernel
theorem d_A_takeOtherCodes_27 : decode prog_2_method_4_code 27 = .ok (.ldc2_w 32, 3) := by decide +kernel
theorem d_A_takeOtherCodes_30 : decode prog_2_method_4_code 30 = .ok (.lxor, 1) := by decide +kernel
theorem d_A_takeOtherCodes_31 : decode prog_2_method_4_code 31 = .ok (.lastore, 1) := by decide +kernel
theorem d_A_takeOtherCodes_32 : decode prog_2_method_4_code 32 = .ok (.return_, 1) := by decide +kernel
theorem d_P_readSet_131 : decode prog_3_method_10_code 131 = .ok (.aload_n 0, 1) := by decide +kernel
theorem d_P_readSet_132 : decode prog_3_method_10_code 132 = .ok (.aload_n 0, 1) := by decide +kernel
theorem d_P_readSet_133 : decode prog_3_method_10_code 133 = .ok (.getfield 39, 3) := by decide +kernel
theorem d_P_readSet_136 : decode prog_3_method_10_code 136 = .ok (.putfield 42, 3) := by decide +kernel
theorem d_P_readSet_139 : decode prog_3_method_10_code 139 = .ok (.return_, 1) := by decide +kernel
theorem d_P_readSet_152 : decode prog_3_method_10_code 152 = .ok (.return_, 1) := by decide +kernel
theorem d_P_readNext_125 : decode prog_3_method_5_code 125 = .ok (.goto 26, 3) := by decide +kernel
theorem d_P_readNext_139 : decode prog_3_method_5_code 139 = .ok (.aload_n 0, 1) := by decide +kernel
theorem d_P_readNext_140 : decode prog_3_method_5_code 140 = .ok (.invokevirtual 87, 3) := by decide +kernel
theorem d_P_readEscaped_0 : decode prog_3_method_9_code 0 = .ok (.aload_n 0, 1) := by decide +kernel
theorem d_P_readEscaped_1 : decode prog_3_method_9_code 1 = .ok (.dup, 1) := by decide +kernel
theorem d_P_readEscaped_2 : decode prog_3_method_9_code 2 = .ok (.getfield 39, 3) := by decide +kernel
theorem d_P_readEscaped_5 : decode prog_3_method_9_code 5 = .ok (.iconst 1, 1) := by decide +kernel
theorem d_P_readEscaped_6 : decode prog_3_method_9_code 6 = .ok (.iadd, 1) := by decide +kernel
theorem d_P_readEscaped_7 : decode prog_3_method_9_code 7 = .ok (.putfield 39, 3) := by decide +kernel
theorem d_P_readEscaped_10 : decode prog_3_method_9_code 10 = .ok (.aload_n 0, 1) := by decide +kernel
theorem d_P_readEscaped_11 : decode prog_3_method_9_code 11 = .ok (.getfield 39, 3) := by decide +kernel
theorem d_P_readEscaped_14 : decode prog_3_method_9_code 14 = .ok (.aload_n 0, 1) := by decide +kernel
theorem d_P_readEscaped_15 : decode prog_3_method_9_code 15 = .ok (.getfield 35, 3) := by decide +kernel
theorem d_P_readEscaped_18 : decode prog_3_method_9_code 18 = .ok (.if_icmp .ne 12, 3) := by decide +kernel
theorem d_P_readEscaped_30 : decode prog_3_method_9_code 30 = .ok (.aload_n 0, 1) := by decide +kernel
theorem d_P_readEscaped_31 : decode prog_3_method_9_code 31 = .ok (.aload_n 0, 1) := by decide +kernel
theorem d_P_readEscaped_32 : decode prog_3_method_9_code 32 = .ok (.getfield 31, 3) := by decide +kernel
theorem d_P_readEscaped_35 : decode prog_3_method_9_code 35 = .ok (.aload_n 0, 1) := by decide +kernel
theorem d_P_readEscaped_36 : decode prog_3_method_9_code 36 = .ok (.getfield 39, 3) := by decide +kernel
theorem d_P_readEscaped_39 : decode prog_3_method_9_code 39 = .ok (.caload, 1) := by decide +kernel
theorem d_P_readEscaped_40 : decode prog_3_method_9_code 40 = .ok (.invokevirtual 100, 3) := by decide +kernel
theorem d_P_readLiteral_0 : decode prog_3_method_8_code 0 = .ok (.aload_n 0, 1) := by decide +kernel
theorem d_P_readLiteral_1 : decode prog_3_method_8_code 1 = .ok (.iconst 1, 1) := by decide +kernel
theorem d_P_readLiteral_2 : decode prog_3_method_8_code 2 = .ok (.invokevirtual 93, 3) := by decide +kernel
theorem d_P_readLiteral_5 : decode prog_3_method_8_code 5 = .ok (.istore_n 2, 1) := by decide +kernel
theorem d_P_readLiteral_6 : decode prog_3_method_8_code 6 = .ok (.aload_n 0, 1) := by decide +kernel
theorem d_P_readLiteral_7 : decode prog_3_method_8_code 7 = .ok (.getfield 27, 3) := by decide +kernel
theorem d_P_readLiteral_10 : decode prog_3_method_8_code 10 = .ok (.iload_n 2, 1) := by decide +kernel
theorem d_P_readLiteral_11 : decode prog_3_method_8_code 11 = .ok (.iload_n 1, 1) := by decide +kernel
theorem d_P_readLiteral_12 : decode prog_3_method_8_code 12 = .ok (.iload_n 1, 1) := by decide +kernel
theorem d_P_readLiteral_13 : decode prog_3_method_8_code 13 = .ok (.invokevirtual 103, 3) := by decide +kernel
theorem d_P_readLiteral_16 : decode prog_3_method_8_code 16 = .ok (.return_, 1) := by decide +kernel
theorem d_P_readEscaped_43 : decode prog_3_method_9_code 43 = .ok (.return_, 1) := by decide +kernel
theorem d_P_readEscaped_21 : decode prog_3_method_9_code 21 = .ok (.aload_n 0, 1) := by decide +kernel
theorem d_P_readEscaped_22 : decode prog_3_method_9_code 22 = .ok (.aload_n 0, 1) := by decide +kernel
theorem d_P_readEscaped_23 : decode prog_3_method_9_code 23 = .ok (.getfield 39, 3) := by decide +kernel
theorem d_P_readEscaped_26 : decode prog_3_method_9_code 26 = .ok (.putfield 42, 3) := by decide +kernel
theorem d_P_readEscaped_29 : decode prog_3_method_9_code 29 = .ok (.return_, 1) := by decide +kernel
theorem d_P_readNext_143 : decode prog_3_method_5_code 143 = .ok (.goto 8, 3) := by decide +kernel
theorem d_P_readNext_128 : decode prog_3_method_5_code 128 = .ok (.aload_n 0, 1) := by decide +kernel
theorem d_P_readNext_129 : decode prog_3_method_5_code 129 = .ok (.aload_n 0, 1) := by decide +kernel
theorem d_P_readNext_130 : decode prog_3_method_5_code 130 = .ok (.getfield 39, 3) := by decide +kernel
theorem d_P_readNext_133 : decode prog_3_method_5_code 133 = .ok (.putfield 42, 3) := by decide +kernel
theorem d_P_readNext_136 : decode prog_3_method_5_code 136 = .ok (.goto 15, 3) := by decide +kernel
theorem d_P_readNext_106 : decode prog_3_method_5_code 106 = .ok (.aload_n 0, 1) := by decide +kernel
theorem d_P_readNext_107 : decode prog_3_method_5_code 107 = .ok (.invokevirtual 77, 3) := by decide +kernel
theorem d_P_openRow_0 : decode prog_3_method_15_code 0 = .ok (.aload_n 0, 1) := by decide +kernel
theorem d_P_openRow_1 : decode prog_3_method_15_code 1 = .ok (.getfield 27, 3) := by decide +kernel
theorem d_P_openRow_4 : decode prog_3_method_15_code 4 = .ok (.getfield 59, 3) := by decide +kernel
theorem d_P_openRow_7 : decode prog_3_method_15_code 7 = .ok (.aload_n 0, 1) := by decide +kernel
theorem d_P_openRow_8 : decode prog_3_method_15_code 8 = .ok (.getfield 62, 3) := by decide +kernel
theorem d_P_openRow_11 : decode prog_3_method_15_code 11 = .ok (.aload_n 0, 1) := by decide +kernel
theorem d_P_openRow_12 : decode prog_3_method_15_code 12 = .ok (.getfield 15, 3) := by decide +kernel
theorem d_P_openRow_15 : decode prog_3_method_15_code 15 = .ok (.aload_n 0, 1) := by decide +kernel
theorem d_P_openRow_16 : decode prog_3_method_15_code 16 = .ok (.getfield 46, 3) := by decide +kernel
theorem d_P_openRow_19 : decode prog_3_method_15_code 19 = .ok (.iaload, 1) := by decide +kernel
theorem d_P_openRow_20 : decode prog_3_method_15_code 20 = .ok (.iastore, 1) := by decide +kernel
theorem d_P_openRow_21 : decode prog_3_method_15_code 21 = .ok (.aload_n 0, 1) := by decide +kernel
theorem d_P_openRow_22 : decode prog_3_method_15_code 22 = .ok (.getfield 27, 3) := by decide +kernel
theorem d_P_openRow_25 : decode prog_3_method_15_code 25 = .ok (.iconst 0, 1) := by decide +kernel
theorem d_P_openRow_26 : decode prog_3_method_15_code 26 = .ok (.invokevirtual 113, 3) := by decide +kernel
theorem d_P_openRow_29 : decode prog_3_method_15_code 29 = .ok (.istore_n 1, 1) := by decide +kernel
theorem d_P_openRow_30 : decode prog_3_method_15_code 30 = .ok (.aload_n 0, 1) := by decide +kernel
theorem d_P_openRow_31 : decode prog_3_method_15_code 31 = .ok (.getfield 27, 3) := by decide +kernel
theorem d_P_openRow_34 : decode prog_3_method_15_code 34 = .ok (.getfield 123, 3) := by decide +kernel
theorem d_P_openRow_37 : decode prog_3_method_15_code 37 = .ok (.aload_n 0, 1) := by decide +kernel
theorem d_P_openRow_38 : decode prog_3_method_15_code 38 = .ok (.getfield 18, 3) := by decide +kernel
theorem d_P_openRow_41 : decode prog_3_method_15_code 41 = .ok (.aload_n 0, 1) := by decide +kernel
theorem d_P_openRow_42 : decode prog_3_method_15_code 42 = .ok (.getfield 46, 3) := by decide +kernel
theorem d_P_openRow_45 : decode prog_3_method_15_code 45 = .ok (.iaload, 1) := by decide +kernel
theorem d_P_openRow_46 : decode prog_3_method_15_code 46 = .ok (.iload_n 1, 1) := by decide +kernel
theorem d_P_openRow_47 : decode prog_3_method_15_code 47 = .ok (.iastore, 1) := by decide +kernel
theorem d_P_openRow_48 : decode prog_3_method_15_code 48 = .ok (.aload_n 0, 1) := by decide +kernel
theorem d_P_openRow_49 : decode prog_3_method_15_code 49 = .ok (.iload_n 1, 1) := by decide +kernel
theorem d_P_openRow_50 : decode prog_3_method_15_code 50 = .ok (.invokevirtual 116, 3) := by decide +kernel
theorem d_P_openRow_53 : decode prog_3_method_15_code 53 = .ok (.return_, 1) := by decide +kernel
theorem d_P_readNext_110 : decode prog_3_method_5_code 110 = .ok (.goto 41, 3) := by decide +kernel
theorem d_P_readNext_146 : decode prog_3_method_5_code 146 = .ok (.aload_n 0, 1) := by decide +kernel
theorem d_P_readNext_147 : decode prog_3_method_5_code 147 = .ok (.iload_n 1, 1) := by decide +kernel
theorem d_P_readNext_148 : decode prog_3_method_5_code 148 = .ok (.invokevirtual 90, 3) := by decide +kernel
theorem d_P_readSingle_0 : decode prog_3_method_6_code 0 = .ok (.iload_n 1, 1) := by decide +kernel
theorem d_P_readSingle_1 : decode prog_3_method_6_code 1 = .ok (.lookupswitch 60 #[(36, 44), (46, 53), (94, 35)], 35) := by decide +kernel
theorem d_P_readSingle_45 : decode prog_3_method_6_code 45 = .ok (.aload_n 0, 1) := by decide +kernel
theorem d_P_readSingle_46 : decode prog_3_method_6_code 46 = .ok (.iconst 3, 1) := by decide +kernel
theorem d_P_readSingle_47 : decode prog_3_method_6_code 47 = .ok (.invokevirtual 93, 3) := by decide +kernel
theorem d_P_readSingle_50 : decode prog_3_method_6_code 50 = .ok (.pop, 1) := by decide +kernel
theorem d_P_readSingle_51 : decode prog_3_method_6_code 51 = .ok (.goto 15, 3) := by decide +kernel
theorem d_P_readSingle_54 : decode prog_3_method_6_code 54 = .ok (.aload_n 0, 1) := by decide +kernel
theorem d_P_readSingle_55 : decode prog_3_method_6_code 55 = .ok (.invokevirtual 97, 3) := by decide +kernel
theorem d_P_readDot_0 : decode prog_3_method_7_code 0 = .ok (.aload_n 0, 1) := by decide +kernel
theorem d_P_readDot_1 : decode prog_3_method_7_code 1 = .ok (.iconst 1, 1) := by decide +kernel
theorem d_P_readDot_2 : decode prog_3_method_7_code 2 = .ok (.invokevirtual 93, 3) := by decide +kernel
theorem d_P_readDot_5 : decode prog_3_method_7_code 5 = .ok (.istore_n 1, 1) := by decide +kernel
theorem d_P_readDot_6 : decode prog_3_method_7_code 6 = .ok (.aload_n 0, 1) := by decide +kernel
theorem d_P_readDot_7 : decode prog_3_method_7_code 7 = .ok (.getfield 27, 3) := by decide +kernel
theorem d_P_readDot_10 : decode prog_3_method_7_code 10 = .ok (.iload_n 1, 1) := by decide +kernel
theorem d_P_readDot_11 : decode prog_3_method_7_code 11 = .ok (.bipush 10, 2) := by decide +kernel
theorem d_P_readDot_13 : decode prog_3_method_7_code 13 = .ok (.bipush 10, 2) := by decide +kernel
theorem d_P_readDot_15 : decode prog_3_method_7_code 15 = .ok (.invokevirtual 103, 3) := by decide +kernel
theorem d_P_readDot_18 : decode prog_3_method_7_code 18 = .ok (.aload_n 0, 1) := by decide +kernel
theorem d_P_readDot_19 : decode prog_3_method_7_code 19 = .ok (.getfield 27, 3) := by decide +kernel
theorem d_P_readDot_22 : decode prog_3_method_7_code 22 = .ok (.iload_n 1, 1) := by decide +kernel
theorem d_P_readDot_23 : decode prog_3_method_7_code 23 = .ok (.invokevirtual 107, 3) := by decide +kernel
theorem d_P_readDot_26 : decode prog_3_method_7_code 26 = .ok (.return_, 1) := by decide +kernel
theorem d_P_readSingle_58 : decode prog_3_method_6_code 58 = .ok (.goto 8, 3) := by decide +kernel
theorem d_P_readSingle_36 : decode prog_3_method_6_code 36 = .ok (.aload_n 0, 1) := by decide +kernel
theorem d_P_readSingle_37 : decode prog_3_method_6_code 37 = .ok (.iconst 2, 1) := by decide +kernel
theorem d_P_readSingle_38 : decode prog_3_method_6_code 38 = .ok (.invokevirtual 93, 3) := by decide +kernel
theorem d_P_readSingle_41 : decode prog_3_method_6_code 41 = .ok (.pop, 1) := by decide +kernel
theorem d_P_readSingle_42 : decode prog_3_method_6_code 42 = .ok (.goto 24, 3) := by decide +kernel
theorem d_P_readSingle_61 : decode prog_3_method_6_code 61 = .ok (.aload_n 0, 1) := by decide +kernel
theorem d_P_readSingle_62 : decode prog_3_method_6_code 62 = .ok (.iload_n 1, 1) := by decide +kernel
theorem d_P_readSingle_63 : decode prog_3_method_6_code 63 = .ok (.invokevirtual 100, 3) := by decide +kernel
theorem d_P_readSingle_66 : decode prog_3_method_6_code 66 = .ok (.return_, 1) := by decide +kernel
theorem d_P_readNext_151 : decode prog_3_method_5_code 151 = .ok (.aload_n 0, 1) := by decide +kernel
theorem d_P_readNext_152 : decode prog_3_method_5_code 152 = .ok (.dup, 1) := by decide +kernel
theorem d_P_readNext_153 : decode prog_3_method_5_code 153 = .ok (.getfield 39, 3) := by decide +kernel
theorem d_P_readNext_156 : decode prog_3_method_5_code 156 = .ok (.iconst 1, 1) := by decide +kernel
theorem d_P_readNext_157 : decode prog_3_method_5_code 157 = .ok (.iadd, 1) := by decide +kernel
theorem d_P_readNext_158 : decode prog_3_method_5_code 158 = .ok (.putfield 39, 3) := by decide +kernel
theorem d_P_readNext_161 : decode prog_3_method_5_code 161 = .ok (.return_, 1) := by decide +kernel
theorem d_P_read_71 : decode prog_3_method_3_code 71 = .ok (.iinc 3 1, 3) := by decide +kernel
theorem d_P_read_74 : decode prog_3_method_3_code 74 = .ok (.goto (-34), 3) := by decide +kernel
theorem d_P_read_77 : decode prog_3_method_3_code 77 = .ok (.aload_n 0, 1) := by decide +kernel
theorem d_P_read_78 : decode prog_3_method_3_code 78 = .ok (.getfield 42, 3) := by decide +kernel
theorem d_P_read_81 : decode prog_3_method_3_code 81 = .ok (.iconst (-1), 1) := by decide +kernel
theorem d_P_read_82 : decode prog_3_method_3_code 82 = .ok (.if_icmp .ne 18, 3) := by decide +kernel
theorem d_P_read_85 : decode prog_3_method_3_code 85 = .ok (.aload_n 0, 1) := by decide +kernel
theorem d_P_read_86 : decode prog_3_method_3_code 86 = .ok (.getfield 46, 3) := by decide +kernel
theorem d_P_read_89 : decode prog_3_method_3_code 89 = .ok (.ifCond .le 11, 3) := by decide +kernel
theorem d_P_read_92 : decode prog_3_method_3_code 92 = .ok (.aload_n 0, 1) := by decide +kernel
theorem d_P_read_93 : decode prog_3_method_3_code 93 = .ok (.aload_n 0, 1) := by decide +kernel
theorem d_P_read_94 : decode prog_3_method_3_code 94 = .ok (.getfield 35, 3) := by decide +kernel
theorem d_P_read_97 : decode prog_3_method_3_code 97 = .ok (.putfield 42, 3) := by decide +kernel
theorem d_P_read_100 : decode prog_3_method_3_code 100 = .ok (.aload_n 0, 1) := by decide +kernel
theorem d_P_read_101 : decode prog_3_method_3_code 101 = .ok (.getfield 42, 3) := by decide +kernel
theorem d_P_read_104 : decode prog_3_method_3_code 104 = .ok (.iconst (-1), 1) := by decide +kernel
theorem d_P_read_105 : decode prog_3_method_3_code 105 = .ok (.if_icmp .ne 7, 3) := by decide +kernel
theorem d_P_read_108 : decode prog_3_method_3_code 108 = .ok (.aload_n 0, 1) := by decide +kernel
theorem d_P_read_109 : decode prog_3_method_3_code 109 = .ok (.invokevirtual 56, 3) := by decide +kernel
theorem d_P_finish_0 : decode prog_3_method_4_code 0 = .ok (.aload_n 0, 1) := by decide +kernel
theorem d_P_finish_1 : decode prog_3_method_4_code 1 = .ok (.getfield 27, 3) := by decide +kernel
theorem d_P_finish_4 : decode prog_3_method_4_code 4 = .ok (.getfield 59, 3) := by decide +kernel
theorem d_P_finish_7 : decode prog_3_method_4_code 7 = .ok (.aload_n 0, 1) := by decide +kernel
theorem d_P_finish_8 : decode prog_3_method_4_code 8 = .ok (.getfield 62, 3) := by decide +kernel
theorem d_P_finish_11 : decode prog_3_method_4_code 11 = .ok (.aload_n 0, 1) := by decide +kernel
theorem d_P_finish_12 : decode prog_3_method_4_code 12 = .ok (.getfield 15, 3) := by decide +kernel
theorem d_P_finish_15 : decode prog_3_method_4_code 15 = .ok (.iconst 0, 1) := by decide +kernel
theorem d_P_finish_16 : decode prog_3_method_4_code 16 = .ok (.iaload, 1) := by decide +kernel
theorem d_P_finish_17 : decode prog_3_method_4_code 17 = .ok (.iastore, 1) := by decide +kernel
theorem d_P_finish_18 : decode prog_3_method_4_code 18 = .ok (.aload_n 0, 1) := by decide +kernel
theorem d_P_finish_19 : decode prog_3_method_4_code 19 = .ok (.getfield 27, 3) := by decide +kernel
theorem d_P_finish_22 : decode prog_3_method_4_code 22 = .ok (.aload_n 0, 1) := by decide +kernel
theorem d_P_finish_23 : decode prog_3_method_4_code 23 = .ok (.getfield 9, 3) := by decide +kernel
theorem d_P_finish_26 : decode prog_3_method_4_code 26 = .ok (.iconst 0, 1) := by decide +kernel
theorem d_P_finish_27 : decode prog_3_method_4_code 27 = .ok (.iaload, 1) := by decide +kernel
theorem d_P_finish_28 : decode prog_3_method_4_code 28 = .ok (.putfield 65, 3) := by decide +kernel
theorem d_P_finish_31 : decode prog_3_method_4_code 31 = .ok (.aload_n 0, 1) := by decide +kernel
theorem d_P_finish_32 : decode prog_3_method_4_code 32 = .ok (.getfield 27, 3) := by decide +kernel
theorem d_P_finish_35 : decode prog_3_method_4_code 35 = .ok (.aload_n 0, 1) := by decide +kernel
theorem d_P_finish_36 : decode prog_3_method_4_code 36 = .ok (.getfield 15, 3) := by decide +kernel
theorem d_P_finish_39 : decode prog_3_method_4_code 39 = .ok (.iconst 0, 1) := by decide +kernel
theorem d_P_finish_40 : decode prog_3_method_4_code 40 = .ok (.iaload, 1) := by decide +kernel
theorem d_P_finish_41 : decode prog_3_method_4_code 41 = .ok (.putfield 68, 3) := by decide +kernel
theorem d_P_finish_44 : decode prog_3_method_4_code 44 = .ok (.return_, 1) := by decide +kernel
theorem d_P_read_112 : decode prog_3_method_3_code 112 = .ok (.aload_n 0, 1) := by decide +kernel
theorem d_P_read_113 : decode prog_3_method_3_code 113 = .ok (.getfield 42, 3) := by decide +kernel
theorem d_P_read_116 : decode prog_3_method_3_code 116 = .ok (.ireturn, 1) := by decide +kernel
theorem d_D_compile_16 : decode prog_1_method_7_code 16 = .ok (.putfield 46, 3) := by decide +kernel
theorem d_D_compile_19 : decode prog_1_method_7_code 19 = .ok (.aload_n 0, 1) := by decide +kernel
theorem d_D_compile_20 : decode prog_1_method_7_code 20 = .ok (.getfield 46, 3) := by decide +kernel
theorem d_D_compile_23 : decode prog_1_method_7_code 23 = .ok (.iconst (-1), 1) := by decide +kernel
theorem d_D_compile_24 : decode prog_1_method_7_code 24 = .ok (.if_icmp .eq 11, 3) := by decide +kernel
theorem d_D_compile_35 : decode prog_1_method_7_code 35 = .ok (.aload_n 0, 1) := by decide +kernel
theorem d_D_compile_36 : decode prog_1_method_7_code 36 = .ok (.aload_n 0, 1) := by decide +kernel
theorem d_D_compile_37 : decode prog_1_method_7_code 37 = .ok (.getfield 35, 3) := by decide +kernel
theorem d_D_compile_40 : decode prog_1_method_7_code 40 = .ok (.aload_n 0, 1) := by decide +kernel
theorem d_D_compile_41 : decode prog_1_method_7_code 41 = .ok (.getfield 42, 3) := by decide +kernel
theorem d_D_compile_44 : decode prog_1_method_7_code 44 = .ok (.invokevirtual 99, 3) := by decide +kernel
theorem d_P_handOver_0 : decode prog_3_method_2_code 0 = .ok (.aload_n 0, 1) := by decide +kernel
theorem d_P_handOver_1 : decode prog_3_method_2_code 1 = .ok (.getfield 27, 3) := by decide +kernel
theorem d_P_handOver_4 : decode prog_3_method_2_code 4 = .ok (.astore_n 2, 1) := by decide +kernel
theorem d_P_handOver_5 : decode prog_3_method_2_code 5 = .ok (.aload_n 0, 1) := by decide +kernel
theorem d_P_handOver_6 : decode prog_3_method_2_code 6 = .ok (.aload_n 1, 1) := by decide +kernel
theorem d_P_handOver_7 : decode prog_3_method_2_code 7 = .ok (.putfield 27, 3) := by decide +kernel
theorem d_P_handOver_10 : decode prog_3_method_2_code 10 = .ok (.aload_n 2, 1) := by decide +kernel
theorem d_P_handOver_11 : decode prog_3_method_2_code 11 = .ok (.areturn, 1) := by decide +kernel
theorem d_D_compile_47 : decode prog_1_method_7_code 47 = .ok (.putfield 42, 3) := by decide +kernel
theorem d_D_compile_50 : decode prog_1_method_7_code 50 = .ok (.aload_n 0, 1) := by decide +kernel
theorem d_D_compile_51 : decode prog_1_method_7_code 51 = .ok (.iconst 1, 1) := by decide +kernel
theorem d_D_compile_52 : decode prog_1_method_7_code 52 = .ok (.putfield 103, 3) := by decide +kernel
theorem d_D_compile_55 : decode prog_1_method_7_code 55 = .ok (.aload_n 0, 1) := by decide +kernel
theorem d_D_compile_56 : decode prog_1_method_7_code 56 = .ok (.iconst 0, 1) := by decide +kernel
theorem d_D_compile_57 : decode prog_1_method_7_code 57 = .ok (.putfield 56, 3) := by decide +kernel
theorem d_D_compile_60 : decode prog_1_method_7_code 60 = .ok (.return_, 1) := by decide +kernel
theorem d_D_compile_27 : decode prog_1_method_7_code 27 = .ok (.new 96, 3) := by decide +kernel
theorem d_D_compile_30 : decode prog_1_method_7_code 30 = .ok (.dup, 1) := by decide +kernel
theorem d_D_compile_31 : decode prog_1_method_7_code 31 = .ok (.invokespecial 98, 3) := by decide +kernel
theorem d_D_compile_34 : decode prog_1_method_7_code 34 = .ok (.athrow, 1) := by decide +kernel
theorem d_D_fault_0 : decode prog_1_method_8_code 0 = .ok (.aload_n 0, 1) := by decide +kernel
theorem d_D_fault_1 : decode prog_1_method_8_code 1 = .ok (.getfield 46, 3) := by decide +kernel
theorem d_D_fault_4 : decode prog_1_method_8_code 4 = .ok (.ireturn, 1) := by decide +kernel
theorem d_D_figure_0 : decode prog_1_method_17_code 0 = .ok (.iload_n 1, 1) := by decide +kernel
theorem d_D_figure_1 : decode prog_1_method_17_code 1 = .ok (.tableswitch 60 0 4 #[35, 40, 45, 50, 55], 35) := by decide +kernel
theorem d_D_figure_36 : decode prog_1_method_17_code 36 = .ok (.aload_n 0, 1) := by decide +kernel
theorem d_D_figure_37 : decode prog_1_method_17_code 37 = .ok (.getfield 73, 3) := by decide +kernel
theorem d_D_figure_40 : decode prog_1_method_17_code 40 = .ok (.ireturn, 1) := by decide +kernel
theorem d_D_figure_41 : decode prog_1_method_17_code 41 = .ok (.aload_n 0, 1) := by decide +kernel
theorem d_D_figure_42 : decode prog_1_method_17_code 42 = .ok (.getfield 25, 3) := by decide +kernel
theorem d_D_figure_45 : decode prog_1_method_17_code 45 = .ok (.ireturn, 1) := by decide +kernel
theorem d_D_figure_46 : decode prog_1_method_17_code 46 = .ok (.aload_n 0, 1) := by decide +kernel
theorem d_D_figure_47 : decode prog_1_method_17_code 47 = .ok (.getfield 76, 3) := by decide +kernel
theorem d_D_figure_50 : decode prog_1_method_17_code 50 = .ok (.ireturn, 1) := by decide +kernel
theorem d_D_figure_51 : decode prog_1_method_17_code 51 = .ok (.aload_n 0, 1) := by decide +kernel
theorem d_D_figure_52 : decode prog_1_method_17_code 52 = .ok (.getfield 29, 3) := by decide +kernel
theorem d_D_figure_55 : decode prog_1_method_17_code 55 = .ok (.ireturn, 1) := by decide +kernel
theorem d_D_figure_56 : decode prog_1_method_17_code 56 = .ok (.aload_n 0, 1) := by decide +kernel
theorem d_D_figure_57 : decode prog_1_method_17_code 57 = .ok (.getfield 56, 3) := by decide +kernel
theorem d_D_figure_60 : decode prog_1_method_17_code 60 = .ok (.ireturn, 1) := by decide +kernel
theorem d_D_figure_61 : decode prog_1_method_17_code 61 = .ok (.new 96, 3) := by decide +kernel
theorem d_D_figure_64 : decode prog_1_method_17_code 64 = .ok (.dup, 1) := by decide +kernel
theorem d_D_figure_65 : decode prog_1_method_17_code 65 = .ok (.invokespecial 98, 3) := by decide +kernel
theorem d_D_figure_68 : decode prog_1_method_17_code 68 = .ok (.athrow, 1) := by decide +kernel
theorem d_D_find_0 : decode prog_1_method_9_code 0 = .ok (.aload_n 0, 1) := by decide +kernel
theorem d_D_find_1 : decode prog_1_method_9_code 1 = .ok (.getfield 103, 3) := by decide +kernel
theorem d_D_find_4 : decode prog_1_method_9_code 4 = .ok (.ifCond .ne 11, 3) := by decide +kernel
theorem d_D_find_15 : decode prog_1_method_9_code 15 = .ok (.aload_n 0, 1) := by decide +kernel
theorem d_D_find_16 : decode prog_1_method_9_code 16 = .ok (.iload_n 1, 1) := by decide +kernel
theorem d_D_find_17 : decode prog_1_method_9_code 17 = .ok (.invokevirtual 88, 3) := by decide +kernel
theorem d_D_requirePlace_0 : decode prog_1_method_19_code 0 = .ok (.iload_n 1, 1) := by decide +kernel
theorem d_D_requirePlace_1 : decode prog_1_method_19_code 1 = .ok (.ifCond .lt 12, 3) := by decide +kernel
theorem d_D_requirePlace_4 : decode prog_1_method_19_code 4 = .ok (.iload_n 1, 1) := by decide +kernel
theorem d_D_requirePlace_5 : decode prog_1_method_19_code 5 = .ok (.aload_n 0, 1) := by decide +kernel
theorem d_D_requirePlace_6 : decode prog_1_method_19_code 6 = .ok (.getfield 19, 3) := by decide +kernel
theorem d_D_requirePlace_9 : decode prog_1_method_19_code 9 = .ok (.arraylength, 1) := by decide +kernel
theorem d_D_requirePlace_10 : decode prog_1_method_19_code 10 = .ok (.if_icmp .le 11, 3) := by decide +kernel
theorem d_D_requirePlace_21 : decode prog_1_method_19_code 21 = .ok (.return_, 1) := by decide +kernel
theorem d_D_requirePlace_13 : decode prog_1_method_19_code 13 = .ok (.new 143, 3) := by decide +kernel
theorem d_D_requirePlace_16 : decode prog_1_method_19_code 16 = .ok (.dup, 1) := by decide +kernel
theorem d_D_requirePlace_17 : decode prog_1_method_19_code 17 = .ok (.invokespecial 145, 3) := by decide +kernel
theorem d_D_requirePlace_20 : decode prog_1_method_19_code 20 = .ok (.athrow, 1) := by decide +kernel
theorem d_D_find_20 : decode prog_1_method_9_code 20 = .ok (.aload_n 0, 1) := by decide +kernel
theorem d_D_find_21 : decode prog_1_method_9_code 21 = .ok (.getfield 42, 3) := by decide +kernel
theorem d_D_find_24 : decode prog_1_method_9_code 24 = .ok (.aload_n 0, 1) := by decide +kernel
theorem d_D_find_25 : decode prog_1_method_9_code 25 = .ok (.getfield 19, 3) := by decide +kernel
theorem d_D_find_28 : decode prog_1_method_9_code 28 = .ok (.iload_n 1, 1) := by decide +kernel
theorem d_D_find_29 : decode prog_1_method_9_code 29 = .ok (.invokevirtual 107, 3) := by decide +kernel
theorem d_D_find_32 : decode prog_1_method_9_code 32 = .ok (.ifCond .ne 11, 3) := by decide +kernel
theorem d_D_find_43 : decode prog_1_method_9_code 43 = .ok (.aload_n 0, 1) := by decide +kernel
theorem d_D_find_44 : decode prog_1_method_9_code 44 = .ok (.aload_n 0, 1) := by decide +kernel
theorem d_D_find_45 : decode prog_1_method_9_code 45 = .ok (.getfield 42, 3) := by decide +kernel
theorem d_D_find_48 : decode prog_1_method_9_code 48 = .ok (.getfield 114, 3) := by decide +kernel
theorem d_D_find_51 : decode prog_1_method_9_code 51 = .ok (.putfield 29, 3) := by decide +kernel
theorem d_D_find_54 : decode prog_1_method_9_code 54 = .ok (.aload_n 0, 1) := by decide +kernel
theorem d_D_find_55 : decode prog_1_method_9_code 55 = .ok (.aload_n 0, 1) := by decide +kernel
theorem d_D_find_56 : decode prog_1_method_9_code 56 = .ok (.getfield 42, 3) := by decide +kernel
theorem d_D_find_59 : decode prog_1_method_9_code 59 = .ok (.getfield 117, 3) := by decide +kernel
theorem d_D_find_62 : decode prog_1_method_9_code 62 = .ok (.putfield 76, 3) := by decide +kernel
theorem d_D_find_65 : decode prog_1_method_9_code 65 = .ok (.aload_n 0, 1) := by decide +kernel
theorem d_D_find_66 : decode prog_1_method_9_code 66 = .ok (.getfield 29, 3) := by decide +kernel
theorem d_D_find_69 : decode prog_1_method_9_code 69 = .ok (.ireturn, 1) := by decide +kernel
theorem d_D_find_35 : decode prog_1_method_9_code 35 = .ok (.new 111, 3) := by decide +kernel
theorem d_D_find_7 : decode prog_1_method_9_code 7 = .ok (.new 66, 3) := by decide +kernel
theorem d_D_find_10 : decode prog_1_method_9_code 10 = .ok (.dup, 1) := by decide +kernel
theorem d_D_find_11 : decode prog_1_method_9_code 11 = .ok (.invokespecial 68, 3) := by decide +kernel
-- 14.dec08
theorem d_D_find_14 : decode prog_1_method_9_code 14 = .ok (.athrow, 1) := by decide +kernel
theorem d_D_find_38 : decode prog_1_method_9_code 38 = .ok (.dup, 1) := by decide +kernel
theorem d_D_find_39 : decode prog_1_method_9_code 39 = .ok (.invokespecial 113, 3) := by decide +kernel
theorem d_D_find_42 : decode prog_1_method_9_code 42 = .ok (.athrow, 1) := by decide +kernel
theorem d_D_go_0 : decode prog_1_method_6_code 0 = .ok (.aload_n 0, 1) := by decide +kernel
theorem d_D_go_1 : decode prog_1_method_6_code 1 = .ok (.iload_n 1, 1) := by decide +kernel
theorem d_D_go_2 : decode prog_1_method_6_code 2 = .ok (.invokevirtual 88, 3) := by decide +kernel
theorem d_D_go_5 : decode prog_1_method_6_code 5 = .ok (.iload_n 2, 1) := by decide +kernel
theorem d_D_go_6 : decode prog_1_method_6_code 6 = .ok (.ifCond .ne 11, 3) := by decide +kernel
theorem d_D_go_17 : decode prog_1_method_6_code 17 = .ok (.aload_n 0, 1) := by decide +kernel
theorem d_D_go_18 : decode prog_1_method_6_code 18 = .ok (.getfield 29, 3) := by decide +kernel
theorem d_D_go_21 : decode prog_1_method_6_code 21 = .ok (.iconst (-1), 1) := by decide +kernel
theorem d_D_go_22 : decode prog_1_method_6_code 22 = .ok (.if_icmp .ne 11, 3) := by decide +kernel
theorem d_D_go_25 : decode prog_1_method_6_code 25 = .ok (.aload_n 0, 1) := by decide +kernel
theorem d_D_go_26 : decode prog_1_method_6_code 26 = .ok (.aload_n 0, 1) := by decide +kernel
theorem d_D_go_27 : decode prog_1_method_6_code 27 = .ok (.getfield 76, 3) := by decide +kernel
theorem d_D_go_30 : decode prog_1_method_6_code 30 = .ok (.putfield 29, 3) := by decide +kernel
theorem d_D_go_9 : decode prog_1_method_6_code 9 = .ok (.aload_n 0, 1) := by decide +kernel
theorem d_D_go_10 : decode prog_1_method_6_code 10 = .ok (.iconst (-1), 1) := by decide +kernel
theorem d_D_go_11 : decode prog_1_method_6_code 11 = .ok (.putfield 29, 3) := by decide +kernel
theorem d_D_go_14 : decode prog_1_method_6_code 14 = .ok (.goto 19, 3) := by decide +kernel
theorem d_D_go_33 : decode prog_1_method_6_code 33 = .ok (.aload_n 0, 1) := by decide +kernel
theorem d_D_go_34 : decode prog_1_method_6_code 34 = .ok (.iload_n 1, 1) := by decide +kernel
theorem d_D_go_35 : decode prog_1_method_6_code 35 = .ok (.putfield 76, 3) := by decide +kernel
theorem d_D_go_38 : decode prog_1_method_6_code 38 = .ok (.aload_n 0, 1) := by decide +kernel
theorem d_D_go_39 : decode prog_1_method_6_code 39 = .ok (.getfield 29, 3) := by decide +kernel
theorem d_D_go_42 : decode prog_1_method_6_code 42 = .ok (.aload_n 0, 1) := by decide +kernel
theorem d_D_go_43 : decode prog_1_method_6_code 43 = .ok (.getfield 76, 3) := by decide +kernel
theorem d_D_go_46 : decode prog_1_method_6_code 46 = .ok (.if_icmp .ne 8, 3) := by decide +kernel
theorem d_D_go_49 : decode prog_1_method_6_code 49 = .ok (.aload_n 0, 1) := by decide +kernel
theorem d_D_go_50 : decode prog_1_method_6_code 50 = .ok (.iconst (-1), 1) := by decide +kernel
theorem d_D_go_51 : decode prog_1_method_6_code 51 = .ok (.putfield 29, 3) := by decide +kernel
theorem d_D_go_54 : decode prog_1_method_6_code 54 = .ok (.return_, 1) := by decide +kernel
theorem d_D_jump_0 : decode prog_1_method_13_code 0 = .ok (.aload_n 0, 1) := by decide +kernel
theorem d_D_jump_1 : decode prog_1_method_13_code 1 = .ok (.iload_n 1, 1) := by decide +kernel
theorem d_D_jump_2 : decode prog_1_method_13_code 2 = .ok (.invokevirtual 140, 3) := by decide +kernel
theorem d_D_requireState_0 : decode prog_1_method_20_code 0 = .ok (.iload_n 1, 1) := by decide +kernel
theorem d_D_requireState_1 : decode prog_1_method_20_code 1 = .ok (.ifCond .lt 11, 3) := by decide +kernel
theorem d_D_requireState_4 : decode prog_1_method_20_code 4 = .ok (.iload_n 1, 1) := by decide +kernel
theorem d_D_requireState_5 : decode prog_1_method_20_code 5 = .ok (.aload_n 0, 1) := by decide +kernel
theorem d_D_requireState_6 : decode prog_1_method_20_code 6 = .ok (.getfield 25, 3) := by decide +kernel
theorem d_D_requireState_9 : decode prog_1_method_20_code 9 = .ok (.if_icmp .lt 11, 3) := by decide +kernel
theorem d_D_requireState_20 : decode prog_1_method_20_code 20 = .ok (.return_, 1) := by decide +kernel
theorem d_D_requireState_12 : decode prog_1_method_20_code 12 = .ok (.new 96, 3) := by decide +kernel
theorem d_D_requireState_15 : decode prog_1_method_20_code 15 = .ok (.dup, 1) := by decide +kernel
theorem d_D_requireState_16 : decode prog_1_method_20_code 16 = .ok (.invokespecial 98, 3) := by decide +kernel
theorem d_D_requireState_19 : decode prog_1_method_20_code 19 = .ok (.athrow, 1) := by decide +kernel
theorem d_D_jump_5 : decode prog_1_method_13_code 5 = .ok (.aload_n 0, 1) := by decide +kernel
theorem d_D_jump_6 : decode prog_1_method_13_code 6 = .ok (.iload_n 1, 1) := by decide +kernel
theorem d_D_jump_7 : decode prog_1_method_13_code 7 = .ok (.invokevirtual 134, 3) := by decide +kernel
theorem d_D_moveTo_0 : decode prog_1_method_23_code 0 = .ok (.aload_n 0, 1) := by decide +kernel
theorem d_D_moveTo_1 : decode prog_1_method_23_code 1 = .ok (.getfield 15, 3) := by decide +kernel
theorem d_D_moveTo_4 : decode prog_1_method_23_code 4 = .ok (.aload_n 0, 1) := by decide +kernel
theorem d_D_moveTo_5 : decode prog_1_method_23_code 5 = .ok (.getfield 73, 3) := by decide +kernel
theorem d_D_moveTo_8 : decode prog_1_method_23_code 8 = .ok (.aaload, 1) := by decide +kernel
theorem d_D_moveTo_9 : decode prog_1_method_23_code 9 = .ok (.aload_n 0, 1) := by decide +kernel
theorem d_D_moveTo_10 : decode prog_1_method_23_code 10 = .ok (.getfield 76, 3) := by decide +kernel
theorem d_D_moveTo_13 : decode prog_1_method_23_code 13 = .ok (.putfield 155, 3) := by decide +kernel
theorem d_D_moveTo_16 : decode prog_1_method_23_code 16 = .ok (.aload_n 0, 1) := by decide +kernel
theorem d_D_moveTo_17 : decode prog_1_method_23_code 17 = .ok (.getfield 15, 3) := by decide +kernel
theorem d_D_moveTo_20 : decode prog_1_method_23_code 20 = .ok (.iload_n 1, 1) := by decide +kernel
theorem d_D_moveTo_21 : decode prog_1_method_23_code 21 = .ok (.aaload, 1) := by decide +kernel
theorem d_D_moveTo_22 : decode prog_1_method_23_code 22 = .ok (.astore_n 2, 1) := by decide +kernel
theorem d_D_moveTo_23 : decode prog_1_method_23_code 23 = .ok (.aload_n 0, 1) := by decide +kernel
theorem d_D_moveTo_24 : decode prog_1_method_23_code 24 = .ok (.iload_n 1, 1) := by decide +kernel
theorem d_D_moveTo_25 : decode prog_1_method_23_code 25 = .ok (.putfield 73, 3) := by decide +kernel
theorem d_D_moveTo_28 : decode prog_1_method_23_code 28 = .ok (.aload_n 0, 1) := by decide +kernel
theorem d_D_moveTo_29 : decode prog_1_method_23_code 29 = .ok (.aload_n 2, 1) := by decide +kernel
theorem d_D_moveTo_30 : decode prog_1_method_23_code 30 = .ok (.getfield 158, 3) := by decide +kernel
theorem d_D_moveTo_33 : decode prog_1_method_23_code 33 = .ok (.putfield 19, 3) := by decide +kernel
theorem d_D_moveTo_36 : decode prog_1_method_23_code 36 = .ok (.aload_n 0, 1) := by decide +kernel
theorem d_D_moveTo_37 : decode prog_1_method_23_code 37 = .ok (.aload_n 2, 1) := by decide +kernel
theorem d_D_moveTo_38 : decode prog_1_method_23_code 38 = .ok (.getfield 155, 3) := by decide +kernel
theorem d_D_moveTo_41 : decode prog_1_method_23_code 41 = .ok (.putfield 76, 3) := by decide +kernel
theorem d_D_moveTo_44 : decode prog_1_method_23_code 44 = .ok (.aload_n 0, 1) := by decide +kernel
theorem d_D_moveTo_45 : decode prog_1_method_23_code 45 = .ok (.iconst (-1), 1) := by decide +kernel
theorem d_D_moveTo_46 : decode prog_1_method_23_code 46 = .ok (.putfield 29, 3) := by decide +kernel
theorem d_D_moveTo_49 : decode prog_1_method_23_code 49 = .ok (.aload_n 2, 1) := by decide +kernel
theorem d_D_moveTo_50 : decode prog_1_method_23_code 50 = .ok (.getfield 131, 3) := by decide +kernel
theorem d_D_moveTo_53 : decode prog_1_method_23_code 53 = .ok (.iconst (-1), 1) := by decide +kernel
theorem d_D_moveTo_54 : decode prog_1_method_23_code 54 = .ok (.if_icmp .eq 16, 3) := by decide +kernel
theorem d_D_moveTo_57 : decode prog_1_method_23_code 57 = .ok (.aload_n 0, 1) := by decide +kernel
theorem d_D_moveTo_58 : decode prog_1_method_23_code 58 = .ok (.getfield 15, 3) := by decide +kernel
theorem d_D_moveTo_61 : decode prog_1_method_23_code 61 = .ok (.aload_n 2, 1) := by decide +kernel
theorem d_D_moveTo_62 : decode prog_1_method_23_code 62 = .ok (.getfield 131, 3) := by decide +kernel
theorem d_D_moveTo_65 : decode prog_1_method_23_code 65 = .ok (.aaload, 1) := by decide +kernel
theorem d_D_moveTo_66 : decode prog_1_method_23_code 66 = .ok (.iload_n 1, 1) := by decide +kernel
theorem d_D_moveTo_67 : decode prog_1_method_23_code 67 = .ok (.putfield 137, 3) := by decide +kernel
theorem d_D_moveTo_70 : decode prog_1_method_23_code 70 = .ok (.return_, 1) := by decide +kernel
theorem d_D_jump_10 : decode prog_1_method_13_code 10 = .ok (.return_, 1) := by decide +kernel
theorem d_D_length_0 : decode prog_1_method_14_code 0 = .ok (.aload_n 0, 1) := by decide +kernel
theorem d_D_length_1 : decode prog_1_method_14_code 1 = .ok (.getfield 19, 3) := by decide +kernel
theorem d_D_length_4 : decode prog_1_method_14_code 4 = .ok (.arraylength, 1) := by decide +kernel
theorem d_D_length_5 : decode prog_1_method_14_code 5 = .ok (.ireturn, 1) := by decide +kernel
theorem d_D_line_0 : decode prog_1_method_16_code 0 = .ok (.iload_n 1, 1) := by decide +kernel
theorem d_D_line_1 : decode prog_1_method_16_code 1 = .ok (.tableswitch 70 0 3 #[31, 43, 54, 60], 31) := by decide +kernel
theorem d_D_line_32 : decode prog_1_method_16_code 32 = .ok (.aload_n 0, 1) := by decide +kernel
theorem d_D_line_33 : decode prog_1_method_16_code 33 = .ok (.aload_n 0, 1) := by decide +kernel
theorem d_D_line_34 : decode prog_1_method_16_code 34 = .ok (.getfield 19, 3) := by decide +kernel
theorem d_D_line_37 : decode prog_1_method_16_code 37 = .ok (.arraylength, 1) := by decide +kernel
theorem d_D_line_38 : decode prog_1_method_16_code 38 = .ok (.invokevirtual 146, 3) := by decide +kernel
theorem d_D_line_41 : decode prog_1_method_16_code 41 = .ok (.iconst 1, 1) := by decide +kernel
theorem d_D_line_42 : decode prog_1_method_16_code 42 = .ok (.iadd, 1) := by decide +kernel
theorem d_D_line_43 : decode prog_1_method_16_code 43 = .ok (.ireturn, 1) := by decide +kernel
theorem d_D_line_44 : decode prog_1_method_16_code 44 = .ok (.aload_n 0, 1) := by decide +kernel
theorem d_D_line_45 : decode prog_1_method_16_code 45 = .ok (.iload_n 2, 1) := by decide +kernel
theorem d_D_line_46 : decode prog_1_method_16_code 46 = .ok (.invokevirtual 88, 3) := by decide +kernel
theorem d_D_line_49 : decode prog_1_method_16_code 49 = .ok (.aload_n 0, 1) := by decide +kernel
theorem d_D_line_50 : decode prog_1_method_16_code 50 = .ok (.iload_n 2, 1) := by decide +kernel
theorem d_D_line_51 : decode prog_1_method_16_code 51 = .ok (.invokevirtual 146, 3) := by decide +kernel
theorem d_D_line_54 : decode prog_1_method_16_code 54 = .ok (.ireturn, 1) := by decide +kernel
theorem d_D_line_55 : decode prog_1_method_16_code 55 = .ok (.aload_n 0, 1) := by decide +kernel
theorem d_D_line_56 : decode prog_1_method_16_code 56 = .ok (.iload_n 2, 1) := by decide +kernel
theorem d_D_line_57 : decode prog_1_method_16_code 57 = .ok (.invokevirtual 149, 3) := by decide +kernel
theorem d_D_lineBegin_0 : decode prog_1_method_30_code 0 = .ok (.iload_n 1, 1) := by decide +kernel
theorem d_D_lineBegin_1 : decode prog_1_method_30_code 1 = .ok (.ifCond .ne 5, 3) := by decide +kernel
theorem d_D_lineBegin_6 : decode prog_1_method_30_code 6 = .ok (.iconst 0, 1) := by decide +kernel
theorem d_D_lineBegin_7 : decode prog_1_method_30_code 7 = .ok (.istore_n 2, 1) := by decide +kernel
theorem d_D_lineBegin_8 : decode prog_1_method_30_code 8 = .ok (.iconst 0, 1) := by decide +kernel
theorem d_D_lineBegin_9 : decode prog_1_method_30_code 9 = .ok (.istore_n 3, 1) := by decide +kernel
theorem d_D_lineBegin_4 : decode prog_1_method_30_code 4 = .ok (.iconst 0, 1) := by decide +kernel
theorem d_D_lineBegin_5 : decode prog_1_method_30_code 5 = .ok (.ireturn, 1) := by decide +kernel
theorem d_D_lineBegin_10 : decode prog_1_method_30_code 10 = .ok (.iload_n 3, 1) := by decide +kernel
theorem d_D_lineBegin_11 : decode prog_1_method_30_code 11 = .ok (.aload_n 0, 1) := by decide +kernel
theorem d_D_lineBegin_12 : decode prog_1_method_30_code 12 = .ok (.getfield 19, 3) := by decide +kernel
theorem d_D_lineBegin_15 : decode prog_1_method_30_code 15 = .ok (.arraylength, 1) := by decide +kernel
theorem d_D_lineBegin_16 : decode prog_1_method_30_code 16 = .ok (.if_icmp .ge 32, 3) := by decide +kernel
theorem d_D_lineBegin_48 : decode prog_1_method_30_code 48 = .ok (.new 143, 3) := by decide +kernel
theorem d_D_lineBegin_19 : decode prog_1_method_30_code 19 = .ok (.aload_n 0, 1) := by decide +kernel
theorem d_D_lineBegin_20 : decode prog_1_method_30_code 20 = .ok (.getfield 19, 3) := by decide +kernel
theorem d_D_lineBegin_23 : decode prog_1_method_30_code 23 = .ok (.iload_n 3, 1) := by decide +kernel
theorem d_D_lineBegin_24 : decode prog_1_method_30_code 24 = .ok (.caload, 1) := by decide +kernel
theorem d_D_lineBegin_25 : decode prog_1_method_30_code 25 = .ok (.bipush 10, 2) := by decide +kernel
theorem d_D_lineBegin_27 : decode prog_1_method_30_code 27 = .ok (.if_icmp .ne 15, 3) := by decide +kernel
theorem d_D_lineBegin_30 : decode prog_1_method_30_code 30 = .ok (.iinc 2 1, 3) := by decide +kernel
theorem d_D_lineBegin_33 : decode prog_1_method_30_code 33 = .ok (.iload_n 2, 1) := by decide +kernel
theorem d_D_lineBegin_34 : decode prog_1_method_30_code 34 = .ok (.iload_n 1, 1) := by decide +kernel
theorem d_D_lineBegin_35 : decode prog_1_method_30_code 35 = .ok (.if_icmp .ne 7, 3) := by decide +kernel
theorem d_D_lineBegin_38 : decode prog_1_method_30_code 38 = .ok (.iload_n 3, 1) := by decide +kernel
theorem d_D_lineBegin_39 : decode prog_1_method_30_code 39 = .ok (.iconst 1, 1) := by decide +kernel
theorem d_D_lineBegin_40 : decode prog_1_method_30_code 40 = .ok (.iadd, 1) := by decide +kernel
theorem d_D_lineBegin_41 : decode prog_1_method_30_code 41 = .ok (.ireturn, 1) := by decide +kernel
theorem d_D_lineBegin_42 : decode prog_1_method_30_code 42 = .ok (.iinc 3 1, 3) := by decide +kernel
theorem d_D_lineBegin_45 : decode prog_1_method_30_code 45 = .ok (.goto (-35), 3) := by decide +kernel
theorem d_D_lineBegin_51 : decode prog_1_method_30_code 51 = .ok (.dup, 1) := by decide +kernel
theorem d_D_lineBegin_52 : decode prog_1_method_30_code 52 = .ok (.invokespecial 145, 3) := by decide +kernel
theorem d_D_lineBegin_55 : decode prog_1_method_30_code 55 = .ok (.athrow, 1) := by decide +kernel
theorem d_D_line_60 : decode prog_1_method_16_code 60 = .ok (.ireturn, 1) := by decide +kernel
theorem d_D_line_61 : decode prog_1_method_16_code 61 = .ok (.aload_n 0, 1) := by decide +kernel
theorem d_D_line_62 : decode prog_1_method_16_code 62 = .ok (.aload_n 0, 1) := by decide +kernel
theorem d_D_line_63 : decode prog_1_method_16_code 63 = .ok (.iload_n 2, 1) := by decide +kernel
theorem d_D_line_64 : decode prog_1_method_16_code 64 = .ok (.invokevirtual 149, 3) := by decide +kernel
theorem d_D_line_67 : decode prog_1_method_16_code 67 = .ok (.invokevirtual 152, 3) := by decide +kernel
theorem d_D_lineSize_0 : decode prog_1_method_31_code 0 = .ok (.iconst 0, 1) := by decide +kernel
theorem d_D_lineSize_1 : decode prog_1_method_31_code 1 = .ok (.istore_n 2, 1) := by decide +kernel
theorem d_D_lineSize_2 : decode prog_1_method_31_code 2 = .ok (.iload_n 1, 1) := by decide +kernel
theorem d_D_lineSize_3 : decode prog_1_method_31_code 3 = .ok (.istore_n 3, 1) := by decide +kernel
theorem d_D_lineSize_4 : decode prog_1_method_31_code 4 = .ok (.iload_n 3, 1) := by decide +kernel
theorem d_D_lineSize_5 : decode prog_1_method_31_code 5 = .ok (.aload_n 0, 1) := by decide +kernel
theorem d_D_lineSize_6 : decode prog_1_method_31_code 6 = .ok (.getfield 19, 3) := by decide +kernel
theorem d_D_lineSize_9 : decode prog_1_method_31_code 9 = .ok (.arraylength, 1) := by decide +kernel
theorem d_D_lineSize_10 : decode prog_1_method_31_code 10 = .ok (.if_icmp .ge 23, 3) := by decide +kernel
theorem d_D_lineSize_13 : decode prog_1_method_31_code 13 = .ok (.aload_n 0, 1) := by decide +kernel
theorem d_D_lineSize_14 : decode prog_1_method_31_code 14 = .ok (.getfield 19, 3) := by decide +kernel
theorem d_D_lineSize_17 : decode prog_1_method_31_code 17 = .ok (.iload_n 3, 1) := by decide +kernel
theorem d_D_lineSize_18 : decode prog_1_method_31_code 18 = .ok (.caload, 1) := by decide +kernel
theorem d_D_lineSize_19 : decode prog_1_method_31_code 19 = .ok (.bipush 10, 2) := by decide +kernel
theorem d_D_lineSize_21 : decode prog_1_method_31_code 21 = .ok (.if_icmp .eq 12, 3) := by decide +kernel
theorem d_D_lineSize_24 : decode prog_1_method_31_code 24 = .ok (.iinc 2 1, 3) := by decide +kernel
theorem d_D_lineSize_27 : decode prog_1_method_31_code 27 = .ok (.iinc 3 1, 3) := by decide +kernel
theorem d_D_lineSize_30 : decode prog_1_method_31_code 30 = .ok (.goto (-26), 3) := by decide +kernel
theorem d_D_lineSize_33 : decode prog_1_method_31_code 33 = .ok (.iload_n 2, 1) := by decide +kernel
theorem d_D_lineSize_34 : decode prog_1_method_31_code 34 = .ok (.ireturn, 1) := by decide +kernel
theorem d_D_line_70 : decode prog_1_method_16_code 70 = .ok (.ireturn, 1) := by decide +kernel
theorem d_D_line_71 : decode prog_1_method_16_code 71 = .ok (.new 96, 3) := by decide +kernel
theorem d_D_line_74 : decode prog_1_method_16_code 74 = .ok (.dup, 1) := by decide +kernel
theorem d_D_line_75 : decode prog_1_method_16_code 75 = .ok (.invokespecial 98, 3) := by decide +kernel
theorem d_D_line_78 : decode prog_1_method_16_code 78 = .ok (.athrow, 1) := by decide +kernel
theorem d_D_parent_0 : decode prog_1_method_18_code 0 = .ok (.aload_n 0, 1) := by decide +kernel
theorem d_D_parent_1 : decode prog_1_method_18_code 1 = .ok (.iload_n 1, 1) := by decide +kernel
theorem d_D_parent_2 : decode prog_1_method_18_code 2 = .ok (.invokevirtual 140, 3) := by decide +kernel
theorem d_D_parent_5 : decode prog_1_method_18_code 5 = .ok (.aload_n 0, 1) := by decide +kernel
theorem d_D_parent_6 : decode prog_1_method_18_code 6 = .ok (.getfield 15, 3) := by decide +kernel
theorem d_D_parent_9 : decode prog_1_method_18_code 9 = .ok (.iload_n 1, 1) := by decide +kernel
theorem d_D_parent_10 : decode prog_1_method_18_code 10 = .ok (.aaload, 1) := by decide +kernel
theorem d_D_parent_11 : decode prog_1_method_18_code 11 = .ok (.getfield 131, 3) := by decide +kernel
theorem d_D_parent_14 : decode prog_1_method_18_code 14 = .ok (.ireturn, 1) := by decide +kernel
theorem d_D_redo_0 : decode prog_1_method_12_code 0 = .ok (.aload_n 0, 1) := by decide +kernel
theorem d_D_redo_1 : decode prog_1_method_12_code 1 = .ok (.getfield 15, 3) := by decide +kernel
theorem d_D_redo_4 : decode prog_1_method_12_code 4 = .ok (.aload_n 0, 1) := by decide +kernel
theorem d_D_redo_5 : decode prog_1_method_12_code 5 = .ok (.getfield 73, 3) := by decide +kernel
theorem d_D_redo_8 : decode prog_1_method_12_code 8 = .ok (.aaload, 1) := by decide +kernel
theorem d_D_redo_9 : decode prog_1_method_12_code 9 = .ok (.getfield 137, 3) := by decide +kernel
theorem d_D_redo_12 : decode prog_1_method_12_code 12 = .ok (.istore_n 1, 1) := by decide +kernel
theorem d_D_redo_13 : decode prog_1_method_12_code 13 = .ok (.iload_n 1, 1) := by decide +kernel
theorem d_D_redo_14 : decode prog_1_method_12_code 14 = .ok (.iconst (-1), 1) := by decide +kernel
theorem d_D_redo_15 : decode prog_1_method_12_code 15 = .ok (.if_icmp .ne 11, 3) := by decide +kernel
theorem d_D_redo_26 : decode prog_1_method_12_code 26 = .ok (.aload_n 0, 1) := by decide +kernel
theorem d_D_redo_27 : decode prog_1_method_12_code 27 = .ok (.iload_n 1, 1) := by decide +kernel
theorem d_D_redo_28 : decode prog_1_method_12_code 28 = .ok (.invokevirtual 134, 3) := by decide +kernel
theorem d_D_redo_31 : decode prog_1_method_12_code 31 = .ok (.aload_n 0, 1) := by decide +kernel
theorem d_D_redo_32 : decode prog_1_method_12_code 32 = .ok (.getfield 73, 3) := by decide +kernel
theorem d_D_redo_35 : decode prog_1_method_12_code 35 = .ok (.ireturn, 1) := by decide +kernel
theorem d_D_redo_18 : decode prog_1_method_12_code 18 = .ok (.new 111, 3) := by decide +kernel
theorem d_D_redo_21 : decode prog_1_method_12_code 21 = .ok (.dup, 1) := by decide +kernel
theorem d_D_redo_22 : decode prog_1_method_12_code 22 = .ok (.invokespecial 113, 3) := by decide +kernel
theorem d_D_redo_25 : decode prog_1_method_12_code 25 = .ok (.athrow, 1) := by decide +kernel
theorem d_D_selectionEnd_0 : decode prog_1_method_22_code 0 = .ok (.aload_n 0, 1) := by decide +kernel
theorem d_D_selectionEnd_1 : decode prog_1_method_22_code 1 = .ok (.getfield 29, 3) := by decide +kernel
theorem d_D_selectionEnd_4 : decode prog_1_method_22_code 4 = .ok (.iconst (-1), 1) := by decide +kernel
theorem d_D_selectionEnd_5 : decode prog_1_method_22_code 5 = .ok (.if_icmp .ne 10, 3) := by decide +kernel
theorem d_D_selectionEnd_15 : decode prog_1_method_22_code 15 = .ok (.aload_n 0, 1) := by decide +kernel
theorem d_D_selectionEnd_16 : decode prog_1_method_22_code 16 = .ok (.getfield 29, 3) := by decide +kernel
theorem d_D_selectionEnd_19 : decode prog_1_method_22_code 19 = .ok (.aload_n 0, 1) := by decide +kernel
theorem d_D_selectionEnd_20 : decode prog_1_method_22_code 20 = .ok (.getfield 76, 3) := by decide +kernel
theorem d_D_selectionEnd_23 : decode prog_1_method_22_code 23 = .ok (.invokestatic 79, 3) := by decide +kernel
theorem d_D_selectionEnd_8 : decode prog_1_method_22_code 8 = .ok (.aload_n 0, 1) := by decide +kernel
theorem d_D_selectionEnd_9 : decode prog_1_method_22_code 9 = .ok (.getfield 76, 3) := by decide +kernel
theorem d_D_selectionEnd_12 : decode prog_1_method_22_code 12 = .ok (.goto 14, 3) := by decide +kernel
theorem d_D_selectionEnd_26 : decode prog_1_method_22_code 26 = .ok (.ireturn, 1) := by decide +kernel
theorem d_D_selectionStart_0 : decode prog_1_method_21_code 0 = .ok (.aload_n 0, 1) := by decide +kernel
theorem d_D_selectionStart_1 : decode prog_1_method_21_code 1 = .ok (.getfield 29, 3) := by decide +kernel
theorem d_D_selectionStart_4 : decode prog_1_method_21_code 4 = .ok (.iconst (-1), 1) := by decide +kernel
theorem d_D_selectionStart_5 : decode prog_1_method_21_code 5 = .ok (.if_icmp .ne 10, 3) := by decide +kernel
theorem d_D_selectionStart_15 : decode prog_1_method_21_code 15 = .ok (.aload_n 0, 1) := by decide +kernel
theorem d_D_selectionStart_16 : decode prog_1_method_21_code 16 = .ok (.getfield 29, 3) := by decide +kernel
theorem d_D_selectionStart_19 : decode prog_1_method_21_code 19 = .ok (.aload_n 0, 1) := by decide +kernel
theorem d_D_selectionStart_20 : decode prog_1_method_21_code 20 = .ok (.getfield 76, 3) := by decide +kernel
theorem d_D_selectionStart_23 : decode prog_1_method_21_code 23 = .ok (.invokestatic 85, 3) := by decide +kernel
theorem d_D_selectionStart_8 : decode prog_1_method_21_code 8 = .ok (.aload_n 0, 1) := by decide +kernel
theorem d_D_selectionStart_9 : decode prog_1_method_21_code 9 = .ok (.getfield 76, 3) := by decide +kernel
theorem d_D_selectionStart_12 : decode prog_1_method_21_code 12 = .ok (.goto 14, 3) := by decide +kernel
theorem d_D_selectionStart_26 : decode prog_1_method_21_code 26 = .ok (.ireturn, 1) := by decide +kernel
theorem d_D_sizeWithSlipIn_0 : decode prog_1_method_27_code 0 = .ok (.aload_n 0, 1) := by decide +kernel
theorem d_D_sizeWithSlipIn_1 : decode prog_1_method_27_code 1 = .ok (.getfield 19, 3) := by decide +kernel
theorem d_D_sizeWithSlipIn_4 : decode prog_1_method_27_code 4 = .ok (.arraylength, 1) := by decide +kernel
theorem d_D_sizeWithSlipIn_5 : decode prog_1_method_27_code 5 = .ok (.iload_n 1, 1) := by decide +kernel
theorem d_D_sizeWithSlipIn_6 : decode prog_1_method_27_code 6 = .ok (.aload_n 0, 1) := by decide +kernel
theorem d_D_sizeWithSlipIn_7 : decode prog_1_method_27_code 7 = .ok (.getfield 56, 3) := by decide +kernel
theorem d_D_sizeWithSlipIn_10 : decode prog_1_method_27_code 10 = .ok (.imul, 1) := by decide +kernel
theorem d_D_sizeWithSlipIn_11 : decode prog_1_method_27_code 11 = .ok (.iadd, 1) := by decide +kernel
theorem d_D_sizeWithSlipIn_12 : decode prog_1_method_27_code 12 = .ok (.istore_n 2, 1) := by decide +kernel
theorem d_D_sizeWithSlipIn_13 : decode prog_1_method_27_code 13 = .ok (.iconst 0, 1) := by decide +kernel
theorem d_D_sizeWithSlipIn_14 : decode prog_1_method_27_code 14 = .ok (.istore_n 3, 1) := by decide +kernel
theorem d_D_sizeWithSlipIn_15 : decode prog_1_method_27_code 15 = .ok (.iload_n 3, 1) := by decide +kernel
theorem d_D_sizeWithSlipIn_16 : decode prog_1_method_27_code 16 = .ok (.iload_n 1, 1) := by decide +kernel
theorem d_D_sizeWithSlipIn_17 : decode prog_1_method_27_code 17 = .ok (.if_icmp .ge 25, 3) := by decide +kernel
theorem d_D_sizeWithSlipIn_42 : decode prog_1_method_27_code 42 = .ok (.iload_n 2, 1) := by decide +kernel
theorem d_D_sizeWithSlipIn_43 : decode prog_1_method_27_code 43 = .ok (.ireturn, 1) := by decide +kernel
theorem d_D_sizeWithSlipIn_20 : decode prog_1_method_27_code 20 = .ok (.iload_n 2, 1) := by decide +kernel
theorem d_D_sizeWithSlipIn_21 : decode prog_1_method_27_code 21 = .ok (.aload_n 0, 1) := by decide +kernel
theorem d_D_sizeWithSlipIn_22 : decode prog_1_method_27_code 22 = .ok (.getfield 53, 3) := by decide +kernel
theorem d_D_sizeWithSlipIn_25 : decode prog_1_method_27_code 25 = .ok (.iload_n 3, 1) := by decide +kernel
theorem d_D_sizeWithSlipIn_26 : decode prog_1_method_27_code 26 = .ok (.iaload, 1) := by decide +kernel
theorem d_D_sizeWithSlipIn_27 : decode prog_1_method_27_code 27 = .ok (.aload_n 0, 1) := by decide +kernel
theorem d_D_sizeWithSlipIn_28 : decode prog_1_method_27_code 28 = .ok (.getfield 49, 3) := by decide +kernel
theorem d_D_sizeWithSlipIn_31 : decode prog_1_method_27_code 31 = .ok (.iload_n 3, 1) := by decide +kernel
theorem d_D_sizeWithSlipIn_32 : decode prog_1_method_27_code 32 = .ok (.iaload, 1) := by decide +kernel
theorem d_D_sizeWithSlipIn_33 : decode prog_1_method_27_code 33 = .ok (.isub, 1) := by decide +kernel
theorem d_D_sizeWithSlipIn_34 : decode prog_1_method_27_code 34 = .ok (.isub, 1) := by decide +kernel
theorem d_D_sizeWithSlipIn_35 : decode prog_1_method_27_code 35 = .ok (.istore_n 2, 1) := by decide +kernel
theorem d_D_sizeWithSlipIn_36 : decode prog_1_method_27_code 36 = .ok (.iinc 3 1, 3) := by decide +kernel
theorem d_D_sizeWithSlipIn_39 : decode prog_1_method_27_code 39 = .ok (.goto (-24), 3) := by decide +kernel
theorem d_D_type_0 : decode prog_1_method_2_code 0 = .ok (.iload_n 1, 1) := by decide +kernel
theorem d_D_type_1 : decode prog_1_method_2_code 1 = .ok (.bipush 10, 2) := by decide +kernel
theorem d_D_type_3 : decode prog_1_method_2_code 3 = .ok (.if_icmp .eq 15, 3) := by decide +kernel
theorem d_D_type_6 : decode prog_1_method_2_code 6 = .ok (.iload_n 1, 1) := by decide +kernel
theorem d_D_type_7 : decode prog_1_method_2_code 7 = .ok (.bipush 32, 2) := by decide +kernel
theorem d_D_type_9 : decode prog_1_method_2_code 9 = .ok (.if_icmp .lt 13, 3) := by decide +kernel
theorem d_D_type_12 : decode prog_1_method_2_code 12 = .ok (.iload_n 1, 1) := by decide +kernel
theorem d_D_type_13 : decode prog_1_method_2_code 13 = .ok (.bipush 126, 2) := by decide +kernel
theorem d_D_type_15 : decode prog_1_method_2_code 15 = .ok (.if_icmp .gt 7, 3) := by decide +kernel
theorem d_D_type_18 : decode prog_1_method_2_code 18 = .ok (.iconst 1, 1) := by decide +kernel
theorem d_D_type_19 : decode prog_1_method_2_code 19 = .ok (.goto 4, 3) := by decide +kernel
theorem d_D_type_22 : decode prog_1_method_2_code 22 = .ok (.iconst 0, 1) := by decide +kernel
theorem d_D_type_23 : decode prog_1_method_2_code 23 = .ok (.istore_n 2, 1) := by decide +kernel
theorem d_D_type_24 : decode prog_1_method_2_code 24 = .ok (.iload_n 2, 1) := by decide +kernel
theorem d_D_type_25 : decode prog_1_method_2_code 25 = .ok (.ifCond .eq 12, 3) := by decide +kernel
theorem d_D_type_28 : decode prog_1_method_2_code 28 = .ok (.aload_n 0, 1) := by decide +kernel
theorem d_D_type_29 : decode prog_1_method_2_code 29 = .ok (.getfield 56, 3) := by decide +kernel
theorem d_D_type_32 : decode prog_1_method_2_code 32 = .ok (.bipush 24, 2) := by decide +kernel
theorem d_D_type_34 : decode prog_1_method_2_code 34 = .ok (.if_icmp .ne 5, 3) := by decide +kernel
theorem d_D_type_39 : decode prog_1_method_2_code 39 = .ok (.aload_n 0, 1) := by decide +kernel
theorem d_D_type_40 : decode prog_1_method_2_code 40 = .ok (.getfield 9, 3) := by decide +kernel
theorem d_D_type_43 : decode prog_1_method_2_code 43 = .ok (.aload_n 0, 1) := by decide +kernel
theorem d_D_type_44 : decode prog_1_method_2_code 44 = .ok (.getfield 56, 3) := by decide +kernel
theorem d_D_type_47 : decode prog_1_method_2_code 47 = .ok (.iload_n 1, 1) := by decide +kernel
theorem d_D_type_48 : decode prog_1_method_2_code 48 = .ok (.castore, 1) := by decide +kernel
theorem d_D_type_49 : decode prog_1_method_2_code 49 = .ok (.aload_n 0, 1) := by decide +kernel
theorem d_D_type_50 : decode prog_1_method_2_code 50 = .ok (.dup, 1) := by decide +kernel
theorem d_D_type_51 : decode prog_1_method_2_code 51 = .ok (.getfield 56, 3) := by decide +kernel
theorem d_D_type_54 : decode prog_1_method_2_code 54 = .ok (.iconst 1, 1) := by decide +kernel
theorem d_D_type_55 : decode prog_1_method_2_code 55 = .ok (.iadd, 1) := by decide +kernel
theorem d_D_type_56 : decode prog_1_method_2_code 56 = .ok (.putfield 56, 3) := by decide +kernel
theorem d_D_type_59 : decode prog_1_method_2_code 59 = .ok (.iconst 1, 1) := by decide +kernel
theorem d_D_type_60 : decode prog_1_method_2_code 60 = .ok (.ireturn, 1) := by decide +kernel
theorem d_D_type_37 : decode prog_1_method_2_code 37 = .ok (.iconst 0, 1) := by decide +kernel
theorem d_D_type_38 : decode prog_1_method_2_code 38 = .ok (.ireturn, 1) := by decide +kernel
theorem d_D_undo_0 : decode prog_1_method_11_code 0 = .ok (.aload_n 0, 1) := by decide +kernel
theorem d_D_undo_1 : decode prog_1_method_11_code 1 = .ok (.getfield 15, 3) := by decide +kernel
theorem d_D_undo_4 : decode prog_1_method_11_code 4 = .ok (.aload_n 0, 1) := by decide +kernel
theorem d_D_undo_5 : decode prog_1_method_11_code 5 = .ok (.getfield 73, 3) := by decide +kernel
theorem d_D_undo_8 : decode prog_1_method_11_code 8 = .ok (.aaload, 1) := by decide +kernel
theorem d_D_undo_9 : decode prog_1_method_11_code 9 = .ok (.getfield 131, 3) := by decide +kernel
theorem d_D_undo_12 : decode prog_1_method_11_code 12 = .ok (.istore_n 1, 1) := by decide +kernel
theorem d_D_undo_13 : decode prog_1_method_11_code 13 = .ok (.iload_n 1, 1) := by decide +kernel
theorem d_D_undo_14 : decode prog_1_method_11_code 14 = .ok (.iconst (-1), 1) := by decide +kernel
theorem d_D_undo_15 : decode prog_1_method_11_code 15 = .ok (.if_icmp .ne 11, 3) := by decide +kernel
theorem d_D_undo_26 : decode prog_1_method_11_code 26 = .ok (.aload_n 0, 1) := by decide +kernel
theorem d_D_undo_27 : decode prog_1_method_11_code 27 = .ok (.iload_n 1, 1) := by decide +kernel
theorem d_D_undo_28 : decode prog_1_method_11_code 28 = .ok (.invokevirtual 134, 3) := by decide +kernel
theorem d_D_undo_31 : decode prog_1_method_11_code 31 = .ok (.aload_n 0, 1) := by decide +kernel
theorem d_D_undo_32 : decode prog_1_method_11_code 32 = .ok (.getfield 73, 3) := by decide +kernel
theorem d_D_undo_35 : decode prog_1_method_11_code 35 = .ok (.ireturn, 1) := by decide +kernel
theorem d_D_undo_18 : decode prog_1_method_11_code 18 = .ok (.new 111, 3) := by decide +kernel
theorem d_D_undo_21 : decode prog_1_method_11_code 21 = .ok (.dup, 1) := by decide +kernel
theorem d_D_undo_22 : decode prog_1_method_11_code 22 = .ok (.invokespecial 113, 3) := by decide +kernel
theorem d_D_undo_25 : decode prog_1_method_11_code 25 = .ok (.athrow, 1) := by decide +kernel
theorem d_D_wipe_0 : decode prog_1_method_3_code 0 = .ok (.aload_n 0, 1) := by decide +kernel
theorem d_D_wipe_1 : decode prog_1_method_3_code 1 = .ok (.getfield 56, 3) := by decide +kernel
theorem d_D_wipe_4 : decode prog_1_method_3_code 4 = .ok (.istore_n 1, 1) := by decide +kernel
theorem d_D_wipe_5 : decode prog_1_method_3_code 5 = .ok (.aload_n 0, 1) := by decide +kernel
theorem d_D_wipe_6 : decode prog_1_method_3_code 6 = .ok (.iconst 0, 1) := by decide +kernel
theorem d_D_wipe_7 : decode prog_1_method_3_code 7 = .ok (.putfield 56, 3) := by decide +kernel
theorem d_D_wipe_10 : decode prog_1_method_3_code 10 = .ok (.iload_n 1, 1) := by decide +kernel
theorem d_D_wipe_11 : decode prog_1_method_3_code 11 = .ok (.ireturn, 1) := by decide +kernel
theorem d_S_init_0 : decode prog_4_method_1_code 0 = .ok (.aload_n 0, 1) := by decide +kernel
theorem d_S_init_1 : decode prog_4_method_1_code 1 = .ok (.invokespecial 3, 3) := by decide +kernel
theorem d_S_init_4 : decode prog_4_method_1_code 4 = .ok (.aload_n 0, 1) := by decide +kernel
theorem d_S_init_5 : decode prog_4_method_1_code 5 = .ok (.aload_n 1, 1) := by decide +kernel
theorem d_S_init_6 : decode prog_4_method_1_code 6 = .ok (.putfield 9, 3) := by decide +kernel
theorem d_S_init_9 : decode prog_4_method_1_code 9 = .ok (.aload_n 0, 1) := by decide +kernel
theorem d_S_init_10 : decode prog_4_method_1_code 10 = .ok (.iload_n 2, 1) := by decide +kernel
theorem d_S_init_11 : decode prog_4_method_1_code 11 = .ok (.putfield 15, 3) := by decide +kernel
theorem d_S_init_14 : decode prog_4_method_1_code 14 = .ok (.aload_n 0, 1) := by decide +kernel
theorem d_S_init_15 : decode prog_4_method_1_code 15 = .ok (.iload_n 3, 1) := by decide +kernel
theorem d_S_init_16 : decode prog_4_method_1_code 16 = .ok (.putfield 19, 3) := by decide +kernel
theorem d_S_init_19 : decode prog_4_method_1_code 19 = .ok (.aload_n 0, 1) := by decide +kernel
theorem d_S_init_20 : decode prog_4_method_1_code 20 = .ok (.iconst (-1), 1) := by decide +kernel
theorem d_S_init_21 : decode prog_4_method_1_code 21 = .ok (.putfield 22, 3) := by decide +kernel
theorem d_S_init_24 : decode prog_4_method_1_code 24 = .ok (.return_, 1) := by decide +kernel
theorem d_D_erase_0 : decode prog_1_method_5_code 0 = .ok (.aload_n 0, 1) := by decide +kernel
theorem d_D_erase_1 : decode prog_1_method_5_code 1 = .ok (.invokevirtual 59, 3) := by decide +kernel
theorem d_D_erase_4 : decode prog_1_method_5_code 4 = .ok (.istore_n 2, 1) := by decide +kernel
theorem d_D_erase_5 : decode prog_1_method_5_code 5 = .ok (.aload_n 0, 1) := by decide +kernel
theorem d_D_erase_6 : decode prog_1_method_5_code 6 = .ok (.invokevirtual 63, 3) := by decide +kernel
theorem d_D_erase_9 : decode prog_1_method_5_code 9 = .ok (.istore_n 3, 1) := by decide +kernel
theorem d_D_erase_10 : decode prog_1_method_5_code 10 = .ok (.iload_n 2, 1) := by decide +kernel
theorem d_D_erase_11 : decode prog_1_method_5_code 11 = .ok (.iload_n 3, 1) := by decide +kernel
theorem d_D_erase_12 : decode prog_1_method_5_code 12 = .ok (.if_icmp .ne 21, 3) := by decide +kernel
theorem d_D_erase_15 : decode prog_1_method_5_code 15 = .ok (.iload_n 1, 1) := by decide +kernel
theorem d_D_erase_16 : decode prog_1_method_5_code 16 = .ok (.ifCond .ge 17, 3) := by decide +kernel
theorem d_D_erase_19 : decode prog_1_method_5_code 19 = .ok (.iconst 0, 1) := by decide +kernel
theorem d_D_erase_20 : decode prog_1_method_5_code 20 = .ok (.aload_n 0, 1) := by decide +kernel
theorem d_D_erase_21 : decode prog_1_method_5_code 21 = .ok (.getfield 76, 3) := by decide +kernel
theorem d_D_erase_24 : decode prog_1_method_5_code 24 = .ok (.iload_n 1, 1) := by decide +kernel
theorem d_D_erase_25 : decode prog_1_method_5_code 25 = .ok (.iadd, 1) := by decide +kernel
theorem d_D_erase_26 : decode prog_1_method_5_code 26 = .ok (.invokestatic 79, 3) := by decide +kernel
theorem d_D_erase_29 : decode prog_1_method_5_code 29 = .ok (.istore_n 2, 1) := by decide +kernel
theorem d_D_erase_30 : decode prog_1_method_5_code 30 = .ok (.goto 28, 3) := by decide +kernel
theorem d_D_erase_33 : decode prog_1_method_5_code 33 = .ok (.iload_n 2, 1) := by decide +kernel
theorem d_D_erase_34 : decode prog_1_method_5_code 34 = .ok (.iload_n 3, 1) := by decide +kernel
theorem d_D_erase_35 : decode prog_1_method_5_code 35 = .ok (.if_icmp .ne 23, 3) := by decide +kernel
theorem d_D_erase_38 : decode prog_1_method_5_code 38 = .ok (.aload_n 0, 1) := by decide +kernel
theorem d_D_erase_39 : decode prog_1_method_5_code 39 = .ok (.getfield 76, 3) := by decide +kernel
theorem d_D_erase_42 : decode prog_1_method_5_code 42 = .ok (.iload_n 1, 1) := by decide +kernel
theorem d_D_erase_43 : decode prog_1_method_5_code 43 = .ok (.aload_n 0, 1) := by decide +kernel
theorem d_D_erase_44 : decode prog_1_method_5_code 44 = .ok (.getfield 19, 3) := by decide +kernel
theorem d_D_erase_47 : decode prog_1_method_5_code 47 = .ok (.arraylength, 1) := by decide +kernel
theorem d_D_erase_48 : decode prog_1_method_5_code 48 = .ok (.aload_n 0, 1) := by decide +kernel
theorem d_D_erase_49 : decode prog_1_method_5_code 49 = .ok (.getfield 76, 3) := by decide +kernel
theorem d_D_erase_52 : decode prog_1_method_5_code 52 = .ok (.isub, 1) := by decide +kernel
theorem d_D_erase_53 : decode prog_1_method_5_code 53 = .ok (.invokestatic 85, 3) := by decide +kernel
theorem d_D_erase_56 : decode prog_1_method_5_code 56 = .ok (.iadd, 1) := by decide +kernel
theorem d_D_erase_57 : decode prog_1_method_5_code 57 = .ok (.istore_n 3, 1) := by decide +kernel
theorem d_D_erase_58 : decode prog_1_method_5_code 58 = .ok (.iload_n 2, 1) := by decide +kernel
theorem d_D_erase_59 : decode prog_1_method_5_code 59 = .ok (.iload_n 3, 1) := by decide +kernel
theorem d_D_erase_60 : decode prog_1_method_5_code 60 = .ok (.if_icmp .ge 27, 3) := by decide +kernel
theorem d_D_erase_63 : decode prog_1_method_5_code 63 = .ok (.aload_n 0, 1) := by decide +kernel
theorem d_D_erase_64 : decode prog_1_method_5_code 64 = .ok (.getfield 25, 3) := by decide +kernel
theorem d_D_erase_67 : decode prog_1_method_5_code 67 = .ok (.bipush 40, 2) := by decide +kernel
theorem d_D_erase_69 : decode prog_1_method_5_code 69 = .ok (.if_icmp .ne 11, 3) := by decide +kernel
theorem d_D_erase_72 : decode prog_1_method_5_code 72 = .ok (.new 66, 3) := by decide +kernel
theorem d_D_erase_75 : decode prog_1_method_5_code 75 = .ok (.dup, 1) := by decide +kernel
theorem d_D_erase_76 : decode prog_1_method_5_code 76 = .ok (.invokespecial 68, 3) := by decide +kernel
theorem d_D_erase_79 : decode prog_1_method_5_code 79 = .ok (.athrow, 1) := by decide +kernel
theorem d_D_erase_80 : decode prog_1_method_5_code 80 = .ok (.aload_n 0, 1) := by decide +kernel
theorem d_D_erase_81 : decode prog_1_method_5_code 81 = .ok (.iload_n 2, 1) := by decide +kernel
theorem d_D_erase_82 : decode prog_1_method_5_code 82 = .ok (.iload_n 3, 1) := by decide +kernel
theorem d_D_erase_83 : decode prog_1_method_5_code 83 = .ok (.iconst 0, 1) := by decide +kernel
theorem d_D_erase_84 : decode prog_1_method_5_code 84 = .ok (.invokevirtual 69, 3) := by decide +kernel
theorem d_D_erase_87 : decode prog_1_method_5_code 87 = .ok (.iload_n 3, 1) := by decide +kernel
theorem d_D_erase_88 : decode prog_1_method_5_code 88 = .ok (.iload_n 2, 1) := by decide +kernel
theorem d_D_erase_89 : decode prog_1_method_5_code 89 = .ok (.isub, 1) := by decide +kernel
theorem d_D_erase_90 : decode prog_1_method_5_code 90 = .ok (.ireturn, 1) := by decide +kernel
theorem d_D_exchange_0 : decode prog_1_method_25_code 0 = .ok (.aload_n 0, 1) := by decide +kernel
theorem d_D_exchange_1 : decode prog_1_method_25_code 1 = .ok (.getfield 19, 3) := by decide +kernel
theorem d_D_exchange_4 : decode prog_1_method_25_code 4 = .ok (.arraylength, 1) := by decide +kernel
theorem d_D_exchange_5 : decode prog_1_method_25_code 5 = .ok (.iload_n 2, 1) := by decide +kernel
theorem d_D_exchange_6 : decode prog_1_method_25_code 6 = .ok (.iload_n 1, 1) := by decide +kernel
-- 14.dec09
theorem d_D_exchange_7 : decode prog_1_method_25_code 7 = .ok (.isub, 1) := by decide +kernel
theorem d_D_exchange_8 : decode prog_1_method_25_code 8 = .ok (.isub, 1) := by decide +kernel
theorem d_D_exchange_9 : decode prog_1_method_25_code 9 = .ok (.iload_n 3, 1) := by decide +kernel
theorem d_D_exchange_10 : decode prog_1_method_25_code 10 = .ok (.iadd, 1) := by decide +kernel
theorem d_D_exchange_11 : decode prog_1_method_25_code 11 = .ok (.newarray .char, 2) := by decide +kernel
theorem d_D_exchange_13 : decode prog_1_method_25_code 13 = .ok (.astore 4, 2) := by decide +kernel
theorem d_D_exchange_15 : decode prog_1_method_25_code 15 = .ok (.aload_n 0, 1) := by decide +kernel
theorem d_D_exchange_16 : decode prog_1_method_25_code 16 = .ok (.getfield 19, 3) := by decide +kernel
theorem d_D_exchange_19 : decode prog_1_method_25_code 19 = .ok (.iconst 0, 1) := by decide +kernel
theorem d_D_exchange_20 : decode prog_1_method_25_code 20 = .ok (.aload 4, 2) := by decide +kernel
theorem d_D_exchange_22 : decode prog_1_method_25_code 22 = .ok (.iconst 0, 1) := by decide +kernel
theorem d_D_exchange_23 : decode prog_1_method_25_code 23 = .ok (.iload_n 1, 1) := by decide +kernel
theorem d_D_exchange_24 : decode prog_1_method_25_code 24 = .ok (.invokestatic 159, 3) := by decide +kernel
theorem d_D_exchange_27 : decode prog_1_method_25_code 27 = .ok (.aload_n 0, 1) := by decide +kernel
theorem d_D_exchange_28 : decode prog_1_method_25_code 28 = .ok (.getfield 9, 3) := by decide +kernel
theorem d_D_exchange_31 : decode prog_1_method_25_code 31 = .ok (.iconst 0, 1) := by decide +kernel
theorem d_D_exchange_32 : decode prog_1_method_25_code 32 = .ok (.aload 4, 2) := by decide +kernel
theorem d_D_exchange_34 : decode prog_1_method_25_code 34 = .ok (.iload_n 1, 1) := by decide +kernel
theorem d_D_exchange_35 : decode prog_1_method_25_code 35 = .ok (.iload_n 3, 1) := by decide +kernel
theorem d_D_exchange_36 : decode prog_1_method_25_code 36 = .ok (.invokestatic 159, 3) := by decide +kernel
theorem d_D_exchange_39 : decode prog_1_method_25_code 39 = .ok (.aload_n 0, 1) := by decide +kernel
theorem d_D_exchange_40 : decode prog_1_method_25_code 40 = .ok (.getfield 19, 3) := by decide +kernel
theorem d_D_exchange_43 : decode prog_1_method_25_code 43 = .ok (.iload_n 2, 1) := by decide +kernel
theorem d_D_exchange_44 : decode prog_1_method_25_code 44 = .ok (.aload 4, 2) := by decide +kernel
theorem d_D_exchange_46 : decode prog_1_method_25_code 46 = .ok (.iload_n 1, 1) := by decide +kernel
theorem d_D_exchange_47 : decode prog_1_method_25_code 47 = .ok (.iload_n 3, 1) := by decide +kernel
theorem d_D_exchange_48 : decode prog_1_method_25_code 48 = .ok (.iadd, 1) := by decide +kernel
theorem d_D_exchange_49 : decode prog_1_method_25_code 49 = .ok (.aload_n 0, 1) := by decide +kernel
theorem d_D_exchange_50 : decode prog_1_method_25_code 50 = .ok (.getfield 19, 3) := by decide +kernel
theorem d_D_exchange_53 : decode prog_1_method_25_code 53 = .ok (.arraylength, 1) := by decide +kernel
theorem d_D_exchange_54 : decode prog_1_method_25_code 54 = .ok (.iload_n 2, 1) := by decide +kernel
theorem d_D_exchange_55 : decode prog_1_method_25_code 55 = .ok (.isub, 1) := by decide +kernel
theorem d_D_exchange_56 : decode prog_1_method_25_code 56 = .ok (.invokestatic 159, 3) := by decide +kernel
theorem d_D_exchange_59 : decode prog_1_method_25_code 59 = .ok (.aload_n 0, 1) := by decide +kernel
theorem d_D_exchange_60 : decode prog_1_method_25_code 60 = .ok (.aload 4, 2) := by decide +kernel
theorem d_D_exchange_62 : decode prog_1_method_25_code 62 = .ok (.iload_n 1, 1) := by decide +kernel
theorem d_D_exchange_63 : decode prog_1_method_25_code 63 = .ok (.iload_n 3, 1) := by decide +kernel
theorem d_D_exchange_64 : decode prog_1_method_25_code 64 = .ok (.iadd, 1) := by decide +kernel
theorem d_D_exchange_65 : decode prog_1_method_25_code 65 = .ok (.invokevirtual 165, 3) := by decide +kernel
theorem d_D_exchange_68 : decode prog_1_method_25_code 68 = .ok (.return_, 1) := by decide +kernel
theorem d_D_insert_0 : decode prog_1_method_4_code 0 = .ok (.aload_n 0, 1) := by decide +kernel
theorem d_D_insert_1 : decode prog_1_method_4_code 1 = .ok (.invokevirtual 59, 3) := by decide +kernel
theorem d_D_insert_4 : decode prog_1_method_4_code 4 = .ok (.istore_n 1, 1) := by decide +kernel
theorem d_D_insert_5 : decode prog_1_method_4_code 5 = .ok (.aload_n 0, 1) := by decide +kernel
theorem d_D_insert_6 : decode prog_1_method_4_code 6 = .ok (.invokevirtual 63, 3) := by decide +kernel
theorem d_D_insert_9 : decode prog_1_method_4_code 9 = .ok (.istore_n 2, 1) := by decide +kernel
theorem d_D_insert_10 : decode prog_1_method_4_code 10 = .ok (.aload_n 0, 1) := by decide +kernel
theorem d_D_insert_11 : decode prog_1_method_4_code 11 = .ok (.getfield 25, 3) := by decide +kernel
theorem d_D_insert_14 : decode prog_1_method_4_code 14 = .ok (.bipush 40, 2) := by decide +kernel
theorem d_D_insert_16 : decode prog_1_method_4_code 16 = .ok (.if_icmp .eq 23, 3) := by decide +kernel
theorem d_D_insert_19 : decode prog_1_method_4_code 19 = .ok (.aload_n 0, 1) := by decide +kernel
theorem d_D_insert_20 : decode prog_1_method_4_code 20 = .ok (.getfield 19, 3) := by decide +kernel
theorem d_D_insert_23 : decode prog_1_method_4_code 23 = .ok (.arraylength, 1) := by decide +kernel
theorem d_D_insert_24 : decode prog_1_method_4_code 24 = .ok (.iload_n 2, 1) := by decide +kernel
theorem d_D_insert_25 : decode prog_1_method_4_code 25 = .ok (.iload_n 1, 1) := by decide +kernel
theorem d_D_insert_26 : decode prog_1_method_4_code 26 = .ok (.isub, 1) := by decide +kernel
theorem d_D_insert_27 : decode prog_1_method_4_code 27 = .ok (.isub, 1) := by decide +kernel
theorem d_D_insert_28 : decode prog_1_method_4_code 28 = .ok (.aload_n 0, 1) := by decide +kernel
theorem d_D_insert_29 : decode prog_1_method_4_code 29 = .ok (.getfield 56, 3) := by decide +kernel
theorem d_D_insert_32 : decode prog_1_method_4_code 32 = .ok (.iadd, 1) := by decide +kernel
theorem d_D_insert_33 : decode prog_1_method_4_code 33 = .ok (.sipush 160, 3) := by decide +kernel
theorem d_D_insert_36 : decode prog_1_method_4_code 36 = .ok (.if_icmp .le 11, 3) := by decide +kernel
theorem d_D_insert_39 : decode prog_1_method_4_code 39 = .ok (.new 66, 3) := by decide +kernel
theorem d_D_insert_42 : decode prog_1_method_4_code 42 = .ok (.dup, 1) := by decide +kernel
theorem d_D_insert_43 : decode prog_1_method_4_code 43 = .ok (.invokespecial 68, 3) := by decide +kernel
theorem d_D_insert_46 : decode prog_1_method_4_code 46 = .ok (.athrow, 1) := by decide +kernel
theorem d_D_insert_47 : decode prog_1_method_4_code 47 = .ok (.iload_n 1, 1) := by decide +kernel
theorem d_D_insert_48 : decode prog_1_method_4_code 48 = .ok (.iload_n 2, 1) := by decide +kernel
theorem d_D_insert_49 : decode prog_1_method_4_code 49 = .ok (.if_icmp .lt 10, 3) := by decide +kernel
theorem d_D_insert_52 : decode prog_1_method_4_code 52 = .ok (.aload_n 0, 1) := by decide +kernel
theorem d_D_insert_53 : decode prog_1_method_4_code 53 = .ok (.getfield 56, 3) := by decide +kernel
theorem d_D_insert_56 : decode prog_1_method_4_code 56 = .ok (.ifCond .le 18, 3) := by decide +kernel
theorem d_D_insert_59 : decode prog_1_method_4_code 59 = .ok (.aload_n 0, 1) := by decide +kernel
theorem d_D_insert_60 : decode prog_1_method_4_code 60 = .ok (.iload_n 1, 1) := by decide +kernel
theorem d_D_insert_61 : decode prog_1_method_4_code 61 = .ok (.iload_n 2, 1) := by decide +kernel
theorem d_D_insert_62 : decode prog_1_method_4_code 62 = .ok (.aload_n 0, 1) := by decide +kernel
theorem d_D_insert_63 : decode prog_1_method_4_code 63 = .ok (.getfield 56, 3) := by decide +kernel
theorem d_D_insert_66 : decode prog_1_method_4_code 66 = .ok (.invokevirtual 69, 3) := by decide +kernel
theorem d_D_insert_69 : decode prog_1_method_4_code 69 = .ok (.aload_n 0, 1) := by decide +kernel
theorem d_D_insert_70 : decode prog_1_method_4_code 70 = .ok (.iconst 0, 1) := by decide +kernel
theorem d_D_insert_71 : decode prog_1_method_4_code 71 = .ok (.putfield 56, 3) := by decide +kernel
theorem d_D_insert_74 : decode prog_1_method_4_code 74 = .ok (.aload_n 0, 1) := by decide +kernel
theorem d_D_insert_75 : decode prog_1_method_4_code 75 = .ok (.getfield 73, 3) := by decide +kernel
theorem d_D_insert_78 : decode prog_1_method_4_code 78 = .ok (.ireturn, 1) := by decide +kernel
theorem d_D_makeState_0 : decode prog_1_method_24_code 0 = .ok (.aload_n 0, 1) := by decide +kernel
theorem d_D_makeState_1 : decode prog_1_method_24_code 1 = .ok (.getfield 25, 3) := by decide +kernel
theorem d_D_makeState_4 : decode prog_1_method_24_code 4 = .ok (.istore_n 3, 1) := by decide +kernel
theorem d_D_makeState_5 : decode prog_1_method_24_code 5 = .ok (.aload_n 0, 1) := by decide +kernel
theorem d_D_makeState_6 : decode prog_1_method_24_code 6 = .ok (.getfield 15, 3) := by decide +kernel
theorem d_D_makeState_9 : decode prog_1_method_24_code 9 = .ok (.iload_n 3, 1) := by decide +kernel
theorem d_D_makeState_10 : decode prog_1_method_24_code 10 = .ok (.new 13, 3) := by decide +kernel
theorem d_D_makeState_13 : decode prog_1_method_24_code 13 = .ok (.dup, 1) := by decide +kernel
theorem d_D_makeState_14 : decode prog_1_method_24_code 14 = .ok (.aload_n 1, 1) := by decide +kernel
theorem d_D_makeState_15 : decode prog_1_method_24_code 15 = .ok (.iload_n 2, 1) := by decide +kernel
theorem d_D_makeState_16 : decode prog_1_method_24_code 16 = .ok (.aload_n 0, 1) := by decide +kernel
theorem d_D_makeState_17 : decode prog_1_method_24_code 17 = .ok (.getfield 73, 3) := by decide +kernel
theorem d_D_makeState_20 : decode prog_1_method_24_code 20 = .ok (.invokespecial 22, 3) := by decide +kernel
theorem d_D_makeState_23 : decode prog_1_method_24_code 23 = .ok (.aastore, 1) := by decide +kernel
theorem d_D_makeState_24 : decode prog_1_method_24_code 24 = .ok (.aload_n 0, 1) := by decide +kernel
theorem d_D_makeState_25 : decode prog_1_method_24_code 25 = .ok (.dup, 1) := by decide +kernel
theorem d_D_makeState_26 : decode prog_1_method_24_code 26 = .ok (.getfield 25, 3) := by decide +kernel
theorem d_D_makeState_29 : decode prog_1_method_24_code 29 = .ok (.iconst 1, 1) := by decide +kernel
theorem d_D_makeState_30 : decode prog_1_method_24_code 30 = .ok (.iadd, 1) := by decide +kernel
theorem d_D_makeState_31 : decode prog_1_method_24_code 31 = .ok (.putfield 25, 3) := by decide +kernel
theorem d_D_makeState_34 : decode prog_1_method_24_code 34 = .ok (.aload_n 0, 1) := by decide +kernel
theorem d_D_makeState_35 : decode prog_1_method_24_code 35 = .ok (.iload_n 3, 1) := by decide +kernel
theorem d_D_makeState_36 : decode prog_1_method_24_code 36 = .ok (.invokevirtual 134, 3) := by decide +kernel
theorem d_D_makeState_39 : decode prog_1_method_24_code 39 = .ok (.return_, 1) := by decide +kernel
theorem d_D_putSlipIntoMatches_0 : decode prog_1_method_28_code 0 = .ok (.iload_n 2, 1) := by decide +kernel
theorem d_D_putSlipIntoMatches_1 : decode prog_1_method_28_code 1 = .ok (.newarray .char, 2) := by decide +kernel
theorem d_D_putSlipIntoMatches_3 : decode prog_1_method_28_code 3 = .ok (.astore_n 3, 1) := by decide +kernel
theorem d_D_putSlipIntoMatches_4 : decode prog_1_method_28_code 4 = .ok (.iconst 0, 1) := by decide +kernel
theorem d_D_putSlipIntoMatches_5 : decode prog_1_method_28_code 5 = .ok (.istore 4, 2) := by decide +kernel
theorem d_D_putSlipIntoMatches_7 : decode prog_1_method_28_code 7 = .ok (.iconst 0, 1) := by decide +kernel
theorem d_D_putSlipIntoMatches_8 : decode prog_1_method_28_code 8 = .ok (.istore 5, 2) := by decide +kernel
theorem d_D_putSlipIntoMatches_10 : decode prog_1_method_28_code 10 = .ok (.iconst 0, 1) := by decide +kernel
theorem d_D_putSlipIntoMatches_11 : decode prog_1_method_28_code 11 = .ok (.istore 6, 2) := by decide +kernel
theorem d_D_putSlipIntoMatches_13 : decode prog_1_method_28_code 13 = .ok (.iload 6, 2) := by decide +kernel
theorem d_D_putSlipIntoMatches_15 : decode prog_1_method_28_code 15 = .ok (.iload_n 1, 1) := by decide +kernel
theorem d_D_putSlipIntoMatches_16 : decode prog_1_method_28_code 16 = .ok (.if_icmp .ge 74, 3) := by decide +kernel
theorem d_D_putSlipIntoMatches_19 : decode prog_1_method_28_code 19 = .ok (.aload_n 0, 1) := by decide +kernel
theorem d_D_putSlipIntoMatches_20 : decode prog_1_method_28_code 20 = .ok (.getfield 49, 3) := by decide +kernel
theorem d_D_putSlipIntoMatches_23 : decode prog_1_method_28_code 23 = .ok (.iload 6, 2) := by decide +kernel
theorem d_D_putSlipIntoMatches_25 : decode prog_1_method_28_code 25 = .ok (.iaload, 1) := by decide +kernel
theorem d_D_putSlipIntoMatches_26 : decode prog_1_method_28_code 26 = .ok (.iload 4, 2) := by decide +kernel
theorem d_D_putSlipIntoMatches_28 : decode prog_1_method_28_code 28 = .ok (.isub, 1) := by decide +kernel
theorem d_D_putSlipIntoMatches_29 : decode prog_1_method_28_code 29 = .ok (.istore 7, 2) := by decide +kernel
theorem d_D_putSlipIntoMatches_31 : decode prog_1_method_28_code 31 = .ok (.aload_n 0, 1) := by decide +kernel
theorem d_D_putSlipIntoMatches_32 : decode prog_1_method_28_code 32 = .ok (.getfield 19, 3) := by decide +kernel
theorem d_D_putSlipIntoMatches_35 : decode prog_1_method_28_code 35 = .ok (.iload 4, 2) := by decide +kernel
theorem d_D_putSlipIntoMatches_37 : decode prog_1_method_28_code 37 = .ok (.aload_n 3, 1) := by decide +kernel
theorem d_D_putSlipIntoMatches_38 : decode prog_1_method_28_code 38 = .ok (.iload 5, 2) := by decide +kernel
theorem d_D_putSlipIntoMatches_40 : decode prog_1_method_28_code 40 = .ok (.iload 7, 2) := by decide +kernel
theorem d_D_putSlipIntoMatches_42 : decode prog_1_method_28_code 42 = .ok (.invokestatic 159, 3) := by decide +kernel
theorem d_D_putSlipIntoMatches_45 : decode prog_1_method_28_code 45 = .ok (.aload_n 0, 1) := by decide +kernel
theorem d_D_putSlipIntoMatches_46 : decode prog_1_method_28_code 46 = .ok (.getfield 9, 3) := by decide +kernel
theorem d_D_putSlipIntoMatches_49 : decode prog_1_method_28_code 49 = .ok (.iconst 0, 1) := by decide +kernel
theorem d_D_putSlipIntoMatches_50 : decode prog_1_method_28_code 50 = .ok (.aload_n 3, 1) := by decide +kernel
theorem d_D_putSlipIntoMatches_51 : decode prog_1_method_28_code 51 = .ok (.iload 5, 2) := by decide +kernel
theorem d_D_putSlipIntoMatches_53 : decode prog_1_method_28_code 53 = .ok (.iload 7, 2) := by decide +kernel
theorem d_D_putSlipIntoMatches_55 : decode prog_1_method_28_code 55 = .ok (.iadd, 1) := by decide +kernel
theorem d_D_putSlipIntoMatches_56 : decode prog_1_method_28_code 56 = .ok (.aload_n 0, 1) := by decide +kernel
theorem d_D_putSlipIntoMatches_57 : decode prog_1_method_28_code 57 = .ok (.getfield 56, 3) := by decide +kernel
theorem d_D_putSlipIntoMatches_60 : decode prog_1_method_28_code 60 = .ok (.invokestatic 159, 3) := by decide +kernel
theorem d_D_putSlipIntoMatches_63 : decode prog_1_method_28_code 63 = .ok (.iload 5, 2) := by decide +kernel
theorem d_D_putSlipIntoMatches_65 : decode prog_1_method_28_code 65 = .ok (.iload 7, 2) := by decide +kernel
theorem d_D_putSlipIntoMatches_67 : decode prog_1_method_28_code 67 = .ok (.aload_n 0, 1) := by decide +kernel
theorem d_D_putSlipIntoMatches_68 : decode prog_1_method_28_code 68 = .ok (.getfield 56, 3) := by decide +kernel
theorem d_D_putSlipIntoMatches_71 : decode prog_1_method_28_code 71 = .ok (.iadd, 1) := by decide +kernel
theorem d_D_putSlipIntoMatches_72 : decode prog_1_method_28_code 72 = .ok (.iadd, 1) := by decide +kernel
theorem d_D_putSlipIntoMatches_73 : decode prog_1_method_28_code 73 = .ok (.istore 5, 2) := by decide +kernel
theorem d_D_putSlipIntoMatches_75 : decode prog_1_method_28_code 75 = .ok (.aload_n 0, 1) := by decide +kernel
theorem d_D_putSlipIntoMatches_76 : decode prog_1_method_28_code 76 = .ok (.getfield 53, 3) := by decide +kernel
theorem d_D_putSlipIntoMatches_79 : decode prog_1_method_28_code 79 = .ok (.iload 6, 2) := by decide +kernel
theorem d_D_putSlipIntoMatches_81 : decode prog_1_method_28_code 81 = .ok (.iaload, 1) := by decide +kernel
theorem d_D_putSlipIntoMatches_82 : decode prog_1_method_28_code 82 = .ok (.istore 4, 2) := by decide +kernel
theorem d_D_putSlipIntoMatches_84 : decode prog_1_method_28_code 84 = .ok (.iinc 6 1, 3) := by decide +kernel
theorem d_D_putSlipIntoMatches_87 : decode prog_1_method_28_code 87 = .ok (.goto (-74), 3) := by decide +kernel
theorem d_D_putSlipIntoMatches_90 : decode prog_1_method_28_code 90 = .ok (.aload_n 0, 1) := by decide +kernel
theorem d_D_putSlipIntoMatches_91 : decode prog_1_method_28_code 91 = .ok (.getfield 19, 3) := by decide +kernel
theorem d_D_putSlipIntoMatches_94 : decode prog_1_method_28_code 94 = .ok (.iload 4, 2) := by decide +kernel
theorem d_D_putSlipIntoMatches_96 : decode prog_1_method_28_code 96 = .ok (.aload_n 3, 1) := by decide +kernel
theorem d_D_putSlipIntoMatches_97 : decode prog_1_method_28_code 97 = .ok (.iload 5, 2) := by decide +kernel
theorem d_D_putSlipIntoMatches_99 : decode prog_1_method_28_code 99 = .ok (.aload_n 0, 1) := by decide +kernel
theorem d_D_putSlipIntoMatches_100 : decode prog_1_method_28_code 100 = .ok (.getfield 19, 3) := by decide +kernel
theorem d_D_putSlipIntoMatches_103 : decode prog_1_method_28_code 103 = .ok (.arraylength, 1) := by decide +kernel
theorem d_D_putSlipIntoMatches_104 : decode prog_1_method_28_code 104 = .ok (.iload 4, 2) := by decide +kernel
theorem d_D_putSlipIntoMatches_106 : decode prog_1_method_28_code 106 = .ok (.isub, 1) := by decide +kernel
theorem d_D_putSlipIntoMatches_107 : decode prog_1_method_28_code 107 = .ok (.invokestatic 159, 3) := by decide +kernel
theorem d_D_putSlipIntoMatches_110 : decode prog_1_method_28_code 110 = .ok (.aload_n 0, 1) := by decide +kernel
theorem d_D_putSlipIntoMatches_111 : decode prog_1_method_28_code 111 = .ok (.aload_n 3, 1) := by decide +kernel
theorem d_D_putSlipIntoMatches_112 : decode prog_1_method_28_code 112 = .ok (.iload 5, 2) := by decide +kernel
theorem d_D_putSlipIntoMatches_114 : decode prog_1_method_28_code 114 = .ok (.invokevirtual 165, 3) := by decide +kernel
theorem d_D_putSlipIntoMatches_117 : decode prog_1_method_28_code 117 = .ok (.return_, 1) := by decide +kernel
theorem d_D_replace_0 : decode prog_1_method_10_code 0 = .ok (.aload_n 0, 1) := by decide +kernel
theorem d_D_replace_1 : decode prog_1_method_10_code 1 = .ok (.getfield 103, 3) := by decide +kernel
theorem d_D_replace_4 : decode prog_1_method_10_code 4 = .ok (.ifCond .ne 11, 3) := by decide +kernel
theorem d_D_replace_7 : decode prog_1_method_10_code 7 = .ok (.new 66, 3) := by decide +kernel
theorem d_D_replace_10 : decode prog_1_method_10_code 10 = .ok (.dup, 1) := by decide +kernel
theorem d_D_replace_11 : decode prog_1_method_10_code 11 = .ok (.invokespecial 68, 3) := by decide +kernel
theorem d_D_replace_14 : decode prog_1_method_10_code 14 = .ok (.athrow, 1) := by decide +kernel
theorem d_D_replace_15 : decode prog_1_method_10_code 15 = .ok (.aload_n 0, 1) := by decide +kernel
theorem d_D_replace_16 : decode prog_1_method_10_code 16 = .ok (.invokevirtual 120, 3) := by decide +kernel
theorem d_D_replace_19 : decode prog_1_method_10_code 19 = .ok (.istore_n 1, 1) := by decide +kernel
theorem d_D_replace_20 : decode prog_1_method_10_code 20 = .ok (.iload_n 1, 1) := by decide +kernel
theorem d_D_replace_21 : decode prog_1_method_10_code 21 = .ok (.ifCond .le 39, 3) := by decide +kernel
theorem d_D_replace_24 : decode prog_1_method_10_code 24 = .ok (.aload_n 0, 1) := by decide +kernel
theorem d_D_replace_25 : decode prog_1_method_10_code 25 = .ok (.iload_n 1, 1) := by decide +kernel
theorem d_D_replace_26 : decode prog_1_method_10_code 26 = .ok (.invokevirtual 123, 3) := by decide +kernel
theorem d_D_replace_29 : decode prog_1_method_10_code 29 = .ok (.istore_n 2, 1) := by decide +kernel
theorem d_D_replace_30 : decode prog_1_method_10_code 30 = .ok (.iload_n 2, 1) := by decide +kernel
theorem d_D_replace_31 : decode prog_1_method_10_code 31 = .ok (.sipush 160, 3) := by decide +kernel
theorem d_D_replace_34 : decode prog_1_method_10_code 34 = .ok (.if_icmp .gt 12, 3) := by decide +kernel
theorem d_D_replace_37 : decode prog_1_method_10_code 37 = .ok (.aload_n 0, 1) := by decide +kernel
theorem d_D_replace_38 : decode prog_1_method_10_code 38 = .ok (.getfield 25, 3) := by decide +kernel
theorem d_D_replace_41 : decode prog_1_method_10_code 41 = .ok (.bipush 40, 2) := by decide +kernel
theorem d_D_replace_43 : decode prog_1_method_10_code 43 = .ok (.if_icmp .ne 11, 3) := by decide +kernel
theorem d_D_replace_46 : decode prog_1_method_10_code 46 = .ok (.new 66, 3) := by decide +kernel
theorem d_D_replace_49 : decode prog_1_method_10_code 49 = .ok (.dup, 1) := by decide +kernel
theorem d_D_replace_50 : decode prog_1_method_10_code 50 = .ok (.invokespecial 68, 3) := by decide +kernel
theorem d_D_replace_53 : decode prog_1_method_10_code 53 = .ok (.athrow, 1) := by decide +kernel
theorem d_D_replace_54 : decode prog_1_method_10_code 54 = .ok (.aload_n 0, 1) := by decide +kernel
theorem d_D_replace_55 : decode prog_1_method_10_code 55 = .ok (.iload_n 1, 1) := by decide +kernel
theorem d_D_replace_56 : decode prog_1_method_10_code 56 = .ok (.iload_n 2, 1) := by decide +kernel
theorem d_D_replace_57 : decode prog_1_method_10_code 57 = .ok (.invokevirtual 127, 3) := by decide +kernel
theorem d_D_replace_60 : decode prog_1_method_10_code 60 = .ok (.aload_n 0, 1) := by decide +kernel
theorem d_D_replace_61 : decode prog_1_method_10_code 61 = .ok (.iconst 0, 1) := by decide +kernel
theorem d_D_replace_62 : decode prog_1_method_10_code 62 = .ok (.putfield 56, 3) := by decide +kernel
theorem d_D_replace_65 : decode prog_1_method_10_code 65 = .ok (.iload_n 1, 1) := by decide +kernel
theorem d_D_replace_66 : decode prog_1_method_10_code 66 = .ok (.ireturn, 1) := by decide +kernel
theorem d_L_at_0 : decode method_12_code 0 = .ok (.aload_n 2, 1) := by decide +kernel
theorem d_L_at_1 : decode method_12_code 1 = .ok (.iconst 0, 1) := by decide +kernel
theorem d_L_at_2 : decode method_12_code 2 = .ok (.aload_n 0, 1) := by decide +kernel
theorem d_L_at_3 : decode method_12_code 3 = .ok (.iload_n 1, 1) := by decide +kernel
theorem d_L_at_4 : decode method_12_code 4 = .ok (.invokevirtual 48, 3) := by decide +kernel
theorem d_L_at_7 : decode method_12_code 7 = .ok (.i2l, 1) := by decide +kernel
theorem d_L_at_8 : decode method_12_code 8 = .ok (.lastore, 1) := by decide +kernel
theorem d_L_at_9 : decode method_12_code 9 = .ok (.goto 6, 3) := by decide +kernel
theorem d_L_at_12 : decode method_12_code 12 = .ok (.astore_n 3, 1) := by decide +kernel
theorem d_L_at_13 : decode method_12_code 13 = .ok (.iconst 1, 1) := by decide +kernel
theorem d_L_at_14 : decode method_12_code 14 = .ok (.ireturn, 1) := by decide +kernel
theorem d_L_at_15 : decode method_12_code 15 = .ok (.iconst 0, 1) := by decide +kernel
theorem d_L_at_16 : decode method_12_code 16 = .ok (.ireturn, 1) := by decide +kernel
theorem d_L_compile_0 : decode method_6_code 0 = .ok (.aload_n 0, 1) := by decide +kernel
theorem d_L_compile_1 : decode method_6_code 1 = .ok (.invokevirtual 25, 3) := by decide +kernel
theorem d_L_compile_4 : decode method_6_code 4 = .ok (.goto 6, 3) := by decide +kernel
theorem d_L_compile_7 : decode method_6_code 7 = .ok (.astore_n 1, 1) := by decide +kernel
theorem d_L_compile_8 : decode method_6_code 8 = .ok (.iconst 1, 1) := by decide +kernel
theorem d_L_compile_9 : decode method_6_code 9 = .ok (.ireturn, 1) := by decide +kernel
theorem d_L_compile_10 : decode method_6_code 10 = .ok (.iconst 0, 1) := by decide +kernel
theorem d_L_compile_11 : decode method_6_code 11 = .ok (.ireturn, 1) := by decide +kernel
theorem d_L_erase_0 : decode method_4_code 0 = .ok (.aload_n 2, 1) := by decide +kernel
theorem d_L_erase_1 : decode method_4_code 1 = .ok (.iconst 0, 1) := by decide +kernel
theorem d_L_erase_2 : decode method_4_code 2 = .ok (.aload_n 0, 1) := by decide +kernel
theorem d_L_erase_3 : decode method_4_code 3 = .ok (.iload_n 1, 1) := by decide +kernel
theorem d_L_erase_4 : decode method_4_code 4 = .ok (.invokevirtual 15, 3) := by decide +kernel
theorem d_L_erase_7 : decode method_4_code 7 = .ok (.i2l, 1) := by decide +kernel
theorem d_L_erase_8 : decode method_4_code 8 = .ok (.lastore, 1) := by decide +kernel
theorem d_L_erase_9 : decode method_4_code 9 = .ok (.goto 6, 3) := by decide +kernel
theorem d_L_erase_12 : decode method_4_code 12 = .ok (.astore_n 3, 1) := by decide +kernel
theorem d_L_erase_13 : decode method_4_code 13 = .ok (.iconst 1, 1) := by decide +kernel
theorem d_L_erase_14 : decode method_4_code 14 = .ok (.ireturn, 1) := by decide +kernel
theorem d_L_erase_15 : decode method_4_code 15 = .ok (.iconst 0, 1) := by decide +kernel
theorem d_L_erase_16 : decode method_4_code 16 = .ok (.ireturn, 1) := by decide +kernel
theorem d_L_figure_0 : decode method_14_code 0 = .ok (.aload_n 2, 1) := by decide +kernel
theorem d_L_figure_1 : decode method_14_code 1 = .ok (.iconst 0, 1) := by decide +kernel
theorem d_L_figure_2 : decode method_14_code 2 = .ok (.aload_n 0, 1) := by decide +kernel
theorem d_L_figure_3 : decode method_14_code 3 = .ok (.iload_n 1, 1) := by decide +kernel
theorem d_L_figure_4 : decode method_14_code 4 = .ok (.invokevirtual 56, 3) := by decide +kernel
theorem d_L_figure_7 : decode method_14_code 7 = .ok (.i2l, 1) := by decide +kernel
theorem d_L_figure_8 : decode method_14_code 8 = .ok (.lastore, 1) := by decide +kernel
theorem d_L_figure_9 : decode method_14_code 9 = .ok (.goto 6, 3) := by decide +kernel
theorem d_L_figure_12 : decode method_14_code 12 = .ok (.astore_n 3, 1) := by decide +kernel
theorem d_L_figure_13 : decode method_14_code 13 = .ok (.iconst 1, 1) := by decide +kernel
theorem d_L_figure_14 : decode method_14_code 14 = .ok (.ireturn, 1) := by decide +kernel
theorem d_L_figure_15 : decode method_14_code 15 = .ok (.iconst 0, 1) := by decide +kernel
theorem d_L_figure_16 : decode method_14_code 16 = .ok (.ireturn, 1) := by decide +kernel
theorem d_L_find_0 : decode method_7_code 0 = .ok (.aload_n 2, 1) := by decide +kernel
theorem d_L_find_1 : decode method_7_code 1 = .ok (.iconst 0, 1) := by decide +kernel
theorem d_L_find_2 : decode method_7_code 2 = .ok (.aload_n 0, 1) := by decide +kernel
theorem d_L_find_3 : decode method_7_code 3 = .ok (.iload_n 1, 1) := by decide +kernel
theorem d_L_find_4 : decode method_7_code 4 = .ok (.invokevirtual 30, 3) := by decide +kernel
theorem d_L_find_7 : decode method_7_code 7 = .ok (.i2l, 1) := by decide +kernel
theorem d_L_find_8 : decode method_7_code 8 = .ok (.lastore, 1) := by decide +kernel
theorem d_L_find_9 : decode method_7_code 9 = .ok (.goto 12, 3) := by decide +kernel
theorem d_L_find_12 : decode method_7_code 12 = .ok (.astore_n 3, 1) := by decide +kernel
theorem d_L_find_13 : decode method_7_code 13 = .ok (.iconst 1, 1) := by decide +kernel
theorem d_L_find_14 : decode method_7_code 14 = .ok (.ireturn, 1) := by decide +kernel
theorem d_L_find_15 : decode method_7_code 15 = .ok (.astore_n 3, 1) := by decide +kernel
theorem d_L_find_16 : decode method_7_code 16 = .ok (.iconst 2, 1) := by decide +kernel
theorem d_L_find_17 : decode method_7_code 17 = .ok (.ireturn, 1) := by decide +kernel
theorem d_L_find_18 : decode method_7_code 18 = .ok (.astore_n 3, 1) := by decide +kernel
theorem d_L_find_19 : decode method_7_code 19 = .ok (.iconst 3, 1) := by decide +kernel
theorem d_L_find_20 : decode method_7_code 20 = .ok (.ireturn, 1) := by decide +kernel
theorem d_L_find_21 : decode method_7_code 21 = .ok (.iconst 0, 1) := by decide +kernel
theorem d_L_find_22 : decode method_7_code 22 = .ok (.ireturn, 1) := by decide +kernel
theorem d_L_go_0 : decode method_5_code 0 = .ok (.aload_n 0, 1) := by decide +kernel
theorem d_L_go_1 : decode method_5_code 1 = .ok (.iload_n 1, 1) := by decide +kernel
theorem d_L_go_2 : decode method_5_code 2 = .ok (.iload_n 2, 1) := by decide +kernel
theorem d_L_go_3 : decode method_5_code 3 = .ok (.invokevirtual 19, 3) := by decide +kernel
theorem d_L_go_6 : decode method_5_code 6 = .ok (.goto 6, 3) := by decide +kernel
theorem d_L_go_9 : decode method_5_code 9 = .ok (.astore_n 3, 1) := by decide +kernel
theorem d_L_go_10 : decode method_5_code 10 = .ok (.iconst 1, 1) := by decide +kernel
theorem d_L_go_11 : decode method_5_code 11 = .ok (.ireturn, 1) := by decide +kernel
theorem d_L_go_12 : decode method_5_code 12 = .ok (.iconst 0, 1) := by decide +kernel
theorem d_L_go_13 : decode method_5_code 13 = .ok (.ireturn, 1) := by decide +kernel
theorem d_L_insert_0 : decode method_3_code 0 = .ok (.aload_n 1, 1) := by decide +kernel
theorem d_L_insert_1 : decode method_3_code 1 = .ok (.iconst 0, 1) := by decide +kernel
theorem d_L_insert_2 : decode method_3_code 2 = .ok (.aload_n 0, 1) := by decide +kernel
theorem d_L_insert_3 : decode method_3_code 3 = .ok (.invokevirtual 7, 3) := by decide +kernel
theorem d_L_insert_6 : decode method_3_code 6 = .ok (.i2l, 1) := by decide +kernel
theorem d_L_insert_7 : decode method_3_code 7 = .ok (.lastore, 1) := by decide +kernel
theorem d_L_insert_8 : decode method_3_code 8 = .ok (.goto 6, 3) := by decide +kernel
theorem d_L_insert_11 : decode method_3_code 11 = .ok (.astore_n 2, 1) := by decide +kernel
theorem d_L_insert_12 : decode method_3_code 12 = .ok (.iconst 1, 1) := by decide +kernel
theorem d_L_insert_13 : decode method_3_code 13 = .ok (.ireturn, 1) := by decide +kernel
theorem d_L_insert_14 : decode method_3_code 14 = .ok (.iconst 0, 1) := by decide +kernel
theorem d_L_insert_15 : decode method_3_code 15 = .ok (.ireturn, 1) := by decide +kernel
theorem d_L_jump_0 : decode method_11_code 0 = .ok (.aload_n 0, 1) := by decide +kernel
theorem d_L_jump_1 : decode method_11_code 1 = .ok (.iload_n 1, 1) := by decide +kernel
theorem d_L_jump_2 : decode method_11_code 2 = .ok (.invokevirtual 44, 3) := by decide +kernel
theorem d_L_jump_5 : decode method_11_code 5 = .ok (.goto 6, 3) := by decide +kernel
theorem d_L_jump_8 : decode method_11_code 8 = .ok (.astore_n 2, 1) := by decide +kernel
theorem d_L_jump_9 : decode method_11_code 9 = .ok (.iconst 1, 1) := by decide +kernel
theorem d_L_jump_10 : decode method_11_code 10 = .ok (.ireturn, 1) := by decide +kernel
theorem d_L_jump_11 : decode method_11_code 11 = .ok (.iconst 0, 1) := by decide +kernel
theorem d_L_jump_12 : decode method_11_code 12 = .ok (.ireturn, 1) := by decide +kernel
theorem d_L_line_0 : decode method_13_code 0 = .ok (.aload_n 3, 1) := by decide +kernel
theorem d_L_line_1 : decode method_13_code 1 = .ok (.iconst 0, 1) := by decide +kernel
theorem d_L_line_2 : decode method_13_code 2 = .ok (.aload_n 0, 1) := by decide +kernel
theorem d_L_line_3 : decode method_13_code 3 = .ok (.iload_n 1, 1) := by decide +kernel
theorem d_L_line_4 : decode method_13_code 4 = .ok (.iload_n 2, 1) := by decide +kernel
theorem d_L_line_5 : decode method_13_code 5 = .ok (.invokevirtual 52, 3) := by decide +kernel
theorem d_L_line_8 : decode method_13_code 8 = .ok (.i2l, 1) := by decide +kernel
theorem d_L_line_9 : decode method_13_code 9 = .ok (.lastore, 1) := by decide +kernel
theorem d_L_line_10 : decode method_13_code 10 = .ok (.goto 11, 3) := by decide +kernel
theorem d_L_line_13 : decode method_13_code 13 = .ok (.astore 4, 2) := by decide +kernel
theorem d_L_line_15 : decode method_13_code 15 = .ok (.iconst 1, 1) := by decide +kernel
theorem d_L_line_16 : decode method_13_code 16 = .ok (.ireturn, 1) := by decide +kernel
theorem d_L_line_17 : decode method_13_code 17 = .ok (.astore 4, 2) := by decide +kernel
theorem d_L_line_19 : decode method_13_code 19 = .ok (.iconst 2, 1) := by decide +kernel
theorem d_L_line_20 : decode method_13_code 20 = .ok (.ireturn, 1) := by decide +kernel
theorem d_L_line_21 : decode method_13_code 21 = .ok (.iconst 0, 1) := by decide +kernel
theorem d_L_line_22 : decode method_13_code 22 = .ok (.ireturn, 1) := by decide +kernel
theorem d_L_parent_0 : decode method_15_code 0 = .ok (.aload_n 2, 1) := by decide +kernel
theorem d_L_parent_1 : decode method_15_code 1 = .ok (.iconst 0, 1) := by decide +kernel
theorem d_L_parent_2 : decode method_15_code 2 = .ok (.aload_n 0, 1) := by decide +kernel
theorem d_L_parent_3 : decode method_15_code 3 = .ok (.iload_n 1, 1) := by decide +kernel
theorem d_L_parent_4 : decode method_15_code 4 = .ok (.invokevirtual 59, 3) := by decide +kernel
theorem d_L_parent_7 : decode method_15_code 7 = .ok (.i2l, 1) := by decide +kernel
theorem d_L_parent_8 : decode method_15_code 8 = .ok (.lastore, 1) := by decide +kernel
theorem d_L_parent_9 : decode method_15_code 9 = .ok (.goto 6, 3) := by decide +kernel
theorem d_L_parent_12 : decode method_15_code 12 = .ok (.astore_n 3, 1) := by decide +kernel
theorem d_L_parent_13 : decode method_15_code 13 = .ok (.iconst 1, 1) := by decide +kernel
theorem d_L_parent_14 : decode method_15_code 14 = .ok (.ireturn, 1) := by decide +kernel
theorem d_L_parent_15 : decode method_15_code 15 = .ok (.iconst 0, 1) := by decide +kernel
theorem d_L_parent_16 : decode method_15_code 16 = .ok (.ireturn, 1) := by decide +kernel
theorem d_L_redo_0 : decode method_10_code 0 = .ok (.aload_n 1, 1) := by decide +kernel
theorem d_L_redo_1 : decode method_10_code 1 = .ok (.iconst 0, 1) := by decide +kernel
theorem d_L_redo_2 : decode method_10_code 2 = .ok (.aload_n 0, 1) := by decide +kernel
theorem d_L_redo_3 : decode method_10_code 3 = .ok (.invokevirtual 41, 3) := by decide +kernel
theorem d_L_redo_6 : decode method_10_code 6 = .ok (.i2l, 1) := by decide +kernel
theorem d_L_redo_7 : decode method_10_code 7 = .ok (.lastore, 1) := by decide +kernel
theorem d_L_redo_8 : decode method_10_code 8 = .ok (.goto 6, 3) := by decide +kernel
theorem d_L_redo_11 : decode method_10_code 11 = .ok (.astore_n 2, 1) := by decide +kernel
theorem d_L_redo_12 : decode method_10_code 12 = .ok (.iconst 1, 1) := by decide +kernel
theorem d_L_redo_13 : decode method_10_code 13 = .ok (.ireturn, 1) := by decide +kernel
theorem d_L_redo_14 : decode method_10_code 14 = .ok (.iconst 0, 1) := by decide +kernel
theorem d_L_redo_15 : decode method_10_code 15 = .ok (.ireturn, 1) := by decide +kernel
theorem d_L_replace_0 : decode method_8_code 0 = .ok (.aload_n 1, 1) := by decide +kernel
theorem d_L_replace_1 : decode method_8_code 1 = .ok (.iconst 0, 1) := by decide +kernel
theorem d_L_replace_2 : decode method_8_code 2 = .ok (.aload_n 0, 1) := by decide +kernel
theorem d_L_replace_3 : decode method_8_code 3 = .ok (.invokevirtual 35, 3) := by decide +kernel
theorem d_L_replace_6 : decode method_8_code 6 = .ok (.i2l, 1) := by decide +kernel
theorem d_L_replace_7 : decode method_8_code 7 = .ok (.lastore, 1) := by decide +kernel
theorem d_L_replace_8 : decode method_8_code 8 = .ok (.goto 6, 3) := by decide +kernel
theorem d_L_replace_11 : decode method_8_code 11 = .ok (.astore_n 2, 1) := by decide +kernel
theorem d_L_replace_12 : decode method_8_code 12 = .ok (.iconst 1, 1) := by decide +kernel
theorem d_L_replace_13 : decode method_8_code 13 = .ok (.ireturn, 1) := by decide +kernel
theorem d_L_replace_14 : decode method_8_code 14 = .ok (.iconst 0, 1) := by decide +kernel
theorem d_L_replace_15 : decode method_8_code 15 = .ok (.ireturn, 1) := by decide +kernel
theorem d_L_undo_0 : decode method_9_code 0 = .ok (.aload_n 1, 1) := by decide +kernel
theorem d_L_undo_1 : decode method_9_code 1 = .ok (.iconst 0, 1) := by decide +kernel
theorem d_L_undo_2 : decode method_9_code 2 = .ok (.aload_n 0, 1) := by decide +kernel
theorem d_L_undo_3 : decode method_9_code 3 = .ok (.invokevirtual 38, 3) := by decide +kernel
theorem d_L_undo_6 : decode method_9_code 6 = .ok (.i2l, 1) := by decide +kernel
theorem d_L_undo_7 : decode method_9_code 7 = .ok (.lastore, 1) := by decide +kernel
theorem d_L_undo_8 : decode method_9_code 8 = .ok (.goto 6, 3) := by decide +kernel
theorem d_L_undo_11 : decode method_9_code 11 = .ok (.astore_n 2, 1) := by decide +kernel
theorem d_L_undo_12 : decode method_9_code 12 = .ok (.iconst 1, 1) := by decide +kernel
theorem d_L_undo_13 : decode method_9_code 13 = .ok (.ireturn, 1) := by decide +kernel
theorem d_L_undo_14 : decode method_9_code 14 = .ok (.iconst 0, 1) := by decide +kernel
theorem d_L_undo_15 : decode method_9_code 15 = .ok (.ireturn, 1) := by decide +kernel
theorem d_L_law_0 : decode code 0 = .ok (.new 8, 3) := by decide +kernel
theorem d_L_law_3 : decode code 3 = .ok (.dup, 1) := by decide +kernel
theorem d_L_law_4 : decode code 4 = .ok (.invokespecial 62, 3) := by decide +kernel
theorem d_L_law_7 : decode code 7 = .ok (.astore_n 1, 1) := by decide +kernel
theorem d_L_law_8 : decode code 8 = .ok (.new 63, 3) := by decide +kernel
theorem d_L_law_11 : decode code 11 = .ok (.dup, 1) := by decide +kernel
theorem d_L_law_12 : decode code 12 = .ok (.invokespecial 65, 3) := by decide +kernel
theorem d_L_law_15 : decode code 15 = .ok (.astore_n 2, 1) := by decide +kernel
theorem d_L_law_16 : decode code 16 = .ok (.iconst 1, 1) := by decide +kernel
theorem d_L_law_17 : decode code 17 = .ok (.newarray .long, 2) := by decide +kernel
theorem d_L_law_19 : decode code 19 = .ok (.astore_n 3, 1) := by decide +kernel
theorem d_L_law_20 : decode code 20 = .ok (.iconst 0, 1) := by decide +kernel
theorem d_L_law_21 : decode code 21 = .ok (.istore 4, 2) := by decide +kernel
theorem d_L_law_23 : decode code 23 = .ok (.iload 4, 2) := by decide +kernel
theorem d_L_law_25 : decode code 25 = .ok (.aload_n 0, 1) := by decide +kernel
theorem d_L_law_26 : decode code 26 = .ok (.arraylength, 1) := by decide +kernel
theorem d_L_law_27 : decode code 27 = .ok (.iconst 3, 1) := by decide +kernel
theorem d_L_law_28 : decode code 28 = .ok (.isub, 1) := by decide +kernel
theorem d_L_law_29 : decode code 29 = .ok (.if_icmp .gt 526, 3) := by decide +kernel
theorem d_L_law_32 : decode code 32 = .ok (.aload_n 0, 1) := by decide +kernel
theorem d_L_law_33 : decode code 33 = .ok (.iload 4, 2) := by decide +kernel
theorem d_L_law_35 : decode code 35 = .ok (.iaload, 1) := by decide +kernel
theorem d_L_law_36 : decode code 36 = .ok (.bipush 31, 2) := by decide +kernel
theorem d_L_law_38 : decode code 38 = .ok (.iand, 1) := by decide +kernel
theorem d_L_law_39 : decode code 39 = .ok (.tableswitch 510 0 16 #[81, 108, 121, 165, 193, 246, 259, 272, 300, 316, 332, 348, 373, 386, 414, 454, 482], 81) := by decide +kernel
theorem d_L_law_120 : decode code 120 = .ok (.aload_n 1, 1) := by decide +kernel
theorem d_L_law_121 : decode code 121 = .ok (.aload_n 0, 1) := by decide +kernel
-- 14.dec10
theorem d_L_law_122 : decode code 122 = .ok (.iload 4, 2) := by decide +kernel
theorem d_L_law_124 : decode code 124 = .ok (.iconst 1, 1) := by decide +kernel
theorem d_L_law_125 : decode code 125 = .ok (.iadd, 1) := by decide +kernel
theorem d_L_law_126 : decode code 126 = .ok (.iaload, 1) := by decide +kernel
theorem d_L_law_127 : decode code 127 = .ok (.i2c, 1) := by decide +kernel
theorem d_L_law_128 : decode code 128 = .ok (.invokevirtual 66, 3) := by decide +kernel
theorem d_L_law_131 : decode code 131 = .ok (.pop, 1) := by decide +kernel
theorem d_L_law_132 : decode code 132 = .ok (.aload_n 2, 1) := by decide +kernel
theorem d_L_law_133 : decode code 133 = .ok (.aload_n 0, 1) := by decide +kernel
theorem d_L_law_134 : decode code 134 = .ok (.iload 4, 2) := by decide +kernel
theorem d_L_law_136 : decode code 136 = .ok (.iconst 1, 1) := by decide +kernel
theorem d_L_law_137 : decode code 137 = .ok (.iadd, 1) := by decide +kernel
theorem d_L_law_138 : decode code 138 = .ok (.iaload, 1) := by decide +kernel
theorem d_L_law_139 : decode code 139 = .ok (.i2c, 1) := by decide +kernel
theorem d_L_law_140 : decode code 140 = .ok (.invokevirtual 70, 3) := by decide +kernel
theorem d_L_law_143 : decode code 143 = .ok (.pop, 1) := by decide +kernel
theorem d_L_law_144 : decode code 144 = .ok (.goto 405, 3) := by decide +kernel
theorem d_L_law_147 : decode code 147 = .ok (.aload_n 1, 1) := by decide +kernel
theorem d_L_law_148 : decode code 148 = .ok (.invokevirtual 71, 3) := by decide +kernel
theorem d_L_law_151 : decode code 151 = .ok (.pop, 1) := by decide +kernel
theorem d_L_law_152 : decode code 152 = .ok (.aload_n 2, 1) := by decide +kernel
theorem d_L_law_153 : decode code 153 = .ok (.invokevirtual 74, 3) := by decide +kernel
theorem d_L_law_156 : decode code 156 = .ok (.pop, 1) := by decide +kernel
theorem d_L_law_157 : decode code 157 = .ok (.goto 392, 3) := by decide +kernel
theorem d_L_law_160 : decode code 160 = .ok (.aload_n 1, 1) := by decide +kernel
theorem d_L_law_161 : decode code 161 = .ok (.aload_n 3, 1) := by decide +kernel
theorem d_L_law_162 : decode code 162 = .ok (.invokestatic 75, 3) := by decide +kernel
theorem d_L_law_165 : decode code 165 = .ok (.istore 5, 2) := by decide +kernel
theorem d_L_law_167 : decode code 167 = .ok (.aload_n 2, 1) := by decide +kernel
theorem d_L_law_168 : decode code 168 = .ok (.invokevirtual 80, 3) := by decide +kernel
theorem d_L_law_171 : decode code 171 = .ok (.istore 6, 2) := by decide +kernel
theorem d_L_law_173 : decode code 173 = .ok (.aload_n 2, 1) := by decide +kernel
theorem d_L_law_174 : decode code 174 = .ok (.invokevirtual 81, 3) := by decide +kernel
theorem d_L_law_177 : decode code 177 = .ok (.iload 5, 2) := by decide +kernel
theorem d_L_law_179 : decode code 179 = .ok (.if_icmp .eq 5, 3) := by decide +kernel
theorem d_L_law_182 : decode code 182 = .ok (.iconst 0, 1) := by decide +kernel
theorem d_L_law_183 : decode code 183 = .ok (.ireturn, 1) := by decide +kernel
theorem d_L_law_184 : decode code 184 = .ok (.iload 5, 2) := by decide +kernel
theorem d_L_law_186 : decode code 186 = .ok (.ifCond .ne 15, 3) := by decide +kernel
theorem d_L_law_189 : decode code 189 = .ok (.aload_n 3, 1) := by decide +kernel
theorem d_L_law_190 : decode code 190 = .ok (.iconst 0, 1) := by decide +kernel
theorem d_L_law_191 : decode code 191 = .ok (.laload, 1) := by decide +kernel
theorem d_L_law_192 : decode code 192 = .ok (.iload 6, 2) := by decide +kernel
theorem d_L_law_194 : decode code 194 = .ok (.i2l, 1) := by decide +kernel
theorem d_L_law_195 : decode code 195 = .ok (.lcmp, 1) := by decide +kernel
theorem d_L_law_196 : decode code 196 = .ok (.ifCond .eq 5, 3) := by decide +kernel
theorem d_L_law_199 : decode code 199 = .ok (.iconst 0, 1) := by decide +kernel
theorem d_L_law_200 : decode code 200 = .ok (.ireturn, 1) := by decide +kernel
theorem d_L_law_201 : decode code 201 = .ok (.goto 348, 3) := by decide +kernel
theorem d_L_law_204 : decode code 204 = .ok (.aload_n 1, 1) := by decide +kernel
theorem d_L_law_205 : decode code 205 = .ok (.aload_n 0, 1) := by decide +kernel
theorem d_L_law_206 : decode code 206 = .ok (.iload 4, 2) := by decide +kernel
theorem d_L_law_208 : decode code 208 = .ok (.iconst 1, 1) := by decide +kernel
theorem d_L_law_209 : decode code 209 = .ok (.iadd, 1) := by decide +kernel
theorem d_L_law_210 : decode code 210 = .ok (.iaload, 1) := by decide +kernel
theorem d_L_law_211 : decode code 211 = .ok (.aload_n 3, 1) := by decide +kernel
theorem d_L_law_212 : decode code 212 = .ok (.invokestatic 84, 3) := by decide +kernel
theorem d_L_law_215 : decode code 215 = .ok (.istore 5, 2) := by decide +kernel
theorem d_L_law_217 : decode code 217 = .ok (.aload_n 2, 1) := by decide +kernel
theorem d_L_law_218 : decode code 218 = .ok (.aload_n 0, 1) := by decide +kernel
theorem d_L_law_219 : decode code 219 = .ok (.iload 4, 2) := by decide +kernel
theorem d_L_law_221 : decode code 221 = .ok (.iconst 1, 1) := by decide +kernel
theorem d_L_law_222 : decode code 222 = .ok (.iadd, 1) := by decide +kernel
theorem d_L_law_223 : decode code 223 = .ok (.iaload, 1) := by decide +kernel
theorem d_L_law_224 : decode code 224 = .ok (.invokevirtual 87, 3) := by decide +kernel
theorem d_L_law_227 : decode code 227 = .ok (.istore 6, 2) := by decide +kernel
theorem d_L_law_229 : decode code 229 = .ok (.goto 320, 3) := by decide +kernel
theorem d_L_law_232 : decode code 232 = .ok (.aload_n 1, 1) := by decide +kernel
theorem d_L_law_233 : decode code 233 = .ok (.aload_n 0, 1) := by decide +kernel
theorem d_L_law_234 : decode code 234 = .ok (.iload 4, 2) := by decide +kernel
theorem d_L_law_236 : decode code 236 = .ok (.iconst 1, 1) := by decide +kernel
theorem d_L_law_237 : decode code 237 = .ok (.iadd, 1) := by decide +kernel
theorem d_L_law_238 : decode code 238 = .ok (.iaload, 1) := by decide +kernel
theorem d_L_law_239 : decode code 239 = .ok (.aload_n 0, 1) := by decide +kernel
theorem d_L_law_240 : decode code 240 = .ok (.iload 4, 2) := by decide +kernel
theorem d_L_law_242 : decode code 242 = .ok (.iconst 2, 1) := by decide +kernel
theorem d_L_law_243 : decode code 243 = .ok (.iadd, 1) := by decide +kernel
theorem d_L_law_244 : decode code 244 = .ok (.iaload, 1) := by decide +kernel
theorem d_L_law_245 : decode code 245 = .ok (.ifCond .eq 7, 3) := by decide +kernel
theorem d_L_law_248 : decode code 248 = .ok (.iconst 1, 1) := by decide +kernel
theorem d_L_law_249 : decode code 249 = .ok (.goto 4, 3) := by decide +kernel
theorem d_L_law_252 : decode code 252 = .ok (.iconst 0, 1) := by decide +kernel
theorem d_L_law_253 : decode code 253 = .ok (.invokestatic 88, 3) := by decide +kernel
theorem d_L_law_256 : decode code 256 = .ok (.istore 5, 2) := by decide +kernel
theorem d_L_law_258 : decode code 258 = .ok (.aload_n 2, 1) := by decide +kernel
theorem d_L_law_259 : decode code 259 = .ok (.aload_n 0, 1) := by decide +kernel
theorem d_L_law_260 : decode code 260 = .ok (.iload 4, 2) := by decide +kernel
theorem d_L_law_262 : decode code 262 = .ok (.iconst 1, 1) := by decide +kernel
theorem d_L_law_263 : decode code 263 = .ok (.iadd, 1) := by decide +kernel
theorem d_L_law_264 : decode code 264 = .ok (.iaload, 1) := by decide +kernel
theorem d_L_law_265 : decode code 265 = .ok (.aload_n 0, 1) := by decide +kernel
theorem d_L_law_266 : decode code 266 = .ok (.iload 4, 2) := by decide +kernel
theorem d_L_law_268 : decode code 268 = .ok (.iconst 2, 1) := by decide +kernel
theorem d_L_law_269 : decode code 269 = .ok (.iadd, 1) := by decide +kernel
theorem d_L_law_270 : decode code 270 = .ok (.iaload, 1) := by decide +kernel
theorem d_L_law_271 : decode code 271 = .ok (.ifCond .eq 7, 3) := by decide +kernel
theorem d_L_law_274 : decode code 274 = .ok (.iconst 1, 1) := by decide +kernel
theorem d_L_law_275 : decode code 275 = .ok (.goto 4, 3) := by decide +kernel
theorem d_L_law_278 : decode code 278 = .ok (.iconst 0, 1) := by decide +kernel
theorem d_L_law_279 : decode code 279 = .ok (.invokevirtual 91, 3) := by decide +kernel
theorem d_L_law_282 : decode code 282 = .ok (.goto 267, 3) := by decide +kernel
theorem d_L_law_285 : decode code 285 = .ok (.aload_n 1, 1) := by decide +kernel
theorem d_L_law_286 : decode code 286 = .ok (.invokestatic 92, 3) := by decide +kernel
theorem d_L_law_289 : decode code 289 = .ok (.istore 5, 2) := by decide +kernel
theorem d_L_law_291 : decode code 291 = .ok (.aload_n 2, 1) := by decide +kernel
theorem d_L_law_292 : decode code 292 = .ok (.invokevirtual 95, 3) := by decide +kernel
theorem d_L_law_295 : decode code 295 = .ok (.goto 254, 3) := by decide +kernel
theorem d_L_law_298 : decode code 298 = .ok (.aload_n 1, 1) := by decide +kernel
theorem d_L_law_299 : decode code 299 = .ok (.invokevirtual 96, 3) := by decide +kernel
theorem d_L_law_302 : decode code 302 = .ok (.pop, 1) := by decide +kernel
theorem d_L_law_303 : decode code 303 = .ok (.aload_n 2, 1) := by decide +kernel
theorem d_L_law_304 : decode code 304 = .ok (.invokevirtual 99, 3) := by decide +kernel
theorem d_L_law_307 : decode code 307 = .ok (.pop, 1) := by decide +kernel
theorem d_L_law_308 : decode code 308 = .ok (.goto 241, 3) := by decide +kernel
theorem d_L_law_311 : decode code 311 = .ok (.aload_n 1, 1) := by decide +kernel
theorem d_L_law_312 : decode code 312 = .ok (.aload_n 0, 1) := by decide +kernel
theorem d_L_law_313 : decode code 313 = .ok (.iload 4, 2) := by decide +kernel
theorem d_L_law_315 : decode code 315 = .ok (.iconst 1, 1) := by decide +kernel
theorem d_L_law_316 : decode code 316 = .ok (.iadd, 1) := by decide +kernel
theorem d_L_law_317 : decode code 317 = .ok (.iaload, 1) := by decide +kernel
theorem d_L_law_318 : decode code 318 = .ok (.aload_n 3, 1) := by decide +kernel
theorem d_L_law_319 : decode code 319 = .ok (.invokestatic 100, 3) := by decide +kernel
theorem d_L_law_322 : decode code 322 = .ok (.istore 5, 2) := by decide +kernel
theorem d_L_law_324 : decode code 324 = .ok (.aload_n 2, 1) := by decide +kernel
theorem d_L_law_325 : decode code 325 = .ok (.aload_n 0, 1) := by decide +kernel
theorem d_L_law_326 : decode code 326 = .ok (.iload 4, 2) := by decide +kernel
theorem d_L_law_328 : decode code 328 = .ok (.iconst 1, 1) := by decide +kernel
theorem d_L_law_329 : decode code 329 = .ok (.iadd, 1) := by decide +kernel
theorem d_L_law_330 : decode code 330 = .ok (.iaload, 1) := by decide +kernel
theorem d_L_law_331 : decode code 331 = .ok (.invokevirtual 102, 3) := by decide +kernel
theorem d_L_law_334 : decode code 334 = .ok (.istore 6, 2) := by decide +kernel
theorem d_L_law_336 : decode code 336 = .ok (.goto 213, 3) := by decide +kernel
theorem d_L_law_339 : decode code 339 = .ok (.aload_n 1, 1) := by decide +kernel
theorem d_L_law_340 : decode code 340 = .ok (.aload_n 3, 1) := by decide +kernel
theorem d_L_law_341 : decode code 341 = .ok (.invokestatic 103, 3) := by decide +kernel
theorem d_L_law_344 : decode code 344 = .ok (.istore 5, 2) := by decide +kernel
theorem d_L_law_346 : decode code 346 = .ok (.aload_n 2, 1) := by decide +kernel
theorem d_L_law_347 : decode code 347 = .ok (.invokevirtual 105, 3) := by decide +kernel
theorem d_L_law_350 : decode code 350 = .ok (.istore 6, 2) := by decide +kernel
theorem d_L_law_352 : decode code 352 = .ok (.goto 197, 3) := by decide +kernel
theorem d_L_law_355 : decode code 355 = .ok (.aload_n 1, 1) := by decide +kernel
theorem d_L_law_356 : decode code 356 = .ok (.aload_n 3, 1) := by decide +kernel
theorem d_L_law_357 : decode code 357 = .ok (.invokestatic 106, 3) := by decide +kernel
theorem d_L_law_360 : decode code 360 = .ok (.istore 5, 2) := by decide +kernel
theorem d_L_law_362 : decode code 362 = .ok (.aload_n 2, 1) := by decide +kernel
theorem d_L_law_363 : decode code 363 = .ok (.invokevirtual 108, 3) := by decide +kernel
theorem d_L_law_366 : decode code 366 = .ok (.istore 6, 2) := by decide +kernel
theorem d_L_law_368 : decode code 368 = .ok (.goto 181, 3) := by decide +kernel
theorem d_L_law_371 : decode code 371 = .ok (.aload_n 1, 1) := by decide +kernel
theorem d_L_law_372 : decode code 372 = .ok (.aload_n 3, 1) := by decide +kernel
theorem d_L_law_373 : decode code 373 = .ok (.invokestatic 109, 3) := by decide +kernel
theorem d_L_law_376 : decode code 376 = .ok (.istore 5, 2) := by decide +kernel
theorem d_L_law_378 : decode code 378 = .ok (.aload_n 2, 1) := by decide +kernel
theorem d_L_law_379 : decode code 379 = .ok (.invokevirtual 111, 3) := by decide +kernel
theorem d_L_law_382 : decode code 382 = .ok (.istore 6, 2) := by decide +kernel
theorem d_L_law_384 : decode code 384 = .ok (.goto 165, 3) := by decide +kernel
theorem d_L_law_387 : decode code 387 = .ok (.aload_n 1, 1) := by decide +kernel
theorem d_L_law_388 : decode code 388 = .ok (.aload_n 0, 1) := by decide +kernel
theorem d_L_law_389 : decode code 389 = .ok (.iload 4, 2) := by decide +kernel
theorem d_L_law_391 : decode code 391 = .ok (.iconst 1, 1) := by decide +kernel
theorem d_L_law_392 : decode code 392 = .ok (.iadd, 1) := by decide +kernel
theorem d_L_law_393 : decode code 393 = .ok (.iaload, 1) := by decide +kernel
theorem d_L_law_394 : decode code 394 = .ok (.invokestatic 112, 3) := by decide +kernel
theorem d_L_law_397 : decode code 397 = .ok (.istore 5, 2) := by decide +kernel
theorem d_L_law_399 : decode code 399 = .ok (.aload_n 2, 1) := by decide +kernel
theorem d_L_law_400 : decode code 400 = .ok (.aload_n 0, 1) := by decide +kernel
theorem d_L_law_401 : decode code 401 = .ok (.iload 4, 2) := by decide +kernel
theorem d_L_law_403 : decode code 403 = .ok (.iconst 1, 1) := by decide +kernel
theorem d_L_law_404 : decode code 404 = .ok (.iadd, 1) := by decide +kernel
theorem d_L_law_405 : decode code 405 = .ok (.iaload, 1) := by decide +kernel
theorem d_L_law_406 : decode code 406 = .ok (.invokevirtual 115, 3) := by decide +kernel
theorem d_L_law_409 : decode code 409 = .ok (.goto 140, 3) := by decide +kernel
theorem d_L_law_412 : decode code 412 = .ok (.aload_n 1, 1) := by decide +kernel
theorem d_L_law_413 : decode code 413 = .ok (.invokevirtual 116, 3) := by decide +kernel
theorem d_L_law_416 : decode code 416 = .ok (.pop, 1) := by decide +kernel
theorem d_L_law_417 : decode code 417 = .ok (.aload_n 2, 1) := by decide +kernel
theorem d_L_law_418 : decode code 418 = .ok (.invokevirtual 119, 3) := by decide +kernel
theorem d_L_law_421 : decode code 421 = .ok (.pop, 1) := by decide +kernel
theorem d_L_law_422 : decode code 422 = .ok (.goto 127, 3) := by decide +kernel
theorem d_L_law_425 : decode code 425 = .ok (.aload_n 1, 1) := by decide +kernel
theorem d_L_law_426 : decode code 426 = .ok (.aload_n 0, 1) := by decide +kernel
theorem d_L_law_427 : decode code 427 = .ok (.iload 4, 2) := by decide +kernel
theorem d_L_law_429 : decode code 429 = .ok (.iconst 1, 1) := by decide +kernel
theorem d_L_law_430 : decode code 430 = .ok (.iadd, 1) := by decide +kernel
theorem d_L_law_431 : decode code 431 = .ok (.iaload, 1) := by decide +kernel
theorem d_L_law_432 : decode code 432 = .ok (.aload_n 3, 1) := by decide +kernel
theorem d_L_law_433 : decode code 433 = .ok (.invokestatic 120, 3) := by decide +kernel
theorem d_L_law_436 : decode code 436 = .ok (.istore 5, 2) := by decide +kernel
theorem d_L_law_438 : decode code 438 = .ok (.aload_n 2, 1) := by decide +kernel
theorem d_L_law_439 : decode code 439 = .ok (.aload_n 0, 1) := by decide +kernel
theorem d_L_law_440 : decode code 440 = .ok (.iload 4, 2) := by decide +kernel
theorem d_L_law_442 : decode code 442 = .ok (.iconst 1, 1) := by decide +kernel
theorem d_L_law_443 : decode code 443 = .ok (.iadd, 1) := by decide +kernel
theorem d_L_law_444 : decode code 444 = .ok (.iaload, 1) := by decide +kernel
theorem d_L_law_445 : decode code 445 = .ok (.invokevirtual 122, 3) := by decide +kernel
theorem d_L_law_448 : decode code 448 = .ok (.istore 6, 2) := by decide +kernel
theorem d_L_law_450 : decode code 450 = .ok (.goto 99, 3) := by decide +kernel
theorem d_L_law_453 : decode code 453 = .ok (.aload_n 1, 1) := by decide +kernel
theorem d_L_law_454 : decode code 454 = .ok (.aload_n 0, 1) := by decide +kernel
theorem d_L_law_455 : decode code 455 = .ok (.iload 4, 2) := by decide +kernel
theorem d_L_law_457 : decode code 457 = .ok (.iconst 1, 1) := by decide +kernel
theorem d_L_law_458 : decode code 458 = .ok (.iadd, 1) := by decide +kernel
theorem d_L_law_459 : decode code 459 = .ok (.iaload, 1) := by decide +kernel
theorem d_L_law_460 : decode code 460 = .ok (.aload_n 0, 1) := by decide +kernel
theorem d_L_law_461 : decode code 461 = .ok (.iload 4, 2) := by decide +kernel
theorem d_L_law_463 : decode code 463 = .ok (.iconst 2, 1) := by decide +kernel
theorem d_L_law_464 : decode code 464 = .ok (.iadd, 1) := by decide +kernel
theorem d_L_law_465 : decode code 465 = .ok (.iaload, 1) := by decide +kernel
theorem d_L_law_466 : decode code 466 = .ok (.aload_n 3, 1) := by decide +kernel
theorem d_L_law_467 : decode code 467 = .ok (.invokestatic 123, 3) := by decide +kernel
theorem d_L_law_470 : decode code 470 = .ok (.istore 5, 2) := by decide +kernel
theorem d_L_law_472 : decode code 472 = .ok (.aload_n 2, 1) := by decide +kernel
theorem d_L_law_473 : decode code 473 = .ok (.aload_n 0, 1) := by decide +kernel
theorem d_L_law_474 : decode code 474 = .ok (.iload 4, 2) := by decide +kernel
theorem d_L_law_476 : decode code 476 = .ok (.iconst 1, 1) := by decide +kernel
theorem d_L_law_477 : decode code 477 = .ok (.iadd, 1) := by decide +kernel
theorem d_L_law_478 : decode code 478 = .ok (.iaload, 1) := by decide +kernel
theorem d_L_law_479 : decode code 479 = .ok (.aload_n 0, 1) := by decide +kernel
theorem d_L_law_480 : decode code 480 = .ok (.iload 4, 2) := by decide +kernel
theorem d_L_law_482 : decode code 482 = .ok (.iconst 2, 1) := by decide +kernel
theorem d_L_law_483 : decode code 483 = .ok (.iadd, 1) := by decide +kernel
theorem d_L_law_484 : decode code 484 = .ok (.iaload, 1) := by decide +kernel
theorem d_L_law_485 : decode code 485 = .ok (.invokevirtual 126, 3) := by decide +kernel
theorem d_L_law_488 : decode code 488 = .ok (.istore 6, 2) := by decide +kernel
theorem d_L_law_490 : decode code 490 = .ok (.goto 59, 3) := by decide +kernel
theorem d_L_law_493 : decode code 493 = .ok (.aload_n 1, 1) := by decide +kernel
theorem d_L_law_494 : decode code 494 = .ok (.aload_n 0, 1) := by decide +kernel
theorem d_L_law_495 : decode code 495 = .ok (.iload 4, 2) := by decide +kernel
theorem d_L_law_497 : decode code 497 = .ok (.iconst 1, 1) := by decide +kernel
theorem d_L_law_498 : decode code 498 = .ok (.iadd, 1) := by decide +kernel
theorem d_L_law_499 : decode code 499 = .ok (.iaload, 1) := by decide +kernel
theorem d_L_law_500 : decode code 500 = .ok (.aload_n 3, 1) := by decide +kernel
theorem d_L_law_501 : decode code 501 = .ok (.invokestatic 127, 3) := by decide +kernel
theorem d_L_law_504 : decode code 504 = .ok (.istore 5, 2) := by decide +kernel
theorem d_L_law_506 : decode code 506 = .ok (.aload_n 2, 1) := by decide +kernel
theorem d_L_law_507 : decode code 507 = .ok (.aload_n 0, 1) := by decide +kernel
theorem d_L_law_508 : decode code 508 = .ok (.iload 4, 2) := by decide +kernel
theorem d_L_law_510 : decode code 510 = .ok (.iconst 1, 1) := by decide +kernel
theorem d_L_law_511 : decode code 511 = .ok (.iadd, 1) := by decide +kernel
theorem d_L_law_512 : decode code 512 = .ok (.iaload, 1) := by decide +kernel
theorem d_L_law_513 : decode code 513 = .ok (.invokevirtual 129, 3) := by decide +kernel
theorem d_L_law_516 : decode code 516 = .ok (.istore 6, 2) := by decide +kernel
theorem d_L_law_518 : decode code 518 = .ok (.goto 31, 3) := by decide +kernel
theorem d_L_law_521 : decode code 521 = .ok (.aload_n 1, 1) := by decide +kernel
theorem d_L_law_522 : decode code 522 = .ok (.aload_n 0, 1) := by decide +kernel
theorem d_L_law_523 : decode code 523 = .ok (.iload 4, 2) := by decide +kernel
theorem d_L_law_525 : decode code 525 = .ok (.iconst 1, 1) := by decide +kernel
theorem d_L_law_526 : decode code 526 = .ok (.iadd, 1) := by decide +kernel
theorem d_L_law_527 : decode code 527 = .ok (.iaload, 1) := by decide +kernel
theorem d_L_law_528 : decode code 528 = .ok (.aload_n 3, 1) := by decide +kernel
theorem d_L_law_529 : decode code 529 = .ok (.invokestatic 130, 3) := by decide +kernel
theorem d_L_law_532 : decode code 532 = .ok (.istore 5, 2) := by decide +kernel
theorem d_L_law_534 : decode code 534 = .ok (.aload_n 2, 1) := by decide +kernel
theorem d_L_law_535 : decode code 535 = .ok (.aload_n 0, 1) := by decide +kernel
theorem d_L_law_536 : decode code 536 = .ok (.iload 4, 2) := by decide +kernel
theorem d_L_law_538 : decode code 538 = .ok (.iconst 1, 1) := by decide +kernel
theorem d_L_law_539 : decode code 539 = .ok (.iadd, 1) := by decide +kernel
theorem d_L_law_540 : decode code 540 = .ok (.iaload, 1) := by decide +kernel
theorem d_L_law_541 : decode code 541 = .ok (.invokevirtual 132, 3) := by decide +kernel
theorem d_L_law_544 : decode code 544 = .ok (.istore 6, 2) := by decide +kernel
theorem d_L_law_546 : decode code 546 = .ok (.goto 3, 3) := by decide +kernel
theorem d_L_law_549 : decode code 549 = .ok (.iinc 4 3, 3) := by decide +kernel
theorem d_L_law_552 : decode code 552 = .ok (.goto (-529), 3) := by decide +kernel
theorem d_L_law_555 : decode code 555 = .ok (.iconst 1, 1) := by decide +kernel
theorem d_L_law_556 : decode code 556 = .ok (.ireturn, 1) := by decide +kernel
theorem d_D_init_0 : decode prog_1_method_1_code 0 = .ok (.aload_n 0, 1) := by decide +kernel
theorem d_D_init_1 : decode prog_1_method_1_code 1 = .ok (.invokespecial 1, 3) := by decide +kernel
theorem d_D_init_4 : decode prog_1_method_1_code 4 = .ok (.aload_n 0, 1) := by decide +kernel
theorem d_D_init_5 : decode prog_1_method_1_code 5 = .ok (.bipush 24, 2) := by decide +kernel
theorem d_D_init_7 : decode prog_1_method_1_code 7 = .ok (.newarray .char, 2) := by decide +kernel
theorem d_D_init_9 : decode prog_1_method_1_code 9 = .ok (.putfield 9, 3) := by decide +kernel
theorem d_D_init_12 : decode prog_1_method_1_code 12 = .ok (.aload_n 0, 1) := by decide +kernel
theorem d_D_init_13 : decode prog_1_method_1_code 13 = .ok (.bipush 40, 2) := by decide +kernel
theorem d_D_init_15 : decode prog_1_method_1_code 15 = .ok (.anewarray 13, 3) := by decide +kernel
theorem d_D_init_18 : decode prog_1_method_1_code 18 = .ok (.putfield 15, 3) := by decide +kernel
theorem d_D_init_21 : decode prog_1_method_1_code 21 = .ok (.aload_n 0, 1) := by decide +kernel
theorem d_D_init_22 : decode prog_1_method_1_code 22 = .ok (.iconst 0, 1) := by decide +kernel
theorem d_D_init_23 : decode prog_1_method_1_code 23 = .ok (.newarray .char, 2) := by decide +kernel
theorem d_D_init_25 : decode prog_1_method_1_code 25 = .ok (.putfield 19, 3) := by decide +kernel
theorem d_D_init_28 : decode prog_1_method_1_code 28 = .ok (.aload_n 0, 1) := by decide +kernel
theorem d_D_init_29 : decode prog_1_method_1_code 29 = .ok (.getfield 15, 3) := by decide +kernel
theorem d_D_init_32 : decode prog_1_method_1_code 32 = .ok (.iconst 0, 1) := by decide +kernel
theorem d_D_init_33 : decode prog_1_method_1_code 33 = .ok (.new 13, 3) := by decide +kernel
theorem d_D_init_36 : decode prog_1_method_1_code 36 = .ok (.dup, 1) := by decide +kernel
theorem d_D_init_37 : decode prog_1_method_1_code 37 = .ok (.aload_n 0, 1) := by decide +kernel
theorem d_D_init_38 : decode prog_1_method_1_code 38 = .ok (.getfield 19, 3) := by decide +kernel
theorem d_D_init_41 : decode prog_1_method_1_code 41 = .ok (.iconst 0, 1) := by decide +kernel
theorem d_D_init_42 : decode prog_1_method_1_code 42 = .ok (.iconst (-1), 1) := by decide +kernel
theorem d_D_init_43 : decode prog_1_method_1_code 43 = .ok (.invokespecial 22, 3) := by decide +kernel
theorem d_D_init_46 : decode prog_1_method_1_code 46 = .ok (.aastore, 1) := by decide +kernel
theorem d_D_init_47 : decode prog_1_method_1_code 47 = .ok (.aload_n 0, 1) := by decide +kernel
theorem d_D_init_48 : decode prog_1_method_1_code 48 = .ok (.iconst 1, 1) := by decide +kernel
theorem d_D_init_49 : decode prog_1_method_1_code 49 = .ok (.putfield 25, 3) := by decide +kernel
theorem d_D_init_52 : decode prog_1_method_1_code 52 = .ok (.aload_n 0, 1) := by decide +kernel
theorem d_D_init_53 : decode prog_1_method_1_code 53 = .ok (.iconst (-1), 1) := by decide +kernel
theorem d_D_init_54 : decode prog_1_method_1_code 54 = .ok (.putfield 29, 3) := by decide +kernel
theorem d_D_init_57 : decode prog_1_method_1_code 57 = .ok (.aload_n 0, 1) := by decide +kernel
theorem d_D_init_58 : decode prog_1_method_1_code 58 = .ok (.new 32, 3) := by decide +kernel
theorem d_D_init_61 : decode prog_1_method_1_code 61 = .ok (.dup, 1) := by decide +kernel
theorem d_D_init_62 : decode prog_1_method_1_code 62 = .ok (.invokespecial 34, 3) := by decide +kernel
theorem d_P_init_0 : decode prog_3_method_1_code 0 = .ok (.aload_n 0, 1) := by decide +kernel
theorem d_P_init_1 : decode prog_3_method_1_code 1 = .ok (.invokespecial 3, 3) := by decide +kernel
theorem d_P_init_4 : decode prog_3_method_1_code 4 = .ok (.aload_n 0, 1) := by decide +kernel
theorem d_P_init_5 : decode prog_3_method_1_code 5 = .ok (.bipush 9, 2) := by decide +kernel
theorem d_P_init_7 : decode prog_3_method_1_code 7 = .ok (.newarray .int, 2) := by decide +kernel
theorem d_P_init_9 : decode prog_3_method_1_code 9 = .ok (.putfield 9, 3) := by decide +kernel
theorem d_P_init_12 : decode prog_3_method_1_code 12 = .ok (.aload_n 0, 1) := by decide +kernel
theorem d_P_init_13 : decode prog_3_method_1_code 13 = .ok (.bipush 9, 2) := by decide +kernel
theorem d_P_init_15 : decode prog_3_method_1_code 15 = .ok (.newarray .int, 2) := by decide +kernel
theorem d_P_init_17 : decode prog_3_method_1_code 17 = .ok (.putfield 15, 3) := by decide +kernel
theorem d_P_init_20 : decode prog_3_method_1_code 20 = .ok (.aload_n 0, 1) := by decide +kernel
theorem d_P_init_21 : decode prog_3_method_1_code 21 = .ok (.bipush 9, 2) := by decide +kernel
theorem d_P_init_23 : decode prog_3_method_1_code 23 = .ok (.newarray .int, 2) := by decide +kernel
theorem d_P_init_25 : decode prog_3_method_1_code 25 = .ok (.putfield 18, 3) := by decide +kernel
theorem d_P_init_28 : decode prog_3_method_1_code 28 = .ok (.aload_n 0, 1) := by decide +kernel
theorem d_P_init_29 : decode prog_3_method_1_code 29 = .ok (.bipush 9, 2) := by decide +kernel
theorem d_P_init_31 : decode prog_3_method_1_code 31 = .ok (.newarray .int, 2) := by decide +kernel
theorem d_P_init_33 : decode prog_3_method_1_code 33 = .ok (.putfield 21, 3) := by decide +kernel
theorem d_P_init_36 : decode prog_3_method_1_code 36 = .ok (.aload_n 0, 1) := by decide +kernel
theorem d_P_init_37 : decode prog_3_method_1_code 37 = .ok (.new 24, 3) := by decide +kernel
theorem d_P_init_40 : decode prog_3_method_1_code 40 = .ok (.dup, 1) := by decide +kernel
theorem d_P_init_41 : decode prog_3_method_1_code 41 = .ok (.invokespecial 26, 3) := by decide +kernel
theorem d_A_init_0 : decode prog_2_method_1_code 0 = .ok (.aload_n 0, 1) := by decide +kernel
theorem d_A_init_1 : decode prog_2_method_1_code 1 = .ok (.invokespecial 3, 3) := by decide +kernel
theorem d_A_init_4 : decode prog_2_method_1_code 4 = .ok (.aload_n 0, 1) := by decide +kernel
theorem d_A_init_5 : decode prog_2_method_1_code 5 = .ok (.bipush 50, 2) := by decide +kernel
theorem d_A_init_7 : decode prog_2_method_1_code 7 = .ok (.newarray .int, 2) := by decide +kernel
theorem d_A_init_9 : decode prog_2_method_1_code 9 = .ok (.putfield 11, 3) := by decide +kernel
theorem d_A_init_12 : decode prog_2_method_1_code 12 = .ok (.aload_n 0, 1) := by decide +kernel
theorem d_A_init_13 : decode prog_2_method_1_code 13 = .ok (.bipush 50, 2) := by decide +kernel
theorem d_A_init_15 : decode prog_2_method_1_code 15 = .ok (.newarray .int, 2) := by decide +kernel
theorem d_A_init_17 : decode prog_2_method_1_code 17 = .ok (.putfield 15, 3) := by decide +kernel
theorem d_A_init_20 : decode prog_2_method_1_code 20 = .ok (.aload_n 0, 1) := by decide +kernel
theorem d_A_init_21 : decode prog_2_method_1_code 21 = .ok (.bipush 50, 2) := by decide +kernel
theorem d_A_init_23 : decode prog_2_method_1_code 23 = .ok (.newarray .int, 2) := by decide +kernel
theorem d_A_init_25 : decode prog_2_method_1_code 25 = .ok (.putfield 18, 3) := by decide +kernel
theorem d_A_init_28 : decode prog_2_method_1_code 28 = .ok (.aload_n 0, 1) := by decide +kernel
theorem d_A_init_29 : decode prog_2_method_1_code 29 = .ok (.bipush 50, 2) := by decide +kernel
theorem d_A_init_31 : decode prog_2_method_1_code 31 = .ok (.newarray .long, 2) := by decide +kernel
theorem d_A_init_33 : decode prog_2_method_1_code 33 = .ok (.putfield 21, 3) := by decide +kernel
theorem d_A_init_36 : decode prog_2_method_1_code 36 = .ok (.aload_n 0, 1) := by decide +kernel
theorem d_A_init_37 : decode prog_2_method_1_code 37 = .ok (.bipush 50, 2) := by decide +kernel
theorem d_A_init_39 : decode prog_2_method_1_code 39 = .ok (.newarray .long, 2) := by decide +kernel
theorem d_A_init_41 : decode prog_2_method_1_code 41 = .ok (.putfield 25, 3) := by decide +kernel
theorem d_A_init_44 : decode prog_2_method_1_code 44 = .ok (.return_, 1) := by decide +kernel
theorem d_P_init_44 : decode prog_3_method_1_code 44 = .ok (.putfield 27, 3) := by decide +kernel
theorem d_P_init_47 : decode prog_3_method_1_code 47 = .ok (.aload_n 0, 1) := by decide +kernel
theorem d_P_init_48 : decode prog_3_method_1_code 48 = .ok (.iconst 0, 1) := by decide +kernel
theorem d_P_init_49 : decode prog_3_method_1_code 49 = .ok (.newarray .char, 2) := by decide +kernel
theorem d_P_init_51 : decode prog_3_method_1_code 51 = .ok (.putfield 31, 3) := by decide +kernel
theorem d_P_init_54 : decode prog_3_method_1_code 54 = .ok (.return_, 1) := by decide +kernel
theorem d_D_init_65 : decode prog_1_method_1_code 65 = .ok (.putfield 35, 3) := by decide +kernel
theorem d_D_init_68 : decode prog_1_method_1_code 68 = .ok (.aload_n 0, 1) := by decide +kernel
theorem d_D_init_69 : decode prog_1_method_1_code 69 = .ok (.new 39, 3) := by decide +kernel
theorem d_D_init_72 : decode prog_1_method_1_code 72 = .ok (.dup, 1) := by decide +kernel
theorem d_D_init_73 : decode prog_1_method_1_code 73 = .ok (.invokespecial 41, 3) := by decide +kernel
theorem d_D_init_76 : decode prog_1_method_1_code 76 = .ok (.putfield 42, 3) := by decide +kernel
theorem d_D_init_79 : decode prog_1_method_1_code 79 = .ok (.aload_n 0, 1) := by decide +kernel
theorem d_D_init_80 : decode prog_1_method_1_code 80 = .ok (.iconst (-1), 1) := by decide +kernel
theorem d_D_init_81 : decode prog_1_method_1_code 81 = .ok (.putfield 46, 3) := by decide +kernel
theorem d_D_init_84 : decode prog_1_method_1_code 84 = .ok (.aload_n 0, 1) := by decide +kernel
theorem d_D_init_85 : decode prog_1_method_1_code 85 = .ok (.sipush 160, 3) := by decide +kernel
theorem d_D_init_88 : decode prog_1_method_1_code 88 = .ok (.newarray .int, 2) := by decide +kernel
theorem d_D_init_90 : decode prog_1_method_1_code 90 = .ok (.putfield 49, 3) := by decide +kernel
theorem d_D_init_93 : decode prog_1_method_1_code 93 = .ok (.aload_n 0, 1) := by decide +kernel
theorem d_D_init_94 : decode prog_1_method_1_code 94 = .ok (.sipush 160, 3) := by decide +kernel
theorem d_D_init_97 : decode prog_1_method_1_code 97 = .ok (.newarray .int, 2) := by decide +kernel
theorem d_D_init_99 : decode prog_1_method_1_code 99 = .ok (.putfield 53, 3) := by decide +kernel
theorem d_D_init_102 : decode prog_1_method_1_code 102 = .ok (.return_, 1) := by decide +kernel
theorem d_M_init_0 : decode prog_6_method_1_code 0 = .ok (.aload_n 0, 1) := by decide +kernel
theorem d_M_init_1 : decode prog_6_method_1_code 1 = .ok (.invokespecial 1, 3) := by decide +kernel
theorem d_M_init_4 : decode prog_6_method_1_code 4 = .ok (.aload_n 0, 1) := by decide +kernel
theorem d_M_init_5 : decode prog_6_method_1_code 5 = .ok (.bipush 24, 2) := by decide +kernel
theorem d_M_init_7 : decode prog_6_method_1_code 7 = .ok (.newarray .char, 2) := by decide +kernel
theorem d_M_init_9 : decode prog_6_method_1_code 9 = .ok (.putfield 7, 3) := by decide +kernel
theorem d_M_init_12 : decode prog_6_method_1_code 12 = .ok (.aload_n 0, 1) := by decide +kernel
theorem d_M_init_13 : decode prog_6_method_1_code 13 = .ok (.iconst 1, 1) := by decide +kernel
theorem d_M_init_14 : decode prog_6_method_1_code 14 = .ok (.putfield 13, 3) := by decide +kernel
theorem d_M_init_17 : decode prog_6_method_1_code 17 = .ok (.aload_n 0, 1) := by decide +kernel
theorem d_M_init_18 : decode prog_6_method_1_code 18 = .ok (.sipush 6400, 3) := by decide +kernel
theorem d_M_init_21 : decode prog_6_method_1_code 21 = .ok (.newarray .char, 2) := by decide +kernel
theorem d_M_init_23 : decode prog_6_method_1_code 23 = .ok (.putfield 17, 3) := by decide +kernel
theorem d_M_init_26 : decode prog_6_method_1_code 26 = .ok (.aload_n 0, 1) := by decide +kernel
theorem d_M_init_27 : decode prog_6_method_1_code 27 = .ok (.bipush 40, 2) := by decide +kernel
theorem d_M_init_29 : decode prog_6_method_1_code 29 = .ok (.newarray .int, 2) := by decide +kernel
theorem d_M_init_31 : decode prog_6_method_1_code 31 = .ok (.putfield 20, 3) := by decide +kernel
theorem d_M_init_34 : decode prog_6_method_1_code 34 = .ok (.aload_n 0, 1) := by decide +kernel
theorem d_M_init_35 : decode prog_6_method_1_code 35 = .ok (.bipush 40, 2) := by decide +kernel
theorem d_M_init_37 : decode prog_6_method_1_code 37 = .ok (.newarray .int, 2) := by decide +kernel
theorem d_M_init_39 : decode prog_6_method_1_code 39 = .ok (.putfield 24, 3) := by decide +kernel
theorem d_M_init_42 : decode prog_6_method_1_code 42 = .ok (.aload_n 0, 1) := by decide +kernel
theorem d_M_init_43 : decode prog_6_method_1_code 43 = .ok (.bipush 40, 2) := by decide +kernel
theorem d_M_init_45 : decode prog_6_method_1_code 45 = .ok (.newarray .int, 2) := by decide +kernel
theorem d_M_init_47 : decode prog_6_method_1_code 47 = .ok (.putfield 27, 3) := by decide +kernel
theorem d_M_init_50 : decode prog_6_method_1_code 50 = .ok (.aload_n 0, 1) := by decide +kernel
theorem d_M_init_51 : decode prog_6_method_1_code 51 = .ok (.bipush 40, 2) := by decide +kernel
theorem d_M_init_53 : decode prog_6_method_1_code 53 = .ok (.newarray .int, 2) := by decide +kernel
theorem d_M_init_55 : decode prog_6_method_1_code 55 = .ok (.putfield 30, 3) := by decide +kernel
theorem d_M_init_58 : decode prog_6_method_1_code 58 = .ok (.aload_n 0, 1) := by decide +kernel
theorem d_M_init_59 : decode prog_6_method_1_code 59 = .ok (.iconst (-1), 1) := by decide +kernel
-- 14.dec11
theorem d_M_init_60 : decode prog_6_method_1_code 60 = .ok (.putfield 33, 3) := by decide +kernel
theorem d_M_init_63 : decode prog_6_method_1_code 63 = .ok (.aload_n 0, 1) := by decide +kernel
theorem d_M_init_64 : decode prog_6_method_1_code 64 = .ok (.iconst (-1), 1) := by decide +kernel
theorem d_M_init_65 : decode prog_6_method_1_code 65 = .ok (.putfield 36, 3) := by decide +kernel
theorem d_M_init_68 : decode prog_6_method_1_code 68 = .ok (.aload_n 0, 1) := by decide +kernel
theorem d_M_init_69 : decode prog_6_method_1_code 69 = .ok (.bipush 24, 2) := by decide +kernel
theorem d_M_init_71 : decode prog_6_method_1_code 71 = .ok (.newarray .char, 2) := by decide +kernel
theorem d_M_init_73 : decode prog_6_method_1_code 73 = .ok (.putfield 39, 3) := by decide +kernel
theorem d_M_init_76 : decode prog_6_method_1_code 76 = .ok (.aload_n 0, 1) := by decide +kernel
theorem d_M_init_77 : decode prog_6_method_1_code 77 = .ok (.sipush 160, 3) := by decide +kernel
theorem d_M_init_80 : decode prog_6_method_1_code 80 = .ok (.newarray .int, 2) := by decide +kernel
theorem d_M_init_82 : decode prog_6_method_1_code 82 = .ok (.putfield 42, 3) := by decide +kernel
theorem d_M_init_85 : decode prog_6_method_1_code 85 = .ok (.aload_n 0, 1) := by decide +kernel
theorem d_M_init_86 : decode prog_6_method_1_code 86 = .ok (.sipush 160, 3) := by decide +kernel
theorem d_M_init_89 : decode prog_6_method_1_code 89 = .ok (.newarray .int, 2) := by decide +kernel
theorem d_M_init_91 : decode prog_6_method_1_code 91 = .ok (.putfield 45, 3) := by decide +kernel
theorem d_M_init_94 : decode prog_6_method_1_code 94 = .ok (.aload_n 0, 1) := by decide +kernel
theorem d_M_init_95 : decode prog_6_method_1_code 95 = .ok (.sipush 160, 3) := by decide +kernel
theorem d_M_init_98 : decode prog_6_method_1_code 98 = .ok (.newarray .int, 2) := by decide +kernel
theorem d_M_init_100 : decode prog_6_method_1_code 100 = .ok (.putfield 48, 3) := by decide +kernel
theorem d_M_init_103 : decode prog_6_method_1_code 103 = .ok (.aload_n 0, 1) := by decide +kernel
theorem d_M_init_104 : decode prog_6_method_1_code 104 = .ok (.sipush 160, 3) := by decide +kernel
theorem d_M_init_107 : decode prog_6_method_1_code 107 = .ok (.newarray .int, 2) := by decide +kernel
theorem d_M_init_109 : decode prog_6_method_1_code 109 = .ok (.putfield 51, 3) := by decide +kernel
theorem d_M_init_112 : decode prog_6_method_1_code 112 = .ok (.aload_n 0, 1) := by decide +kernel
theorem d_M_init_113 : decode prog_6_method_1_code 113 = .ok (.sipush 160, 3) := by decide +kernel
theorem d_M_init_116 : decode prog_6_method_1_code 116 = .ok (.newarray .int, 2) := by decide +kernel
theorem d_M_init_118 : decode prog_6_method_1_code 118 = .ok (.putfield 54, 3) := by decide +kernel
theorem d_M_init_121 : decode prog_6_method_1_code 121 = .ok (.aload_n 0, 1) := by decide +kernel
theorem d_M_init_122 : decode prog_6_method_1_code 122 = .ok (.sipush 160, 3) := by decide +kernel
theorem d_M_init_125 : decode prog_6_method_1_code 125 = .ok (.newarray .int, 2) := by decide +kernel
theorem d_M_init_127 : decode prog_6_method_1_code 127 = .ok (.putfield 57, 3) := by decide +kernel
theorem d_M_init_130 : decode prog_6_method_1_code 130 = .ok (.aload_n 0, 1) := by decide +kernel
theorem d_M_init_131 : decode prog_6_method_1_code 131 = .ok (.sipush 160, 3) := by decide +kernel
theorem d_M_init_134 : decode prog_6_method_1_code 134 = .ok (.newarray .int, 2) := by decide +kernel
theorem d_M_init_136 : decode prog_6_method_1_code 136 = .ok (.putfield 60, 3) := by decide +kernel
theorem d_M_init_139 : decode prog_6_method_1_code 139 = .ok (.aload_n 0, 1) := by decide +kernel
theorem d_M_init_140 : decode prog_6_method_1_code 140 = .ok (.bipush 26, 2) := by decide +kernel
theorem d_M_init_142 : decode prog_6_method_1_code 142 = .ok (.newarray .int, 2) := by decide +kernel
theorem d_M_init_144 : decode prog_6_method_1_code 144 = .ok (.putfield 63, 3) := by decide +kernel
theorem d_M_init_147 : decode prog_6_method_1_code 147 = .ok (.aload_n 0, 1) := by decide +kernel
theorem d_M_init_148 : decode prog_6_method_1_code 148 = .ok (.bipush 26, 2) := by decide +kernel
theorem d_M_init_150 : decode prog_6_method_1_code 150 = .ok (.newarray .int, 2) := by decide +kernel
theorem d_M_init_152 : decode prog_6_method_1_code 152 = .ok (.putfield 66, 3) := by decide +kernel
theorem d_M_init_155 : decode prog_6_method_1_code 155 = .ok (.aload_n 0, 1) := by decide +kernel
theorem d_M_init_156 : decode prog_6_method_1_code 156 = .ok (.bipush 26, 2) := by decide +kernel
theorem d_M_init_158 : decode prog_6_method_1_code 158 = .ok (.newarray .int, 2) := by decide +kernel
theorem d_M_init_160 : decode prog_6_method_1_code 160 = .ok (.putfield 69, 3) := by decide +kernel
theorem d_M_init_163 : decode prog_6_method_1_code 163 = .ok (.aload_n 0, 1) := by decide +kernel
theorem d_M_init_164 : decode prog_6_method_1_code 164 = .ok (.sipush 160, 3) := by decide +kernel
theorem d_M_init_167 : decode prog_6_method_1_code 167 = .ok (.newarray .boolean, 2) := by decide +kernel
theorem d_M_init_169 : decode prog_6_method_1_code 169 = .ok (.putfield 72, 3) := by decide +kernel
theorem d_M_init_172 : decode prog_6_method_1_code 172 = .ok (.aload_n 0, 1) := by decide +kernel
theorem d_M_init_173 : decode prog_6_method_1_code 173 = .ok (.sipush 160, 3) := by decide +kernel
theorem d_M_init_176 : decode prog_6_method_1_code 176 = .ok (.newarray .boolean, 2) := by decide +kernel
theorem d_M_init_178 : decode prog_6_method_1_code 178 = .ok (.putfield 76, 3) := by decide +kernel
theorem d_M_init_181 : decode prog_6_method_1_code 181 = .ok (.aload_n 0, 1) := by decide +kernel
theorem d_M_init_182 : decode prog_6_method_1_code 182 = .ok (.sipush 4000, 3) := by decide +kernel
theorem d_M_init_185 : decode prog_6_method_1_code 185 = .ok (.newarray .char, 2) := by decide +kernel
theorem d_M_init_187 : decode prog_6_method_1_code 187 = .ok (.putfield 79, 3) := by decide +kernel
theorem d_M_init_190 : decode prog_6_method_1_code 190 = .ok (.aload_n 0, 1) := by decide +kernel
theorem d_M_init_191 : decode prog_6_method_1_code 191 = .ok (.getfield 27, 3) := by decide +kernel
theorem d_M_init_194 : decode prog_6_method_1_code 194 = .ok (.iconst 0, 1) := by decide +kernel
theorem d_M_init_195 : decode prog_6_method_1_code 195 = .ok (.iconst (-1), 1) := by decide +kernel
theorem d_M_init_196 : decode prog_6_method_1_code 196 = .ok (.iastore, 1) := by decide +kernel
theorem d_M_init_197 : decode prog_6_method_1_code 197 = .ok (.return_, 1) := by decide +kernel
