theorem d_M_add_0 : decode prog_6_method_9_code 0 = .ok (.aload_n 0, 1) := by decide +kernel
theorem d_M_add_1 : decode prog_6_method_9_code 1 = .ok (.getfield 79, 3) := by decide +kernel
theorem d_M_add_4 : decode prog_6_method_9_code 4 = .ok (.aload_n 0, 1) := by decide +kernel
theorem d_M_add_5 : decode prog_6_method_9_code 5 = .ok (.getfield 101, 3) := by decide +kernel
theorem d_M_add_8 : decode prog_6_method_9_code 8 = .ok (.iload_n 1, 1) := by decide +kernel
theorem d_M_add_9 : decode prog_6_method_9_code 9 = .ok (.castore, 1) := by decide +kernel
theorem d_M_add_10 : decode prog_6_method_9_code 10 = .ok (.aload_n 0, 1) := by decide +kernel
theorem d_M_add_11 : decode prog_6_method_9_code 11 = .ok (.dup, 1) := by decide +kernel
theorem d_M_add_12 : decode prog_6_method_9_code 12 = .ok (.getfield 101, 3) := by decide +kernel
theorem d_M_add_15 : decode prog_6_method_9_code 15 = .ok (.iconst 1, 1) := by decide +kernel
theorem d_M_add_16 : decode prog_6_method_9_code 16 = .ok (.iadd, 1) := by decide +kernel
theorem d_M_add_17 : decode prog_6_method_9_code 17 = .ok (.putfield 101, 3) := by decide +kernel
theorem d_M_add_20 : decode prog_6_method_9_code 20 = .ok (.return_, 1) := by decide +kernel
theorem d_M_addSlip_0 : decode prog_6_method_11_code 0 = .ok (.iconst 0, 1) := by decide +kernel
theorem d_M_addSlip_1 : decode prog_6_method_11_code 1 = .ok (.istore_n 1, 1) := by decide +kernel
theorem d_M_addSlip_2 : decode prog_6_method_11_code 2 = .ok (.iload_n 1, 1) := by decide +kernel
theorem d_M_addSlip_3 : decode prog_6_method_11_code 3 = .ok (.aload_n 0, 1) := by decide +kernel
theorem d_M_addSlip_4 : decode prog_6_method_11_code 4 = .ok (.getfield 89, 3) := by decide +kernel
theorem d_M_addSlip_7 : decode prog_6_method_11_code 7 = .ok (.if_icmp .ge 19, 3) := by decide +kernel
theorem d_M_addSlip_26 : decode prog_6_method_11_code 26 = .ok (.return_, 1) := by decide +kernel
theorem d_M_addSlip_10 : decode prog_6_method_11_code 10 = .ok (.aload_n 0, 1) := by decide +kernel
theorem d_M_addSlip_11 : decode prog_6_method_11_code 11 = .ok (.aload_n 0, 1) := by decide +kernel
theorem d_M_addSlip_12 : decode prog_6_method_11_code 12 = .ok (.getfield 7, 3) := by decide +kernel
theorem d_M_addSlip_15 : decode prog_6_method_11_code 15 = .ok (.iload_n 1, 1) := by decide +kernel
theorem d_M_addSlip_16 : decode prog_6_method_11_code 16 = .ok (.caload, 1) := by decide +kernel
theorem d_M_addSlip_17 : decode prog_6_method_11_code 17 = .ok (.invokevirtual 108, 3) := by decide +kernel
theorem d_M_addSlip_20 : decode prog_6_method_11_code 20 = .ok (.iinc 1 1, 3) := by decide +kernel
theorem d_M_addSlip_23 : decode prog_6_method_11_code 23 = .ok (.goto (-21), 3) := by decide +kernel
theorem d_M_addText_0 : decode prog_6_method_10_code 0 = .ok (.iload_n 1, 1) := by decide +kernel
theorem d_M_addText_1 : decode prog_6_method_10_code 1 = .ok (.istore_n 3, 1) := by decide +kernel
theorem d_M_addText_2 : decode prog_6_method_10_code 2 = .ok (.iload_n 3, 1) := by decide +kernel
theorem d_M_addText_3 : decode prog_6_method_10_code 3 = .ok (.iload_n 2, 1) := by decide +kernel
theorem d_M_addText_4 : decode prog_6_method_10_code 4 = .ok (.if_icmp .ge 22, 3) := by decide +kernel
theorem d_M_addText_26 : decode prog_6_method_10_code 26 = .ok (.return_, 1) := by decide +kernel
theorem d_M_addText_7 : decode prog_6_method_10_code 7 = .ok (.aload_n 0, 1) := by decide +kernel
theorem d_M_addText_8 : decode prog_6_method_10_code 8 = .ok (.iload_n 3, 1) := by decide +kernel
theorem d_M_addText_9 : decode prog_6_method_10_code 9 = .ok (.invokevirtual 104, 3) := by decide +kernel
theorem d_M_charAt_0 : decode prog_6_method_6_code 0 = .ok (.aload_n 0, 1) := by decide +kernel
theorem d_M_charAt_1 : decode prog_6_method_6_code 1 = .ok (.getfield 17, 3) := by decide +kernel
theorem d_M_charAt_4 : decode prog_6_method_6_code 4 = .ok (.sipush 160, 3) := by decide +kernel
theorem d_M_charAt_7 : decode prog_6_method_6_code 7 = .ok (.aload_n 0, 1) := by decide +kernel
theorem d_M_charAt_8 : decode prog_6_method_6_code 8 = .ok (.getfield 92, 3) := by decide +kernel
theorem d_M_charAt_11 : decode prog_6_method_6_code 11 = .ok (.imul, 1) := by decide +kernel
theorem d_M_charAt_12 : decode prog_6_method_6_code 12 = .ok (.iload_n 1, 1) := by decide +kernel
theorem d_M_charAt_13 : decode prog_6_method_6_code 13 = .ok (.iadd, 1) := by decide +kernel
theorem d_M_charAt_14 : decode prog_6_method_6_code 14 = .ok (.caload, 1) := by decide +kernel
theorem d_M_charAt_15 : decode prog_6_method_6_code 15 = .ok (.ireturn, 1) := by decide +kernel
theorem d_M_addText_12 : decode prog_6_method_10_code 12 = .ok (.istore 4, 2) := by decide +kernel
theorem d_M_addText_14 : decode prog_6_method_10_code 14 = .ok (.aload_n 0, 1) := by decide +kernel
theorem d_M_addText_15 : decode prog_6_method_10_code 15 = .ok (.iload 4, 2) := by decide +kernel
theorem d_M_addText_17 : decode prog_6_method_10_code 17 = .ok (.invokevirtual 108, 3) := by decide +kernel
theorem d_M_addText_20 : decode prog_6_method_10_code 20 = .ok (.iinc 3 1, 3) := by decide +kernel
theorem d_M_addText_23 : decode prog_6_method_10_code 23 = .ok (.goto (-21), 3) := by decide +kernel
theorem d_M_at_0 : decode prog_6_method_48_code 0 = .ok (.aload_n 0, 1) := by decide +kernel
theorem d_M_at_1 : decode prog_6_method_48_code 1 = .ok (.iload_n 1, 1) := by decide +kernel
theorem d_M_at_2 : decode prog_6_method_48_code 2 = .ok (.ifCond .lt 11, 3) := by decide +kernel
theorem d_M_at_5 : decode prog_6_method_48_code 5 = .ok (.iload_n 1, 1) := by decide +kernel
theorem d_M_at_6 : decode prog_6_method_48_code 6 = .ok (.aload_n 0, 1) := by decide +kernel
theorem d_M_at_7 : decode prog_6_method_48_code 7 = .ok (.invokevirtual 123, 3) := by decide +kernel
theorem d_M_textLength_0 : decode prog_6_method_7_code 0 = .ok (.aload_n 0, 1) := by decide +kernel
theorem d_M_textLength_1 : decode prog_6_method_7_code 1 = .ok (.getfield 20, 3) := by decide +kernel
theorem d_M_textLength_4 : decode prog_6_method_7_code 4 = .ok (.aload_n 0, 1) := by decide +kernel
theorem d_M_textLength_5 : decode prog_6_method_7_code 5 = .ok (.getfield 92, 3) := by decide +kernel
theorem d_M_textLength_8 : decode prog_6_method_7_code 8 = .ok (.iaload, 1) := by decide +kernel
theorem d_M_textLength_9 : decode prog_6_method_7_code 9 = .ok (.ireturn, 1) := by decide +kernel
theorem d_M_at_10 : decode prog_6_method_48_code 10 = .ok (.if_icmp .lt 7, 3) := by decide +kernel
theorem d_M_at_17 : decode prog_6_method_48_code 17 = .ok (.iconst 0, 1) := by decide +kernel
theorem d_M_at_13 : decode prog_6_method_48_code 13 = .ok (.iconst 1, 1) := by decide +kernel
theorem d_M_at_14 : decode prog_6_method_48_code 14 = .ok (.goto 4, 3) := by decide +kernel
theorem d_M_at_18 : decode prog_6_method_48_code 18 = .ok (.putfield 82, 3) := by decide +kernel
theorem d_M_at_21 : decode prog_6_method_48_code 21 = .ok (.aload_n 0, 1) := by decide +kernel
theorem d_M_at_22 : decode prog_6_method_48_code 22 = .ok (.getfield 82, 3) := by decide +kernel
theorem d_M_at_25 : decode prog_6_method_48_code 25 = .ok (.ifCond .ne 11, 3) := by decide +kernel
theorem d_M_at_36 : decode prog_6_method_48_code 36 = .ok (.iconst 0, 1) := by decide +kernel
theorem d_M_at_28 : decode prog_6_method_48_code 28 = .ok (.aload_n 0, 1) := by decide +kernel
theorem d_M_at_29 : decode prog_6_method_48_code 29 = .ok (.iload_n 1, 1) := by decide +kernel
theorem d_M_at_30 : decode prog_6_method_48_code 30 = .ok (.invokevirtual 104, 3) := by decide +kernel
theorem d_M_at_33 : decode prog_6_method_48_code 33 = .ok (.goto 4, 3) := by decide +kernel
theorem d_M_at_37 : decode prog_6_method_48_code 37 = .ok (.ireturn, 1) := by decide +kernel
theorem d_M_behind_0 : decode prog_6_method_29_code 0 = .ok (.iload_n 2, 1) := by decide +kernel
theorem d_M_behind_1 : decode prog_6_method_29_code 1 = .ok (.ifCond .ge 5, 3) := by decide +kernel
theorem d_M_behind_6 : decode prog_6_method_29_code 6 = .ok (.aload_n 0, 1) := by decide +kernel
theorem d_M_behind_7 : decode prog_6_method_29_code 7 = .ok (.aload_n 0, 1) := by decide +kernel
theorem d_M_behind_8 : decode prog_6_method_29_code 8 = .ok (.getfield 60, 3) := by decide +kernel
theorem d_M_behind_11 : decode prog_6_method_29_code 11 = .ok (.iload_n 1, 1) := by decide +kernel
theorem d_M_behind_12 : decode prog_6_method_29_code 12 = .ok (.iaload, 1) := by decide +kernel
theorem d_M_behind_13 : decode prog_6_method_29_code 13 = .ok (.aload_n 0, 1) := by decide +kernel
theorem d_M_behind_14 : decode prog_6_method_29_code 14 = .ok (.getfield 57, 3) := by decide +kernel
theorem d_M_behind_17 : decode prog_6_method_29_code 17 = .ok (.iload_n 2, 1) := by decide +kernel
theorem d_M_behind_18 : decode prog_6_method_29_code 18 = .ok (.iaload, 1) := by decide +kernel
theorem d_M_behind_19 : decode prog_6_method_29_code 19 = .ok (.invokevirtual 152, 3) := by decide +kernel
theorem d_M_link_0 : decode prog_6_method_25_code 0 = .ok (.aload_n 0, 1) := by decide +kernel
theorem d_M_link_1 : decode prog_6_method_25_code 1 = .ok (.getfield 51, 3) := by decide +kernel
theorem d_M_link_4 : decode prog_6_method_25_code 4 = .ok (.iload_n 1, 1) := by decide +kernel
theorem d_M_link_5 : decode prog_6_method_25_code 5 = .ok (.iaload, 1) := by decide +kernel
theorem d_M_link_6 : decode prog_6_method_25_code 6 = .ok (.ifCond .ge 13, 3) := by decide +kernel
theorem d_M_link_19 : decode prog_6_method_25_code 19 = .ok (.aload_n 0, 1) := by decide +kernel
theorem d_M_link_20 : decode prog_6_method_25_code 20 = .ok (.getfield 54, 3) := by decide +kernel
theorem d_M_link_23 : decode prog_6_method_25_code 23 = .ok (.iload_n 1, 1) := by decide +kernel
theorem d_M_link_24 : decode prog_6_method_25_code 24 = .ok (.iload_n 2, 1) := by decide +kernel
theorem d_M_link_25 : decode prog_6_method_25_code 25 = .ok (.iastore, 1) := by decide +kernel
theorem d_M_link_9 : decode prog_6_method_25_code 9 = .ok (.aload_n 0, 1) := by decide +kernel
theorem d_M_link_10 : decode prog_6_method_25_code 10 = .ok (.getfield 51, 3) := by decide +kernel
theorem d_M_link_13 : decode prog_6_method_25_code 13 = .ok (.iload_n 1, 1) := by decide +kernel
theorem d_M_link_14 : decode prog_6_method_25_code 14 = .ok (.iload_n 2, 1) := by decide +kernel
theorem d_M_link_15 : decode prog_6_method_25_code 15 = .ok (.iastore, 1) := by decide +kernel
theorem d_M_link_16 : decode prog_6_method_25_code 16 = .ok (.goto 10, 3) := by decide +kernel
theorem d_M_link_26 : decode prog_6_method_25_code 26 = .ok (.return_, 1) := by decide +kernel
theorem d_M_behind_22 : decode prog_6_method_29_code 22 = .ok (.aload_n 0, 1) := by decide +kernel
theorem d_M_behind_23 : decode prog_6_method_29_code 23 = .ok (.aload_n 0, 1) := by decide +kernel
theorem d_M_behind_24 : decode prog_6_method_29_code 24 = .ok (.getfield 57, 3) := by decide +kernel
theorem d_M_behind_27 : decode prog_6_method_29_code 27 = .ok (.iload_n 1, 1) := by decide +kernel
theorem d_M_behind_28 : decode prog_6_method_29_code 28 = .ok (.iaload, 1) := by decide +kernel
theorem d_M_behind_29 : decode prog_6_method_29_code 29 = .ok (.aload_n 0, 1) := by decide +kernel
theorem d_M_behind_30 : decode prog_6_method_29_code 30 = .ok (.getfield 60, 3) := by decide +kernel
theorem d_M_behind_33 : decode prog_6_method_29_code 33 = .ok (.iload_n 2, 1) := by decide +kernel
theorem d_M_behind_34 : decode prog_6_method_29_code 34 = .ok (.iaload, 1) := by decide +kernel
theorem d_M_behind_35 : decode prog_6_method_29_code 35 = .ok (.invokevirtual 155, 3) := by decide +kernel
theorem d_M_piece_0 : decode prog_6_method_26_code 0 = .ok (.aload_n 0, 1) := by decide +kernel
theorem d_M_piece_1 : decode prog_6_method_26_code 1 = .ok (.getfield 57, 3) := by decide +kernel
theorem d_M_piece_4 : decode prog_6_method_26_code 4 = .ok (.aload_n 0, 1) := by decide +kernel
theorem d_M_piece_5 : decode prog_6_method_26_code 5 = .ok (.getfield 145, 3) := by decide +kernel
theorem d_M_piece_8 : decode prog_6_method_26_code 8 = .ok (.iload_n 1, 1) := by decide +kernel
theorem d_M_piece_9 : decode prog_6_method_26_code 9 = .ok (.iastore, 1) := by decide +kernel
theorem d_M_piece_10 : decode prog_6_method_26_code 10 = .ok (.aload_n 0, 1) := by decide +kernel
theorem d_M_piece_11 : decode prog_6_method_26_code 11 = .ok (.getfield 60, 3) := by decide +kernel
theorem d_M_piece_14 : decode prog_6_method_26_code 14 = .ok (.aload_n 0, 1) := by decide +kernel
theorem d_M_piece_15 : decode prog_6_method_26_code 15 = .ok (.getfield 145, 3) := by decide +kernel
theorem d_M_piece_18 : decode prog_6_method_26_code 18 = .ok (.iload_n 2, 1) := by decide +kernel
theorem d_M_piece_19 : decode prog_6_method_26_code 19 = .ok (.iastore, 1) := by decide +kernel
theorem d_M_piece_20 : decode prog_6_method_26_code 20 = .ok (.aload_n 0, 1) := by decide +kernel
theorem d_M_piece_21 : decode prog_6_method_26_code 21 = .ok (.dup, 1) := by decide +kernel
theorem d_M_piece_22 : decode prog_6_method_26_code 22 = .ok (.getfield 145, 3) := by decide +kernel
theorem d_M_piece_25 : decode prog_6_method_26_code 25 = .ok (.iconst 1, 1) := by decide +kernel
theorem d_M_piece_26 : decode prog_6_method_26_code 26 = .ok (.iadd, 1) := by decide +kernel
theorem d_M_piece_27 : decode prog_6_method_26_code 27 = .ok (.putfield 145, 3) := by decide +kernel
theorem d_M_piece_30 : decode prog_6_method_26_code 30 = .ok (.aload_n 0, 1) := by decide +kernel
theorem d_M_piece_31 : decode prog_6_method_26_code 31 = .ok (.getfield 145, 3) := by decide +kernel
theorem d_M_piece_34 : decode prog_6_method_26_code 34 = .ok (.iconst 1, 1) := by decide +kernel
theorem d_M_piece_35 : decode prog_6_method_26_code 35 = .ok (.isub, 1) := by decide +kernel
theorem d_M_piece_36 : decode prog_6_method_26_code 36 = .ok (.ireturn, 1) := by decide +kernel
theorem d_M_behind_38 : decode prog_6_method_29_code 38 = .ok (.ireturn, 1) := by decide +kernel
theorem d_M_behind_4 : decode prog_6_method_29_code 4 = .ok (.iload_n 1, 1) := by decide +kernel
theorem d_M_behind_5 : decode prog_6_method_29_code 5 = .ok (.ireturn, 1) := by decide +kernel
theorem d_M_breaks_0 : decode prog_6_method_49_code 0 = .ok (.iconst 0, 1) := by decide +kernel
theorem d_M_breaks_1 : decode prog_6_method_49_code 1 = .ok (.istore_n 2, 1) := by decide +kernel
theorem d_M_breaks_2 : decode prog_6_method_49_code 2 = .ok (.iconst 0, 1) := by decide +kernel
theorem d_M_breaks_3 : decode prog_6_method_49_code 3 = .ok (.istore_n 3, 1) := by decide +kernel
theorem d_M_breaks_4 : decode prog_6_method_49_code 4 = .ok (.iload_n 3, 1) := by decide +kernel
theorem d_M_breaks_5 : decode prog_6_method_49_code 5 = .ok (.iload_n 1, 1) := by decide +kernel
theorem d_M_breaks_6 : decode prog_6_method_49_code 6 = .ok (.if_icmp .ge 27, 3) := by decide +kernel
theorem d_M_breaks_33 : decode prog_6_method_49_code 33 = .ok (.iload_n 2, 1) := by decide +kernel
theorem d_M_breaks_34 : decode prog_6_method_49_code 34 = .ok (.ireturn, 1) := by decide +kernel
theorem d_M_breaks_9 : decode prog_6_method_49_code 9 = .ok (.iload_n 2, 1) := by decide +kernel
theorem d_M_breaks_10 : decode prog_6_method_49_code 10 = .ok (.aload_n 0, 1) := by decide +kernel
theorem d_M_breaks_11 : decode prog_6_method_49_code 11 = .ok (.iload_n 3, 1) := by decide +kernel
theorem d_M_breaks_12 : decode prog_6_method_49_code 12 = .ok (.invokevirtual 104, 3) := by decide +kernel
theorem d_M_breaks_15 : decode prog_6_method_49_code 15 = .ok (.bipush 10, 2) := by decide +kernel
theorem d_M_breaks_17 : decode prog_6_method_49_code 17 = .ok (.if_icmp .ne 7, 3) := by decide +kernel
theorem d_M_breaks_24 : decode prog_6_method_49_code 24 = .ok (.iconst 0, 1) := by decide +kernel
theorem d_M_breaks_20 : decode prog_6_method_49_code 20 = .ok (.iconst 1, 1) := by decide +kernel
theorem d_M_breaks_21 : decode prog_6_method_49_code 21 = .ok (.goto 4, 3) := by decide +kernel
theorem d_M_breaks_25 : decode prog_6_method_49_code 25 = .ok (.iadd, 1) := by decide +kernel
theorem d_M_breaks_26 : decode prog_6_method_49_code 26 = .ok (.istore_n 2, 1) := by decide +kernel
theorem d_M_breaks_27 : decode prog_6_method_49_code 27 = .ok (.iinc 3 1, 3) := by decide +kernel
theorem d_M_breaks_30 : decode prog_6_method_49_code 30 = .ok (.goto (-26), 3) := by decide +kernel
theorem d_M_build_0 : decode prog_6_method_35_code 0 = .ok (.aload_n 0, 1) := by decide +kernel
theorem d_M_build_1 : decode prog_6_method_35_code 1 = .ok (.getfield 39, 3) := by decide +kernel
theorem d_M_build_4 : decode prog_6_method_35_code 4 = .ok (.iload_n 1, 1) := by decide +kernel
theorem d_M_build_5 : decode prog_6_method_35_code 5 = .ok (.caload, 1) := by decide +kernel
theorem d_M_build_6 : decode prog_6_method_35_code 6 = .ok (.istore_n 2, 1) := by decide +kernel
theorem d_M_build_7 : decode prog_6_method_35_code 7 = .ok (.aload_n 0, 1) := by decide +kernel
theorem d_M_build_8 : decode prog_6_method_35_code 8 = .ok (.getfield 159, 3) := by decide +kernel
theorem d_M_build_11 : decode prog_6_method_35_code 11 = .ok (.iconst 1, 1) := by decide +kernel
theorem d_M_build_12 : decode prog_6_method_35_code 12 = .ok (.isub, 1) := by decide +kernel
theorem d_M_build_13 : decode prog_6_method_35_code 13 = .ok (.istore_n 3, 1) := by decide +kernel
theorem d_M_build_14 : decode prog_6_method_35_code 14 = .ok (.iload_n 1, 1) := by decide +kernel
theorem d_M_build_15 : decode prog_6_method_35_code 15 = .ok (.iconst 1, 1) := by decide +kernel
theorem d_M_build_16 : decode prog_6_method_35_code 16 = .ok (.iadd, 1) := by decide +kernel
theorem d_M_build_17 : decode prog_6_method_35_code 17 = .ok (.istore 4, 2) := by decide +kernel
theorem d_M_build_19 : decode prog_6_method_35_code 19 = .ok (.iload_n 2, 1) := by decide +kernel
theorem d_M_build_20 : decode prog_6_method_35_code 20 = .ok (.bipush 40, 2) := by decide +kernel
theorem d_M_build_22 : decode prog_6_method_35_code 22 = .ok (.if_icmp .ne 10, 3) := by decide +kernel
theorem d_M_build_32 : decode prog_6_method_35_code 32 = .ok (.iload_n 2, 1) := by decide +kernel
theorem d_M_build_33 : decode prog_6_method_35_code 33 = .ok (.bipush 41, 2) := by decide +kernel
theorem d_M_build_35 : decode prog_6_method_35_code 35 = .ok (.if_icmp .ne 33, 3) := by decide +kernel
theorem d_M_build_68 : decode prog_6_method_35_code 68 = .ok (.iload_n 2, 1) := by decide +kernel
theorem d_M_build_69 : decode prog_6_method_35_code 69 = .ok (.bipush 124, 2) := by decide +kernel
theorem d_M_build_71 : decode prog_6_method_35_code 71 = .ok (.if_icmp .ne 20, 3) := by decide +kernel
theorem d_M_build_91 : decode prog_6_method_35_code 91 = .ok (.iload_n 2, 1) := by decide +kernel
theorem d_M_build_92 : decode prog_6_method_35_code 92 = .ok (.invokestatic 139, 3) := by decide +kernel
theorem d_M_isTimes_0 : decode prog_6_method_22_code 0 = .ok (.iload_n 0, 1) := by decide +kernel
theorem d_M_isTimes_1 : decode prog_6_method_22_code 1 = .ok (.bipush 42, 2) := by decide +kernel
theorem d_M_isTimes_3 : decode prog_6_method_22_code 3 = .ok (.if_icmp .eq 15, 3) := by decide +kernel
theorem d_M_isTimes_6 : decode prog_6_method_22_code 6 = .ok (.iload_n 0, 1) := by decide +kernel
theorem d_M_isTimes_7 : decode prog_6_method_22_code 7 = .ok (.bipush 43, 2) := by decide +kernel
theorem d_M_isTimes_9 : decode prog_6_method_22_code 9 = .ok (.if_icmp .eq 9, 3) := by decide +kernel
theorem d_M_isTimes_12 : decode prog_6_method_22_code 12 = .ok (.iload_n 0, 1) := by decide +kernel
theorem d_M_isTimes_13 : decode prog_6_method_22_code 13 = .ok (.bipush 63, 2) := by decide +kernel
theorem d_M_isTimes_15 : decode prog_6_method_22_code 15 = .ok (.if_icmp .ne 7, 3) := by decide +kernel
theorem d_M_isTimes_22 : decode prog_6_method_22_code 22 = .ok (.iconst 0, 1) := by decide +kernel
theorem d_M_isTimes_18 : decode prog_6_method_22_code 18 = .ok (.iconst 1, 1) := by decide +kernel
theorem d_M_isTimes_19 : decode prog_6_method_22_code 19 = .ok (.goto 4, 3) := by decide +kernel
theorem d_M_isTimes_23 : decode prog_6_method_22_code 23 = .ok (.ireturn, 1) := by decide +kernel
theorem d_M_build_95 : decode prog_6_method_35_code 95 = .ok (.ifCond .eq 44, 3) := by decide +kernel
theorem d_M_build_139 : decode prog_6_method_35_code 139 = .ok (.iload_n 2, 1) := by decide +kernel
theorem d_M_build_140 : decode prog_6_method_35_code 140 = .ok (.bipush 91, 2) := by decide +kernel
theorem d_M_build_142 : decode prog_6_method_35_code 142 = .ok (.if_icmp .ne 50, 3) := by decide +kernel
theorem d_M_build_192 : decode prog_6_method_35_code 192 = .ok (.iload_n 2, 1) := by decide +kernel
theorem d_M_build_193 : decode prog_6_method_35_code 193 = .ok (.bipush 92, 2) := by decide +kernel
theorem d_M_build_195 : decode prog_6_method_35_code 195 = .ok (.if_icmp .ne 33, 3) := by decide +kernel
theorem d_M_build_228 : decode prog_6_method_35_code 228 = .ok (.aload_n 0, 1) := by decide +kernel
theorem d_M_build_229 : decode prog_6_method_35_code 229 = .ok (.iload_n 2, 1) := by decide +kernel
theorem d_M_build_230 : decode prog_6_method_35_code 230 = .ok (.bipush 46, 2) := by decide +kernel
theorem d_M_build_232 : decode prog_6_method_35_code 232 = .ok (.if_icmp .ne 7, 3) := by decide +kernel
theorem d_M_build_239 : decode prog_6_method_35_code 239 = .ok (.iload_n 2, 1) := by decide +kernel
theorem d_M_build_240 : decode prog_6_method_35_code 240 = .ok (.bipush 94, 2) := by decide +kernel
theorem d_M_build_242 : decode prog_6_method_35_code 242 = .ok (.if_icmp .ne 7, 3) := by decide +kernel
theorem d_M_build_249 : decode prog_6_method_35_code 249 = .ok (.iload_n 2, 1) := by decide +kernel
theorem d_M_build_250 : decode prog_6_method_35_code 250 = .ok (.bipush 36, 2) := by decide +kernel
theorem d_M_build_252 : decode prog_6_method_35_code 252 = .ok (.if_icmp .ne 7, 3) := by decide +kernel
theorem d_M_build_259 : decode prog_6_method_35_code 259 = .ok (.iconst 1, 1) := by decide +kernel
theorem d_M_build_255 : decode prog_6_method_35_code 255 = .ok (.iconst 5, 1) := by decide +kernel
theorem d_M_build_256 : decode prog_6_method_35_code 256 = .ok (.goto 4, 3) := by decide +kernel
theorem d_M_build_245 : decode prog_6_method_35_code 245 = .ok (.iconst 4, 1) := by decide +kernel
theorem d_M_build_246 : decode prog_6_method_35_code 246 = .ok (.goto 14, 3) := by decide +kernel
theorem d_M_build_235 : decode prog_6_method_35_code 235 = .ok (.iconst 2, 1) := by decide +kernel
theorem d_M_build_236 : decode prog_6_method_35_code 236 = .ok (.goto 24, 3) := by decide +kernel
theorem d_M_build_198 : decode prog_6_method_35_code 198 = .ok (.aload_n 0, 1) := by decide +kernel
theorem d_M_build_199 : decode prog_6_method_35_code 199 = .ok (.iconst 1, 1) := by decide +kernel
theorem d_M_build_200 : decode prog_6_method_35_code 200 = .ok (.aload_n 0, 1) := by decide +kernel
theorem d_M_build_201 : decode prog_6_method_35_code 201 = .ok (.getfield 39, 3) := by decide +kernel
theorem d_M_build_204 : decode prog_6_method_35_code 204 = .ok (.iload_n 1, 1) := by decide +kernel
theorem d_M_build_205 : decode prog_6_method_35_code 205 = .ok (.iconst 1, 1) := by decide +kernel
theorem d_M_build_206 : decode prog_6_method_35_code 206 = .ok (.iadd, 1) := by decide +kernel
theorem d_M_build_207 : decode prog_6_method_35_code 207 = .ok (.caload, 1) := by decide +kernel
theorem d_M_build_208 : decode prog_6_method_35_code 208 = .ok (.iconst 0, 1) := by decide +kernel
theorem d_M_build_209 : decode prog_6_method_35_code 209 = .ok (.invokevirtual 184, 3) := by decide +kernel
theorem d_M_single_0 : decode prog_6_method_27_code 0 = .ok (.aload_n 0, 1) := by decide +kernel
theorem d_M_single_1 : decode prog_6_method_27_code 1 = .ok (.iload_n 1, 1) := by decide +kernel
theorem d_M_single_2 : decode prog_6_method_27_code 2 = .ok (.iload_n 2, 1) := by decide +kernel
theorem d_M_single_3 : decode prog_6_method_27_code 3 = .ok (.iload_n 3, 1) := by decide +kernel
theorem d_M_single_4 : decode prog_6_method_27_code 4 = .ok (.invokevirtual 148, 3) := by decide +kernel
theorem d_M_node_0 : decode prog_6_method_24_code 0 = .ok (.aload_n 0, 1) := by decide +kernel
theorem d_M_node_1 : decode prog_6_method_24_code 1 = .ok (.getfield 42, 3) := by decide +kernel
theorem d_M_node_4 : decode prog_6_method_24_code 4 = .ok (.aload_n 0, 1) := by decide +kernel
theorem d_M_node_5 : decode prog_6_method_24_code 5 = .ok (.getfield 142, 3) := by decide +kernel
theorem d_M_node_8 : decode prog_6_method_24_code 8 = .ok (.iload_n 1, 1) := by decide +kernel
theorem d_M_node_9 : decode prog_6_method_24_code 9 = .ok (.iastore, 1) := by decide +kernel
theorem d_M_node_10 : decode prog_6_method_24_code 10 = .ok (.aload_n 0, 1) := by decide +kernel
theorem d_M_node_11 : decode prog_6_method_24_code 11 = .ok (.getfield 45, 3) := by decide +kernel
theorem d_M_node_14 : decode prog_6_method_24_code 14 = .ok (.aload_n 0, 1) := by decide +kernel
theorem d_M_node_15 : decode prog_6_method_24_code 15 = .ok (.getfield 142, 3) := by decide +kernel
theorem d_M_node_18 : decode prog_6_method_24_code 18 = .ok (.iload_n 2, 1) := by decide +kernel
theorem d_M_node_19 : decode prog_6_method_24_code 19 = .ok (.iastore, 1) := by decide +kernel
theorem d_M_node_20 : decode prog_6_method_24_code 20 = .ok (.aload_n 0, 1) := by decide +kernel
theorem d_M_node_21 : decode prog_6_method_24_code 21 = .ok (.getfield 48, 3) := by decide +kernel
theorem d_M_node_24 : decode prog_6_method_24_code 24 = .ok (.aload_n 0, 1) := by decide +kernel
theorem d_M_node_25 : decode prog_6_method_24_code 25 = .ok (.getfield 142, 3) := by decide +kernel
theorem d_M_node_28 : decode prog_6_method_24_code 28 = .ok (.iload_n 3, 1) := by decide +kernel
theorem d_M_node_29 : decode prog_6_method_24_code 29 = .ok (.iastore, 1) := by decide +kernel
theorem d_M_node_30 : decode prog_6_method_24_code 30 = .ok (.aload_n 0, 1) := by decide +kernel
theorem d_M_node_31 : decode prog_6_method_24_code 31 = .ok (.getfield 51, 3) := by decide +kernel
theorem d_M_node_34 : decode prog_6_method_24_code 34 = .ok (.aload_n 0, 1) := by decide +kernel
theorem d_M_node_35 : decode prog_6_method_24_code 35 = .ok (.getfield 142, 3) := by decide +kernel
theorem d_M_node_38 : decode prog_6_method_24_code 38 = .ok (.iconst (-1), 1) := by decide +kernel
theorem d_M_node_39 : decode prog_6_method_24_code 39 = .ok (.iastore, 1) := by decide +kernel
theorem d_M_node_40 : decode prog_6_method_24_code 40 = .ok (.aload_n 0, 1) := by decide +kernel
theorem d_M_node_41 : decode prog_6_method_24_code 41 = .ok (.getfield 54, 3) := by decide +kernel
theorem d_M_node_44 : decode prog_6_method_24_code 44 = .ok (.aload_n 0, 1) := by decide +kernel
theorem d_M_node_45 : decode prog_6_method_24_code 45 = .ok (.getfield 142, 3) := by decide +kernel
theorem d_M_node_48 : decode prog_6_method_24_code 48 = .ok (.iconst (-1), 1) := by decide +kernel
theorem d_M_node_49 : decode prog_6_method_24_code 49 = .ok (.iastore, 1) := by decide +kernel
theorem d_M_node_50 : decode prog_6_method_24_code 50 = .ok (.aload_n 0, 1) := by decide +kernel
theorem d_M_node_51 : decode prog_6_method_24_code 51 = .ok (.dup, 1) := by decide +kernel
theorem d_M_node_52 : decode prog_6_method_24_code 52 = .ok (.getfield 142, 3) := by decide +kernel
theorem d_M_node_55 : decode prog_6_method_24_code 55 = .ok (.iconst 1, 1) := by decide +kernel
theorem d_M_node_56 : decode prog_6_method_24_code 56 = .ok (.iadd, 1) := by decide +kernel
theorem d_M_node_57 : decode prog_6_method_24_code 57 = .ok (.putfield 142, 3) := by decide +kernel
theorem d_M_node_60 : decode prog_6_method_24_code 60 = .ok (.aload_n 0, 1) := by decide +kernel
theorem d_M_node_61 : decode prog_6_method_24_code 61 = .ok (.getfield 142, 3) := by decide +kernel
theorem d_M_node_64 : decode prog_6_method_24_code 64 = .ok (.iconst 1, 1) := by decide +kernel
theorem d_M_node_65 : decode prog_6_method_24_code 65 = .ok (.isub, 1) := by decide +kernel
theorem d_M_node_66 : decode prog_6_method_24_code 66 = .ok (.ireturn, 1) := by decide +kernel
theorem d_M_single_7 : decode prog_6_method_27_code 7 = .ok (.istore 4, 2) := by decide +kernel
theorem d_M_single_9 : decode prog_6_method_27_code 9 = .ok (.aload_n 0, 1) := by decide +kernel
theorem d_M_single_10 : decode prog_6_method_27_code 10 = .ok (.iconst 0, 1) := by decide +kernel
theorem d_M_single_11 : decode prog_6_method_27_code 11 = .ok (.iconst 0, 1) := by decide +kernel
theorem d_M_single_12 : decode prog_6_method_27_code 12 = .ok (.iconst 0, 1) := by decide +kernel
theorem d_M_single_13 : decode prog_6_method_27_code 13 = .ok (.invokevirtual 148, 3) := by decide +kernel
theorem d_M_single_16 : decode prog_6_method_27_code 16 = .ok (.istore 5, 2) := by decide +kernel
theorem d_M_single_18 : decode prog_6_method_27_code 18 = .ok (.aload_n 0, 1) := by decide +kernel
theorem d_M_single_19 : decode prog_6_method_27_code 19 = .ok (.iload 4, 2) := by decide +kernel
theorem d_M_single_21 : decode prog_6_method_27_code 21 = .ok (.iload 5, 2) := by decide +kernel
theorem d_M_single_23 : decode prog_6_method_27_code 23 = .ok (.invokevirtual 152, 3) := by decide +kernel
theorem d_M_single_26 : decode prog_6_method_27_code 26 = .ok (.aload_n 0, 1) := by decide +kernel
theorem d_M_single_27 : decode prog_6_method_27_code 27 = .ok (.iload 4, 2) := by decide +kernel
theorem d_M_single_29 : decode prog_6_method_27_code 29 = .ok (.iload 5, 2) := by decide +kernel
theorem d_M_single_31 : decode prog_6_method_27_code 31 = .ok (.invokevirtual 155, 3) := by decide +kernel
theorem d_M_single_34 : decode prog_6_method_27_code 34 = .ok (.ireturn, 1) := by decide +kernel
theorem d_M_build_212 : decode prog_6_method_35_code 212 = .ok (.istore 5, 2) := by decide +kernel
theorem d_M_build_214 : decode prog_6_method_35_code 214 = .ok (.aload_n 0, 1) := by decide +kernel
theorem d_M_build_215 : decode prog_6_method_35_code 215 = .ok (.iload 5, 2) := by decide +kernel
theorem d_M_build_217 : decode prog_6_method_35_code 217 = .ok (.invokevirtual 177, 3) := by decide +kernel
theorem d_M_newPart_0 : decode prog_6_method_34_code 0 = .ok (.aload_n 0, 1) := by decide +kernel
theorem d_M_newPart_1 : decode prog_6_method_34_code 1 = .ok (.getfield 159, 3) := by decide +kernel
theorem d_M_newPart_4 : decode prog_6_method_34_code 4 = .ok (.iconst 1, 1) := by decide +kernel
theorem d_M_newPart_5 : decode prog_6_method_34_code 5 = .ok (.isub, 1) := by decide +kernel
theorem d_M_newPart_6 : decode prog_6_method_34_code 6 = .ok (.istore_n 2, 1) := by decide +kernel
theorem d_M_newPart_7 : decode prog_6_method_34_code 7 = .ok (.aload_n 0, 1) := by decide +kernel
theorem d_M_newPart_8 : decode prog_6_method_34_code 8 = .ok (.getfield 66, 3) := by decide +kernel
theorem d_M_newPart_11 : decode prog_6_method_34_code 11 = .ok (.iload_n 2, 1) := by decide +kernel
theorem d_M_newPart_12 : decode prog_6_method_34_code 12 = .ok (.aload_n 0, 1) := by decide +kernel
theorem d_M_newPart_13 : decode prog_6_method_34_code 13 = .ok (.aload_n 0, 1) := by decide +kernel
theorem d_M_newPart_14 : decode prog_6_method_34_code 14 = .ok (.getfield 66, 3) := by decide +kernel
theorem d_M_newPart_17 : decode prog_6_method_34_code 17 = .ok (.iload_n 2, 1) := by decide +kernel
theorem d_M_newPart_18 : decode prog_6_method_34_code 18 = .ok (.iaload, 1) := by decide +kernel
theorem d_M_newPart_19 : decode prog_6_method_34_code 19 = .ok (.aload_n 0, 1) := by decide +kernel
theorem d_M_newPart_20 : decode prog_6_method_34_code 20 = .ok (.getfield 69, 3) := by decide +kernel
theorem d_M_newPart_23 : decode prog_6_method_34_code 23 = .ok (.iload_n 2, 1) := by decide +kernel
theorem d_M_newPart_24 : decode prog_6_method_34_code 24 = .ok (.iaload, 1) := by decide +kernel
theorem d_M_newPart_25 : decode prog_6_method_34_code 25 = .ok (.invokevirtual 165, 3) := by decide +kernel
theorem d_M_newPart_28 : decode prog_6_method_34_code 28 = .ok (.iastore, 1) := by decide +kernel
theorem d_M_newPart_29 : decode prog_6_method_34_code 29 = .ok (.aload_n 0, 1) := by decide +kernel
theorem d_M_newPart_30 : decode prog_6_method_34_code 30 = .ok (.getfield 69, 3) := by decide +kernel
theorem d_M_newPart_33 : decode prog_6_method_34_code 33 = .ok (.iload_n 2, 1) := by decide +kernel
theorem d_M_newPart_34 : decode prog_6_method_34_code 34 = .ok (.iload_n 1, 1) := by decide +kernel
theorem d_M_newPart_35 : decode prog_6_method_34_code 35 = .ok (.iastore, 1) := by decide +kernel
theorem d_M_newPart_36 : decode prog_6_method_34_code 36 = .ok (.return_, 1) := by decide +kernel
theorem d_M_build_220 : decode prog_6_method_35_code 220 = .ok (.iload_n 1, 1) := by decide +kernel
theorem d_M_build_221 : decode prog_6_method_35_code 221 = .ok (.iconst 2, 1) := by decide +kernel
theorem d_M_build_222 : decode prog_6_method_35_code 222 = .ok (.iadd, 1) := by decide +kernel
theorem d_M_build_223 : decode prog_6_method_35_code 223 = .ok (.istore 4, 2) := by decide +kernel
theorem d_M_build_225 : decode prog_6_method_35_code 225 = .ok (.goto 48, 3) := by decide +kernel
theorem d_M_build_145 : decode prog_6_method_35_code 145 = .ok (.iload_n 1, 1) := by decide +kernel
theorem d_M_build_146 : decode prog_6_method_35_code 146 = .ok (.iconst 2, 1) := by decide +kernel
theorem d_M_build_147 : decode prog_6_method_35_code 147 = .ok (.iadd, 1) := by decide +kernel
theorem d_M_build_148 : decode prog_6_method_35_code 148 = .ok (.istore 4, 2) := by decide +kernel
theorem d_M_build_98 : decode prog_6_method_35_code 98 = .ok (.aload_n 0, 1) := by decide +kernel
theorem d_M_build_99 : decode prog_6_method_35_code 99 = .ok (.getfield 69, 3) := by decide +kernel
theorem d_M_build_102 : decode prog_6_method_35_code 102 = .ok (.iload_n 3, 1) := by decide +kernel
theorem d_M_build_103 : decode prog_6_method_35_code 103 = .ok (.aload_n 0, 1) := by decide +kernel
theorem d_M_build_104 : decode prog_6_method_35_code 104 = .ok (.aload_n 0, 1) := by decide +kernel
theorem d_M_build_105 : decode prog_6_method_35_code 105 = .ok (.getfield 69, 3) := by decide +kernel
theorem d_M_build_108 : decode prog_6_method_35_code 108 = .ok (.iload_n 3, 1) := by decide +kernel
theorem d_M_build_109 : decode prog_6_method_35_code 109 = .ok (.iaload, 1) := by decide +kernel
theorem d_M_build_110 : decode prog_6_method_35_code 110 = .ok (.iload_n 2, 1) := by decide +kernel
theorem d_M_build_111 : decode prog_6_method_35_code 111 = .ok (.bipush 43, 2) := by decide +kernel
theorem d_M_build_113 : decode prog_6_method_35_code 113 = .ok (.if_icmp .eq 7, 3) := by decide +kernel
theorem d_M_build_120 : decode prog_6_method_35_code 120 = .ok (.iconst 0, 1) := by decide +kernel
theorem d_M_build_116 : decode prog_6_method_35_code 116 = .ok (.iconst 1, 1) := by decide +kernel
theorem d_M_build_117 : decode prog_6_method_35_code 117 = .ok (.goto 4, 3) := by decide +kernel
theorem d_M_build_74 : decode prog_6_method_35_code 74 = .ok (.aload_n 0, 1) := by decide +kernel
theorem d_M_build_75 : decode prog_6_method_35_code 75 = .ok (.invokevirtual 174, 3) := by decide +kernel
theorem d_M_endRow_0 : decode prog_6_method_33_code 0 = .ok (.aload_n 0, 1) := by decide +kernel
theorem d_M_endRow_1 : decode prog_6_method_33_code 1 = .ok (.getfield 159, 3) := by decide +kernel
theorem d_M_endRow_4 : decode prog_6_method_33_code 4 = .ok (.iconst 1, 1) := by decide +kernel
theorem d_M_endRow_5 : decode prog_6_method_33_code 5 = .ok (.isub, 1) := by decide +kernel
theorem d_M_endRow_6 : decode prog_6_method_33_code 6 = .ok (.istore_n 1, 1) := by decide +kernel
theorem d_M_endRow_7 : decode prog_6_method_33_code 7 = .ok (.aload_n 0, 1) := by decide +kernel
theorem d_M_endRow_8 : decode prog_6_method_33_code 8 = .ok (.aload_n 0, 1) := by decide +kernel
theorem d_M_endRow_9 : decode prog_6_method_33_code 9 = .ok (.getfield 66, 3) := by decide +kernel
theorem d_M_endRow_12 : decode prog_6_method_33_code 12 = .ok (.iload_n 1, 1) := by decide +kernel
theorem d_M_endRow_13 : decode prog_6_method_33_code 13 = .ok (.iaload, 1) := by decide +kernel
theorem d_M_endRow_14 : decode prog_6_method_33_code 14 = .ok (.aload_n 0, 1) := by decide +kernel
theorem d_M_endRow_15 : decode prog_6_method_33_code 15 = .ok (.getfield 69, 3) := by decide +kernel
theorem d_M_endRow_18 : decode prog_6_method_33_code 18 = .ok (.iload_n 1, 1) := by decide +kernel
theorem d_M_endRow_19 : decode prog_6_method_33_code 19 = .ok (.iaload, 1) := by decide +kernel
theorem d_M_endRow_20 : decode prog_6_method_33_code 20 = .ok (.invokevirtual 165, 3) := by decide +kernel
theorem d_M_endRow_23 : decode prog_6_method_33_code 23 = .ok (.istore_n 2, 1) := by decide +kernel
theorem d_M_endRow_24 : decode prog_6_method_33_code 24 = .ok (.aload_n 0, 1) := by decide +kernel
theorem d_M_endRow_25 : decode prog_6_method_33_code 25 = .ok (.getfield 63, 3) := by decide +kernel
theorem d_M_endRow_28 : decode prog_6_method_33_code 28 = .ok (.iload_n 1, 1) := by decide +kernel
theorem d_M_endRow_29 : decode prog_6_method_33_code 29 = .ok (.aload_n 0, 1) := by decide +kernel
theorem d_M_endRow_30 : decode prog_6_method_33_code 30 = .ok (.aload_n 0, 1) := by decide +kernel
theorem d_M_endRow_31 : decode prog_6_method_33_code 31 = .ok (.getfield 63, 3) := by decide +kernel
theorem d_M_endRow_34 : decode prog_6_method_33_code 34 = .ok (.iload_n 1, 1) := by decide +kernel
theorem d_M_endRow_35 : decode prog_6_method_33_code 35 = .ok (.iaload, 1) := by decide +kernel
theorem d_M_endRow_36 : decode prog_6_method_33_code 36 = .ok (.iload_n 2, 1) := by decide +kernel
theorem d_M_endRow_37 : decode prog_6_method_33_code 37 = .ok (.invokevirtual 168, 3) := by decide +kernel
theorem d_M_either_0 : decode prog_6_method_30_code 0 = .ok (.iload_n 1, 1) := by decide +kernel
theorem d_M_either_1 : decode prog_6_method_30_code 1 = .ok (.ifCond .ge 5, 3) := by decide +kernel
theorem d_M_either_6 : decode prog_6_method_30_code 6 = .ok (.aload_n 0, 1) := by decide +kernel
theorem d_M_either_7 : decode prog_6_method_30_code 7 = .ok (.iconst 0, 1) := by decide +kernel
theorem d_M_either_8 : decode prog_6_method_30_code 8 = .ok (.iconst 0, 1) := by decide +kernel
theorem d_M_either_9 : decode prog_6_method_30_code 9 = .ok (.iconst 0, 1) := by decide +kernel
theorem d_M_either_10 : decode prog_6_method_30_code 10 = .ok (.invokevirtual 148, 3) := by decide +kernel
theorem d_M_either_13 : decode prog_6_method_30_code 13 = .ok (.istore_n 3, 1) := by decide +kernel
theorem d_M_either_14 : decode prog_6_method_30_code 14 = .ok (.aload_n 0, 1) := by decide +kernel
theorem d_M_either_15 : decode prog_6_method_30_code 15 = .ok (.iconst 0, 1) := by decide +kernel
theorem d_M_either_16 : decode prog_6_method_30_code 16 = .ok (.iconst 0, 1) := by decide +kernel
theorem d_M_either_17 : decode prog_6_method_30_code 17 = .ok (.iconst 0, 1) := by decide +kernel
theorem d_M_either_18 : decode prog_6_method_30_code 18 = .ok (.invokevirtual 148, 3) := by decide +kernel
theorem d_M_either_21 : decode prog_6_method_30_code 21 = .ok (.istore 4, 2) := by decide +kernel
theorem d_M_either_23 : decode prog_6_method_30_code 23 = .ok (.aload_n 0, 1) := by decide +kernel
theorem d_M_either_24 : decode prog_6_method_30_code 24 = .ok (.iload_n 3, 1) := by decide +kernel
theorem d_M_either_25 : decode prog_6_method_30_code 25 = .ok (.aload_n 0, 1) := by decide +kernel
theorem d_M_either_26 : decode prog_6_method_30_code 26 = .ok (.getfield 57, 3) := by decide +kernel
theorem d_M_either_29 : decode prog_6_method_30_code 29 = .ok (.iload_n 1, 1) := by decide +kernel
theorem d_M_either_30 : decode prog_6_method_30_code 30 = .ok (.iaload, 1) := by decide +kernel
