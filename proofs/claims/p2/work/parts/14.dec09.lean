theorem d_D_exchange_10 : decode prog_1_method_25_code 10 = .ok (.iadd, 1) := by decide +kernel
theorem d_D_exchange_11 : decode prog_1_method_25_code 11 = .ok (.newarray .char, 2) := by decide +kernel
theorem d_D_exchange_13 : decode prog_1_method_25_code 13 = .ok (.astore 4, 2) := by decide +kernel
theorem d_D_exchange_15 : decode prog_1_method_25_code 15 = .ok (.aload_n 0, 1) := by decide +kernel
theorem d_D_exchange_16 : decode prog_1_method_25_code 16 = .ok (.getfield 19, 3) := by decide +kernel
theorem d_D_exchange_19 : decode prog_1_method_25_code 19 = .ok (.iconst 0, 1) := by decide +kernel
theorem d_D_exchange_20 : decode prog_1_method_25_code 20 = .ok (.aload 4, 2) := by decide +kernel
theorem d_D_exchange_22 : decode prog_1_method_25_code 22 = .ok (.iconst 0, 1) := by decide +kernel
theorem d_D_exchange_23 : decode prog_1_method_25_code 23 = .ok (.iload_n 1, 1) := by decide +kernel
theorem d_D_exchange_24 : decode prog_1_method_25_code 24 = .ok (.invokestatic 159, 3) := by decide +kernel
theorem d_D_exchange_27 : decode prog_1_method_25_code 27 = .ok (.aload_n 0, 1) := by decide +kernel
theorem d_D_exchange_28 : decode prog_1_method_25_code 28 = .ok (.getfield 9, 3) := by decide +kernel
theorem d_D_exchange_31 : decode prog_1_method_25_code 31 = .ok (.iconst 0, 1) := by decide +kernel
theorem d_D_exchange_32 : decode prog_1_method_25_code 32 = .ok (.aload 4, 2) := by decide +kernel
theorem d_D_exchange_34 : decode prog_1_method_25_code 34 = .ok (.iload_n 1, 1) := by decide +kernel
theorem d_D_exchange_35 : decode prog_1_method_25_code 35 = .ok (.iload_n 3, 1) := by decide +kernel
theorem d_D_exchange_36 : decode prog_1_method_25_code 36 = .ok (.invokestatic 159, 3) := by decide +kernel
theorem d_D_exchange_39 : decode prog_1_method_25_code 39 = .ok (.aload_n 0, 1) := by decide +kernel
theorem d_D_exchange_40 : decode prog_1_method_25_code 40 = .ok (.getfield 19, 3) := by decide +kernel
theorem d_D_exchange_43 : decode prog_1_method_25_code 43 = .ok (.iload_n 2, 1) := by decide +kernel
theorem d_D_exchange_44 : decode prog_1_method_25_code 44 = .ok (.aload 4, 2) := by decide +kernel
theorem d_D_exchange_46 : decode prog_1_method_25_code 46 = .ok (.iload_n 1, 1) := by decide +kernel
theorem d_D_exchange_47 : decode prog_1_method_25_code 47 = .ok (.iload_n 3, 1) := by decide +kernel
theorem d_D_exchange_48 : decode prog_1_method_25_code 48 = .ok (.iadd, 1) := by decide +kernel
theorem d_D_exchange_49 : decode prog_1_method_25_code 49 = .ok (.aload_n 0, 1) := by decide +kernel
theorem d_D_exchange_50 : decode prog_1_method_25_code 50 = .ok (.getfield 19, 3) := by decide +kernel
theorem d_D_exchange_53 : decode prog_1_method_25_code 53 = .ok (.arraylength, 1) := by decide +kernel
theorem d_D_exchange_54 : decode prog_1_method_25_code 54 = .ok (.iload_n 2, 1) := by decide +kernel
theorem d_D_exchange_55 : decode prog_1_method_25_code 55 = .ok (.isub, 1) := by decide +kernel
theorem d_D_exchange_56 : decode prog_1_method_25_code 56 = .ok (.invokestatic 159, 3) := by decide +kernel
theorem d_D_exchange_59 : decode prog_1_method_25_code 59 = .ok (.aload_n 0, 1) := by decide +kernel
theorem d_D_exchange_60 : decode prog_1_method_25_code 60 = .ok (.aload 4, 2) := by decide +kernel
theorem d_D_exchange_62 : decode prog_1_method_25_code 62 = .ok (.iload_n 1, 1) := by decide +kernel
theorem d_D_exchange_63 : decode prog_1_method_25_code 63 = .ok (.iload_n 3, 1) := by decide +kernel
theorem d_D_exchange_64 : decode prog_1_method_25_code 64 = .ok (.iadd, 1) := by decide +kernel
theorem d_D_exchange_65 : decode prog_1_method_25_code 65 = .ok (.invokevirtual 165, 3) := by decide +kernel
theorem d_D_exchange_68 : decode prog_1_method_25_code 68 = .ok (.return_, 1) := by decide +kernel
theorem d_D_insert_0 : decode prog_1_method_4_code 0 = .ok (.aload_n 0, 1) := by decide +kernel
theorem d_D_insert_1 : decode prog_1_method_4_code 1 = .ok (.invokevirtual 59, 3) := by decide +kernel
theorem d_D_insert_4 : decode prog_1_method_4_code 4 = .ok (.istore_n 1, 1) := by decide +kernel
theorem d_D_insert_5 : decode prog_1_method_4_code 5 = .ok (.aload_n 0, 1) := by decide +kernel
theorem d_D_insert_6 : decode prog_1_method_4_code 6 = .ok (.invokevirtual 63, 3) := by decide +kernel
theorem d_D_insert_9 : decode prog_1_method_4_code 9 = .ok (.istore_n 2, 1) := by decide +kernel
theorem d_D_insert_10 : decode prog_1_method_4_code 10 = .ok (.aload_n 0, 1) := by decide +kernel
theorem d_D_insert_11 : decode prog_1_method_4_code 11 = .ok (.getfield 25, 3) := by decide +kernel
theorem d_D_insert_14 : decode prog_1_method_4_code 14 = .ok (.bipush 40, 2) := by decide +kernel
theorem d_D_insert_16 : decode prog_1_method_4_code 16 = .ok (.if_icmp .eq 23, 3) := by decide +kernel
theorem d_D_insert_19 : decode prog_1_method_4_code 19 = .ok (.aload_n 0, 1) := by decide +kernel
theorem d_D_insert_20 : decode prog_1_method_4_code 20 = .ok (.getfield 19, 3) := by decide +kernel
theorem d_D_insert_23 : decode prog_1_method_4_code 23 = .ok (.arraylength, 1) := by decide +kernel
theorem d_D_insert_24 : decode prog_1_method_4_code 24 = .ok (.iload_n 2, 1) := by decide +kernel
theorem d_D_insert_25 : decode prog_1_method_4_code 25 = .ok (.iload_n 1, 1) := by decide +kernel
theorem d_D_insert_26 : decode prog_1_method_4_code 26 = .ok (.isub, 1) := by decide +kernel
theorem d_D_insert_27 : decode prog_1_method_4_code 27 = .ok (.isub, 1) := by decide +kernel
theorem d_D_insert_28 : decode prog_1_method_4_code 28 = .ok (.aload_n 0, 1) := by decide +kernel
theorem d_D_insert_29 : decode prog_1_method_4_code 29 = .ok (.getfield 56, 3) := by decide +kernel
theorem d_D_insert_32 : decode prog_1_method_4_code 32 = .ok (.iadd, 1) := by decide +kernel
theorem d_D_insert_33 : decode prog_1_method_4_code 33 = .ok (.sipush 160, 3) := by decide +kernel
theorem d_D_insert_36 : decode prog_1_method_4_code 36 = .ok (.if_icmp .le 11, 3) := by decide +kernel
theorem d_D_insert_39 : decode prog_1_method_4_code 39 = .ok (.new 66, 3) := by decide +kernel
theorem d_D_insert_42 : decode prog_1_method_4_code 42 = .ok (.dup, 1) := by decide +kernel
theorem d_D_insert_43 : decode prog_1_method_4_code 43 = .ok (.invokespecial 68, 3) := by decide +kernel
theorem d_D_insert_46 : decode prog_1_method_4_code 46 = .ok (.athrow, 1) := by decide +kernel
theorem d_D_insert_47 : decode prog_1_method_4_code 47 = .ok (.iload_n 1, 1) := by decide +kernel
theorem d_D_insert_48 : decode prog_1_method_4_code 48 = .ok (.iload_n 2, 1) := by decide +kernel
theorem d_D_insert_49 : decode prog_1_method_4_code 49 = .ok (.if_icmp .lt 10, 3) := by decide +kernel
theorem d_D_insert_52 : decode prog_1_method_4_code 52 = .ok (.aload_n 0, 1) := by decide +kernel
theorem d_D_insert_53 : decode prog_1_method_4_code 53 = .ok (.getfield 56, 3) := by decide +kernel
theorem d_D_insert_56 : decode prog_1_method_4_code 56 = .ok (.ifCond .le 18, 3) := by decide +kernel
theorem d_D_insert_59 : decode prog_1_method_4_code 59 = .ok (.aload_n 0, 1) := by decide +kernel
theorem d_D_insert_60 : decode prog_1_method_4_code 60 = .ok (.iload_n 1, 1) := by decide +kernel
theorem d_D_insert_61 : decode prog_1_method_4_code 61 = .ok (.iload_n 2, 1) := by decide +kernel
theorem d_D_insert_62 : decode prog_1_method_4_code 62 = .ok (.aload_n 0, 1) := by decide +kernel
theorem d_D_insert_63 : decode prog_1_method_4_code 63 = .ok (.getfield 56, 3) := by decide +kernel
theorem d_D_insert_66 : decode prog_1_method_4_code 66 = .ok (.invokevirtual 69, 3) := by decide +kernel
theorem d_D_insert_69 : decode prog_1_method_4_code 69 = .ok (.aload_n 0, 1) := by decide +kernel
theorem d_D_insert_70 : decode prog_1_method_4_code 70 = .ok (.iconst 0, 1) := by decide +kernel
theorem d_D_insert_71 : decode prog_1_method_4_code 71 = .ok (.putfield 56, 3) := by decide +kernel
theorem d_D_insert_74 : decode prog_1_method_4_code 74 = .ok (.aload_n 0, 1) := by decide +kernel
theorem d_D_insert_75 : decode prog_1_method_4_code 75 = .ok (.getfield 73, 3) := by decide +kernel
theorem d_D_insert_78 : decode prog_1_method_4_code 78 = .ok (.ireturn, 1) := by decide +kernel
theorem d_D_makeState_0 : decode prog_1_method_24_code 0 = .ok (.aload_n 0, 1) := by decide +kernel
theorem d_D_makeState_1 : decode prog_1_method_24_code 1 = .ok (.getfield 25, 3) := by decide +kernel
theorem d_D_makeState_4 : decode prog_1_method_24_code 4 = .ok (.istore_n 3, 1) := by decide +kernel
theorem d_D_makeState_5 : decode prog_1_method_24_code 5 = .ok (.aload_n 0, 1) := by decide +kernel
theorem d_D_makeState_6 : decode prog_1_method_24_code 6 = .ok (.getfield 15, 3) := by decide +kernel
theorem d_D_makeState_9 : decode prog_1_method_24_code 9 = .ok (.iload_n 3, 1) := by decide +kernel
theorem d_D_makeState_10 : decode prog_1_method_24_code 10 = .ok (.new 13, 3) := by decide +kernel
theorem d_D_makeState_13 : decode prog_1_method_24_code 13 = .ok (.dup, 1) := by decide +kernel
theorem d_D_makeState_14 : decode prog_1_method_24_code 14 = .ok (.aload_n 1, 1) := by decide +kernel
theorem d_D_makeState_15 : decode prog_1_method_24_code 15 = .ok (.iload_n 2, 1) := by decide +kernel
theorem d_D_makeState_16 : decode prog_1_method_24_code 16 = .ok (.aload_n 0, 1) := by decide +kernel
theorem d_D_makeState_17 : decode prog_1_method_24_code 17 = .ok (.getfield 73, 3) := by decide +kernel
theorem d_D_makeState_20 : decode prog_1_method_24_code 20 = .ok (.invokespecial 22, 3) := by decide +kernel
theorem d_D_makeState_23 : decode prog_1_method_24_code 23 = .ok (.aastore, 1) := by decide +kernel
theorem d_D_makeState_24 : decode prog_1_method_24_code 24 = .ok (.aload_n 0, 1) := by decide +kernel
theorem d_D_makeState_25 : decode prog_1_method_24_code 25 = .ok (.dup, 1) := by decide +kernel
theorem d_D_makeState_26 : decode prog_1_method_24_code 26 = .ok (.getfield 25, 3) := by decide +kernel
theorem d_D_makeState_29 : decode prog_1_method_24_code 29 = .ok (.iconst 1, 1) := by decide +kernel
theorem d_D_makeState_30 : decode prog_1_method_24_code 30 = .ok (.iadd, 1) := by decide +kernel
theorem d_D_makeState_31 : decode prog_1_method_24_code 31 = .ok (.putfield 25, 3) := by decide +kernel
theorem d_D_makeState_34 : decode prog_1_method_24_code 34 = .ok (.aload_n 0, 1) := by decide +kernel
theorem d_D_makeState_35 : decode prog_1_method_24_code 35 = .ok (.iload_n 3, 1) := by decide +kernel
theorem d_D_makeState_36 : decode prog_1_method_24_code 36 = .ok (.invokevirtual 134, 3) := by decide +kernel
theorem d_D_makeState_39 : decode prog_1_method_24_code 39 = .ok (.return_, 1) := by decide +kernel
theorem d_D_putSlipIntoMatches_0 : decode prog_1_method_28_code 0 = .ok (.iload_n 2, 1) := by decide +kernel
theorem d_D_putSlipIntoMatches_1 : decode prog_1_method_28_code 1 = .ok (.newarray .char, 2) := by decide +kernel
theorem d_D_putSlipIntoMatches_3 : decode prog_1_method_28_code 3 = .ok (.astore_n 3, 1) := by decide +kernel
theorem d_D_putSlipIntoMatches_4 : decode prog_1_method_28_code 4 = .ok (.iconst 0, 1) := by decide +kernel
theorem d_D_putSlipIntoMatches_5 : decode prog_1_method_28_code 5 = .ok (.istore 4, 2) := by decide +kernel
theorem d_D_putSlipIntoMatches_7 : decode prog_1_method_28_code 7 = .ok (.iconst 0, 1) := by decide +kernel
theorem d_D_putSlipIntoMatches_8 : decode prog_1_method_28_code 8 = .ok (.istore 5, 2) := by decide +kernel
theorem d_D_putSlipIntoMatches_10 : decode prog_1_method_28_code 10 = .ok (.iconst 0, 1) := by decide +kernel
theorem d_D_putSlipIntoMatches_11 : decode prog_1_method_28_code 11 = .ok (.istore 6, 2) := by decide +kernel
theorem d_D_putSlipIntoMatches_13 : decode prog_1_method_28_code 13 = .ok (.iload 6, 2) := by decide +kernel
theorem d_D_putSlipIntoMatches_15 : decode prog_1_method_28_code 15 = .ok (.iload_n 1, 1) := by decide +kernel
theorem d_D_putSlipIntoMatches_16 : decode prog_1_method_28_code 16 = .ok (.if_icmp .ge 74, 3) := by decide +kernel
theorem d_D_putSlipIntoMatches_19 : decode prog_1_method_28_code 19 = .ok (.aload_n 0, 1) := by decide +kernel
theorem d_D_putSlipIntoMatches_20 : decode prog_1_method_28_code 20 = .ok (.getfield 49, 3) := by decide +kernel
theorem d_D_putSlipIntoMatches_23 : decode prog_1_method_28_code 23 = .ok (.iload 6, 2) := by decide +kernel
theorem d_D_putSlipIntoMatches_25 : decode prog_1_method_28_code 25 = .ok (.iaload, 1) := by decide +kernel
theorem d_D_putSlipIntoMatches_26 : decode prog_1_method_28_code 26 = .ok (.iload 4, 2) := by decide +kernel
theorem d_D_putSlipIntoMatches_28 : decode prog_1_method_28_code 28 = .ok (.isub, 1) := by decide +kernel
theorem d_D_putSlipIntoMatches_29 : decode prog_1_method_28_code 29 = .ok (.istore 7, 2) := by decide +kernel
theorem d_D_putSlipIntoMatches_31 : decode prog_1_method_28_code 31 = .ok (.aload_n 0, 1) := by decide +kernel
theorem d_D_putSlipIntoMatches_32 : decode prog_1_method_28_code 32 = .ok (.getfield 19, 3) := by decide +kernel
theorem d_D_putSlipIntoMatches_35 : decode prog_1_method_28_code 35 = .ok (.iload 4, 2) := by decide +kernel
theorem d_D_putSlipIntoMatches_37 : decode prog_1_method_28_code 37 = .ok (.aload_n 3, 1) := by decide +kernel
theorem d_D_putSlipIntoMatches_38 : decode prog_1_method_28_code 38 = .ok (.iload 5, 2) := by decide +kernel
theorem d_D_putSlipIntoMatches_40 : decode prog_1_method_28_code 40 = .ok (.iload 7, 2) := by decide +kernel
theorem d_D_putSlipIntoMatches_42 : decode prog_1_method_28_code 42 = .ok (.invokestatic 159, 3) := by decide +kernel
theorem d_D_putSlipIntoMatches_45 : decode prog_1_method_28_code 45 = .ok (.aload_n 0, 1) := by decide +kernel
theorem d_D_putSlipIntoMatches_46 : decode prog_1_method_28_code 46 = .ok (.getfield 9, 3) := by decide +kernel
theorem d_D_putSlipIntoMatches_49 : decode prog_1_method_28_code 49 = .ok (.iconst 0, 1) := by decide +kernel
theorem d_D_putSlipIntoMatches_50 : decode prog_1_method_28_code 50 = .ok (.aload_n 3, 1) := by decide +kernel
theorem d_D_putSlipIntoMatches_51 : decode prog_1_method_28_code 51 = .ok (.iload 5, 2) := by decide +kernel
theorem d_D_putSlipIntoMatches_53 : decode prog_1_method_28_code 53 = .ok (.iload 7, 2) := by decide +kernel
theorem d_D_putSlipIntoMatches_55 : decode prog_1_method_28_code 55 = .ok (.iadd, 1) := by decide +kernel
theorem d_D_putSlipIntoMatches_56 : decode prog_1_method_28_code 56 = .ok (.aload_n 0, 1) := by decide +kernel
theorem d_D_putSlipIntoMatches_57 : decode prog_1_method_28_code 57 = .ok (.getfield 56, 3) := by decide +kernel
theorem d_D_putSlipIntoMatches_60 : decode prog_1_method_28_code 60 = .ok (.invokestatic 159, 3) := by decide +kernel
theorem d_D_putSlipIntoMatches_63 : decode prog_1_method_28_code 63 = .ok (.iload 5, 2) := by decide +kernel
theorem d_D_putSlipIntoMatches_65 : decode prog_1_method_28_code 65 = .ok (.iload 7, 2) := by decide +kernel
theorem d_D_putSlipIntoMatches_67 : decode prog_1_method_28_code 67 = .ok (.aload_n 0, 1) := by decide +kernel
theorem d_D_putSlipIntoMatches_68 : decode prog_1_method_28_code 68 = .ok (.getfield 56, 3) := by decide +kernel
theorem d_D_putSlipIntoMatches_71 : decode prog_1_method_28_code 71 = .ok (.iadd, 1) := by decide +kernel
theorem d_D_putSlipIntoMatches_72 : decode prog_1_method_28_code 72 = .ok (.iadd, 1) := by decide +kernel
theorem d_D_putSlipIntoMatches_73 : decode prog_1_method_28_code 73 = .ok (.istore 5, 2) := by decide +kernel
theorem d_D_putSlipIntoMatches_75 : decode prog_1_method_28_code 75 = .ok (.aload_n 0, 1) := by decide +kernel
theorem d_D_putSlipIntoMatches_76 : decode prog_1_method_28_code 76 = .ok (.getfield 53, 3) := by decide +kernel
theorem d_D_putSlipIntoMatches_79 : decode prog_1_method_28_code 79 = .ok (.iload 6, 2) := by decide +kernel
theorem d_D_putSlipIntoMatches_81 : decode prog_1_method_28_code 81 = .ok (.iaload, 1) := by decide +kernel
theorem d_D_putSlipIntoMatches_82 : decode prog_1_method_28_code 82 = .ok (.istore 4, 2) := by decide +kernel
theorem d_D_putSlipIntoMatches_84 : decode prog_1_method_28_code 84 = .ok (.iinc 6 1, 3) := by decide +kernel
theorem d_D_putSlipIntoMatches_87 : decode prog_1_method_28_code 87 = .ok (.goto (-74), 3) := by decide +kernel
theorem d_D_putSlipIntoMatches_90 : decode prog_1_method_28_code 90 = .ok (.aload_n 0, 1) := by decide +kernel
theorem d_D_putSlipIntoMatches_91 : decode prog_1_method_28_code 91 = .ok (.getfield 19, 3) := by decide +kernel
theorem d_D_putSlipIntoMatches_94 : decode prog_1_method_28_code 94 = .ok (.iload 4, 2) := by decide +kernel
theorem d_D_putSlipIntoMatches_96 : decode prog_1_method_28_code 96 = .ok (.aload_n 3, 1) := by decide +kernel
theorem d_D_putSlipIntoMatches_97 : decode prog_1_method_28_code 97 = .ok (.iload 5, 2) := by decide +kernel
theorem d_D_putSlipIntoMatches_99 : decode prog_1_method_28_code 99 = .ok (.aload_n 0, 1) := by decide +kernel
theorem d_D_putSlipIntoMatches_100 : decode prog_1_method_28_code 100 = .ok (.getfield 19, 3) := by decide +kernel
theorem d_D_putSlipIntoMatches_103 : decode prog_1_method_28_code 103 = .ok (.arraylength, 1) := by decide +kernel
theorem d_D_putSlipIntoMatches_104 : decode prog_1_method_28_code 104 = .ok (.iload 4, 2) := by decide +kernel
theorem d_D_putSlipIntoMatches_106 : decode prog_1_method_28_code 106 = .ok (.isub, 1) := by decide +kernel
theorem d_D_putSlipIntoMatches_107 : decode prog_1_method_28_code 107 = .ok (.invokestatic 159, 3) := by decide +kernel
theorem d_D_putSlipIntoMatches_110 : decode prog_1_method_28_code 110 = .ok (.aload_n 0, 1) := by decide +kernel
theorem d_D_putSlipIntoMatches_111 : decode prog_1_method_28_code 111 = .ok (.aload_n 3, 1) := by decide +kernel
theorem d_D_putSlipIntoMatches_112 : decode prog_1_method_28_code 112 = .ok (.iload 5, 2) := by decide +kernel
theorem d_D_putSlipIntoMatches_114 : decode prog_1_method_28_code 114 = .ok (.invokevirtual 165, 3) := by decide +kernel
theorem d_D_putSlipIntoMatches_117 : decode prog_1_method_28_code 117 = .ok (.return_, 1) := by decide +kernel
theorem d_D_replace_0 : decode prog_1_method_10_code 0 = .ok (.aload_n 0, 1) := by decide +kernel
theorem d_D_replace_1 : decode prog_1_method_10_code 1 = .ok (.getfield 103, 3) := by decide +kernel
theorem d_D_replace_4 : decode prog_1_method_10_code 4 = .ok (.ifCond .ne 11, 3) := by decide +kernel
theorem d_D_replace_7 : decode prog_1_method_10_code 7 = .ok (.new 66, 3) := by decide +kernel
theorem d_D_replace_10 : decode prog_1_method_10_code 10 = .ok (.dup, 1) := by decide +kernel
theorem d_D_replace_11 : decode prog_1_method_10_code 11 = .ok (.invokespecial 68, 3) := by decide +kernel
theorem d_D_replace_14 : decode prog_1_method_10_code 14 = .ok (.athrow, 1) := by decide +kernel
theorem d_D_replace_15 : decode prog_1_method_10_code 15 = .ok (.aload_n 0, 1) := by decide +kernel
theorem d_D_replace_16 : decode prog_1_method_10_code 16 = .ok (.invokevirtual 120, 3) := by decide +kernel
theorem d_D_replace_19 : decode prog_1_method_10_code 19 = .ok (.istore_n 1, 1) := by decide +kernel
theorem d_D_replace_20 : decode prog_1_method_10_code 20 = .ok (.iload_n 1, 1) := by decide +kernel
theorem d_D_replace_21 : decode prog_1_method_10_code 21 = .ok (.ifCond .le 39, 3) := by decide +kernel
theorem d_D_replace_24 : decode prog_1_method_10_code 24 = .ok (.aload_n 0, 1) := by decide +kernel
theorem d_D_replace_25 : decode prog_1_method_10_code 25 = .ok (.iload_n 1, 1) := by decide +kernel
theorem d_D_replace_26 : decode prog_1_method_10_code 26 = .ok (.invokevirtual 123, 3) := by decide +kernel
theorem d_D_replace_29 : decode prog_1_method_10_code 29 = .ok (.istore_n 2, 1) := by decide +kernel
theorem d_D_replace_30 : decode prog_1_method_10_code 30 = .ok (.iload_n 2, 1) := by decide +kernel
theorem d_D_replace_31 : decode prog_1_method_10_code 31 = .ok (.sipush 160, 3) := by decide +kernel
theorem d_D_replace_34 : decode prog_1_method_10_code 34 = .ok (.if_icmp .gt 12, 3) := by decide +kernel
theorem d_D_replace_37 : decode prog_1_method_10_code 37 = .ok (.aload_n 0, 1) := by decide +kernel
theorem d_D_replace_38 : decode prog_1_method_10_code 38 = .ok (.getfield 25, 3) := by decide +kernel
theorem d_D_replace_41 : decode prog_1_method_10_code 41 = .ok (.bipush 40, 2) := by decide +kernel
theorem d_D_replace_43 : decode prog_1_method_10_code 43 = .ok (.if_icmp .ne 11, 3) := by decide +kernel
theorem d_D_replace_46 : decode prog_1_method_10_code 46 = .ok (.new 66, 3) := by decide +kernel
theorem d_D_replace_49 : decode prog_1_method_10_code 49 = .ok (.dup, 1) := by decide +kernel
theorem d_D_replace_50 : decode prog_1_method_10_code 50 = .ok (.invokespecial 68, 3) := by decide +kernel
theorem d_D_replace_53 : decode prog_1_method_10_code 53 = .ok (.athrow, 1) := by decide +kernel
theorem d_D_replace_54 : decode prog_1_method_10_code 54 = .ok (.aload_n 0, 1) := by decide +kernel
theorem d_D_replace_55 : decode prog_1_method_10_code 55 = .ok (.iload_n 1, 1) := by decide +kernel
theorem d_D_replace_56 : decode prog_1_method_10_code 56 = .ok (.iload_n 2, 1) := by decide +kernel
theorem d_D_replace_57 : decode prog_1_method_10_code 57 = .ok (.invokevirtual 127, 3) := by decide +kernel
theorem d_D_replace_60 : decode prog_1_method_10_code 60 = .ok (.aload_n 0, 1) := by decide +kernel
theorem d_D_replace_61 : decode prog_1_method_10_code 61 = .ok (.iconst 0, 1) := by decide +kernel
theorem d_D_replace_62 : decode prog_1_method_10_code 62 = .ok (.putfield 56, 3) := by decide +kernel
theorem d_D_replace_65 : decode prog_1_method_10_code 65 = .ok (.iload_n 1, 1) := by decide +kernel
theorem d_D_replace_66 : decode prog_1_method_10_code 66 = .ok (.ireturn, 1) := by decide +kernel
theorem d_L_at_0 : decode method_12_code 0 = .ok (.aload_n 2, 1) := by decide +kernel
theorem d_L_at_1 : decode method_12_code 1 = .ok (.iconst 0, 1) := by decide +kernel
theorem d_L_at_2 : decode method_12_code 2 = .ok (.aload_n 0, 1) := by decide +kernel
theorem d_L_at_3 : decode method_12_code 3 = .ok (.iload_n 1, 1) := by decide +kernel
theorem d_L_at_4 : decode method_12_code 4 = .ok (.invokevirtual 48, 3) := by decide +kernel
theorem d_L_at_7 : decode method_12_code 7 = .ok (.i2l, 1) := by decide +kernel
theorem d_L_at_8 : decode method_12_code 8 = .ok (.lastore, 1) := by decide +kernel
theorem d_L_at_9 : decode method_12_code 9 = .ok (.goto 6, 3) := by decide +kernel
theorem d_L_at_12 : decode method_12_code 12 = .ok (.astore_n 3, 1) := by decide +kernel
theorem d_L_at_13 : decode method_12_code 13 = .ok (.iconst 1, 1) := by decide +kernel
theorem d_L_at_14 : decode method_12_code 14 = .ok (.ireturn, 1) := by decide +kernel
theorem d_L_at_15 : decode method_12_code 15 = .ok (.iconst 0, 1) := by decide +kernel
theorem d_L_at_16 : decode method_12_code 16 = .ok (.ireturn, 1) := by decide +kernel
theorem d_L_compile_0 : decode method_6_code 0 = .ok (.aload_n 0, 1) := by decide +kernel
theorem d_L_compile_1 : decode method_6_code 1 = .ok (.invokevirtual 25, 3) := by decide +kernel
theorem d_L_compile_4 : decode method_6_code 4 = .ok (.goto 6, 3) := by decide +kernel
theorem d_L_compile_7 : decode method_6_code 7 = .ok (.astore_n 1, 1) := by decide +kernel
theorem d_L_compile_8 : decode method_6_code 8 = .ok (.iconst 1, 1) := by decide +kernel
theorem d_L_compile_9 : decode method_6_code 9 = .ok (.ireturn, 1) := by decide +kernel
theorem d_L_compile_10 : decode method_6_code 10 = .ok (.iconst 0, 1) := by decide +kernel
theorem d_L_compile_11 : decode method_6_code 11 = .ok (.ireturn, 1) := by decide +kernel
theorem d_L_erase_0 : decode method_4_code 0 = .ok (.aload_n 2, 1) := by decide +kernel
theorem d_L_erase_1 : decode method_4_code 1 = .ok (.iconst 0, 1) := by decide +kernel
theorem d_L_erase_2 : decode method_4_code 2 = .ok (.aload_n 0, 1) := by decide +kernel
theorem d_L_erase_3 : decode method_4_code 3 = .ok (.iload_n 1, 1) := by decide +kernel
theorem d_L_erase_4 : decode method_4_code 4 = .ok (.invokevirtual 15, 3) := by decide +kernel
theorem d_L_erase_7 : decode method_4_code 7 = .ok (.i2l, 1) := by decide +kernel
theorem d_L_erase_8 : decode method_4_code 8 = .ok (.lastore, 1) := by decide +kernel
theorem d_L_erase_9 : decode method_4_code 9 = .ok (.goto 6, 3) := by decide +kernel
theorem d_L_erase_12 : decode method_4_code 12 = .ok (.astore_n 3, 1) := by decide +kernel
theorem d_L_erase_13 : decode method_4_code 13 = .ok (.iconst 1, 1) := by decide +kernel
theorem d_L_erase_14 : decode method_4_code 14 = .ok (.ireturn, 1) := by decide +kernel
theorem d_L_erase_15 : decode method_4_code 15 = .ok (.iconst 0, 1) := by decide +kernel
theorem d_L_erase_16 : decode method_4_code 16 = .ok (.ireturn, 1) := by decide +kernel
theorem d_L_figure_0 : decode method_14_code 0 = .ok (.aload_n 2, 1) := by decide +kernel
theorem d_L_figure_1 : decode method_14_code 1 = .ok (.iconst 0, 1) := by decide +kernel
theorem d_L_figure_2 : decode method_14_code 2 = .ok (.aload_n 0, 1) := by decide +kernel
theorem d_L_figure_3 : decode method_14_code 3 = .ok (.iload_n 1, 1) := by decide +kernel
theorem d_L_figure_4 : decode method_14_code 4 = .ok (.invokevirtual 56, 3) := by decide +kernel
theorem d_L_figure_7 : decode method_14_code 7 = .ok (.i2l, 1) := by decide +kernel
theorem d_L_figure_8 : decode method_14_code 8 = .ok (.lastore, 1) := by decide +kernel
theorem d_L_figure_9 : decode method_14_code 9 = .ok (.goto 6, 3) := by decide +kernel
theorem d_L_figure_12 : decode method_14_code 12 = .ok (.astore_n 3, 1) := by decide +kernel
theorem d_L_figure_13 : decode method_14_code 13 = .ok (.iconst 1, 1) := by decide +kernel
theorem d_L_figure_14 : decode method_14_code 14 = .ok (.ireturn, 1) := by decide +kernel
theorem d_L_figure_15 : decode method_14_code 15 = .ok (.iconst 0, 1) := by decide +kernel
theorem d_L_figure_16 : decode method_14_code 16 = .ok (.ireturn, 1) := by decide +kernel
theorem d_L_find_0 : decode method_7_code 0 = .ok (.aload_n 2, 1) := by decide +kernel
theorem d_L_find_1 : decode method_7_code 1 = .ok (.iconst 0, 1) := by decide +kernel
theorem d_L_find_2 : decode method_7_code 2 = .ok (.aload_n 0, 1) := by decide +kernel
theorem d_L_find_3 : decode method_7_code 3 = .ok (.iload_n 1, 1) := by decide +kernel
theorem d_L_find_4 : decode method_7_code 4 = .ok (.invokevirtual 30, 3) := by decide +kernel
theorem d_L_find_7 : decode method_7_code 7 = .ok (.i2l, 1) := by decide +kernel
theorem d_L_find_8 : decode method_7_code 8 = .ok (.lastore, 1) := by decide +kernel
theorem d_L_find_9 : decode method_7_code 9 = .ok (.goto 12, 3) := by decide +kernel
theorem d_L_find_12 : decode method_7_code 12 = .ok (.astore_n 3, 1) := by decide +kernel
theorem d_L_find_13 : decode method_7_code 13 = .ok (.iconst 1, 1) := by decide +kernel
theorem d_L_find_14 : decode method_7_code 14 = .ok (.ireturn, 1) := by decide +kernel
theorem d_L_find_15 : decode method_7_code 15 = .ok (.astore_n 3, 1) := by decide +kernel
theorem d_L_find_16 : decode method_7_code 16 = .ok (.iconst 2, 1) := by decide +kernel
theorem d_L_find_17 : decode method_7_code 17 = .ok (.ireturn, 1) := by decide +kernel
theorem d_L_find_18 : decode method_7_code 18 = .ok (.astore_n 3, 1) := by decide +kernel
theorem d_L_find_19 : decode method_7_code 19 = .ok (.iconst 3, 1) := by decide +kernel
theorem d_L_find_20 : decode method_7_code 20 = .ok (.ireturn, 1) := by decide +kernel
theorem d_L_find_21 : decode method_7_code 21 = .ok (.iconst 0, 1) := by decide +kernel
theorem d_L_find_22 : decode method_7_code 22 = .ok (.ireturn, 1) := by decide +kernel
theorem d_L_go_0 : decode method_5_code 0 = .ok (.aload_n 0, 1) := by decide +kernel
theorem d_L_go_1 : decode method_5_code 1 = .ok (.iload_n 1, 1) := by decide +kernel
theorem d_L_go_2 : decode method_5_code 2 = .ok (.iload_n 2, 1) := by decide +kernel
theorem d_L_go_3 : decode method_5_code 3 = .ok (.invokevirtual 19, 3) := by decide +kernel
theorem d_L_go_6 : decode method_5_code 6 = .ok (.goto 6, 3) := by decide +kernel
theorem d_L_go_9 : decode method_5_code 9 = .ok (.astore_n 3, 1) := by decide +kernel
theorem d_L_go_10 : decode method_5_code 10 = .ok (.iconst 1, 1) := by decide +kernel
theorem d_L_go_11 : decode method_5_code 11 = .ok (.ireturn, 1) := by decide +kernel
theorem d_L_go_12 : decode method_5_code 12 = .ok (.iconst 0, 1) := by decide +kernel
theorem d_L_go_13 : decode method_5_code 13 = .ok (.ireturn, 1) := by decide +kernel
theorem d_L_insert_0 : decode method_3_code 0 = .ok (.aload_n 1, 1) := by decide +kernel
theorem d_L_insert_1 : decode method_3_code 1 = .ok (.iconst 0, 1) := by decide +kernel
theorem d_L_insert_2 : decode method_3_code 2 = .ok (.aload_n 0, 1) := by decide +kernel
theorem d_L_insert_3 : decode method_3_code 3 = .ok (.invokevirtual 7, 3) := by decide +kernel
theorem d_L_insert_6 : decode method_3_code 6 = .ok (.i2l, 1) := by decide +kernel
theorem d_L_insert_7 : decode method_3_code 7 = .ok (.lastore, 1) := by decide +kernel
theorem d_L_insert_8 : decode method_3_code 8 = .ok (.goto 6, 3) := by decide +kernel
theorem d_L_insert_11 : decode method_3_code 11 = .ok (.astore_n 2, 1) := by decide +kernel
theorem d_L_insert_12 : decode method_3_code 12 = .ok (.iconst 1, 1) := by decide +kernel
theorem d_L_insert_13 : decode method_3_code 13 = .ok (.ireturn, 1) := by decide +kernel
theorem d_L_insert_14 : decode method_3_code 14 = .ok (.iconst 0, 1) := by decide +kernel
theorem d_L_insert_15 : decode method_3_code 15 = .ok (.ireturn, 1) := by decide +kernel
theorem d_L_jump_0 : decode method_11_code 0 = .ok (.aload_n 0, 1) := by decide +kernel
theorem d_L_jump_1 : decode method_11_code 1 = .ok (.iload_n 1, 1) := by decide +kernel
theorem d_L_jump_2 : decode method_11_code 2 = .ok (.invokevirtual 44, 3) := by decide +kernel
theorem d_L_jump_5 : decode method_11_code 5 = .ok (.goto 6, 3) := by decide +kernel
theorem d_L_jump_8 : decode method_11_code 8 = .ok (.astore_n 2, 1) := by decide +kernel
theorem d_L_jump_9 : decode method_11_code 9 = .ok (.iconst 1, 1) := by decide +kernel
theorem d_L_jump_10 : decode method_11_code 10 = .ok (.ireturn, 1) := by decide +kernel
theorem d_L_jump_11 : decode method_11_code 11 = .ok (.iconst 0, 1) := by decide +kernel
theorem d_L_jump_12 : decode method_11_code 12 = .ok (.ireturn, 1) := by decide +kernel
theorem d_L_line_0 : decode method_13_code 0 = .ok (.aload_n 3, 1) := by decide +kernel
theorem d_L_line_1 : decode method_13_code 1 = .ok (.iconst 0, 1) := by decide +kernel
theorem d_L_line_2 : decode method_13_code 2 = .ok (.aload_n 0, 1) := by decide +kernel
theorem d_L_line_3 : decode method_13_code 3 = .ok (.iload_n 1, 1) := by decide +kernel
theorem d_L_line_4 : decode method_13_code 4 = .ok (.iload_n 2, 1) := by decide +kernel
theorem d_L_line_5 : decode method_13_code 5 = .ok (.invokevirtual 52, 3) := by decide +kernel
theorem d_L_line_8 : decode method_13_code 8 = .ok (.i2l, 1) := by decide +kernel
theorem d_L_line_9 : decode method_13_code 9 = .ok (.lastore, 1) := by decide +kernel
theorem d_L_line_10 : decode method_13_code 10 = .ok (.goto 11, 3) := by decide +kernel
theorem d_L_line_13 : decode method_13_code 13 = .ok (.astore 4, 2) := by decide +kernel
theorem d_L_line_15 : decode method_13_code 15 = .ok (.iconst 1, 1) := by decide +kernel
theorem d_L_line_16 : decode method_13_code 16 = .ok (.ireturn, 1) := by decide +kernel
theorem d_L_line_17 : decode method_13_code 17 = .ok (.astore 4, 2) := by decide +kernel
theorem d_L_line_19 : decode method_13_code 19 = .ok (.iconst 2, 1) := by decide +kernel
theorem d_L_line_20 : decode method_13_code 20 = .ok (.ireturn, 1) := by decide +kernel
theorem d_L_line_21 : decode method_13_code 21 = .ok (.iconst 0, 1) := by decide +kernel
theorem d_L_line_22 : decode method_13_code 22 = .ok (.ireturn, 1) := by decide +kernel
theorem d_L_parent_0 : decode method_15_code 0 = .ok (.aload_n 2, 1) := by decide +kernel
theorem d_L_parent_1 : decode method_15_code 1 = .ok (.iconst 0, 1) := by decide +kernel
theorem d_L_parent_2 : decode method_15_code 2 = .ok (.aload_n 0, 1) := by decide +kernel
theorem d_L_parent_3 : decode method_15_code 3 = .ok (.iload_n 1, 1) := by decide +kernel
theorem d_L_parent_4 : decode method_15_code 4 = .ok (.invokevirtual 59, 3) := by decide +kernel
theorem d_L_parent_7 : decode method_15_code 7 = .ok (.i2l, 1) := by decide +kernel
theorem d_L_parent_8 : decode method_15_code 8 = .ok (.lastore, 1) := by decide +kernel
theorem d_L_parent_9 : decode method_15_code 9 = .ok (.goto 6, 3) := by decide +kernel
theorem d_L_parent_12 : decode method_15_code 12 = .ok (.astore_n 3, 1) := by decide +kernel
theorem d_L_parent_13 : decode method_15_code 13 = .ok (.iconst 1, 1) := by decide +kernel
theorem d_L_parent_14 : decode method_15_code 14 = .ok (.ireturn, 1) := by decide +kernel
theorem d_L_parent_15 : decode method_15_code 15 = .ok (.iconst 0, 1) := by decide +kernel
theorem d_L_parent_16 : decode method_15_code 16 = .ok (.ireturn, 1) := by decide +kernel
theorem d_L_redo_0 : decode method_10_code 0 = .ok (.aload_n 1, 1) := by decide +kernel
theorem d_L_redo_1 : decode method_10_code 1 = .ok (.iconst 0, 1) := by decide +kernel
theorem d_L_redo_2 : decode method_10_code 2 = .ok (.aload_n 0, 1) := by decide +kernel
theorem d_L_redo_3 : decode method_10_code 3 = .ok (.invokevirtual 41, 3) := by decide +kernel
theorem d_L_redo_6 : decode method_10_code 6 = .ok (.i2l, 1) := by decide +kernel
theorem d_L_redo_7 : decode method_10_code 7 = .ok (.lastore, 1) := by decide +kernel
theorem d_L_redo_8 : decode method_10_code 8 = .ok (.goto 6, 3) := by decide +kernel
theorem d_L_redo_11 : decode method_10_code 11 = .ok (.astore_n 2, 1) := by decide +kernel
theorem d_L_redo_12 : decode method_10_code 12 = .ok (.iconst 1, 1) := by decide +kernel
theorem d_L_redo_13 : decode method_10_code 13 = .ok (.ireturn, 1) := by decide +kernel
theorem d_L_redo_14 : decode method_10_code 14 = .ok (.iconst 0, 1) := by decide +kernel
theorem d_L_redo_15 : decode method_10_code 15 = .ok (.ireturn, 1) := by decide +kernel
theorem d_L_replace_0 : decode method_8_code 0 = .ok (.aload_n 1, 1) := by decide +kernel
theorem d_L_replace_1 : decode method_8_code 1 = .ok (.iconst 0, 1) := by decide +kernel
theorem d_L_replace_2 : decode method_8_code 2 = .ok (.aload_n 0, 1) := by decide +kernel
theorem d_L_replace_3 : decode method_8_code 3 = .ok (.invokevirtual 35, 3) := by decide +kernel
theorem d_L_replace_6 : decode method_8_code 6 = .ok (.i2l, 1) := by decide +kernel
theorem d_L_replace_7 : decode method_8_code 7 = .ok (.lastore, 1) := by decide +kernel
theorem d_L_replace_8 : decode method_8_code 8 = .ok (.goto 6, 3) := by decide +kernel
theorem d_L_replace_11 : decode method_8_code 11 = .ok (.astore_n 2, 1) := by decide +kernel
theorem d_L_replace_12 : decode method_8_code 12 = .ok (.iconst 1, 1) := by decide +kernel
theorem d_L_replace_13 : decode method_8_code 13 = .ok (.ireturn, 1) := by decide +kernel
theorem d_L_replace_14 : decode method_8_code 14 = .ok (.iconst 0, 1) := by decide +kernel
theorem d_L_replace_15 : decode method_8_code 15 = .ok (.ireturn, 1) := by decide +kernel
theorem d_L_undo_0 : decode method_9_code 0 = .ok (.aload_n 1, 1) := by decide +kernel
theorem d_L_undo_1 : decode method_9_code 1 = .ok (.iconst 0, 1) := by decide +kernel
theorem d_L_undo_2 : decode method_9_code 2 = .ok (.aload_n 0, 1) := by decide +kernel
theorem d_L_undo_3 : decode method_9_code 3 = .ok (.invokevirtual 38, 3) := by decide +kernel
theorem d_L_undo_6 : decode method_9_code 6 = .ok (.i2l, 1) := by decide +kernel
theorem d_L_undo_7 : decode method_9_code 7 = .ok (.lastore, 1) := by decide +kernel
theorem d_L_undo_8 : decode method_9_code 8 = .ok (.goto 6, 3) := by decide +kernel
theorem d_L_undo_11 : decode method_9_code 11 = .ok (.astore_n 2, 1) := by decide +kernel
theorem d_L_undo_12 : decode method_9_code 12 = .ok (.iconst 1, 1) := by decide +kernel
theorem d_L_undo_13 : decode method_9_code 13 = .ok (.ireturn, 1) := by decide +kernel
theorem d_L_undo_14 : decode method_9_code 14 = .ok (.iconst 0, 1) := by decide +kernel
theorem d_L_undo_15 : decode method_9_code 15 = .ok (.ireturn, 1) := by decide +kernel
theorem d_L_law_0 : decode code 0 = .ok (.new 8, 3) := by decide +kernel
theorem d_L_law_3 : decode code 3 = .ok (.dup, 1) := by decide +kernel
theorem d_L_law_4 : decode code 4 = .ok (.invokespecial 62, 3) := by decide +kernel
theorem d_L_law_7 : decode code 7 = .ok (.astore_n 1, 1) := by decide +kernel
theorem d_L_law_8 : decode code 8 = .ok (.new 63, 3) := by decide +kernel
theorem d_L_law_11 : decode code 11 = .ok (.dup, 1) := by decide +kernel
theorem d_L_law_12 : decode code 12 = .ok (.invokespecial 65, 3) := by decide +kernel
theorem d_L_law_15 : decode code 15 = .ok (.astore_n 2, 1) := by decide +kernel
theorem d_L_law_16 : decode code 16 = .ok (.iconst 1, 1) := by decide +kernel
theorem d_L_law_17 : decode code 17 = .ok (.newarray .long, 2) := by decide +kernel
theorem d_L_law_19 : decode code 19 = .ok (.astore_n 3, 1) := by decide +kernel
theorem d_L_law_20 : decode code 20 = .ok (.iconst 0, 1) := by decide +kernel
theorem d_L_law_21 : decode code 21 = .ok (.istore 4, 2) := by decide +kernel
theorem d_L_law_23 : decode code 23 = .ok (.iload 4, 2) := by decide +kernel
theorem d_L_law_25 : decode code 25 = .ok (.aload_n 0, 1) := by decide +kernel
theorem d_L_law_26 : decode code 26 = .ok (.arraylength, 1) := by decide +kernel
theorem d_L_law_27 : decode code 27 = .ok (.iconst 3, 1) := by decide +kernel
theorem d_L_law_28 : decode code 28 = .ok (.isub, 1) := by decide +kernel
theorem d_L_law_29 : decode code 29 = .ok (.if_icmp .gt 498, 3) := by decide +kernel
theorem d_L_law_32 : decode code 32 = .ok (.aload_n 0, 1) := by decide +kernel
theorem d_L_law_33 : decode code 33 = .ok (.iload 4, 2) := by decide +kernel
theorem d_L_law_35 : decode code 35 = .ok (.iaload, 1) := by decide +kernel
theorem d_L_law_36 : decode code 36 = .ok (.bipush 31, 2) := by decide +kernel
theorem d_L_law_38 : decode code 38 = .ok (.iand, 1) := by decide +kernel
theorem d_L_law_39 : decode code 39 = .ok (.tableswitch 482 0 16 #[81, 108, 121, 137, 165, 218, 231, 244, 272, 288, 304, 320, 345, 358, 386, 426, 454], 81) := by decide +kernel
theorem d_L_law_120 : decode code 120 = .ok (.aload_n 1, 1) := by decide +kernel
theorem d_L_law_121 : decode code 121 = .ok (.aload_n 0, 1) := by decide +kernel
theorem d_L_law_122 : decode code 122 = .ok (.iload 4, 2) := by decide +kernel
theorem d_L_law_124 : decode code 124 = .ok (.iconst 1, 1) := by decide +kernel
theorem d_L_law_125 : decode code 125 = .ok (.iadd, 1) := by decide +kernel
