theorem d_L_law_353 : decode code 353 = .ok (.invokevirtual 99, 3) := by decide +kernel
theorem d_M_fault_0 : decode prog_6_method_37_code 0 = .ok (.aload_n 0, 1) := by decide +kernel
theorem d_M_fault_1 : decode prog_6_method_37_code 1 = .ok (.iconst 0, 1) := by decide +kernel
theorem d_M_fault_2 : decode prog_6_method_37_code 2 = .ok (.putfield 82, 3) := by decide +kernel
theorem d_M_fault_5 : decode prog_6_method_37_code 5 = .ok (.aload_n 0, 1) := by decide +kernel
theorem d_M_fault_6 : decode prog_6_method_37_code 6 = .ok (.getfield 36, 3) := by decide +kernel
theorem d_M_fault_9 : decode prog_6_method_37_code 9 = .ok (.ireturn, 1) := by decide +kernel
theorem d_L_law_356 : decode code 356 = .ok (.if_icmp .eq 478, 3) := by decide +kernel
theorem d_L_law_361 : decode code 361 = .ok (.aload_n 1, 1) := by decide +kernel
theorem d_L_law_362 : decode code 362 = .ok (.aload_n 0, 1) := by decide +kernel
theorem d_L_law_363 : decode code 363 = .ok (.iload 4, 2) := by decide +kernel
theorem d_L_law_365 : decode code 365 = .ok (.iconst 1, 1) := by decide +kernel
theorem d_L_law_366 : decode code 366 = .ok (.iadd, 1) := by decide +kernel
theorem d_L_law_367 : decode code 367 = .ok (.iaload, 1) := by decide +kernel
theorem d_L_law_368 : decode code 368 = .ok (.aload_n 3, 1) := by decide +kernel
theorem d_L_law_369 : decode code 369 = .ok (.invokestatic 100, 3) := by decide +kernel
theorem d_L_find_0 : decode method_7_code 0 = .ok (.aload_n 2, 1) := by decide +kernel
theorem d_L_find_1 : decode method_7_code 1 = .ok (.iconst 0, 1) := by decide +kernel
theorem d_L_find_2 : decode method_7_code 2 = .ok (.aload_n 0, 1) := by decide +kernel
theorem d_L_find_3 : decode method_7_code 3 = .ok (.iload_n 1, 1) := by decide +kernel
theorem d_L_find_4 : decode method_7_code 4 = .ok (.invokevirtual 30, 3) := by decide +kernel
theorem d_D_find_0 : decode prog_1_method_9_code 0 = .ok (.aload_n 0, 1) := by decide +kernel
theorem d_D_find_1 : decode prog_1_method_9_code 1 = .ok (.getfield 103, 3) := by decide +kernel
theorem d_D_find_4 : decode prog_1_method_9_code 4 = .ok (.ifCond .ne 11, 3) := by decide +kernel
theorem d_D_find_7 : decode prog_1_method_9_code 7 = .ok (.new 66, 3) := by decide +kernel
theorem d_D_find_10 : decode prog_1_method_9_code 10 = .ok (.dup, 1) := by decide +kernel
theorem d_D_find_11 : decode prog_1_method_9_code 11 = .ok (.invokespecial 68, 3) := by decide +kernel
theorem d_D_find_14 : decode prog_1_method_9_code 14 = .ok (.athrow, 1) := by decide +kernel
theorem d_L_find_12 : decode method_7_code 12 = .ok (.astore_n 3, 1) := by decide +kernel
theorem d_L_find_13 : decode method_7_code 13 = .ok (.iconst 1, 1) := by decide +kernel
theorem d_L_find_14 : decode method_7_code 14 = .ok (.ireturn, 1) := by decide +kernel
theorem d_L_law_372 : decode code 372 = .ok (.istore 5, 2) := by decide +kernel
theorem d_L_law_374 : decode code 374 = .ok (.aload_n 2, 1) := by decide +kernel
theorem d_L_law_375 : decode code 375 = .ok (.aload_n 0, 1) := by decide +kernel
theorem d_L_law_376 : decode code 376 = .ok (.iload 4, 2) := by decide +kernel
theorem d_L_law_378 : decode code 378 = .ok (.iconst 1, 1) := by decide +kernel
theorem d_L_law_379 : decode code 379 = .ok (.iadd, 1) := by decide +kernel
theorem d_L_law_380 : decode code 380 = .ok (.iaload, 1) := by decide +kernel
theorem d_L_law_381 : decode code 381 = .ok (.invokevirtual 102, 3) := by decide +kernel
theorem d_M_find_0 : decode prog_6_method_45_code 0 = .ok (.aload_n 0, 1) := by decide +kernel
theorem d_M_find_1 : decode prog_6_method_45_code 1 = .ok (.aload_n 0, 1) := by decide +kernel
theorem d_M_find_2 : decode prog_6_method_45_code 2 = .ok (.getfield 203, 3) := by decide +kernel
theorem d_M_find_5 : decode prog_6_method_45_code 5 = .ok (.ifCond .ne 7, 3) := by decide +kernel
theorem d_M_find_8 : decode prog_6_method_45_code 8 = .ok (.iconst 1, 1) := by decide +kernel
theorem d_M_find_9 : decode prog_6_method_45_code 9 = .ok (.goto 20, 3) := by decide +kernel
theorem d_M_find_29 : decode prog_6_method_45_code 29 = .ok (.putfield 82, 3) := by decide +kernel
theorem d_M_find_32 : decode prog_6_method_45_code 32 = .ok (.aload_n 0, 1) := by decide +kernel
theorem d_M_find_33 : decode prog_6_method_45_code 33 = .ok (.getfield 82, 3) := by decide +kernel
theorem d_M_find_36 : decode prog_6_method_45_code 36 = .ok (.ifCond .ne 16, 3) := by decide +kernel
theorem d_M_find_52 : decode prog_6_method_45_code 52 = .ok (.aload_n 0, 1) := by decide +kernel
theorem d_M_find_53 : decode prog_6_method_45_code 53 = .ok (.getfield 82, 3) := by decide +kernel
theorem d_M_find_56 : decode prog_6_method_45_code 56 = .ok (.ifCond .le 5, 3) := by decide +kernel
theorem d_M_find_59 : decode prog_6_method_45_code 59 = .ok (.iconst 0, 1) := by decide +kernel
theorem d_M_find_60 : decode prog_6_method_45_code 60 = .ok (.ireturn, 1) := by decide +kernel
theorem d_L_law_384 : decode code 384 = .ok (.istore 6, 2) := by decide +kernel
theorem d_L_law_386 : decode code 386 = .ok (.aload_n 2, 1) := by decide +kernel
theorem d_L_law_387 : decode code 387 = .ok (.invokevirtual 81, 3) := by decide +kernel
theorem d_L_law_390 : decode code 390 = .ok (.iload 5, 2) := by decide +kernel
theorem d_L_law_392 : decode code 392 = .ok (.if_icmp .eq 5, 3) := by decide +kernel
theorem d_L_law_397 : decode code 397 = .ok (.iload 5, 2) := by decide +kernel
theorem d_L_law_399 : decode code 399 = .ok (.ifCond .ne 15, 3) := by decide +kernel
theorem d_L_law_414 : decode code 414 = .ok (.goto 420, 3) := by decide +kernel
theorem d_L_law_417 : decode code 417 = .ok (.aload_n 1, 1) := by decide +kernel
theorem d_L_law_418 : decode code 418 = .ok (.aload_n 3, 1) := by decide +kernel
theorem d_L_law_419 : decode code 419 = .ok (.invokestatic 103, 3) := by decide +kernel
theorem d_L_replace_0 : decode method_8_code 0 = .ok (.aload_n 1, 1) := by decide +kernel
theorem d_L_replace_1 : decode method_8_code 1 = .ok (.iconst 0, 1) := by decide +kernel
theorem d_L_replace_2 : decode method_8_code 2 = .ok (.aload_n 0, 1) := by decide +kernel
theorem d_L_replace_3 : decode method_8_code 3 = .ok (.invokevirtual 35, 3) := by decide +kernel
theorem d_D_replace_0 : decode prog_1_method_10_code 0 = .ok (.aload_n 0, 1) := by decide +kernel
theorem d_D_replace_1 : decode prog_1_method_10_code 1 = .ok (.getfield 103, 3) := by decide +kernel
theorem d_D_replace_4 : decode prog_1_method_10_code 4 = .ok (.ifCond .ne 11, 3) := by decide +kernel
theorem d_D_replace_7 : decode prog_1_method_10_code 7 = .ok (.new 66, 3) := by decide +kernel
theorem d_D_replace_10 : decode prog_1_method_10_code 10 = .ok (.dup, 1) := by decide +kernel
theorem d_D_replace_11 : decode prog_1_method_10_code 11 = .ok (.invokespecial 68, 3) := by decide +kernel
theorem d_D_replace_14 : decode prog_1_method_10_code 14 = .ok (.athrow, 1) := by decide +kernel
theorem d_L_replace_11 : decode method_8_code 11 = .ok (.astore_n 2, 1) := by decide +kernel
theorem d_L_replace_12 : decode method_8_code 12 = .ok (.iconst 1, 1) := by decide +kernel
theorem d_L_replace_13 : decode method_8_code 13 = .ok (.ireturn, 1) := by decide +kernel
theorem d_L_law_422 : decode code 422 = .ok (.istore 5, 2) := by decide +kernel
theorem d_L_law_424 : decode code 424 = .ok (.aload_n 2, 1) := by decide +kernel
theorem d_L_law_425 : decode code 425 = .ok (.invokevirtual 105, 3) := by decide +kernel
theorem d_M_replace_0 : decode prog_6_method_46_code 0 = .ok (.aload_n 0, 1) := by decide +kernel
theorem d_M_replace_1 : decode prog_6_method_46_code 1 = .ok (.aload_n 0, 1) := by decide +kernel
theorem d_M_replace_2 : decode prog_6_method_46_code 2 = .ok (.getfield 203, 3) := by decide +kernel
theorem d_M_replace_5 : decode prog_6_method_46_code 5 = .ok (.ifCond .eq 7, 3) := by decide +kernel
theorem d_M_replace_12 : decode prog_6_method_46_code 12 = .ok (.iconst 1, 1) := by decide +kernel
theorem d_M_replace_13 : decode prog_6_method_46_code 13 = .ok (.putfield 82, 3) := by decide +kernel
theorem d_M_replace_16 : decode prog_6_method_46_code 16 = .ok (.aload_n 0, 1) := by decide +kernel
theorem d_M_replace_17 : decode prog_6_method_46_code 17 = .ok (.getfield 82, 3) := by decide +kernel
theorem d_M_replace_20 : decode prog_6_method_46_code 20 = .ok (.ifCond .le 5, 3) := by decide +kernel
theorem d_M_replace_23 : decode prog_6_method_46_code 23 = .ok (.iconst 0, 1) := by decide +kernel
theorem d_M_replace_24 : decode prog_6_method_46_code 24 = .ok (.ireturn, 1) := by decide +kernel
theorem d_L_law_428 : decode code 428 = .ok (.istore 6, 2) := by decide +kernel
theorem d_L_law_430 : decode code 430 = .ok (.aload_n 2, 1) := by decide +kernel
theorem d_L_law_431 : decode code 431 = .ok (.invokevirtual 81, 3) := by decide +kernel
theorem d_L_law_434 : decode code 434 = .ok (.iload 5, 2) := by decide +kernel
theorem d_L_law_436 : decode code 436 = .ok (.if_icmp .eq 5, 3) := by decide +kernel
theorem d_L_law_441 : decode code 441 = .ok (.iload 5, 2) := by decide +kernel
theorem d_L_law_443 : decode code 443 = .ok (.ifCond .ne 15, 3) := by decide +kernel
theorem d_L_law_458 : decode code 458 = .ok (.goto 376, 3) := by decide +kernel
theorem d_L_law_461 : decode code 461 = .ok (.aload_n 1, 1) := by decide +kernel
theorem d_L_law_462 : decode code 462 = .ok (.aload_n 3, 1) := by decide +kernel
theorem d_L_law_463 : decode code 463 = .ok (.invokestatic 106, 3) := by decide +kernel
theorem d_L_undo_0 : decode method_9_code 0 = .ok (.aload_n 1, 1) := by decide +kernel
theorem d_L_undo_1 : decode method_9_code 1 = .ok (.iconst 0, 1) := by decide +kernel
theorem d_L_undo_2 : decode method_9_code 2 = .ok (.aload_n 0, 1) := by decide +kernel
theorem d_L_undo_3 : decode method_9_code 3 = .ok (.invokevirtual 38, 3) := by decide +kernel
theorem d_D_undo_0 : decode prog_1_method_11_code 0 = .ok (.aload_n 0, 1) := by decide +kernel
theorem d_D_undo_1 : decode prog_1_method_11_code 1 = .ok (.getfield 15, 3) := by decide +kernel
theorem d_D_undo_4 : decode prog_1_method_11_code 4 = .ok (.aload_n 0, 1) := by decide +kernel
theorem d_D_undo_5 : decode prog_1_method_11_code 5 = .ok (.getfield 73, 3) := by decide +kernel
theorem d_D_undo_8 : decode prog_1_method_11_code 8 = .ok (.aaload, 1) := by decide +kernel
theorem d_D_undo_9 : decode prog_1_method_11_code 9 = .ok (.getfield 131, 3) := by decide +kernel
theorem d_D_undo_12 : decode prog_1_method_11_code 12 = .ok (.istore_n 1, 1) := by decide +kernel
theorem d_D_undo_13 : decode prog_1_method_11_code 13 = .ok (.iload_n 1, 1) := by decide +kernel
theorem d_D_undo_14 : decode prog_1_method_11_code 14 = .ok (.iconst (-1), 1) := by decide +kernel
theorem d_D_undo_15 : decode prog_1_method_11_code 15 = .ok (.if_icmp .ne 11, 3) := by decide +kernel
theorem d_D_undo_18 : decode prog_1_method_11_code 18 = .ok (.new 111, 3) := by decide +kernel
theorem d_D_undo_21 : decode prog_1_method_11_code 21 = .ok (.dup, 1) := by decide +kernel
theorem d_D_undo_22 : decode prog_1_method_11_code 22 = .ok (.invokespecial 113, 3) := by decide +kernel
theorem d_D_undo_25 : decode prog_1_method_11_code 25 = .ok (.athrow, 1) := by decide +kernel
theorem d_L_undo_11 : decode method_9_code 11 = .ok (.astore_n 2, 1) := by decide +kernel
theorem d_L_undo_12 : decode method_9_code 12 = .ok (.iconst 1, 1) := by decide +kernel
theorem d_L_undo_13 : decode method_9_code 13 = .ok (.ireturn, 1) := by decide +kernel
theorem d_L_law_466 : decode code 466 = .ok (.istore 5, 2) := by decide +kernel
theorem d_L_law_468 : decode code 468 = .ok (.aload_n 2, 1) := by decide +kernel
theorem d_L_law_469 : decode code 469 = .ok (.invokevirtual 108, 3) := by decide +kernel
theorem d_M_undo_0 : decode prog_6_method_18_code 0 = .ok (.aload_n 0, 1) := by decide +kernel
theorem d_M_undo_1 : decode prog_6_method_18_code 1 = .ok (.aload_n 0, 1) := by decide +kernel
theorem d_M_undo_2 : decode prog_6_method_18_code 2 = .ok (.getfield 92, 3) := by decide +kernel
theorem d_M_undo_5 : decode prog_6_method_18_code 5 = .ok (.ifCond .ne 7, 3) := by decide +kernel
theorem d_M_undo_8 : decode prog_6_method_18_code 8 = .ok (.iconst 1, 1) := by decide +kernel
theorem d_M_undo_9 : decode prog_6_method_18_code 9 = .ok (.goto 4, 3) := by decide +kernel
theorem d_M_undo_13 : decode prog_6_method_18_code 13 = .ok (.putfield 82, 3) := by decide +kernel
theorem d_M_undo_16 : decode prog_6_method_18_code 16 = .ok (.aload_n 0, 1) := by decide +kernel
theorem d_M_undo_17 : decode prog_6_method_18_code 17 = .ok (.getfield 82, 3) := by decide +kernel
theorem d_M_undo_20 : decode prog_6_method_18_code 20 = .ok (.ifCond .ne 16, 3) := by decide +kernel
theorem d_M_undo_36 : decode prog_6_method_18_code 36 = .ok (.aload_n 0, 1) := by decide +kernel
theorem d_M_undo_37 : decode prog_6_method_18_code 37 = .ok (.getfield 82, 3) := by decide +kernel
theorem d_M_undo_40 : decode prog_6_method_18_code 40 = .ok (.ifCond .ne 10, 3) := by decide +kernel
theorem d_M_undo_50 : decode prog_6_method_18_code 50 = .ok (.iconst 0, 1) := by decide +kernel
theorem d_M_undo_51 : decode prog_6_method_18_code 51 = .ok (.ireturn, 1) := by decide +kernel
theorem d_L_law_472 : decode code 472 = .ok (.istore 6, 2) := by decide +kernel
theorem d_L_law_474 : decode code 474 = .ok (.aload_n 2, 1) := by decide +kernel
theorem d_L_law_475 : decode code 475 = .ok (.invokevirtual 81, 3) := by decide +kernel
theorem d_L_law_478 : decode code 478 = .ok (.iload 5, 2) := by decide +kernel
theorem d_L_law_480 : decode code 480 = .ok (.if_icmp .eq 5, 3) := by decide +kernel
theorem d_L_law_485 : decode code 485 = .ok (.iload 5, 2) := by decide +kernel
theorem d_L_law_487 : decode code 487 = .ok (.ifCond .ne 15, 3) := by decide +kernel
theorem d_L_law_502 : decode code 502 = .ok (.goto 332, 3) := by decide +kernel
theorem d_L_law_505 : decode code 505 = .ok (.aload_n 1, 1) := by decide +kernel
theorem d_L_law_506 : decode code 506 = .ok (.aload_n 3, 1) := by decide +kernel
theorem d_L_law_507 : decode code 507 = .ok (.invokestatic 109, 3) := by decide +kernel
theorem d_L_redo_0 : decode method_10_code 0 = .ok (.aload_n 1, 1) := by decide +kernel
theorem d_L_redo_1 : decode method_10_code 1 = .ok (.iconst 0, 1) := by decide +kernel
theorem d_L_redo_2 : decode method_10_code 2 = .ok (.aload_n 0, 1) := by decide +kernel
theorem d_L_redo_3 : decode method_10_code 3 = .ok (.invokevirtual 41, 3) := by decide +kernel
theorem d_D_redo_0 : decode prog_1_method_12_code 0 = .ok (.aload_n 0, 1) := by decide +kernel
theorem d_D_redo_1 : decode prog_1_method_12_code 1 = .ok (.getfield 15, 3) := by decide +kernel
theorem d_D_redo_4 : decode prog_1_method_12_code 4 = .ok (.aload_n 0, 1) := by decide +kernel
theorem d_D_redo_5 : decode prog_1_method_12_code 5 = .ok (.getfield 73, 3) := by decide +kernel
theorem d_D_redo_8 : decode prog_1_method_12_code 8 = .ok (.aaload, 1) := by decide +kernel
theorem d_D_redo_9 : decode prog_1_method_12_code 9 = .ok (.getfield 137, 3) := by decide +kernel
theorem d_D_redo_12 : decode prog_1_method_12_code 12 = .ok (.istore_n 1, 1) := by decide +kernel
theorem d_D_redo_13 : decode prog_1_method_12_code 13 = .ok (.iload_n 1, 1) := by decide +kernel
theorem d_D_redo_14 : decode prog_1_method_12_code 14 = .ok (.iconst (-1), 1) := by decide +kernel
theorem d_D_redo_15 : decode prog_1_method_12_code 15 = .ok (.if_icmp .ne 11, 3) := by decide +kernel
theorem d_D_redo_18 : decode prog_1_method_12_code 18 = .ok (.new 111, 3) := by decide +kernel
theorem d_D_redo_21 : decode prog_1_method_12_code 21 = .ok (.dup, 1) := by decide +kernel
theorem d_D_redo_22 : decode prog_1_method_12_code 22 = .ok (.invokespecial 113, 3) := by decide +kernel
theorem d_D_redo_25 : decode prog_1_method_12_code 25 = .ok (.athrow, 1) := by decide +kernel
theorem d_L_redo_11 : decode method_10_code 11 = .ok (.astore_n 2, 1) := by decide +kernel
theorem d_L_redo_12 : decode method_10_code 12 = .ok (.iconst 1, 1) := by decide +kernel
theorem d_L_redo_13 : decode method_10_code 13 = .ok (.ireturn, 1) := by decide +kernel
theorem d_L_law_510 : decode code 510 = .ok (.istore 5, 2) := by decide +kernel
theorem d_L_law_512 : decode code 512 = .ok (.aload_n 2, 1) := by decide +kernel
theorem d_L_law_513 : decode code 513 = .ok (.invokevirtual 111, 3) := by decide +kernel
theorem d_M_redo_0 : decode prog_6_method_19_code 0 = .ok (.iconst (-1), 1) := by decide +kernel
theorem d_M_redo_1 : decode prog_6_method_19_code 1 = .ok (.istore_n 1, 1) := by decide +kernel
theorem d_M_redo_2 : decode prog_6_method_19_code 2 = .ok (.iconst 0, 1) := by decide +kernel
theorem d_M_redo_3 : decode prog_6_method_19_code 3 = .ok (.istore_n 2, 1) := by decide +kernel
theorem d_M_redo_4 : decode prog_6_method_19_code 4 = .ok (.iload_n 2, 1) := by decide +kernel
theorem d_M_redo_5 : decode prog_6_method_19_code 5 = .ok (.aload_n 0, 1) := by decide +kernel
theorem d_M_redo_6 : decode prog_6_method_19_code 6 = .ok (.getfield 13, 3) := by decide +kernel
theorem d_M_redo_9 : decode prog_6_method_19_code 9 = .ok (.if_icmp .ge 47, 3) := by decide +kernel
theorem d_M_redo_12 : decode prog_6_method_19_code 12 = .ok (.aload_n 0, 1) := by decide +kernel
theorem d_M_redo_13 : decode prog_6_method_19_code 13 = .ok (.getfield 27, 3) := by decide +kernel
theorem d_M_redo_16 : decode prog_6_method_19_code 16 = .ok (.iload_n 2, 1) := by decide +kernel
theorem d_M_redo_17 : decode prog_6_method_19_code 17 = .ok (.iaload, 1) := by decide +kernel
theorem d_M_redo_18 : decode prog_6_method_19_code 18 = .ok (.aload_n 0, 1) := by decide +kernel
theorem d_M_redo_19 : decode prog_6_method_19_code 19 = .ok (.getfield 92, 3) := by decide +kernel
theorem d_M_redo_22 : decode prog_6_method_19_code 22 = .ok (.if_icmp .ne 26, 3) := by decide +kernel
theorem d_M_redo_48 : decode prog_6_method_19_code 48 = .ok (.iload_n 1, 1) := by decide +kernel
theorem d_M_redo_49 : decode prog_6_method_19_code 49 = .ok (.istore_n 1, 1) := by decide +kernel
theorem d_M_redo_50 : decode prog_6_method_19_code 50 = .ok (.iinc 2 1, 3) := by decide +kernel
theorem d_M_redo_53 : decode prog_6_method_19_code 53 = .ok (.goto (-49), 3) := by decide +kernel
theorem d_M_redo_56 : decode prog_6_method_19_code 56 = .ok (.aload_n 0, 1) := by decide +kernel
theorem d_M_redo_57 : decode prog_6_method_19_code 57 = .ok (.iload_n 1, 1) := by decide +kernel
theorem d_M_redo_58 : decode prog_6_method_19_code 58 = .ok (.ifCond .ge 7, 3) := by decide +kernel
theorem d_M_redo_61 : decode prog_6_method_19_code 61 = .ok (.iconst 1, 1) := by decide +kernel
theorem d_M_redo_62 : decode prog_6_method_19_code 62 = .ok (.goto 4, 3) := by decide +kernel
theorem d_M_redo_66 : decode prog_6_method_19_code 66 = .ok (.putfield 82, 3) := by decide +kernel
theorem d_M_redo_69 : decode prog_6_method_19_code 69 = .ok (.aload_n 0, 1) := by decide +kernel
theorem d_M_redo_70 : decode prog_6_method_19_code 70 = .ok (.getfield 82, 3) := by decide +kernel
theorem d_M_redo_73 : decode prog_6_method_19_code 73 = .ok (.ifCond .ne 8, 3) := by decide +kernel
theorem d_M_redo_81 : decode prog_6_method_19_code 81 = .ok (.aload_n 0, 1) := by decide +kernel
theorem d_M_redo_82 : decode prog_6_method_19_code 82 = .ok (.getfield 82, 3) := by decide +kernel
theorem d_M_redo_85 : decode prog_6_method_19_code 85 = .ok (.ifCond .ne 10, 3) := by decide +kernel
theorem d_M_redo_95 : decode prog_6_method_19_code 95 = .ok (.iconst 0, 1) := by decide +kernel
theorem d_M_redo_96 : decode prog_6_method_19_code 96 = .ok (.ireturn, 1) := by decide +kernel
theorem d_L_law_516 : decode code 516 = .ok (.istore 6, 2) := by decide +kernel
theorem d_L_law_518 : decode code 518 = .ok (.aload_n 2, 1) := by decide +kernel
theorem d_L_law_519 : decode code 519 = .ok (.invokevirtual 81, 3) := by decide +kernel
theorem d_L_law_522 : decode code 522 = .ok (.iload 5, 2) := by decide +kernel
theorem d_L_law_524 : decode code 524 = .ok (.if_icmp .eq 5, 3) := by decide +kernel
theorem d_L_law_529 : decode code 529 = .ok (.iload 5, 2) := by decide +kernel
theorem d_L_law_531 : decode code 531 = .ok (.ifCond .ne 15, 3) := by decide +kernel
theorem d_L_law_546 : decode code 546 = .ok (.goto 288, 3) := by decide +kernel
theorem d_L_law_549 : decode code 549 = .ok (.aload_n 1, 1) := by decide +kernel
theorem d_L_law_550 : decode code 550 = .ok (.aload_n 0, 1) := by decide +kernel
theorem d_L_law_551 : decode code 551 = .ok (.iload 4, 2) := by decide +kernel
theorem d_L_law_553 : decode code 553 = .ok (.iconst 1, 1) := by decide +kernel
theorem d_L_law_554 : decode code 554 = .ok (.iadd, 1) := by decide +kernel
theorem d_L_law_555 : decode code 555 = .ok (.iaload, 1) := by decide +kernel
theorem d_L_law_556 : decode code 556 = .ok (.invokestatic 112, 3) := by decide +kernel
theorem d_L_jump_0 : decode method_11_code 0 = .ok (.aload_n 0, 1) := by decide +kernel
theorem d_L_jump_1 : decode method_11_code 1 = .ok (.iload_n 1, 1) := by decide +kernel
theorem d_L_jump_2 : decode method_11_code 2 = .ok (.invokevirtual 44, 3) := by decide +kernel
theorem d_D_jump_0 : decode prog_1_method_13_code 0 = .ok (.aload_n 0, 1) := by decide +kernel
theorem d_D_jump_1 : decode prog_1_method_13_code 1 = .ok (.iload_n 1, 1) := by decide +kernel
theorem d_D_jump_2 : decode prog_1_method_13_code 2 = .ok (.invokevirtual 140, 3) := by decide +kernel
theorem d_D_requireState_0 : decode prog_1_method_20_code 0 = .ok (.iload_n 1, 1) := by decide +kernel
theorem d_D_requireState_1 : decode prog_1_method_20_code 1 = .ok (.ifCond .lt 11, 3) := by decide +kernel
theorem d_D_requireState_4 : decode prog_1_method_20_code 4 = .ok (.iload_n 1, 1) := by decide +kernel
theorem d_D_requireState_5 : decode prog_1_method_20_code 5 = .ok (.aload_n 0, 1) := by decide +kernel
theorem d_D_requireState_6 : decode prog_1_method_20_code 6 = .ok (.getfield 25, 3) := by decide +kernel
theorem d_D_requireState_9 : decode prog_1_method_20_code 9 = .ok (.if_icmp .lt 11, 3) := by decide +kernel
theorem d_D_requireState_20 : decode prog_1_method_20_code 20 = .ok (.return_, 1) := by decide +kernel
theorem d_D_jump_5 : decode prog_1_method_13_code 5 = .ok (.aload_n 0, 1) := by decide +kernel
theorem d_D_jump_6 : decode prog_1_method_13_code 6 = .ok (.iload_n 1, 1) := by decide +kernel
theorem d_D_jump_7 : decode prog_1_method_13_code 7 = .ok (.invokevirtual 134, 3) := by decide +kernel
theorem d_D_moveTo_0 : decode prog_1_method_23_code 0 = .ok (.aload_n 0, 1) := by decide +kernel
theorem d_D_moveTo_1 : decode prog_1_method_23_code 1 = .ok (.getfield 15, 3) := by decide +kernel
theorem d_D_moveTo_4 : decode prog_1_method_23_code 4 = .ok (.aload_n 0, 1) := by decide +kernel
theorem d_D_moveTo_5 : decode prog_1_method_23_code 5 = .ok (.getfield 73, 3) := by decide +kernel
theorem d_D_moveTo_8 : decode prog_1_method_23_code 8 = .ok (.aaload, 1) := by decide +kernel
theorem d_D_moveTo_9 : decode prog_1_method_23_code 9 = .ok (.aload_n 0, 1) := by decide +kernel
theorem d_D_moveTo_10 : decode prog_1_method_23_code 10 = .ok (.getfield 76, 3) := by decide +kernel
theorem d_D_moveTo_13 : decode prog_1_method_23_code 13 = .ok (.putfield 155, 3) := by decide +kernel
theorem d_D_moveTo_16 : decode prog_1_method_23_code 16 = .ok (.aload_n 0, 1) := by decide +kernel
theorem d_D_moveTo_17 : decode prog_1_method_23_code 17 = .ok (.getfield 15, 3) := by decide +kernel
theorem d_D_moveTo_20 : decode prog_1_method_23_code 20 = .ok (.iload_n 1, 1) := by decide +kernel
theorem d_D_moveTo_21 : decode prog_1_method_23_code 21 = .ok (.aaload, 1) := by decide +kernel
theorem d_D_moveTo_22 : decode prog_1_method_23_code 22 = .ok (.astore_n 2, 1) := by decide +kernel
theorem d_D_moveTo_23 : decode prog_1_method_23_code 23 = .ok (.aload_n 0, 1) := by decide +kernel
theorem d_D_moveTo_24 : decode prog_1_method_23_code 24 = .ok (.iload_n 1, 1) := by decide +kernel
theorem d_D_moveTo_25 : decode prog_1_method_23_code 25 = .ok (.putfield 73, 3) := by decide +kernel
theorem d_D_moveTo_28 : decode prog_1_method_23_code 28 = .ok (.aload_n 0, 1) := by decide +kernel
theorem d_D_moveTo_29 : decode prog_1_method_23_code 29 = .ok (.aload_n 2, 1) := by decide +kernel
theorem d_D_moveTo_30 : decode prog_1_method_23_code 30 = .ok (.getfield 158, 3) := by decide +kernel
theorem d_D_moveTo_33 : decode prog_1_method_23_code 33 = .ok (.putfield 19, 3) := by decide +kernel
theorem d_D_moveTo_36 : decode prog_1_method_23_code 36 = .ok (.aload_n 0, 1) := by decide +kernel
theorem d_D_moveTo_37 : decode prog_1_method_23_code 37 = .ok (.aload_n 2, 1) := by decide +kernel
theorem d_D_moveTo_38 : decode prog_1_method_23_code 38 = .ok (.getfield 155, 3) := by decide +kernel
theorem d_D_moveTo_41 : decode prog_1_method_23_code 41 = .ok (.putfield 76, 3) := by decide +kernel
theorem d_D_moveTo_44 : decode prog_1_method_23_code 44 = .ok (.aload_n 0, 1) := by decide +kernel
theorem d_D_moveTo_45 : decode prog_1_method_23_code 45 = .ok (.iconst (-1), 1) := by decide +kernel
theorem d_D_moveTo_46 : decode prog_1_method_23_code 46 = .ok (.putfield 29, 3) := by decide +kernel
theorem d_D_moveTo_49 : decode prog_1_method_23_code 49 = .ok (.aload_n 2, 1) := by decide +kernel
theorem d_D_moveTo_50 : decode prog_1_method_23_code 50 = .ok (.getfield 131, 3) := by decide +kernel
theorem d_D_moveTo_53 : decode prog_1_method_23_code 53 = .ok (.iconst (-1), 1) := by decide +kernel
theorem d_D_moveTo_54 : decode prog_1_method_23_code 54 = .ok (.if_icmp .eq 16, 3) := by decide +kernel
theorem d_D_moveTo_70 : decode prog_1_method_23_code 70 = .ok (.return_, 1) := by decide +kernel
theorem d_D_jump_10 : decode prog_1_method_13_code 10 = .ok (.return_, 1) := by decide +kernel
theorem d_L_jump_5 : decode method_11_code 5 = .ok (.goto 6, 3) := by decide +kernel
theorem d_L_jump_11 : decode method_11_code 11 = .ok (.iconst 0, 1) := by decide +kernel
theorem d_L_jump_12 : decode method_11_code 12 = .ok (.ireturn, 1) := by decide +kernel
theorem d_L_law_559 : decode code 559 = .ok (.istore 5, 2) := by decide +kernel
theorem d_L_law_561 : decode code 561 = .ok (.aload_n 2, 1) := by decide +kernel
theorem d_L_law_562 : decode code 562 = .ok (.aload_n 0, 1) := by decide +kernel
theorem d_L_law_563 : decode code 563 = .ok (.iload 4, 2) := by decide +kernel
theorem d_L_law_565 : decode code 565 = .ok (.iconst 1, 1) := by decide +kernel
theorem d_L_law_566 : decode code 566 = .ok (.iadd, 1) := by decide +kernel
theorem d_L_law_567 : decode code 567 = .ok (.iaload, 1) := by decide +kernel
theorem d_L_law_568 : decode code 568 = .ok (.invokevirtual 115, 3) := by decide +kernel
theorem d_M_jump_0 : decode prog_6_method_20_code 0 = .ok (.aload_n 0, 1) := by decide +kernel
theorem d_M_jump_1 : decode prog_6_method_20_code 1 = .ok (.iload_n 1, 1) := by decide +kernel
theorem d_M_jump_2 : decode prog_6_method_20_code 2 = .ok (.ifCond .lt 11, 3) := by decide +kernel
theorem d_M_jump_5 : decode prog_6_method_20_code 5 = .ok (.iload_n 1, 1) := by decide +kernel
theorem d_M_jump_6 : decode prog_6_method_20_code 6 = .ok (.aload_n 0, 1) := by decide +kernel
theorem d_M_jump_7 : decode prog_6_method_20_code 7 = .ok (.getfield 13, 3) := by decide +kernel
theorem d_M_jump_10 : decode prog_6_method_20_code 10 = .ok (.if_icmp .lt 7, 3) := by decide +kernel
theorem d_M_jump_17 : decode prog_6_method_20_code 17 = .ok (.iconst 0, 1) := by decide +kernel
theorem d_M_jump_18 : decode prog_6_method_20_code 18 = .ok (.putfield 82, 3) := by decide +kernel
theorem d_M_jump_21 : decode prog_6_method_20_code 21 = .ok (.aload_n 0, 1) := by decide +kernel
theorem d_M_jump_22 : decode prog_6_method_20_code 22 = .ok (.getfield 82, 3) := by decide +kernel
theorem d_M_jump_25 : decode prog_6_method_20_code 25 = .ok (.ifCond .ne 8, 3) := by decide +kernel
theorem d_M_jump_28 : decode prog_6_method_20_code 28 = .ok (.aload_n 0, 1) := by decide +kernel
theorem d_M_jump_29 : decode prog_6_method_20_code 29 = .ok (.iload_n 1, 1) := by decide +kernel
theorem d_M_jump_30 : decode prog_6_method_20_code 30 = .ok (.invokevirtual 112, 3) := by decide +kernel
theorem d_M_come_0 : decode prog_6_method_8_code 0 = .ok (.aload_n 0, 1) := by decide +kernel
theorem d_M_come_1 : decode prog_6_method_8_code 1 = .ok (.getfield 24, 3) := by decide +kernel
theorem d_M_come_4 : decode prog_6_method_8_code 4 = .ok (.aload_n 0, 1) := by decide +kernel
theorem d_M_come_5 : decode prog_6_method_8_code 5 = .ok (.getfield 92, 3) := by decide +kernel
theorem d_M_come_8 : decode prog_6_method_8_code 8 = .ok (.aload_n 0, 1) := by decide +kernel
theorem d_M_come_9 : decode prog_6_method_8_code 9 = .ok (.getfield 95, 3) := by decide +kernel
theorem d_M_come_12 : decode prog_6_method_8_code 12 = .ok (.iastore, 1) := by decide +kernel
theorem d_M_come_13 : decode prog_6_method_8_code 13 = .ok (.aload_n 0, 1) := by decide +kernel
theorem d_M_come_14 : decode prog_6_method_8_code 14 = .ok (.iload_n 1, 1) := by decide +kernel
theorem d_M_come_15 : decode prog_6_method_8_code 15 = .ok (.putfield 92, 3) := by decide +kernel
theorem d_M_come_18 : decode prog_6_method_8_code 18 = .ok (.aload_n 0, 1) := by decide +kernel
theorem d_M_come_19 : decode prog_6_method_8_code 19 = .ok (.aload_n 0, 1) := by decide +kernel
theorem d_M_come_20 : decode prog_6_method_8_code 20 = .ok (.getfield 24, 3) := by decide +kernel
theorem d_M_come_23 : decode prog_6_method_8_code 23 = .ok (.iload_n 1, 1) := by decide +kernel
theorem d_M_come_24 : decode prog_6_method_8_code 24 = .ok (.iaload, 1) := by decide +kernel
theorem d_M_come_25 : decode prog_6_method_8_code 25 = .ok (.putfield 95, 3) := by decide +kernel
theorem d_M_come_28 : decode prog_6_method_8_code 28 = .ok (.aload_n 0, 1) := by decide +kernel
theorem d_M_come_29 : decode prog_6_method_8_code 29 = .ok (.iconst (-1), 1) := by decide +kernel
theorem d_M_come_30 : decode prog_6_method_8_code 30 = .ok (.putfield 33, 3) := by decide +kernel
theorem d_M_come_33 : decode prog_6_method_8_code 33 = .ok (.aload_n 0, 1) := by decide +kernel
theorem d_M_come_34 : decode prog_6_method_8_code 34 = .ok (.dup, 1) := by decide +kernel
theorem d_M_come_35 : decode prog_6_method_8_code 35 = .ok (.getfield 98, 3) := by decide +kernel
theorem d_M_come_38 : decode prog_6_method_8_code 38 = .ok (.iconst 1, 1) := by decide +kernel
theorem d_M_come_39 : decode prog_6_method_8_code 39 = .ok (.iadd, 1) := by decide +kernel
theorem d_M_come_40 : decode prog_6_method_8_code 40 = .ok (.putfield 98, 3) := by decide +kernel
theorem d_M_come_43 : decode prog_6_method_8_code 43 = .ok (.aload_n 0, 1) := by decide +kernel
theorem d_M_come_44 : decode prog_6_method_8_code 44 = .ok (.getfield 30, 3) := by decide +kernel
theorem d_M_come_47 : decode prog_6_method_8_code 47 = .ok (.iload_n 1, 1) := by decide +kernel
theorem d_M_come_48 : decode prog_6_method_8_code 48 = .ok (.aload_n 0, 1) := by decide +kernel
theorem d_M_come_49 : decode prog_6_method_8_code 49 = .ok (.getfield 98, 3) := by decide +kernel
theorem d_M_come_52 : decode prog_6_method_8_code 52 = .ok (.iastore, 1) := by decide +kernel
theorem d_M_come_53 : decode prog_6_method_8_code 53 = .ok (.return_, 1) := by decide +kernel
theorem d_M_jump_33 : decode prog_6_method_20_code 33 = .ok (.return_, 1) := by decide +kernel
theorem d_L_law_571 : decode code 571 = .ok (.aload_n 2, 1) := by decide +kernel
theorem d_L_law_572 : decode code 572 = .ok (.invokevirtual 81, 3) := by decide +kernel
theorem d_L_law_575 : decode code 575 = .ok (.iload 5, 2) := by decide +kernel
theorem d_L_law_577 : decode code 577 = .ok (.if_icmp .eq 5, 3) := by decide +kernel
theorem d_L_law_582 : decode code 582 = .ok (.goto 252, 3) := by decide +kernel
theorem d_D_requireState_12 : decode prog_1_method_20_code 12 = .ok (.new 96, 3) := by decide +kernel
theorem d_D_requireState_15 : decode prog_1_method_20_code 15 = .ok (.dup, 1) := by decide +kernel
theorem d_D_requireState_16 : decode prog_1_method_20_code 16 = .ok (.invokespecial 98, 3) := by decide +kernel
theorem d_D_requireState_19 : decode prog_1_method_20_code 19 = .ok (.athrow, 1) := by decide +kernel
theorem d_L_jump_8 : decode method_11_code 8 = .ok (.astore_n 2, 1) := by decide +kernel
theorem d_L_jump_9 : decode method_11_code 9 = .ok (.iconst 1, 1) := by decide +kernel
theorem d_L_jump_10 : decode method_11_code 10 = .ok (.ireturn, 1) := by decide +kernel
theorem d_M_jump_13 : decode prog_6_method_20_code 13 = .ok (.iconst 1, 1) := by decide +kernel
theorem d_M_jump_14 : decode prog_6_method_20_code 14 = .ok (.goto 4, 3) := by decide +kernel
theorem d_L_law_585 : decode code 585 = .ok (.aload_n 1, 1) := by decide +kernel
theorem d_L_law_586 : decode code 586 = .ok (.invokevirtual 116, 3) := by decide +kernel
theorem d_D_length_0 : decode prog_1_method_14_code 0 = .ok (.aload_n 0, 1) := by decide +kernel
theorem d_D_length_1 : decode prog_1_method_14_code 1 = .ok (.getfield 19, 3) := by decide +kernel
theorem d_D_length_4 : decode prog_1_method_14_code 4 = .ok (.arraylength, 1) := by decide +kernel
theorem d_D_length_5 : decode prog_1_method_14_code 5 = .ok (.ireturn, 1) := by decide +kernel
theorem d_L_law_589 : decode code 589 = .ok (.aload_n 2, 1) := by decide +kernel
theorem d_L_law_590 : decode code 590 = .ok (.invokevirtual 119, 3) := by decide +kernel
theorem d_M_length_0 : decode prog_6_method_47_code 0 = .ok (.aload_n 0, 1) := by decide +kernel
theorem d_M_length_1 : decode prog_6_method_47_code 1 = .ok (.iconst 0, 1) := by decide +kernel
theorem d_M_length_2 : decode prog_6_method_47_code 2 = .ok (.putfield 82, 3) := by decide +kernel
theorem d_M_length_5 : decode prog_6_method_47_code 5 = .ok (.aload_n 0, 1) := by decide +kernel
theorem d_M_length_6 : decode prog_6_method_47_code 6 = .ok (.invokevirtual 123, 3) := by decide +kernel
theorem d_M_length_9 : decode prog_6_method_47_code 9 = .ok (.ireturn, 1) := by decide +kernel
theorem d_L_law_593 : decode code 593 = .ok (.if_icmp .eq 241, 3) := by decide +kernel
theorem d_L_law_598 : decode code 598 = .ok (.aload_n 1, 1) := by decide +kernel
theorem d_L_law_599 : decode code 599 = .ok (.aload_n 0, 1) := by decide +kernel
theorem d_L_law_600 : decode code 600 = .ok (.iload 4, 2) := by decide +kernel
theorem d_L_law_602 : decode code 602 = .ok (.iconst 1, 1) := by decide +kernel
theorem d_L_law_603 : decode code 603 = .ok (.iadd, 1) := by decide +kernel
theorem d_L_law_604 : decode code 604 = .ok (.iaload, 1) := by decide +kernel
theorem d_L_law_605 : decode code 605 = .ok (.aload_n 3, 1) := by decide +kernel
theorem d_L_law_606 : decode code 606 = .ok (.invokestatic 120, 3) := by decide +kernel
theorem d_L_at_0 : decode method_12_code 0 = .ok (.aload_n 2, 1) := by decide +kernel
theorem d_L_at_1 : decode method_12_code 1 = .ok (.iconst 0, 1) := by decide +kernel
theorem d_L_at_2 : decode method_12_code 2 = .ok (.aload_n 0, 1) := by decide +kernel
theorem d_L_at_3 : decode method_12_code 3 = .ok (.iload_n 1, 1) := by decide +kernel
theorem d_L_at_4 : decode method_12_code 4 = .ok (.invokevirtual 48, 3) := by decide +kernel
theorem d_D_at_0 : decode prog_1_method_15_code 0 = .ok (.iload_n 1, 1) := by decide +kernel
theorem d_D_at_1 : decode prog_1_method_15_code 1 = .ok (.ifCond .lt 12, 3) := by decide +kernel
theorem d_D_at_13 : decode prog_1_method_15_code 13 = .ok (.new 143, 3) := by decide +kernel
theorem d_D_at_4 : decode prog_1_method_15_code 4 = .ok (.iload_n 1, 1) := by decide +kernel
theorem d_D_at_5 : decode prog_1_method_15_code 5 = .ok (.aload_n 0, 1) := by decide +kernel
theorem d_D_at_6 : decode prog_1_method_15_code 6 = .ok (.getfield 19, 3) := by decide +kernel
theorem d_D_at_9 : decode prog_1_method_15_code 9 = .ok (.arraylength, 1) := by decide +kernel
theorem d_D_at_10 : decode prog_1_method_15_code 10 = .ok (.if_icmp .lt 11, 3) := by decide +kernel
theorem d_D_at_16 : decode prog_1_method_15_code 16 = .ok (.dup, 1) := by decide +kernel
theorem d_D_at_17 : decode prog_1_method_15_code 17 = .ok (.invokespecial 145, 3) := by decide +kernel
theorem d_D_at_20 : decode prog_1_method_15_code 20 = .ok (.athrow, 1) := by decide +kernel
theorem d_L_at_12 : decode method_12_code 12 = .ok (.astore_n 3, 1) := by decide +kernel
theorem d_L_at_13 : decode method_12_code 13 = .ok (.iconst 1, 1) := by decide +kernel
theorem d_L_at_14 : decode method_12_code 14 = .ok (.ireturn, 1) := by decide +kernel
theorem d_L_law_609 : decode code 609 = .ok (.istore 5, 2) := by decide +kernel
theorem d_L_law_611 : decode code 611 = .ok (.aload_n 2, 1) := by decide +kernel
theorem d_L_law_612 : decode code 612 = .ok (.aload_n 0, 1) := by decide +kernel
theorem d_L_law_613 : decode code 613 = .ok (.iload 4, 2) := by decide +kernel
theorem d_L_law_615 : decode code 615 = .ok (.iconst 1, 1) := by decide +kernel
theorem d_L_law_616 : decode code 616 = .ok (.iadd, 1) := by decide +kernel
theorem d_L_law_617 : decode code 617 = .ok (.iaload, 1) := by decide +kernel
theorem d_L_law_618 : decode code 618 = .ok (.invokevirtual 122, 3) := by decide +kernel
theorem d_M_at_0 : decode prog_6_method_48_code 0 = .ok (.aload_n 0, 1) := by decide +kernel
theorem d_M_at_1 : decode prog_6_method_48_code 1 = .ok (.iload_n 1, 1) := by decide +kernel
