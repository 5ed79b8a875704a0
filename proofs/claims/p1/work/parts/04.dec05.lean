theorem d_M_parent_38 : decode prog_6_method_53_code 38 = .ok (.ireturn, 1) := by decide +kernel
theorem d_L_law_801 : decode code 801 = .ok (.istore 6, 2) := by decide +kernel
theorem d_L_law_803 : decode code 803 = .ok (.aload_n 2, 1) := by decide +kernel
theorem d_L_law_804 : decode code 804 = .ok (.invokevirtual 81, 3) := by decide +kernel
theorem d_L_law_807 : decode code 807 = .ok (.iload 5, 2) := by decide +kernel
theorem d_L_law_809 : decode code 809 = .ok (.if_icmp .eq 5, 3) := by decide +kernel
theorem d_L_law_814 : decode code 814 = .ok (.iload 5, 2) := by decide +kernel
theorem d_L_law_816 : decode code 816 = .ok (.ifCond .ne 15, 3) := by decide +kernel
theorem d_L_law_819 : decode code 819 = .ok (.aload_n 3, 1) := by decide +kernel
theorem d_L_law_820 : decode code 820 = .ok (.iconst 0, 1) := by decide +kernel
theorem d_L_law_821 : decode code 821 = .ok (.laload, 1) := by decide +kernel
theorem d_L_law_822 : decode code 822 = .ok (.iload 6, 2) := by decide +kernel
theorem d_L_law_824 : decode code 824 = .ok (.i2l, 1) := by decide +kernel
theorem d_L_law_825 : decode code 825 = .ok (.lcmp, 1) := by decide +kernel
theorem d_L_law_826 : decode code 826 = .ok (.ifCond .eq 5, 3) := by decide +kernel
theorem d_L_law_831 : decode code 831 = .ok (.goto 3, 3) := by decide +kernel
theorem d_L_parent_12 : decode method_15_code 12 = .ok (.astore_n 3, 1) := by decide +kernel
theorem d_L_parent_13 : decode method_15_code 13 = .ok (.iconst 1, 1) := by decide +kernel
theorem d_L_parent_14 : decode method_15_code 14 = .ok (.ireturn, 1) := by decide +kernel
theorem d_M_parent_13 : decode prog_6_method_53_code 13 = .ok (.iconst 1, 1) := by decide +kernel
theorem d_M_parent_14 : decode prog_6_method_53_code 14 = .ok (.goto 4, 3) := by decide +kernel
theorem d_M_parent_37 : decode prog_6_method_53_code 37 = .ok (.iconst 0, 1) := by decide +kernel
theorem d_L_law_32 : decode code 32 = .ok (.aload_n 0, 1) := by decide +kernel
theorem d_L_law_33 : decode code 33 = .ok (.iload 4, 2) := by decide +kernel
theorem d_L_law_35 : decode code 35 = .ok (.iaload, 1) := by decide +kernel
theorem d_L_law_36 : decode code 36 = .ok (.bipush 31, 2) := by decide +kernel
theorem d_L_law_38 : decode code 38 = .ok (.iand, 1) := by decide +kernel
theorem d_L_law_39 : decode code 39 = .ok (.tableswitch 795 0 16 #[81, 108, 121, 165, 221, 285, 309, 322, 378, 422, 466, 510, 546, 559, 615, 683, 739], 81) := by decide +kernel
