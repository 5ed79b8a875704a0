theorem d_L_law_821 : decode code 821 = .ok (.laload, 1) := by decide +kernel
theorem d_L_law_822 : decode code 822 = .ok (.iload 6, 2) := by decide +kernel
theorem d_L_law_824 : decode code 824 = .ok (.i2l, 1) := by decide +kernel
theorem d_L_law_825 : decode code 825 = .ok (.lcmp, 1) := by decide +kernel
theorem d_L_law_826 : decode code 826 = .ok (.ifCond .eq 5, 3) := by decide +kernel
theorem d_L_law_831 : decode code 831 = .ok (.goto 3, 3) := by decide +kernel
theorem d_L_parent_12 : decode method_15_code 12 = .ok (.astore_n 3, 1) := by decide +kernel
theorem d_L_parent_13 : decode method_15_code 13 = .ok (.iconst 1, 1) := by decide +kernel
theorem d_L_parent_14 : decode method_15_code 14 = .ok (.ireturn, 1) := by decide +kernel
theorem d_M_parent_13 : decode prog_6_method_53_code 13 = .ok (.iconst 1, 1) := by decide +kernel
theorem d_M_parent_14 : decode prog_6_method_53_code 14 = .ok (.goto 4, 3) := by decide +kernel
theorem d_M_parent_37 : decode prog_6_method_53_code 37 = .ok (.iconst 0, 1) := by decide +kernel
