theorem d_M_wipe_12 : decode prog_6_method_5_code 12 = .ok (.putfield 89, 3) := by decide +kernel
theorem d_M_wipe_15 : decode prog_6_method_5_code 15 = .ok (.iload_n 1, 1) := by decide +kernel
theorem d_M_wipe_16 : decode prog_6_method_5_code 16 = .ok (.ireturn, 1) := by decide +kernel
