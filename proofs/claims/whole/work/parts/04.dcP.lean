theorem dc_P_init_0 : decode bc_P_init 0 = .ok (.aload_n 0, 1) := by decide +kernel
theorem dc_P_init_1 : decode bc_P_init 1 = .ok (.invokespecial 1, 3) := by decide +kernel
theorem dc_P_init_4 : decode bc_P_init 4 = .ok (.return_, 1) := by decide +kernel
