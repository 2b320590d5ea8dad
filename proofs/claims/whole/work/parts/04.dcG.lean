theorem dc_G_signum_0 : decode bc_G_signum 0 = .ok (.iload_n 0, 1) := by decide +kernel
theorem dc_G_signum_1 : decode bc_G_signum 1 = .ok (.bipush 31, 2) := by decide +kernel
theorem dc_G_signum_3 : decode bc_G_signum 3 = .ok (.ishr, 1) := by decide +kernel
theorem dc_G_signum_4 : decode bc_G_signum 4 = .ok (.iload_n 0, 1) := by decide +kernel
theorem dc_G_signum_5 : decode bc_G_signum 5 = .ok (.ineg, 1) := by decide +kernel
theorem dc_G_signum_6 : decode bc_G_signum 6 = .ok (.bipush 31, 2) := by decide +kernel
theorem dc_G_signum_8 : decode bc_G_signum 8 = .ok (.iushr, 1) := by decide +kernel
theorem dc_G_signum_9 : decode bc_G_signum 9 = .ok (.ior, 1) := by decide +kernel
theorem dc_G_signum_10 : decode bc_G_signum 10 = .ok (.ireturn, 1) := by decide +kernel
