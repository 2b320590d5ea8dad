theorem dc_N_init_0 : decode bc_N_init 0 = .ok (.aload_n 0, 1) := by decide +kernel
theorem dc_N_init_1 : decode bc_N_init 1 = .ok (.invokespecial 1, 3) := by decide +kernel
theorem dc_N_init_4 : decode bc_N_init 4 = .ok (.aload_n 0, 1) := by decide +kernel
theorem dc_N_init_5 : decode bc_N_init 5 = .ok (.iload_n 1, 1) := by decide +kernel
theorem dc_N_init_6 : decode bc_N_init 6 = .ok (.newarray .int, 2) := by decide +kernel
theorem dc_N_init_8 : decode bc_N_init 8 = .ok (.putfield 7, 3) := by decide +kernel
theorem dc_N_init_11 : decode bc_N_init 11 = .ok (.aload_n 0, 1) := by decide +kernel
theorem dc_N_init_12 : decode bc_N_init 12 = .ok (.iload_n 1, 1) := by decide +kernel
theorem dc_N_init_13 : decode bc_N_init 13 = .ok (.newarray .int, 2) := by decide +kernel
theorem dc_N_init_15 : decode bc_N_init 15 = .ok (.putfield 13, 3) := by decide +kernel
theorem dc_N_init_18 : decode bc_N_init 18 = .ok (.return_, 1) := by decide +kernel
theorem dc_N_clear_0 : decode bc_N_clear 0 = .ok (.aload_n 0, 1) := by decide +kernel
theorem dc_N_clear_1 : decode bc_N_clear 1 = .ok (.iconst 0, 1) := by decide +kernel
theorem dc_N_clear_2 : decode bc_N_clear 2 = .ok (.putfield 16, 3) := by decide +kernel
theorem dc_N_clear_5 : decode bc_N_clear 5 = .ok (.return_, 1) := by decide +kernel
theorem dc_N_append_0 : decode bc_N_append 0 = .ok (.aload_n 0, 1) := by decide +kernel
theorem dc_N_append_1 : decode bc_N_append 1 = .ok (.aload_n 0, 1) := by decide +kernel
theorem dc_N_append_2 : decode bc_N_append 2 = .ok (.getfield 16, 3) := by decide +kernel
theorem dc_N_append_5 : decode bc_N_append 5 = .ok (.iload_n 1, 1) := by decide +kernel
theorem dc_N_append_6 : decode bc_N_append 6 = .ok (.iload_n 2, 1) := by decide +kernel
theorem dc_N_append_7 : decode bc_N_append 7 = .ok (.invokevirtual 20, 3) := by decide +kernel
theorem dc_N_append_10 : decode bc_N_append 10 = .ok (.aload_n 0, 1) := by decide +kernel
theorem dc_N_append_11 : decode bc_N_append 11 = .ok (.dup, 1) := by decide +kernel
theorem dc_N_append_12 : decode bc_N_append 12 = .ok (.getfield 16, 3) := by decide +kernel
theorem dc_N_append_15 : decode bc_N_append 15 = .ok (.iconst 1, 1) := by decide +kernel
theorem dc_N_append_16 : decode bc_N_append 16 = .ok (.iadd, 1) := by decide +kernel
theorem dc_N_append_17 : decode bc_N_append 17 = .ok (.putfield 16, 3) := by decide +kernel
theorem dc_N_append_20 : decode bc_N_append 20 = .ok (.aload_n 0, 1) := by decide +kernel
theorem dc_N_append_21 : decode bc_N_append 21 = .ok (.getfield 16, 3) := by decide +kernel
theorem dc_N_append_24 : decode bc_N_append 24 = .ok (.ireturn, 1) := by decide +kernel
theorem dc_N_put_0 : decode bc_N_put 0 = .ok (.aload_n 0, 1) := by decide +kernel
theorem dc_N_put_1 : decode bc_N_put 1 = .ok (.getfield 7, 3) := by decide +kernel
theorem dc_N_put_4 : decode bc_N_put 4 = .ok (.iload_n 1, 1) := by decide +kernel
theorem dc_N_put_5 : decode bc_N_put 5 = .ok (.iload_n 2, 1) := by decide +kernel
theorem dc_N_put_6 : decode bc_N_put 6 = .ok (.iastore, 1) := by decide +kernel
theorem dc_N_put_7 : decode bc_N_put 7 = .ok (.aload_n 0, 1) := by decide +kernel
theorem dc_N_put_8 : decode bc_N_put 8 = .ok (.getfield 13, 3) := by decide +kernel
theorem dc_N_put_11 : decode bc_N_put 11 = .ok (.iload_n 1, 1) := by decide +kernel
theorem dc_N_put_12 : decode bc_N_put 12 = .ok (.iload_n 3, 1) := by decide +kernel
theorem dc_N_put_13 : decode bc_N_put 13 = .ok (.iastore, 1) := by decide +kernel
theorem dc_N_put_14 : decode bc_N_put 14 = .ok (.return_, 1) := by decide +kernel
theorem dc_N_steps_0 : decode bc_N_steps 0 = .ok (.aload_n 0, 1) := by decide +kernel
theorem dc_N_steps_1 : decode bc_N_steps 1 = .ok (.getfield 16, 3) := by decide +kernel
theorem dc_N_steps_4 : decode bc_N_steps 4 = .ok (.iconst 1, 1) := by decide +kernel
theorem dc_N_steps_5 : decode bc_N_steps 5 = .ok (.isub, 1) := by decide +kernel
theorem dc_N_steps_6 : decode bc_N_steps 6 = .ok (.iconst 0, 1) := by decide +kernel
theorem dc_N_steps_7 : decode bc_N_steps 7 = .ok (.invokestatic 24, 3) := by decide +kernel
theorem dc_N_steps_10 : decode bc_N_steps 10 = .ok (.ireturn, 1) := by decide +kernel
theorem dc_N_stepBehind_0 : decode bc_N_stepBehind 0 = .ok (.aload_n 0, 1) := by decide +kernel
theorem dc_N_stepBehind_1 : decode bc_N_stepBehind 1 = .ok (.getfield 7, 3) := by decide +kernel
theorem dc_N_stepBehind_4 : decode bc_N_stepBehind 4 = .ok (.iload_n 1, 1) := by decide +kernel
theorem dc_N_stepBehind_5 : decode bc_N_stepBehind 5 = .ok (.iconst 1, 1) := by decide +kernel
theorem dc_N_stepBehind_6 : decode bc_N_stepBehind 6 = .ok (.iadd, 1) := by decide +kernel
theorem dc_N_stepBehind_7 : decode bc_N_stepBehind 7 = .ok (.iaload, 1) := by decide +kernel
theorem dc_N_stepBehind_8 : decode bc_N_stepBehind 8 = .ok (.aload_n 0, 1) := by decide +kernel
theorem dc_N_stepBehind_9 : decode bc_N_stepBehind 9 = .ok (.getfield 7, 3) := by decide +kernel
theorem dc_N_stepBehind_12 : decode bc_N_stepBehind 12 = .ok (.iload_n 1, 1) := by decide +kernel
theorem dc_N_stepBehind_13 : decode bc_N_stepBehind 13 = .ok (.iaload, 1) := by decide +kernel
theorem dc_N_stepBehind_14 : decode bc_N_stepBehind 14 = .ok (.isub, 1) := by decide +kernel
theorem dc_N_stepBehind_15 : decode bc_N_stepBehind 15 = .ok (.ireturn, 1) := by decide +kernel
theorem dc_N_placesOfPitch_0 : decode bc_N_placesOfPitch 0 = .ok (.iconst 0, 1) := by decide +kernel
theorem dc_N_placesOfPitch_1 : decode bc_N_placesOfPitch 1 = .ok (.istore_n 2, 1) := by decide +kernel
theorem dc_N_placesOfPitch_2 : decode bc_N_placesOfPitch 2 = .ok (.iconst 0, 1) := by decide +kernel
theorem dc_N_placesOfPitch_3 : decode bc_N_placesOfPitch 3 = .ok (.istore_n 3, 1) := by decide +kernel
theorem dc_N_placesOfPitch_4 : decode bc_N_placesOfPitch 4 = .ok (.iload_n 3, 1) := by decide +kernel
theorem dc_N_placesOfPitch_5 : decode bc_N_placesOfPitch 5 = .ok (.aload_n 0, 1) := by decide +kernel
theorem dc_N_placesOfPitch_6 : decode bc_N_placesOfPitch 6 = .ok (.getfield 16, 3) := by decide +kernel
theorem dc_N_placesOfPitch_9 : decode bc_N_placesOfPitch 9 = .ok (.if_icmp .ge 25, 3) := by decide +kernel
theorem dc_N_placesOfPitch_12 : decode bc_N_placesOfPitch 12 = .ok (.aload_n 0, 1) := by decide +kernel
theorem dc_N_placesOfPitch_13 : decode bc_N_placesOfPitch 13 = .ok (.getfield 7, 3) := by decide +kernel
theorem dc_N_placesOfPitch_16 : decode bc_N_placesOfPitch 16 = .ok (.iload_n 3, 1) := by decide +kernel
theorem dc_N_placesOfPitch_17 : decode bc_N_placesOfPitch 17 = .ok (.iaload, 1) := by decide +kernel
theorem dc_N_placesOfPitch_18 : decode bc_N_placesOfPitch 18 = .ok (.iload_n 1, 1) := by decide +kernel
theorem dc_N_placesOfPitch_19 : decode bc_N_placesOfPitch 19 = .ok (.if_icmp .ne 9, 3) := by decide +kernel
theorem dc_N_placesOfPitch_22 : decode bc_N_placesOfPitch 22 = .ok (.iload_n 2, 1) := by decide +kernel
theorem dc_N_placesOfPitch_23 : decode bc_N_placesOfPitch 23 = .ok (.iconst 1, 1) := by decide +kernel
theorem dc_N_placesOfPitch_24 : decode bc_N_placesOfPitch 24 = .ok (.iload_n 3, 1) := by decide +kernel
theorem dc_N_placesOfPitch_25 : decode bc_N_placesOfPitch 25 = .ok (.ishl, 1) := by decide +kernel
theorem dc_N_placesOfPitch_26 : decode bc_N_placesOfPitch 26 = .ok (.ior, 1) := by decide +kernel
theorem dc_N_placesOfPitch_27 : decode bc_N_placesOfPitch 27 = .ok (.istore_n 2, 1) := by decide +kernel
theorem dc_N_placesOfPitch_28 : decode bc_N_placesOfPitch 28 = .ok (.iinc 3 1, 3) := by decide +kernel
theorem dc_N_placesOfPitch_31 : decode bc_N_placesOfPitch 31 = .ok (.goto (-27), 3) := by decide +kernel
theorem dc_N_placesOfPitch_34 : decode bc_N_placesOfPitch 34 = .ok (.iload_n 2, 1) := by decide +kernel
theorem dc_N_placesOfPitch_35 : decode bc_N_placesOfPitch 35 = .ok (.ireturn, 1) := by decide +kernel
