theorem dc_U_init_0 : decode bc_U_init 0 = .ok (.aload_n 0, 1) := by decide +kernel
theorem dc_U_init_1 : decode bc_U_init 1 = .ok (.invokespecial 3, 3) := by decide +kernel
theorem dc_U_init_4 : decode bc_U_init 4 = .ok (.aload_n 0, 1) := by decide +kernel
theorem dc_U_init_5 : decode bc_U_init 5 = .ok (.new 9, 3) := by decide +kernel
theorem dc_U_init_8 : decode bc_U_init 8 = .ok (.dup, 1) := by decide +kernel
theorem dc_U_init_9 : decode bc_U_init 9 = .ok (.bipush 20, 2) := by decide +kernel
theorem dc_U_init_11 : decode bc_U_init 11 = .ok (.invokespecial 11, 3) := by decide +kernel
theorem dc_U_init_14 : decode bc_U_init 14 = .ok (.putfield 14, 3) := by decide +kernel
theorem dc_U_init_17 : decode bc_U_init 17 = .ok (.aload_n 0, 1) := by decide +kernel
theorem dc_U_init_18 : decode bc_U_init 18 = .ok (.bipush 8, 2) := by decide +kernel
theorem dc_U_init_20 : decode bc_U_init 20 = .ok (.newarray .int, 2) := by decide +kernel
theorem dc_U_init_22 : decode bc_U_init 22 = .ok (.putfield 20, 3) := by decide +kernel
theorem dc_U_init_25 : decode bc_U_init 25 = .ok (.aload_n 0, 1) := by decide +kernel
theorem dc_U_init_26 : decode bc_U_init 26 = .ok (.new 9, 3) := by decide +kernel
theorem dc_U_init_29 : decode bc_U_init 29 = .ok (.dup, 1) := by decide +kernel
theorem dc_U_init_30 : decode bc_U_init 30 = .ok (.bipush 8, 2) := by decide +kernel
theorem dc_U_init_32 : decode bc_U_init 32 = .ok (.invokespecial 11, 3) := by decide +kernel
theorem dc_U_init_35 : decode bc_U_init 35 = .ok (.putfield 24, 3) := by decide +kernel
theorem dc_U_init_38 : decode bc_U_init 38 = .ok (.return_, 1) := by decide +kernel
theorem dc_U_begin_0 : decode bc_U_begin 0 = .ok (.aload_n 0, 1) := by decide +kernel
theorem dc_U_begin_1 : decode bc_U_begin 1 = .ok (.getfield 14, 3) := by decide +kernel
theorem dc_U_begin_4 : decode bc_U_begin 4 = .ok (.invokevirtual 27, 3) := by decide +kernel
theorem dc_U_begin_7 : decode bc_U_begin 7 = .ok (.aload_n 0, 1) := by decide +kernel
theorem dc_U_begin_8 : decode bc_U_begin 8 = .ok (.iconst 1, 1) := by decide +kernel
theorem dc_U_begin_9 : decode bc_U_begin 9 = .ok (.putfield 30, 3) := by decide +kernel
theorem dc_U_begin_12 : decode bc_U_begin 12 = .ok (.aload_n 0, 1) := by decide +kernel
theorem dc_U_begin_13 : decode bc_U_begin 13 = .ok (.iconst 0, 1) := by decide +kernel
theorem dc_U_begin_14 : decode bc_U_begin 14 = .ok (.putfield 34, 3) := by decide +kernel
theorem dc_U_begin_17 : decode bc_U_begin 17 = .ok (.aload_n 0, 1) := by decide +kernel
theorem dc_U_begin_18 : decode bc_U_begin 18 = .ok (.iconst 0, 1) := by decide +kernel
theorem dc_U_begin_19 : decode bc_U_begin 19 = .ok (.putfield 37, 3) := by decide +kernel
theorem dc_U_begin_22 : decode bc_U_begin 22 = .ok (.return_, 1) := by decide +kernel
theorem dc_U_end_0 : decode bc_U_end 0 = .ok (.aload_n 0, 1) := by decide +kernel
theorem dc_U_end_1 : decode bc_U_end 1 = .ok (.iconst 0, 1) := by decide +kernel
theorem dc_U_end_2 : decode bc_U_end 2 = .ok (.putfield 30, 3) := by decide +kernel
theorem dc_U_end_5 : decode bc_U_end 5 = .ok (.aload_n 0, 1) := by decide +kernel
theorem dc_U_end_6 : decode bc_U_end 6 = .ok (.iconst 0, 1) := by decide +kernel
theorem dc_U_end_7 : decode bc_U_end 7 = .ok (.putfield 34, 3) := by decide +kernel
theorem dc_U_end_10 : decode bc_U_end 10 = .ok (.return_, 1) := by decide +kernel
theorem dc_U_replace_0 : decode bc_U_replace 0 = .ok (.aload_n 0, 1) := by decide +kernel
theorem dc_U_replace_1 : decode bc_U_replace 1 = .ok (.getfield 20, 3) := by decide +kernel
theorem dc_U_replace_4 : decode bc_U_replace 4 = .ok (.aload_n 0, 1) := by decide +kernel
theorem dc_U_replace_5 : decode bc_U_replace 5 = .ok (.getfield 37, 3) := by decide +kernel
theorem dc_U_replace_8 : decode bc_U_replace 8 = .ok (.iload_n 1, 1) := by decide +kernel
theorem dc_U_replace_9 : decode bc_U_replace 9 = .ok (.iastore, 1) := by decide +kernel
theorem dc_U_replace_10 : decode bc_U_replace 10 = .ok (.aload_n 0, 1) := by decide +kernel
theorem dc_U_replace_11 : decode bc_U_replace 11 = .ok (.getfield 24, 3) := by decide +kernel
theorem dc_U_replace_14 : decode bc_U_replace 14 = .ok (.aload_n 0, 1) := by decide +kernel
theorem dc_U_replace_15 : decode bc_U_replace 15 = .ok (.getfield 37, 3) := by decide +kernel
theorem dc_U_replace_18 : decode bc_U_replace 18 = .ok (.aload_n 0, 1) := by decide +kernel
theorem dc_U_replace_19 : decode bc_U_replace 19 = .ok (.getfield 14, 3) := by decide +kernel
theorem dc_U_replace_22 : decode bc_U_replace 22 = .ok (.getfield 41, 3) := by decide +kernel
theorem dc_U_replace_25 : decode bc_U_replace 25 = .ok (.iload_n 1, 1) := by decide +kernel
theorem dc_U_replace_26 : decode bc_U_replace 26 = .ok (.iaload, 1) := by decide +kernel
theorem dc_U_replace_27 : decode bc_U_replace 27 = .ok (.aload_n 0, 1) := by decide +kernel
theorem dc_U_replace_28 : decode bc_U_replace 28 = .ok (.getfield 14, 3) := by decide +kernel
theorem dc_U_replace_31 : decode bc_U_replace 31 = .ok (.getfield 44, 3) := by decide +kernel
theorem dc_U_replace_34 : decode bc_U_replace 34 = .ok (.iload_n 1, 1) := by decide +kernel
theorem dc_U_replace_35 : decode bc_U_replace 35 = .ok (.iaload, 1) := by decide +kernel
theorem dc_U_replace_36 : decode bc_U_replace 36 = .ok (.invokevirtual 47, 3) := by decide +kernel
theorem dc_U_replace_39 : decode bc_U_replace 39 = .ok (.aload_n 0, 1) := by decide +kernel
theorem dc_U_replace_40 : decode bc_U_replace 40 = .ok (.getfield 14, 3) := by decide +kernel
theorem dc_U_replace_43 : decode bc_U_replace 43 = .ok (.iload_n 1, 1) := by decide +kernel
theorem dc_U_replace_44 : decode bc_U_replace 44 = .ok (.iload_n 2, 1) := by decide +kernel
theorem dc_U_replace_45 : decode bc_U_replace 45 = .ok (.iload_n 3, 1) := by decide +kernel
theorem dc_U_replace_46 : decode bc_U_replace 46 = .ok (.invokevirtual 47, 3) := by decide +kernel
theorem dc_U_replace_49 : decode bc_U_replace 49 = .ok (.aload_n 0, 1) := by decide +kernel
theorem dc_U_replace_50 : decode bc_U_replace 50 = .ok (.dup, 1) := by decide +kernel
theorem dc_U_replace_51 : decode bc_U_replace 51 = .ok (.getfield 37, 3) := by decide +kernel
theorem dc_U_replace_54 : decode bc_U_replace 54 = .ok (.iconst 1, 1) := by decide +kernel
theorem dc_U_replace_55 : decode bc_U_replace 55 = .ok (.iadd, 1) := by decide +kernel
theorem dc_U_replace_56 : decode bc_U_replace 56 = .ok (.putfield 37, 3) := by decide +kernel
theorem dc_U_replace_59 : decode bc_U_replace 59 = .ok (.aload_n 0, 1) := by decide +kernel
theorem dc_U_replace_60 : decode bc_U_replace 60 = .ok (.getfield 37, 3) := by decide +kernel
theorem dc_U_replace_63 : decode bc_U_replace 63 = .ok (.ireturn, 1) := by decide +kernel
theorem dc_U_goBack_0 : decode bc_U_goBack 0 = .ok (.aload_n 0, 1) := by decide +kernel
theorem dc_U_goBack_1 : decode bc_U_goBack 1 = .ok (.getfield 37, 3) := by decide +kernel
theorem dc_U_goBack_4 : decode bc_U_goBack 4 = .ok (.iconst 1, 1) := by decide +kernel
theorem dc_U_goBack_5 : decode bc_U_goBack 5 = .ok (.isub, 1) := by decide +kernel
theorem dc_U_goBack_6 : decode bc_U_goBack 6 = .ok (.istore_n 2, 1) := by decide +kernel
theorem dc_U_goBack_7 : decode bc_U_goBack 7 = .ok (.iload_n 2, 1) := by decide +kernel
theorem dc_U_goBack_8 : decode bc_U_goBack 8 = .ok (.iload_n 1, 1) := by decide +kernel
theorem dc_U_goBack_9 : decode bc_U_goBack 9 = .ok (.if_icmp .lt 40, 3) := by decide +kernel
theorem dc_U_goBack_12 : decode bc_U_goBack 12 = .ok (.aload_n 0, 1) := by decide +kernel
theorem dc_U_goBack_13 : decode bc_U_goBack 13 = .ok (.getfield 14, 3) := by decide +kernel
theorem dc_U_goBack_16 : decode bc_U_goBack 16 = .ok (.aload_n 0, 1) := by decide +kernel
theorem dc_U_goBack_17 : decode bc_U_goBack 17 = .ok (.getfield 20, 3) := by decide +kernel
theorem dc_U_goBack_20 : decode bc_U_goBack 20 = .ok (.iload_n 2, 1) := by decide +kernel
theorem dc_U_goBack_21 : decode bc_U_goBack 21 = .ok (.iaload, 1) := by decide +kernel
theorem dc_U_goBack_22 : decode bc_U_goBack 22 = .ok (.aload_n 0, 1) := by decide +kernel
theorem dc_U_goBack_23 : decode bc_U_goBack 23 = .ok (.getfield 24, 3) := by decide +kernel
theorem dc_U_goBack_26 : decode bc_U_goBack 26 = .ok (.getfield 41, 3) := by decide +kernel
theorem dc_U_goBack_29 : decode bc_U_goBack 29 = .ok (.iload_n 2, 1) := by decide +kernel
theorem dc_U_goBack_30 : decode bc_U_goBack 30 = .ok (.iaload, 1) := by decide +kernel
theorem dc_U_goBack_31 : decode bc_U_goBack 31 = .ok (.aload_n 0, 1) := by decide +kernel
theorem dc_U_goBack_32 : decode bc_U_goBack 32 = .ok (.getfield 24, 3) := by decide +kernel
theorem dc_U_goBack_35 : decode bc_U_goBack 35 = .ok (.getfield 44, 3) := by decide +kernel
theorem dc_U_goBack_38 : decode bc_U_goBack 38 = .ok (.iload_n 2, 1) := by decide +kernel
theorem dc_U_goBack_39 : decode bc_U_goBack 39 = .ok (.iaload, 1) := by decide +kernel
theorem dc_U_goBack_40 : decode bc_U_goBack 40 = .ok (.invokevirtual 47, 3) := by decide +kernel
theorem dc_U_goBack_43 : decode bc_U_goBack 43 = .ok (.iinc 2 (-1), 3) := by decide +kernel
theorem dc_U_goBack_46 : decode bc_U_goBack 46 = .ok (.goto (-39), 3) := by decide +kernel
theorem dc_U_goBack_49 : decode bc_U_goBack 49 = .ok (.aload_n 0, 1) := by decide +kernel
theorem dc_U_goBack_50 : decode bc_U_goBack 50 = .ok (.iload_n 1, 1) := by decide +kernel
theorem dc_U_goBack_51 : decode bc_U_goBack 51 = .ok (.putfield 37, 3) := by decide +kernel
theorem dc_U_goBack_54 : decode bc_U_goBack 54 = .ok (.return_, 1) := by decide +kernel
theorem dc_U_pitchIn_0 : decode bc_U_pitchIn 0 = .ok (.aload_n 0, 1) := by decide +kernel
theorem dc_U_pitchIn_1 : decode bc_U_pitchIn 1 = .ok (.iload_n 1, 1) := by decide +kernel
theorem dc_U_pitchIn_2 : decode bc_U_pitchIn 2 = .ok (.iload_n 2, 1) := by decide +kernel
theorem dc_U_pitchIn_3 : decode bc_U_pitchIn 3 = .ok (.invokevirtual 51, 3) := by decide +kernel
theorem dc_U_pitchIn_6 : decode bc_U_pitchIn 6 = .ok (.istore_n 3, 1) := by decide +kernel
theorem dc_U_pitchIn_7 : decode bc_U_pitchIn 7 = .ok (.iload_n 3, 1) := by decide +kernel
theorem dc_U_pitchIn_8 : decode bc_U_pitchIn 8 = .ok (.iconst (-1), 1) := by decide +kernel
theorem dc_U_pitchIn_9 : decode bc_U_pitchIn 9 = .ok (.if_icmp .ne 15, 3) := by decide +kernel
theorem dc_U_pitchIn_12 : decode bc_U_pitchIn 12 = .ok (.aload_n 0, 1) := by decide +kernel
theorem dc_U_pitchIn_13 : decode bc_U_pitchIn 13 = .ok (.getfield 14, 3) := by decide +kernel
theorem dc_U_pitchIn_16 : decode bc_U_pitchIn 16 = .ok (.getfield 41, 3) := by decide +kernel
theorem dc_U_pitchIn_19 : decode bc_U_pitchIn 19 = .ok (.iload_n 2, 1) := by decide +kernel
theorem dc_U_pitchIn_20 : decode bc_U_pitchIn 20 = .ok (.iaload, 1) := by decide +kernel
theorem dc_U_pitchIn_21 : decode bc_U_pitchIn 21 = .ok (.goto 12, 3) := by decide +kernel
theorem dc_U_pitchIn_24 : decode bc_U_pitchIn 24 = .ok (.aload_n 0, 1) := by decide +kernel
theorem dc_U_pitchIn_25 : decode bc_U_pitchIn 25 = .ok (.getfield 24, 3) := by decide +kernel
theorem dc_U_pitchIn_28 : decode bc_U_pitchIn 28 = .ok (.getfield 41, 3) := by decide +kernel
theorem dc_U_pitchIn_31 : decode bc_U_pitchIn 31 = .ok (.iload_n 3, 1) := by decide +kernel
theorem dc_U_pitchIn_32 : decode bc_U_pitchIn 32 = .ok (.iaload, 1) := by decide +kernel
theorem dc_U_pitchIn_33 : decode bc_U_pitchIn 33 = .ok (.ireturn, 1) := by decide +kernel
theorem dc_U_replacedAfter_0 : decode bc_U_replacedAfter 0 = .ok (.iload_n 1, 1) := by decide +kernel
theorem dc_U_replacedAfter_1 : decode bc_U_replacedAfter 1 = .ok (.istore_n 3, 1) := by decide +kernel
theorem dc_U_replacedAfter_2 : decode bc_U_replacedAfter 2 = .ok (.iload_n 3, 1) := by decide +kernel
theorem dc_U_replacedAfter_3 : decode bc_U_replacedAfter 3 = .ok (.aload_n 0, 1) := by decide +kernel
theorem dc_U_replacedAfter_4 : decode bc_U_replacedAfter 4 = .ok (.getfield 37, 3) := by decide +kernel
theorem dc_U_replacedAfter_7 : decode bc_U_replacedAfter 7 = .ok (.if_icmp .ge 21, 3) := by decide +kernel
theorem dc_U_replacedAfter_10 : decode bc_U_replacedAfter 10 = .ok (.aload_n 0, 1) := by decide +kernel
theorem dc_U_replacedAfter_11 : decode bc_U_replacedAfter 11 = .ok (.getfield 20, 3) := by decide +kernel
theorem dc_U_replacedAfter_14 : decode bc_U_replacedAfter 14 = .ok (.iload_n 3, 1) := by decide +kernel
theorem dc_U_replacedAfter_15 : decode bc_U_replacedAfter 15 = .ok (.iaload, 1) := by decide +kernel
theorem dc_U_replacedAfter_16 : decode bc_U_replacedAfter 16 = .ok (.iload_n 2, 1) := by decide +kernel
theorem dc_U_replacedAfter_17 : decode bc_U_replacedAfter 17 = .ok (.if_icmp .ne 5, 3) := by decide +kernel
theorem dc_U_replacedAfter_20 : decode bc_U_replacedAfter 20 = .ok (.iload_n 3, 1) := by decide +kernel
theorem dc_U_replacedAfter_21 : decode bc_U_replacedAfter 21 = .ok (.ireturn, 1) := by decide +kernel
theorem dc_U_replacedAfter_22 : decode bc_U_replacedAfter 22 = .ok (.iinc 3 1, 3) := by decide +kernel
theorem dc_U_replacedAfter_25 : decode bc_U_replacedAfter 25 = .ok (.goto (-23), 3) := by decide +kernel
theorem dc_U_replacedAfter_28 : decode bc_U_replacedAfter 28 = .ok (.iconst (-1), 1) := by decide +kernel
theorem dc_U_replacedAfter_29 : decode bc_U_replacedAfter 29 = .ok (.ireturn, 1) := by decide +kernel
theorem dc_U_lengthIn_0 : decode bc_U_lengthIn 0 = .ok (.aload_n 0, 1) := by decide +kernel
theorem dc_U_lengthIn_1 : decode bc_U_lengthIn 1 = .ok (.iload_n 1, 1) := by decide +kernel
theorem dc_U_lengthIn_2 : decode bc_U_lengthIn 2 = .ok (.iload_n 2, 1) := by decide +kernel
theorem dc_U_lengthIn_3 : decode bc_U_lengthIn 3 = .ok (.invokevirtual 51, 3) := by decide +kernel
theorem dc_U_lengthIn_6 : decode bc_U_lengthIn 6 = .ok (.istore_n 3, 1) := by decide +kernel
theorem dc_U_lengthIn_7 : decode bc_U_lengthIn 7 = .ok (.iload_n 3, 1) := by decide +kernel
theorem dc_U_lengthIn_8 : decode bc_U_lengthIn 8 = .ok (.iconst (-1), 1) := by decide +kernel
theorem dc_U_lengthIn_9 : decode bc_U_lengthIn 9 = .ok (.if_icmp .ne 15, 3) := by decide +kernel
theorem dc_U_lengthIn_12 : decode bc_U_lengthIn 12 = .ok (.aload_n 0, 1) := by decide +kernel
theorem dc_U_lengthIn_13 : decode bc_U_lengthIn 13 = .ok (.getfield 14, 3) := by decide +kernel
theorem dc_U_lengthIn_16 : decode bc_U_lengthIn 16 = .ok (.getfield 44, 3) := by decide +kernel
theorem dc_U_lengthIn_19 : decode bc_U_lengthIn 19 = .ok (.iload_n 2, 1) := by decide +kernel
theorem dc_U_lengthIn_20 : decode bc_U_lengthIn 20 = .ok (.iaload, 1) := by decide +kernel
theorem dc_U_lengthIn_21 : decode bc_U_lengthIn 21 = .ok (.goto 12, 3) := by decide +kernel
theorem dc_U_lengthIn_24 : decode bc_U_lengthIn 24 = .ok (.aload_n 0, 1) := by decide +kernel
theorem dc_U_lengthIn_25 : decode bc_U_lengthIn 25 = .ok (.getfield 24, 3) := by decide +kernel
theorem dc_U_lengthIn_28 : decode bc_U_lengthIn 28 = .ok (.getfield 44, 3) := by decide +kernel
theorem dc_U_lengthIn_31 : decode bc_U_lengthIn 31 = .ok (.iload_n 3, 1) := by decide +kernel
theorem dc_U_lengthIn_32 : decode bc_U_lengthIn 32 = .ok (.iaload, 1) := by decide +kernel
theorem dc_U_lengthIn_33 : decode bc_U_lengthIn 33 = .ok (.ireturn, 1) := by decide +kernel
theorem dc_U_stepIn_0 : decode bc_U_stepIn 0 = .ok (.iload_n 2, 1) := by decide +kernel
theorem dc_U_stepIn_1 : decode bc_U_stepIn 1 = .ok (.iconst 1, 1) := by decide +kernel
theorem dc_U_stepIn_2 : decode bc_U_stepIn 2 = .ok (.iadd, 1) := by decide +kernel
theorem dc_U_stepIn_3 : decode bc_U_stepIn 3 = .ok (.aload_n 0, 1) := by decide +kernel
theorem dc_U_stepIn_4 : decode bc_U_stepIn 4 = .ok (.getfield 14, 3) := by decide +kernel
theorem dc_U_stepIn_7 : decode bc_U_stepIn 7 = .ok (.getfield 55, 3) := by decide +kernel
theorem dc_U_stepIn_10 : decode bc_U_stepIn 10 = .ok (.if_icmp .lt 5, 3) := by decide +kernel
theorem dc_U_stepIn_13 : decode bc_U_stepIn 13 = .ok (.iconst 0, 1) := by decide +kernel
theorem dc_U_stepIn_14 : decode bc_U_stepIn 14 = .ok (.ireturn, 1) := by decide +kernel
theorem dc_U_stepIn_15 : decode bc_U_stepIn 15 = .ok (.aload_n 0, 1) := by decide +kernel
theorem dc_U_stepIn_16 : decode bc_U_stepIn 16 = .ok (.iload_n 1, 1) := by decide +kernel
theorem dc_U_stepIn_17 : decode bc_U_stepIn 17 = .ok (.iload_n 2, 1) := by decide +kernel
theorem dc_U_stepIn_18 : decode bc_U_stepIn 18 = .ok (.iconst 1, 1) := by decide +kernel
theorem dc_U_stepIn_19 : decode bc_U_stepIn 19 = .ok (.iadd, 1) := by decide +kernel
theorem dc_U_stepIn_20 : decode bc_U_stepIn 20 = .ok (.invokevirtual 58, 3) := by decide +kernel
theorem dc_U_stepIn_23 : decode bc_U_stepIn 23 = .ok (.aload_n 0, 1) := by decide +kernel
theorem dc_U_stepIn_24 : decode bc_U_stepIn 24 = .ok (.iload_n 1, 1) := by decide +kernel
theorem dc_U_stepIn_25 : decode bc_U_stepIn 25 = .ok (.iload_n 2, 1) := by decide +kernel
theorem dc_U_stepIn_26 : decode bc_U_stepIn 26 = .ok (.invokevirtual 58, 3) := by decide +kernel
theorem dc_U_stepIn_29 : decode bc_U_stepIn 29 = .ok (.isub, 1) := by decide +kernel
theorem dc_U_stepIn_30 : decode bc_U_stepIn 30 = .ok (.ireturn, 1) := by decide +kernel
