theorem dc_F_init_0 : decode bc_F_init 0 = .ok (.aload_n 0, 1) := by decide +kernel
theorem dc_F_init_1 : decode bc_F_init 1 = .ok (.invokespecial 3, 3) := by decide +kernel
theorem dc_F_init_4 : decode bc_F_init 4 = .ok (.aload_n 0, 1) := by decide +kernel
theorem dc_F_init_5 : decode bc_F_init 5 = .ok (.bipush 30, 2) := by decide +kernel
theorem dc_F_init_7 : decode bc_F_init 7 = .ok (.anewarray 9, 3) := by decide +kernel
theorem dc_F_init_10 : decode bc_F_init 10 = .ok (.putfield 11, 3) := by decide +kernel
theorem dc_F_init_13 : decode bc_F_init 13 = .ok (.iconst 0, 1) := by decide +kernel
theorem dc_F_init_14 : decode bc_F_init 14 = .ok (.istore_n 1, 1) := by decide +kernel
theorem dc_F_init_15 : decode bc_F_init 15 = .ok (.iload_n 1, 1) := by decide +kernel
theorem dc_F_init_16 : decode bc_F_init 16 = .ok (.bipush 30, 2) := by decide +kernel
theorem dc_F_init_18 : decode bc_F_init 18 = .ok (.if_icmp .ge 22, 3) := by decide +kernel
theorem dc_F_init_21 : decode bc_F_init 21 = .ok (.aload_n 0, 1) := by decide +kernel
theorem dc_F_init_22 : decode bc_F_init 22 = .ok (.getfield 11, 3) := by decide +kernel
theorem dc_F_init_25 : decode bc_F_init 25 = .ok (.iload_n 1, 1) := by decide +kernel
theorem dc_F_init_26 : decode bc_F_init 26 = .ok (.new 9, 3) := by decide +kernel
theorem dc_F_init_29 : decode bc_F_init 29 = .ok (.dup, 1) := by decide +kernel
theorem dc_F_init_30 : decode bc_F_init 30 = .ok (.invokespecial 17, 3) := by decide +kernel
theorem dc_F_init_33 : decode bc_F_init 33 = .ok (.aastore, 1) := by decide +kernel
theorem dc_F_init_34 : decode bc_F_init 34 = .ok (.iinc 1 1, 3) := by decide +kernel
theorem dc_F_init_37 : decode bc_F_init 37 = .ok (.goto (-22), 3) := by decide +kernel
theorem dc_F_init_40 : decode bc_F_init 40 = .ok (.return_, 1) := by decide +kernel
theorem dc_F_begin_0 : decode bc_F_begin 0 = .ok (.aload_n 0, 1) := by decide +kernel
theorem dc_F_begin_1 : decode bc_F_begin 1 = .ok (.iload_n 1, 1) := by decide +kernel
theorem dc_F_begin_2 : decode bc_F_begin 2 = .ok (.putfield 18, 3) := by decide +kernel
theorem dc_F_begin_5 : decode bc_F_begin 5 = .ok (.aload_n 0, 1) := by decide +kernel
theorem dc_F_begin_6 : decode bc_F_begin 6 = .ok (.iconst 0, 1) := by decide +kernel
theorem dc_F_begin_7 : decode bc_F_begin 7 = .ok (.putfield 22, 3) := by decide +kernel
theorem dc_F_begin_10 : decode bc_F_begin 10 = .ok (.aload_n 0, 1) := by decide +kernel
theorem dc_F_begin_11 : decode bc_F_begin 11 = .ok (.iconst 0, 1) := by decide +kernel
theorem dc_F_begin_12 : decode bc_F_begin 12 = .ok (.putfield 25, 3) := by decide +kernel
theorem dc_F_begin_15 : decode bc_F_begin 15 = .ok (.return_, 1) := by decide +kernel
theorem dc_F_add_0 : decode bc_F_add 0 = .ok (.aload_n 0, 1) := by decide +kernel
theorem dc_F_add_1 : decode bc_F_add 1 = .ok (.dup, 1) := by decide +kernel
theorem dc_F_add_2 : decode bc_F_add 2 = .ok (.getfield 22, 3) := by decide +kernel
theorem dc_F_add_5 : decode bc_F_add 5 = .ok (.iconst 1, 1) := by decide +kernel
theorem dc_F_add_6 : decode bc_F_add 6 = .ok (.iadd, 1) := by decide +kernel
theorem dc_F_add_7 : decode bc_F_add 7 = .ok (.putfield 22, 3) := by decide +kernel
theorem dc_F_add_10 : decode bc_F_add 10 = .ok (.aload_n 0, 1) := by decide +kernel
theorem dc_F_add_11 : decode bc_F_add 11 = .ok (.iload_n 3, 1) := by decide +kernel
theorem dc_F_add_12 : decode bc_F_add 12 = .ok (.iload 5, 2) := by decide +kernel
theorem dc_F_add_14 : decode bc_F_add 14 = .ok (.invokevirtual 28, 3) := by decide +kernel
theorem dc_F_add_17 : decode bc_F_add 17 = .ok (.istore 6, 2) := by decide +kernel
theorem dc_F_add_19 : decode bc_F_add 19 = .ok (.iload 6, 2) := by decide +kernel
theorem dc_F_add_21 : decode bc_F_add 21 = .ok (.bipush 30, 2) := by decide +kernel
theorem dc_F_add_23 : decode bc_F_add 23 = .ok (.if_icmp .lt 4, 3) := by decide +kernel
theorem dc_F_add_26 : decode bc_F_add 26 = .ok (.return_, 1) := by decide +kernel
theorem dc_F_add_27 : decode bc_F_add 27 = .ok (.aload_n 0, 1) := by decide +kernel
theorem dc_F_add_28 : decode bc_F_add 28 = .ok (.iload 6, 2) := by decide +kernel
theorem dc_F_add_30 : decode bc_F_add 30 = .ok (.invokevirtual 32, 3) := by decide +kernel
theorem dc_F_add_33 : decode bc_F_add 33 = .ok (.astore 7, 2) := by decide +kernel
theorem dc_F_add_35 : decode bc_F_add 35 = .ok (.aload 7, 2) := by decide +kernel
theorem dc_F_add_37 : decode bc_F_add 37 = .ok (.iload_n 1, 1) := by decide +kernel
theorem dc_F_add_38 : decode bc_F_add 38 = .ok (.putfield 36, 3) := by decide +kernel
theorem dc_F_add_41 : decode bc_F_add 41 = .ok (.aload 7, 2) := by decide +kernel
theorem dc_F_add_43 : decode bc_F_add 43 = .ok (.iload_n 2, 1) := by decide +kernel
theorem dc_F_add_44 : decode bc_F_add 44 = .ok (.putfield 39, 3) := by decide +kernel
theorem dc_F_add_47 : decode bc_F_add 47 = .ok (.aload 7, 2) := by decide +kernel
theorem dc_F_add_49 : decode bc_F_add 49 = .ok (.iload_n 3, 1) := by decide +kernel
theorem dc_F_add_50 : decode bc_F_add 50 = .ok (.putfield 42, 3) := by decide +kernel
theorem dc_F_add_53 : decode bc_F_add 53 = .ok (.aload 7, 2) := by decide +kernel
theorem dc_F_add_55 : decode bc_F_add 55 = .ok (.iload 4, 2) := by decide +kernel
theorem dc_F_add_57 : decode bc_F_add 57 = .ok (.putfield 45, 3) := by decide +kernel
theorem dc_F_add_60 : decode bc_F_add 60 = .ok (.aload 7, 2) := by decide +kernel
theorem dc_F_add_62 : decode bc_F_add 62 = .ok (.iload 5, 2) := by decide +kernel
theorem dc_F_add_64 : decode bc_F_add 64 = .ok (.putfield 48, 3) := by decide +kernel
theorem dc_F_add_67 : decode bc_F_add 67 = .ok (.return_, 1) := by decide +kernel
theorem dc_F_rankOf_0 : decode bc_F_rankOf 0 = .ok (.aload_n 0, 1) := by decide +kernel
theorem dc_F_rankOf_1 : decode bc_F_rankOf 1 = .ok (.getfield 25, 3) := by decide +kernel
theorem dc_F_rankOf_4 : decode bc_F_rankOf 4 = .ok (.istore_n 3, 1) := by decide +kernel
theorem dc_F_rankOf_5 : decode bc_F_rankOf 5 = .ok (.iload_n 3, 1) := by decide +kernel
theorem dc_F_rankOf_6 : decode bc_F_rankOf 6 = .ok (.ifCond .le 46, 3) := by decide +kernel
theorem dc_F_rankOf_9 : decode bc_F_rankOf 9 = .ok (.aload_n 0, 1) := by decide +kernel
theorem dc_F_rankOf_10 : decode bc_F_rankOf 10 = .ok (.getfield 11, 3) := by decide +kernel
theorem dc_F_rankOf_13 : decode bc_F_rankOf 13 = .ok (.iload_n 3, 1) := by decide +kernel
theorem dc_F_rankOf_14 : decode bc_F_rankOf 14 = .ok (.iconst 1, 1) := by decide +kernel
theorem dc_F_rankOf_15 : decode bc_F_rankOf 15 = .ok (.isub, 1) := by decide +kernel
theorem dc_F_rankOf_16 : decode bc_F_rankOf 16 = .ok (.aaload, 1) := by decide +kernel
theorem dc_F_rankOf_17 : decode bc_F_rankOf 17 = .ok (.astore 4, 2) := by decide +kernel
theorem dc_F_rankOf_19 : decode bc_F_rankOf 19 = .ok (.iload_n 2, 1) := by decide +kernel
theorem dc_F_rankOf_20 : decode bc_F_rankOf 20 = .ok (.iload_n 2, 1) := by decide +kernel
theorem dc_F_rankOf_21 : decode bc_F_rankOf 21 = .ok (.imul, 1) := by decide +kernel
theorem dc_F_rankOf_22 : decode bc_F_rankOf 22 = .ok (.aload 4, 2) := by decide +kernel
theorem dc_F_rankOf_24 : decode bc_F_rankOf 24 = .ok (.getfield 42, 3) := by decide +kernel
theorem dc_F_rankOf_27 : decode bc_F_rankOf 27 = .ok (.imul, 1) := by decide +kernel
theorem dc_F_rankOf_28 : decode bc_F_rankOf 28 = .ok (.aload 4, 2) := by decide +kernel
theorem dc_F_rankOf_30 : decode bc_F_rankOf 30 = .ok (.getfield 48, 3) := by decide +kernel
theorem dc_F_rankOf_33 : decode bc_F_rankOf 33 = .ok (.aload 4, 2) := by decide +kernel
theorem dc_F_rankOf_35 : decode bc_F_rankOf 35 = .ok (.getfield 48, 3) := by decide +kernel
theorem dc_F_rankOf_38 : decode bc_F_rankOf 38 = .ok (.imul, 1) := by decide +kernel
theorem dc_F_rankOf_39 : decode bc_F_rankOf 39 = .ok (.iload_n 1, 1) := by decide +kernel
theorem dc_F_rankOf_40 : decode bc_F_rankOf 40 = .ok (.imul, 1) := by decide +kernel
theorem dc_F_rankOf_41 : decode bc_F_rankOf 41 = .ok (.if_icmp .gt 5, 3) := by decide +kernel
theorem dc_F_rankOf_44 : decode bc_F_rankOf 44 = .ok (.iload_n 3, 1) := by decide +kernel
theorem dc_F_rankOf_45 : decode bc_F_rankOf 45 = .ok (.ireturn, 1) := by decide +kernel
theorem dc_F_rankOf_46 : decode bc_F_rankOf 46 = .ok (.iinc 3 (-1), 3) := by decide +kernel
theorem dc_F_rankOf_49 : decode bc_F_rankOf 49 = .ok (.goto (-44), 3) := by decide +kernel
theorem dc_F_rankOf_52 : decode bc_F_rankOf 52 = .ok (.iconst 0, 1) := by decide +kernel
theorem dc_F_rankOf_53 : decode bc_F_rankOf 53 = .ok (.ireturn, 1) := by decide +kernel
theorem dc_F_makeRoom_0 : decode bc_F_makeRoom 0 = .ok (.aload_n 0, 1) := by decide +kernel
theorem dc_F_makeRoom_1 : decode bc_F_makeRoom 1 = .ok (.getfield 25, 3) := by decide +kernel
theorem dc_F_makeRoom_4 : decode bc_F_makeRoom 4 = .ok (.bipush 29, 2) := by decide +kernel
theorem dc_F_makeRoom_6 : decode bc_F_makeRoom 6 = .ok (.invokestatic 51, 3) := by decide +kernel
theorem dc_F_makeRoom_9 : decode bc_F_makeRoom 9 = .ok (.istore_n 2, 1) := by decide +kernel
theorem dc_F_makeRoom_10 : decode bc_F_makeRoom 10 = .ok (.aload_n 0, 1) := by decide +kernel
theorem dc_F_makeRoom_11 : decode bc_F_makeRoom 11 = .ok (.getfield 11, 3) := by decide +kernel
theorem dc_F_makeRoom_14 : decode bc_F_makeRoom 14 = .ok (.iload_n 2, 1) := by decide +kernel
theorem dc_F_makeRoom_15 : decode bc_F_makeRoom 15 = .ok (.aaload, 1) := by decide +kernel
theorem dc_F_makeRoom_16 : decode bc_F_makeRoom 16 = .ok (.astore_n 3, 1) := by decide +kernel
theorem dc_F_makeRoom_17 : decode bc_F_makeRoom 17 = .ok (.iload_n 2, 1) := by decide +kernel
theorem dc_F_makeRoom_18 : decode bc_F_makeRoom 18 = .ok (.istore 4, 2) := by decide +kernel
theorem dc_F_makeRoom_20 : decode bc_F_makeRoom 20 = .ok (.iload 4, 2) := by decide +kernel
theorem dc_F_makeRoom_22 : decode bc_F_makeRoom 22 = .ok (.iload_n 1, 1) := by decide +kernel
theorem dc_F_makeRoom_23 : decode bc_F_makeRoom 23 = .ok (.if_icmp .le 25, 3) := by decide +kernel
theorem dc_F_makeRoom_26 : decode bc_F_makeRoom 26 = .ok (.aload_n 0, 1) := by decide +kernel
theorem dc_F_makeRoom_27 : decode bc_F_makeRoom 27 = .ok (.getfield 11, 3) := by decide +kernel
theorem dc_F_makeRoom_30 : decode bc_F_makeRoom 30 = .ok (.iload 4, 2) := by decide +kernel
theorem dc_F_makeRoom_32 : decode bc_F_makeRoom 32 = .ok (.aload_n 0, 1) := by decide +kernel
theorem dc_F_makeRoom_33 : decode bc_F_makeRoom 33 = .ok (.getfield 11, 3) := by decide +kernel
theorem dc_F_makeRoom_36 : decode bc_F_makeRoom 36 = .ok (.iload 4, 2) := by decide +kernel
theorem dc_F_makeRoom_38 : decode bc_F_makeRoom 38 = .ok (.iconst 1, 1) := by decide +kernel
theorem dc_F_makeRoom_39 : decode bc_F_makeRoom 39 = .ok (.isub, 1) := by decide +kernel
theorem dc_F_makeRoom_40 : decode bc_F_makeRoom 40 = .ok (.aaload, 1) := by decide +kernel
theorem dc_F_makeRoom_41 : decode bc_F_makeRoom 41 = .ok (.aastore, 1) := by decide +kernel
theorem dc_F_makeRoom_42 : decode bc_F_makeRoom 42 = .ok (.iinc 4 (-1), 3) := by decide +kernel
theorem dc_F_makeRoom_45 : decode bc_F_makeRoom 45 = .ok (.goto (-25), 3) := by decide +kernel
theorem dc_F_makeRoom_48 : decode bc_F_makeRoom 48 = .ok (.aload_n 0, 1) := by decide +kernel
theorem dc_F_makeRoom_49 : decode bc_F_makeRoom 49 = .ok (.getfield 11, 3) := by decide +kernel
theorem dc_F_makeRoom_52 : decode bc_F_makeRoom 52 = .ok (.iload_n 1, 1) := by decide +kernel
theorem dc_F_makeRoom_53 : decode bc_F_makeRoom 53 = .ok (.aload_n 3, 1) := by decide +kernel
theorem dc_F_makeRoom_54 : decode bc_F_makeRoom 54 = .ok (.aastore, 1) := by decide +kernel
theorem dc_F_makeRoom_55 : decode bc_F_makeRoom 55 = .ok (.aload_n 0, 1) := by decide +kernel
theorem dc_F_makeRoom_56 : decode bc_F_makeRoom 56 = .ok (.iload_n 2, 1) := by decide +kernel
theorem dc_F_makeRoom_57 : decode bc_F_makeRoom 57 = .ok (.iconst 1, 1) := by decide +kernel
theorem dc_F_makeRoom_58 : decode bc_F_makeRoom 58 = .ok (.iadd, 1) := by decide +kernel
theorem dc_F_makeRoom_59 : decode bc_F_makeRoom 59 = .ok (.putfield 25, 3) := by decide +kernel
theorem dc_F_makeRoom_62 : decode bc_F_makeRoom 62 = .ok (.aload_n 3, 1) := by decide +kernel
theorem dc_F_makeRoom_63 : decode bc_F_makeRoom 63 = .ok (.areturn, 1) := by decide +kernel
theorem dc_F_upperOfScore_0 : decode bc_F_upperOfScore 0 = .ok (.aload_n 1, 1) := by decide +kernel
theorem dc_F_upperOfScore_1 : decode bc_F_upperOfScore 1 = .ok (.getfield 48, 3) := by decide +kernel
theorem dc_F_upperOfScore_4 : decode bc_F_upperOfScore 4 = .ok (.aload_n 1, 1) := by decide +kernel
theorem dc_F_upperOfScore_5 : decode bc_F_upperOfScore 5 = .ok (.getfield 48, 3) := by decide +kernel
theorem dc_F_upperOfScore_8 : decode bc_F_upperOfScore 8 = .ok (.imul, 1) := by decide +kernel
theorem dc_F_upperOfScore_9 : decode bc_F_upperOfScore 9 = .ok (.aload_n 0, 1) := by decide +kernel
theorem dc_F_upperOfScore_10 : decode bc_F_upperOfScore 10 = .ok (.getfield 18, 3) := by decide +kernel
theorem dc_F_upperOfScore_13 : decode bc_F_upperOfScore 13 = .ok (.aload_n 1, 1) := by decide +kernel
theorem dc_F_upperOfScore_14 : decode bc_F_upperOfScore 14 = .ok (.getfield 42, 3) := by decide +kernel
theorem dc_F_upperOfScore_17 : decode bc_F_upperOfScore 17 = .ok (.imul, 1) := by decide +kernel
theorem dc_F_upperOfScore_18 : decode bc_F_upperOfScore 18 = .ok (.invokestatic 56, 3) := by decide +kernel
theorem dc_F_upperOfScore_21 : decode bc_F_upperOfScore 21 = .ok (.ireturn, 1) := by decide +kernel
theorem dc_F_leastTerm_0 : decode bc_F_leastTerm 0 = .ok (.iload_n 0, 1) := by decide +kernel
theorem dc_F_leastTerm_1 : decode bc_F_leastTerm 1 = .ok (.istore_n 2, 1) := by decide +kernel
theorem dc_F_leastTerm_2 : decode bc_F_leastTerm 2 = .ok (.iload_n 2, 1) := by decide +kernel
theorem dc_F_leastTerm_3 : decode bc_F_leastTerm 3 = .ok (.iconst 1, 1) := by decide +kernel
theorem dc_F_leastTerm_4 : decode bc_F_leastTerm 4 = .ok (.if_icmp .le 25, 3) := by decide +kernel
theorem dc_F_leastTerm_7 : decode bc_F_leastTerm 7 = .ok (.iload_n 0, 1) := by decide +kernel
theorem dc_F_leastTerm_8 : decode bc_F_leastTerm 8 = .ok (.iload_n 2, 1) := by decide +kernel
theorem dc_F_leastTerm_9 : decode bc_F_leastTerm 9 = .ok (.irem, 1) := by decide +kernel
theorem dc_F_leastTerm_10 : decode bc_F_leastTerm 10 = .ok (.ifCond .ne 13, 3) := by decide +kernel
theorem dc_F_leastTerm_13 : decode bc_F_leastTerm 13 = .ok (.iload_n 1, 1) := by decide +kernel
theorem dc_F_leastTerm_14 : decode bc_F_leastTerm 14 = .ok (.iload_n 2, 1) := by decide +kernel
theorem dc_F_leastTerm_15 : decode bc_F_leastTerm 15 = .ok (.irem, 1) := by decide +kernel
theorem dc_F_leastTerm_16 : decode bc_F_leastTerm 16 = .ok (.ifCond .ne 7, 3) := by decide +kernel
theorem dc_F_leastTerm_19 : decode bc_F_leastTerm 19 = .ok (.iload_n 0, 1) := by decide +kernel
theorem dc_F_leastTerm_20 : decode bc_F_leastTerm 20 = .ok (.iload_n 2, 1) := by decide +kernel
theorem dc_F_leastTerm_21 : decode bc_F_leastTerm 21 = .ok (.idiv, 1) := by decide +kernel
theorem dc_F_leastTerm_22 : decode bc_F_leastTerm 22 = .ok (.ireturn, 1) := by decide +kernel
theorem dc_F_leastTerm_23 : decode bc_F_leastTerm 23 = .ok (.iinc 2 (-1), 3) := by decide +kernel
theorem dc_F_leastTerm_26 : decode bc_F_leastTerm 26 = .ok (.goto (-24), 3) := by decide +kernel
theorem dc_F_leastTerm_29 : decode bc_F_leastTerm 29 = .ok (.iload_n 0, 1) := by decide +kernel
theorem dc_F_leastTerm_30 : decode bc_F_leastTerm 30 = .ok (.ireturn, 1) := by decide +kernel
theorem dc_F_lowerOfScore_0 : decode bc_F_lowerOfScore 0 = .ok (.aload_n 0, 1) := by decide +kernel
theorem dc_F_lowerOfScore_1 : decode bc_F_lowerOfScore 1 = .ok (.getfield 18, 3) := by decide +kernel
theorem dc_F_lowerOfScore_4 : decode bc_F_lowerOfScore 4 = .ok (.aload_n 1, 1) := by decide +kernel
theorem dc_F_lowerOfScore_5 : decode bc_F_lowerOfScore 5 = .ok (.getfield 42, 3) := by decide +kernel
theorem dc_F_lowerOfScore_8 : decode bc_F_lowerOfScore 8 = .ok (.imul, 1) := by decide +kernel
theorem dc_F_lowerOfScore_9 : decode bc_F_lowerOfScore 9 = .ok (.aload_n 1, 1) := by decide +kernel
theorem dc_F_lowerOfScore_10 : decode bc_F_lowerOfScore 10 = .ok (.getfield 48, 3) := by decide +kernel
theorem dc_F_lowerOfScore_13 : decode bc_F_lowerOfScore 13 = .ok (.aload_n 1, 1) := by decide +kernel
theorem dc_F_lowerOfScore_14 : decode bc_F_lowerOfScore 14 = .ok (.getfield 48, 3) := by decide +kernel
theorem dc_F_lowerOfScore_17 : decode bc_F_lowerOfScore 17 = .ok (.imul, 1) := by decide +kernel
theorem dc_F_lowerOfScore_18 : decode bc_F_lowerOfScore 18 = .ok (.invokestatic 56, 3) := by decide +kernel
theorem dc_F_lowerOfScore_21 : decode bc_F_lowerOfScore 21 = .ok (.ireturn, 1) := by decide +kernel
