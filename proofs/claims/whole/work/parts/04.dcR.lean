theorem dc_R_init_0 : decode bc_R_init 0 = .ok (.aload_n 0, 1) := by decide +kernel
theorem dc_R_init_1 : decode bc_R_init 1 = .ok (.invokespecial 3, 3) := by decide +kernel
theorem dc_R_init_4 : decode bc_R_init 4 = .ok (.aload_n 0, 1) := by decide +kernel
theorem dc_R_init_5 : decode bc_R_init 5 = .ok (.bipush 8, 2) := by decide +kernel
theorem dc_R_init_7 : decode bc_R_init 7 = .ok (.newarray .int, 2) := by decide +kernel
theorem dc_R_init_9 : decode bc_R_init 9 = .ok (.putfield 9, 3) := by decide +kernel
theorem dc_R_init_12 : decode bc_R_init 12 = .ok (.aload_n 0, 1) := by decide +kernel
theorem dc_R_init_13 : decode bc_R_init 13 = .ok (.bipush 13, 2) := by decide +kernel
theorem dc_R_init_15 : decode bc_R_init 15 = .ok (.newarray .int, 2) := by decide +kernel
theorem dc_R_init_17 : decode bc_R_init 17 = .ok (.putfield 15, 3) := by decide +kernel
theorem dc_R_init_20 : decode bc_R_init 20 = .ok (.aload_n 0, 1) := by decide +kernel
theorem dc_R_init_21 : decode bc_R_init 21 = .ok (.bipush 13, 2) := by decide +kernel
theorem dc_R_init_23 : decode bc_R_init 23 = .ok (.newarray .int, 2) := by decide +kernel
theorem dc_R_init_25 : decode bc_R_init 25 = .ok (.putfield 18, 3) := by decide +kernel
theorem dc_R_init_28 : decode bc_R_init 28 = .ok (.return_, 1) := by decide +kernel
theorem dc_R_begin_0 : decode bc_R_begin 0 = .ok (.aload_n 0, 1) := by decide +kernel
theorem dc_R_begin_1 : decode bc_R_begin 1 = .ok (.iload_n 3, 1) := by decide +kernel
theorem dc_R_begin_2 : decode bc_R_begin 2 = .ok (.bipush 16, 2) := by decide +kernel
theorem dc_R_begin_4 : decode bc_R_begin 4 = .ok (.imul, 1) := by decide +kernel
theorem dc_R_begin_5 : decode bc_R_begin 5 = .ok (.putfield 21, 3) := by decide +kernel
theorem dc_R_begin_8 : decode bc_R_begin 8 = .ok (.aload_n 0, 1) := by decide +kernel
theorem dc_R_begin_9 : decode bc_R_begin 9 = .ok (.aload_n 1, 1) := by decide +kernel
theorem dc_R_begin_10 : decode bc_R_begin 10 = .ok (.getfield 25, 3) := by decide +kernel
theorem dc_R_begin_13 : decode bc_R_begin 13 = .ok (.iload_n 3, 1) := by decide +kernel
theorem dc_R_begin_14 : decode bc_R_begin 14 = .ok (.iadd, 1) := by decide +kernel
theorem dc_R_begin_15 : decode bc_R_begin 15 = .ok (.putfield 30, 3) := by decide +kernel
theorem dc_R_begin_18 : decode bc_R_begin 18 = .ok (.aload_n 0, 1) := by decide +kernel
theorem dc_R_begin_19 : decode bc_R_begin 19 = .ok (.aload_n 1, 1) := by decide +kernel
theorem dc_R_begin_20 : decode bc_R_begin 20 = .ok (.aload_n 2, 1) := by decide +kernel
theorem dc_R_begin_21 : decode bc_R_begin 21 = .ok (.iconst 0, 1) := by decide +kernel
theorem dc_R_begin_22 : decode bc_R_begin 22 = .ok (.invokevirtual 33, 3) := by decide +kernel
theorem dc_R_begin_25 : decode bc_R_begin 25 = .ok (.return_, 1) := by decide +kernel
theorem dc_R_measure_0 : decode bc_R_measure 0 = .ok (.iconst 0, 1) := by decide +kernel
theorem dc_R_measure_1 : decode bc_R_measure 1 = .ok (.istore 4, 2) := by decide +kernel
theorem dc_R_measure_3 : decode bc_R_measure 3 = .ok (.iload 4, 2) := by decide +kernel
theorem dc_R_measure_5 : decode bc_R_measure 5 = .ok (.aload_n 1, 1) := by decide +kernel
theorem dc_R_measure_6 : decode bc_R_measure 6 = .ok (.invokevirtual 37, 3) := by decide +kernel
theorem dc_R_measure_9 : decode bc_R_measure 9 = .ok (.if_icmp .gt 21, 3) := by decide +kernel
theorem dc_R_measure_12 : decode bc_R_measure 12 = .ok (.aload_n 0, 1) := by decide +kernel
theorem dc_R_measure_13 : decode bc_R_measure 13 = .ok (.getfield 9, 3) := by decide +kernel
theorem dc_R_measure_16 : decode bc_R_measure 16 = .ok (.iload 4, 2) := by decide +kernel
theorem dc_R_measure_18 : decode bc_R_measure 18 = .ok (.iload 4, 2) := by decide +kernel
theorem dc_R_measure_20 : decode bc_R_measure 20 = .ok (.bipush 16, 2) := by decide +kernel
theorem dc_R_measure_22 : decode bc_R_measure 22 = .ok (.imul, 1) := by decide +kernel
theorem dc_R_measure_23 : decode bc_R_measure 23 = .ok (.iastore, 1) := by decide +kernel
theorem dc_R_measure_24 : decode bc_R_measure 24 = .ok (.iinc 4 1, 3) := by decide +kernel
theorem dc_R_measure_27 : decode bc_R_measure 27 = .ok (.goto (-24), 3) := by decide +kernel
theorem dc_R_measure_30 : decode bc_R_measure 30 = .ok (.iconst 2, 1) := by decide +kernel
theorem dc_R_measure_31 : decode bc_R_measure 31 = .ok (.istore 4, 2) := by decide +kernel
theorem dc_R_measure_33 : decode bc_R_measure 33 = .ok (.iload 4, 2) := by decide +kernel
theorem dc_R_measure_35 : decode bc_R_measure 35 = .ok (.aload_n 0, 1) := by decide +kernel
theorem dc_R_measure_36 : decode bc_R_measure 36 = .ok (.getfield 30, 3) := by decide +kernel
theorem dc_R_measure_39 : decode bc_R_measure 39 = .ok (.if_icmp .gt 51, 3) := by decide +kernel
theorem dc_R_measure_42 : decode bc_R_measure 42 = .ok (.iload_n 3, 1) := by decide +kernel
theorem dc_R_measure_43 : decode bc_R_measure 43 = .ok (.iload 4, 2) := by decide +kernel
theorem dc_R_measure_45 : decode bc_R_measure 45 = .ok (.iadd, 1) := by decide +kernel
theorem dc_R_measure_46 : decode bc_R_measure 46 = .ok (.aload_n 2, 1) := by decide +kernel
theorem dc_R_measure_47 : decode bc_R_measure 47 = .ok (.getfield 25, 3) := by decide +kernel
theorem dc_R_measure_50 : decode bc_R_measure 50 = .ok (.if_icmp .gt 40, 3) := by decide +kernel
theorem dc_R_measure_53 : decode bc_R_measure 53 = .ok (.aload_n 0, 1) := by decide +kernel
theorem dc_R_measure_54 : decode bc_R_measure 54 = .ok (.aload_n 1, 1) := by decide +kernel
theorem dc_R_measure_55 : decode bc_R_measure 55 = .ok (.aload_n 2, 1) := by decide +kernel
theorem dc_R_measure_56 : decode bc_R_measure 56 = .ok (.iload_n 3, 1) := by decide +kernel
theorem dc_R_measure_57 : decode bc_R_measure 57 = .ok (.iload 4, 2) := by decide +kernel
theorem dc_R_measure_59 : decode bc_R_measure 59 = .ok (.iadd, 1) := by decide +kernel
theorem dc_R_measure_60 : decode bc_R_measure 60 = .ok (.iconst 2, 1) := by decide +kernel
theorem dc_R_measure_61 : decode bc_R_measure 61 = .ok (.isub, 1) := by decide +kernel
theorem dc_R_measure_62 : decode bc_R_measure 62 = .ok (.invokevirtual 41, 3) := by decide +kernel
theorem dc_R_measure_65 : decode bc_R_measure 65 = .ok (.invokevirtual 45, 3) := by decide +kernel
theorem dc_R_measure_68 : decode bc_R_measure 68 = .ok (.aload_n 0, 1) := by decide +kernel
theorem dc_R_measure_69 : decode bc_R_measure 69 = .ok (.getfield 18, 3) := by decide +kernel
theorem dc_R_measure_72 : decode bc_R_measure 72 = .ok (.iload 4, 2) := by decide +kernel
theorem dc_R_measure_74 : decode bc_R_measure 74 = .ok (.aload_n 0, 1) := by decide +kernel
theorem dc_R_measure_75 : decode bc_R_measure 75 = .ok (.getfield 9, 3) := by decide +kernel
theorem dc_R_measure_78 : decode bc_R_measure 78 = .ok (.aload_n 1, 1) := by decide +kernel
theorem dc_R_measure_79 : decode bc_R_measure 79 = .ok (.invokevirtual 37, 3) := by decide +kernel
theorem dc_R_measure_82 : decode bc_R_measure 82 = .ok (.iaload, 1) := by decide +kernel
theorem dc_R_measure_83 : decode bc_R_measure 83 = .ok (.iastore, 1) := by decide +kernel
theorem dc_R_measure_84 : decode bc_R_measure 84 = .ok (.iinc 4 1, 3) := by decide +kernel
theorem dc_R_measure_87 : decode bc_R_measure 87 = .ok (.goto (-54), 3) := by decide +kernel
theorem dc_R_measure_90 : decode bc_R_measure 90 = .ok (.return_, 1) := by decide +kernel
theorem dc_R_takeIn_0 : decode bc_R_takeIn 0 = .ok (.aload_n 0, 1) := by decide +kernel
theorem dc_R_takeIn_1 : decode bc_R_takeIn 1 = .ok (.getfield 9, 3) := by decide +kernel
theorem dc_R_takeIn_4 : decode bc_R_takeIn 4 = .ok (.iconst 0, 1) := by decide +kernel
theorem dc_R_takeIn_5 : decode bc_R_takeIn 5 = .ok (.iaload, 1) := by decide +kernel
theorem dc_R_takeIn_6 : decode bc_R_takeIn 6 = .ok (.istore_n 3, 1) := by decide +kernel
theorem dc_R_takeIn_7 : decode bc_R_takeIn 7 = .ok (.aload_n 0, 1) := by decide +kernel
theorem dc_R_takeIn_8 : decode bc_R_takeIn 8 = .ok (.getfield 9, 3) := by decide +kernel
theorem dc_R_takeIn_11 : decode bc_R_takeIn 11 = .ok (.iconst 0, 1) := by decide +kernel
theorem dc_R_takeIn_12 : decode bc_R_takeIn 12 = .ok (.dup2, 1) := by decide +kernel
theorem dc_R_takeIn_13 : decode bc_R_takeIn 13 = .ok (.iaload, 1) := by decide +kernel
theorem dc_R_takeIn_14 : decode bc_R_takeIn 14 = .ok (.bipush 16, 2) := by decide +kernel
theorem dc_R_takeIn_16 : decode bc_R_takeIn 16 = .ok (.iadd, 1) := by decide +kernel
theorem dc_R_takeIn_17 : decode bc_R_takeIn 17 = .ok (.iastore, 1) := by decide +kernel
theorem dc_R_takeIn_18 : decode bc_R_takeIn 18 = .ok (.iconst 1, 1) := by decide +kernel
theorem dc_R_takeIn_19 : decode bc_R_takeIn 19 = .ok (.istore 4, 2) := by decide +kernel
theorem dc_R_takeIn_21 : decode bc_R_takeIn 21 = .ok (.iload 4, 2) := by decide +kernel
theorem dc_R_takeIn_23 : decode bc_R_takeIn 23 = .ok (.aload_n 1, 1) := by decide +kernel
theorem dc_R_takeIn_24 : decode bc_R_takeIn 24 = .ok (.invokevirtual 37, 3) := by decide +kernel
theorem dc_R_takeIn_27 : decode bc_R_takeIn 27 = .ok (.if_icmp .gt 89, 3) := by decide +kernel
theorem dc_R_takeIn_30 : decode bc_R_takeIn 30 = .ok (.aload_n 1, 1) := by decide +kernel
theorem dc_R_takeIn_31 : decode bc_R_takeIn 31 = .ok (.iload 4, 2) := by decide +kernel
theorem dc_R_takeIn_33 : decode bc_R_takeIn 33 = .ok (.iconst 1, 1) := by decide +kernel
theorem dc_R_takeIn_34 : decode bc_R_takeIn 34 = .ok (.isub, 1) := by decide +kernel
theorem dc_R_takeIn_35 : decode bc_R_takeIn 35 = .ok (.invokevirtual 41, 3) := by decide +kernel
theorem dc_R_takeIn_38 : decode bc_R_takeIn 38 = .ok (.iload_n 2, 1) := by decide +kernel
theorem dc_R_takeIn_39 : decode bc_R_takeIn 39 = .ok (.if_icmp .ne 7, 3) := by decide +kernel
theorem dc_R_takeIn_42 : decode bc_R_takeIn 42 = .ok (.iconst 1, 1) := by decide +kernel
theorem dc_R_takeIn_43 : decode bc_R_takeIn 43 = .ok (.goto 4, 3) := by decide +kernel
theorem dc_R_takeIn_46 : decode bc_R_takeIn 46 = .ok (.iconst 0, 1) := by decide +kernel
theorem dc_R_takeIn_47 : decode bc_R_takeIn 47 = .ok (.istore 5, 2) := by decide +kernel
theorem dc_R_takeIn_49 : decode bc_R_takeIn 49 = .ok (.iload_n 3, 1) := by decide +kernel
theorem dc_R_takeIn_50 : decode bc_R_takeIn 50 = .ok (.iload 5, 2) := by decide +kernel
theorem dc_R_takeIn_52 : decode bc_R_takeIn 52 = .ok (.ifCond .eq 7, 3) := by decide +kernel
theorem dc_R_takeIn_55 : decode bc_R_takeIn 55 = .ok (.iconst (-1), 1) := by decide +kernel
theorem dc_R_takeIn_56 : decode bc_R_takeIn 56 = .ok (.goto 5, 3) := by decide +kernel
theorem dc_R_takeIn_59 : decode bc_R_takeIn 59 = .ok (.bipush 16, 2) := by decide +kernel
theorem dc_R_takeIn_61 : decode bc_R_takeIn 61 = .ok (.iadd, 1) := by decide +kernel
theorem dc_R_takeIn_62 : decode bc_R_takeIn 62 = .ok (.istore 6, 2) := by decide +kernel
theorem dc_R_takeIn_64 : decode bc_R_takeIn 64 = .ok (.aload_n 0, 1) := by decide +kernel
theorem dc_R_takeIn_65 : decode bc_R_takeIn 65 = .ok (.getfield 9, 3) := by decide +kernel
theorem dc_R_takeIn_68 : decode bc_R_takeIn 68 = .ok (.iload 4, 2) := by decide +kernel
theorem dc_R_takeIn_70 : decode bc_R_takeIn 70 = .ok (.iaload, 1) := by decide +kernel
theorem dc_R_takeIn_71 : decode bc_R_takeIn 71 = .ok (.istore_n 3, 1) := by decide +kernel
theorem dc_R_takeIn_72 : decode bc_R_takeIn 72 = .ok (.aload_n 0, 1) := by decide +kernel
theorem dc_R_takeIn_73 : decode bc_R_takeIn 73 = .ok (.getfield 9, 3) := by decide +kernel
theorem dc_R_takeIn_76 : decode bc_R_takeIn 76 = .ok (.iload 4, 2) := by decide +kernel
theorem dc_R_takeIn_78 : decode bc_R_takeIn 78 = .ok (.iaload, 1) := by decide +kernel
theorem dc_R_takeIn_79 : decode bc_R_takeIn 79 = .ok (.aload_n 0, 1) := by decide +kernel
theorem dc_R_takeIn_80 : decode bc_R_takeIn 80 = .ok (.getfield 9, 3) := by decide +kernel
theorem dc_R_takeIn_83 : decode bc_R_takeIn 83 = .ok (.iload 4, 2) := by decide +kernel
theorem dc_R_takeIn_85 : decode bc_R_takeIn 85 = .ok (.iconst 1, 1) := by decide +kernel
theorem dc_R_takeIn_86 : decode bc_R_takeIn 86 = .ok (.isub, 1) := by decide +kernel
theorem dc_R_takeIn_87 : decode bc_R_takeIn 87 = .ok (.iaload, 1) := by decide +kernel
theorem dc_R_takeIn_88 : decode bc_R_takeIn 88 = .ok (.invokestatic 49, 3) := by decide +kernel
theorem dc_R_takeIn_91 : decode bc_R_takeIn 91 = .ok (.bipush 16, 2) := by decide +kernel
theorem dc_R_takeIn_93 : decode bc_R_takeIn 93 = .ok (.iadd, 1) := by decide +kernel
theorem dc_R_takeIn_94 : decode bc_R_takeIn 94 = .ok (.istore 7, 2) := by decide +kernel
theorem dc_R_takeIn_96 : decode bc_R_takeIn 96 = .ok (.aload_n 0, 1) := by decide +kernel
theorem dc_R_takeIn_97 : decode bc_R_takeIn 97 = .ok (.getfield 9, 3) := by decide +kernel
theorem dc_R_takeIn_100 : decode bc_R_takeIn 100 = .ok (.iload 4, 2) := by decide +kernel
theorem dc_R_takeIn_102 : decode bc_R_takeIn 102 = .ok (.iload 6, 2) := by decide +kernel
theorem dc_R_takeIn_104 : decode bc_R_takeIn 104 = .ok (.iload 7, 2) := by decide +kernel
theorem dc_R_takeIn_106 : decode bc_R_takeIn 106 = .ok (.invokestatic 49, 3) := by decide +kernel
theorem dc_R_takeIn_109 : decode bc_R_takeIn 109 = .ok (.iastore, 1) := by decide +kernel
theorem dc_R_takeIn_110 : decode bc_R_takeIn 110 = .ok (.iinc 4 1, 3) := by decide +kernel
theorem dc_R_takeIn_113 : decode bc_R_takeIn 113 = .ok (.goto (-92), 3) := by decide +kernel
theorem dc_R_takeIn_116 : decode bc_R_takeIn 116 = .ok (.return_, 1) := by decide +kernel
theorem dc_R_goOn_0 : decode bc_R_goOn 0 = .ok (.aload_n 0, 1) := by decide +kernel
theorem dc_R_goOn_1 : decode bc_R_goOn 1 = .ok (.getfield 18, 3) := by decide +kernel
theorem dc_R_goOn_4 : decode bc_R_goOn 4 = .ok (.astore 4, 2) := by decide +kernel
theorem dc_R_goOn_6 : decode bc_R_goOn 6 = .ok (.aload_n 0, 1) := by decide +kernel
theorem dc_R_goOn_7 : decode bc_R_goOn 7 = .ok (.aload_n 0, 1) := by decide +kernel
theorem dc_R_goOn_8 : decode bc_R_goOn 8 = .ok (.getfield 15, 3) := by decide +kernel
theorem dc_R_goOn_11 : decode bc_R_goOn 11 = .ok (.putfield 18, 3) := by decide +kernel
theorem dc_R_goOn_14 : decode bc_R_goOn 14 = .ok (.aload_n 0, 1) := by decide +kernel
theorem dc_R_goOn_15 : decode bc_R_goOn 15 = .ok (.aload 4, 2) := by decide +kernel
theorem dc_R_goOn_17 : decode bc_R_goOn 17 = .ok (.putfield 15, 3) := by decide +kernel
theorem dc_R_goOn_20 : decode bc_R_goOn 20 = .ok (.aload_n 0, 1) := by decide +kernel
theorem dc_R_goOn_21 : decode bc_R_goOn 21 = .ok (.aload_n 1, 1) := by decide +kernel
theorem dc_R_goOn_22 : decode bc_R_goOn 22 = .ok (.aload_n 2, 1) := by decide +kernel
theorem dc_R_goOn_23 : decode bc_R_goOn 23 = .ok (.iload_n 3, 1) := by decide +kernel
theorem dc_R_goOn_24 : decode bc_R_goOn 24 = .ok (.iconst 1, 1) := by decide +kernel
theorem dc_R_goOn_25 : decode bc_R_goOn 25 = .ok (.iadd, 1) := by decide +kernel
theorem dc_R_goOn_26 : decode bc_R_goOn 26 = .ok (.invokevirtual 33, 3) := by decide +kernel
theorem dc_R_goOn_29 : decode bc_R_goOn 29 = .ok (.return_, 1) := by decide +kernel
theorem dc_R_holds_0 : decode bc_R_holds 0 = .ok (.aload_n 0, 1) := by decide +kernel
theorem dc_R_holds_1 : decode bc_R_holds 1 = .ok (.getfield 15, 3) := by decide +kernel
theorem dc_R_holds_4 : decode bc_R_holds 4 = .ok (.iload_n 1, 1) := by decide +kernel
theorem dc_R_holds_5 : decode bc_R_holds 5 = .ok (.iaload, 1) := by decide +kernel
theorem dc_R_holds_6 : decode bc_R_holds 6 = .ok (.aload_n 0, 1) := by decide +kernel
theorem dc_R_holds_7 : decode bc_R_holds 7 = .ok (.getfield 21, 3) := by decide +kernel
theorem dc_R_holds_10 : decode bc_R_holds 10 = .ok (.if_icmp .le 5, 3) := by decide +kernel
theorem dc_R_holds_13 : decode bc_R_holds 13 = .ok (.iconst 0, 1) := by decide +kernel
theorem dc_R_holds_14 : decode bc_R_holds 14 = .ok (.ireturn, 1) := by decide +kernel
theorem dc_R_holds_15 : decode bc_R_holds 15 = .ok (.iload_n 1, 1) := by decide +kernel
theorem dc_R_holds_16 : decode bc_R_holds 16 = .ok (.iconst 2, 1) := by decide +kernel
theorem dc_R_holds_17 : decode bc_R_holds 17 = .ok (.if_icmp .eq 33, 3) := by decide +kernel
theorem dc_R_holds_20 : decode bc_R_holds 20 = .ok (.aload_n 0, 1) := by decide +kernel
theorem dc_R_holds_21 : decode bc_R_holds 21 = .ok (.getfield 15, 3) := by decide +kernel
theorem dc_R_holds_24 : decode bc_R_holds 24 = .ok (.iload_n 1, 1) := by decide +kernel
theorem dc_R_holds_25 : decode bc_R_holds 25 = .ok (.iconst 1, 1) := by decide +kernel
theorem dc_R_holds_26 : decode bc_R_holds 26 = .ok (.isub, 1) := by decide +kernel
theorem dc_R_holds_27 : decode bc_R_holds 27 = .ok (.iaload, 1) := by decide +kernel
theorem dc_R_holds_28 : decode bc_R_holds 28 = .ok (.aload_n 0, 1) := by decide +kernel
theorem dc_R_holds_29 : decode bc_R_holds 29 = .ok (.getfield 21, 3) := by decide +kernel
theorem dc_R_holds_32 : decode bc_R_holds 32 = .ok (.if_icmp .le 22, 3) := by decide +kernel
theorem dc_R_holds_35 : decode bc_R_holds 35 = .ok (.aload_n 0, 1) := by decide +kernel
theorem dc_R_holds_36 : decode bc_R_holds 36 = .ok (.getfield 18, 3) := by decide +kernel
theorem dc_R_holds_39 : decode bc_R_holds 39 = .ok (.iload_n 1, 1) := by decide +kernel
theorem dc_R_holds_40 : decode bc_R_holds 40 = .ok (.iconst 1, 1) := by decide +kernel
theorem dc_R_holds_41 : decode bc_R_holds 41 = .ok (.isub, 1) := by decide +kernel
theorem dc_R_holds_42 : decode bc_R_holds 42 = .ok (.iaload, 1) := by decide +kernel
theorem dc_R_holds_43 : decode bc_R_holds 43 = .ok (.aload_n 0, 1) := by decide +kernel
theorem dc_R_holds_44 : decode bc_R_holds 44 = .ok (.getfield 21, 3) := by decide +kernel
theorem dc_R_holds_47 : decode bc_R_holds 47 = .ok (.if_icmp .le 7, 3) := by decide +kernel
theorem dc_R_holds_50 : decode bc_R_holds 50 = .ok (.iconst 1, 1) := by decide +kernel
theorem dc_R_holds_51 : decode bc_R_holds 51 = .ok (.goto 4, 3) := by decide +kernel
theorem dc_R_holds_54 : decode bc_R_holds 54 = .ok (.iconst 0, 1) := by decide +kernel
theorem dc_R_holds_55 : decode bc_R_holds 55 = .ok (.ireturn, 1) := by decide +kernel
theorem dc_R_staying_0 : decode bc_R_staying 0 = .ok (.aload_n 0, 1) := by decide +kernel
theorem dc_R_staying_1 : decode bc_R_staying 1 = .ok (.getfield 15, 3) := by decide +kernel
theorem dc_R_staying_4 : decode bc_R_staying 4 = .ok (.iload_n 1, 1) := by decide +kernel
theorem dc_R_staying_5 : decode bc_R_staying 5 = .ok (.iaload, 1) := by decide +kernel
theorem dc_R_staying_6 : decode bc_R_staying 6 = .ok (.bipush 16, 2) := by decide +kernel
theorem dc_R_staying_8 : decode bc_R_staying 8 = .ok (.iadd, 1) := by decide +kernel
theorem dc_R_staying_9 : decode bc_R_staying 9 = .ok (.iconst 1, 1) := by decide +kernel
theorem dc_R_staying_10 : decode bc_R_staying 10 = .ok (.isub, 1) := by decide +kernel
theorem dc_R_staying_11 : decode bc_R_staying 11 = .ok (.bipush 16, 2) := by decide +kernel
theorem dc_R_staying_13 : decode bc_R_staying 13 = .ok (.idiv, 1) := by decide +kernel
theorem dc_R_staying_14 : decode bc_R_staying 14 = .ok (.istore_n 2, 1) := by decide +kernel
theorem dc_R_staying_15 : decode bc_R_staying 15 = .ok (.iload_n 2, 1) := by decide +kernel
theorem dc_R_staying_16 : decode bc_R_staying 16 = .ok (.bipush 16, 2) := by decide +kernel
theorem dc_R_staying_18 : decode bc_R_staying 18 = .ok (.imul, 1) := by decide +kernel
theorem dc_R_staying_19 : decode bc_R_staying 19 = .ok (.aload_n 0, 1) := by decide +kernel
theorem dc_R_staying_20 : decode bc_R_staying 20 = .ok (.getfield 15, 3) := by decide +kernel
theorem dc_R_staying_23 : decode bc_R_staying 23 = .ok (.iload_n 1, 1) := by decide +kernel
theorem dc_R_staying_24 : decode bc_R_staying 24 = .ok (.iaload, 1) := by decide +kernel
theorem dc_R_staying_25 : decode bc_R_staying 25 = .ok (.isub, 1) := by decide +kernel
theorem dc_R_staying_26 : decode bc_R_staying 26 = .ok (.ireturn, 1) := by decide +kernel
