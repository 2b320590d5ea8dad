theorem dc_W_init_0 : decode bc_W_init 0 = .ok (.aload_n 0, 1) := by decide +kernel
theorem dc_W_init_1 : decode bc_W_init 1 = .ok (.invokespecial 3, 3) := by decide +kernel
theorem dc_W_init_4 : decode bc_W_init 4 = .ok (.aload_n 0, 1) := by decide +kernel
theorem dc_W_init_5 : decode bc_W_init 5 = .ok (.bipush 19, 2) := by decide +kernel
theorem dc_W_init_7 : decode bc_W_init 7 = .ok (.newarray .int, 2) := by decide +kernel
theorem dc_W_init_9 : decode bc_W_init 9 = .ok (.putfield 9, 3) := by decide +kernel
theorem dc_W_init_12 : decode bc_W_init 12 = .ok (.return_, 1) := by decide +kernel
theorem dc_W_walk_0 : decode bc_W_walk 0 = .ok (.iconst 0, 1) := by decide +kernel
theorem dc_W_walk_1 : decode bc_W_walk 1 = .ok (.istore 4, 2) := by decide +kernel
theorem dc_W_walk_3 : decode bc_W_walk 3 = .ok (.iconst 0, 1) := by decide +kernel
theorem dc_W_walk_4 : decode bc_W_walk 4 = .ok (.istore 5, 2) := by decide +kernel
theorem dc_W_walk_6 : decode bc_W_walk 6 = .ok (.iload 5, 2) := by decide +kernel
theorem dc_W_walk_8 : decode bc_W_walk 8 = .ok (.aload_n 1, 1) := by decide +kernel
theorem dc_W_walk_9 : decode bc_W_walk 9 = .ok (.invokevirtual 15, 3) := by decide +kernel
theorem dc_W_walk_12 : decode bc_W_walk 12 = .ok (.if_icmp .ge 85, 3) := by decide +kernel
theorem dc_W_walk_15 : decode bc_W_walk 15 = .ok (.aload_n 0, 1) := by decide +kernel
theorem dc_W_walk_16 : decode bc_W_walk 16 = .ok (.aload_n 1, 1) := by decide +kernel
theorem dc_W_walk_17 : decode bc_W_walk 17 = .ok (.iload 5, 2) := by decide +kernel
theorem dc_W_walk_19 : decode bc_W_walk 19 = .ok (.invokevirtual 21, 3) := by decide +kernel
theorem dc_W_walk_22 : decode bc_W_walk 22 = .ok (.iload_n 2, 1) := by decide +kernel
theorem dc_W_walk_23 : decode bc_W_walk 23 = .ok (.istore 6, 2) := by decide +kernel
theorem dc_W_walk_25 : decode bc_W_walk 25 = .ok (.iload 5, 2) := by decide +kernel
theorem dc_W_walk_27 : decode bc_W_walk 27 = .ok (.iload 6, 2) := by decide +kernel
theorem dc_W_walk_29 : decode bc_W_walk 29 = .ok (.iadd, 1) := by decide +kernel
theorem dc_W_walk_30 : decode bc_W_walk 30 = .ok (.aload_n 1, 1) := by decide +kernel
theorem dc_W_walk_31 : decode bc_W_walk 31 = .ok (.invokevirtual 15, 3) := by decide +kernel
theorem dc_W_walk_34 : decode bc_W_walk 34 = .ok (.if_icmp .gt 57, 3) := by decide +kernel
theorem dc_W_walk_37 : decode bc_W_walk 37 = .ok (.aload_n 0, 1) := by decide +kernel
theorem dc_W_walk_38 : decode bc_W_walk 38 = .ok (.aload_n 1, 1) := by decide +kernel
theorem dc_W_walk_39 : decode bc_W_walk 39 = .ok (.iload 5, 2) := by decide +kernel
theorem dc_W_walk_41 : decode bc_W_walk 41 = .ok (.iload 6, 2) := by decide +kernel
theorem dc_W_walk_43 : decode bc_W_walk 43 = .ok (.invokevirtual 25, 3) := by decide +kernel
theorem dc_W_walk_46 : decode bc_W_walk 46 = .ok (.istore 7, 2) := by decide +kernel
theorem dc_W_walk_48 : decode bc_W_walk 48 = .ok (.iload 7, 2) := by decide +kernel
theorem dc_W_walk_50 : decode bc_W_walk 50 = .ok (.ifCond .le 35, 3) := by decide +kernel
theorem dc_W_walk_53 : decode bc_W_walk 53 = .ok (.iinc 4 1, 3) := by decide +kernel
theorem dc_W_walk_56 : decode bc_W_walk 56 = .ok (.iload 4, 2) := by decide +kernel
theorem dc_W_walk_58 : decode bc_W_walk 58 = .ok (.iconst 1, 1) := by decide +kernel
theorem dc_W_walk_59 : decode bc_W_walk 59 = .ok (.isub, 1) := by decide +kernel
theorem dc_W_walk_60 : decode bc_W_walk 60 = .ok (.iload_n 3, 1) := by decide +kernel
theorem dc_W_walk_61 : decode bc_W_walk 61 = .ok (.if_icmp .ne 24, 3) := by decide +kernel
theorem dc_W_walk_64 : decode bc_W_walk 64 = .ok (.aload_n 0, 1) := by decide +kernel
theorem dc_W_walk_65 : decode bc_W_walk 65 = .ok (.iload 5, 2) := by decide +kernel
theorem dc_W_walk_67 : decode bc_W_walk 67 = .ok (.putfield 29, 3) := by decide +kernel
theorem dc_W_walk_70 : decode bc_W_walk 70 = .ok (.aload_n 0, 1) := by decide +kernel
theorem dc_W_walk_71 : decode bc_W_walk 71 = .ok (.iload 6, 2) := by decide +kernel
theorem dc_W_walk_73 : decode bc_W_walk 73 = .ok (.putfield 33, 3) := by decide +kernel
theorem dc_W_walk_76 : decode bc_W_walk 76 = .ok (.aload_n 0, 1) := by decide +kernel
theorem dc_W_walk_77 : decode bc_W_walk 77 = .ok (.iload 7, 2) := by decide +kernel
theorem dc_W_walk_79 : decode bc_W_walk 79 = .ok (.putfield 36, 3) := by decide +kernel
theorem dc_W_walk_82 : decode bc_W_walk 82 = .ok (.iload 4, 2) := by decide +kernel
theorem dc_W_walk_84 : decode bc_W_walk 84 = .ok (.ireturn, 1) := by decide +kernel
theorem dc_W_walk_85 : decode bc_W_walk 85 = .ok (.iinc 6 1, 3) := by decide +kernel
theorem dc_W_walk_88 : decode bc_W_walk 88 = .ok (.goto (-63), 3) := by decide +kernel
theorem dc_W_walk_91 : decode bc_W_walk 91 = .ok (.iinc 5 1, 3) := by decide +kernel
theorem dc_W_walk_94 : decode bc_W_walk 94 = .ok (.goto (-88), 3) := by decide +kernel
theorem dc_W_walk_97 : decode bc_W_walk 97 = .ok (.iload 4, 2) := by decide +kernel
theorem dc_W_walk_99 : decode bc_W_walk 99 = .ok (.ireturn, 1) := by decide +kernel
theorem dc_W_compare_0 : decode bc_W_compare 0 = .ok (.iconst 0, 1) := by decide +kernel
theorem dc_W_compare_1 : decode bc_W_compare 1 = .ok (.istore_n 3, 1) := by decide +kernel
theorem dc_W_compare_2 : decode bc_W_compare 2 = .ok (.iload_n 3, 1) := by decide +kernel
theorem dc_W_compare_3 : decode bc_W_compare 3 = .ok (.aload_n 1, 1) := by decide +kernel
theorem dc_W_compare_4 : decode bc_W_compare 4 = .ok (.invokevirtual 15, 3) := by decide +kernel
theorem dc_W_compare_7 : decode bc_W_compare 7 = .ok (.if_icmp .ge 64, 3) := by decide +kernel
theorem dc_W_compare_10 : decode bc_W_compare 10 = .ok (.aload_n 1, 1) := by decide +kernel
theorem dc_W_compare_11 : decode bc_W_compare 11 = .ok (.invokevirtual 15, 3) := by decide +kernel
theorem dc_W_compare_14 : decode bc_W_compare 14 = .ok (.iload_n 2, 1) := by decide +kernel
theorem dc_W_compare_15 : decode bc_W_compare 15 = .ok (.iload_n 3, 1) := by decide +kernel
theorem dc_W_compare_16 : decode bc_W_compare 16 = .ok (.invokestatic 39, 3) := by decide +kernel
theorem dc_W_compare_19 : decode bc_W_compare 19 = .ok (.isub, 1) := by decide +kernel
theorem dc_W_compare_20 : decode bc_W_compare 20 = .ok (.istore 4, 2) := by decide +kernel
theorem dc_W_compare_22 : decode bc_W_compare 22 = .ok (.iconst 0, 1) := by decide +kernel
theorem dc_W_compare_23 : decode bc_W_compare 23 = .ok (.istore 5, 2) := by decide +kernel
theorem dc_W_compare_25 : decode bc_W_compare 25 = .ok (.iload 5, 2) := by decide +kernel
theorem dc_W_compare_27 : decode bc_W_compare 27 = .ok (.iload 4, 2) := by decide +kernel
theorem dc_W_compare_29 : decode bc_W_compare 29 = .ok (.if_icmp .ge 28, 3) := by decide +kernel
theorem dc_W_compare_32 : decode bc_W_compare 32 = .ok (.aload_n 1, 1) := by decide +kernel
theorem dc_W_compare_33 : decode bc_W_compare 33 = .ok (.iload_n 2, 1) := by decide +kernel
theorem dc_W_compare_34 : decode bc_W_compare 34 = .ok (.iload 5, 2) := by decide +kernel
theorem dc_W_compare_36 : decode bc_W_compare 36 = .ok (.iadd, 1) := by decide +kernel
theorem dc_W_compare_37 : decode bc_W_compare 37 = .ok (.invokevirtual 45, 3) := by decide +kernel
theorem dc_W_compare_40 : decode bc_W_compare 40 = .ok (.aload_n 1, 1) := by decide +kernel
theorem dc_W_compare_41 : decode bc_W_compare 41 = .ok (.iload_n 3, 1) := by decide +kernel
theorem dc_W_compare_42 : decode bc_W_compare 42 = .ok (.iload 5, 2) := by decide +kernel
theorem dc_W_compare_44 : decode bc_W_compare 44 = .ok (.iadd, 1) := by decide +kernel
theorem dc_W_compare_45 : decode bc_W_compare 45 = .ok (.invokevirtual 45, 3) := by decide +kernel
theorem dc_W_compare_48 : decode bc_W_compare 48 = .ok (.if_icmp .ne 9, 3) := by decide +kernel
theorem dc_W_compare_51 : decode bc_W_compare 51 = .ok (.iinc 5 1, 3) := by decide +kernel
theorem dc_W_compare_54 : decode bc_W_compare 54 = .ok (.goto (-29), 3) := by decide +kernel
theorem dc_W_compare_57 : decode bc_W_compare 57 = .ok (.aload_n 0, 1) := by decide +kernel
theorem dc_W_compare_58 : decode bc_W_compare 58 = .ok (.getfield 9, 3) := by decide +kernel
theorem dc_W_compare_61 : decode bc_W_compare 61 = .ok (.iload_n 3, 1) := by decide +kernel
theorem dc_W_compare_62 : decode bc_W_compare 62 = .ok (.iload 5, 2) := by decide +kernel
theorem dc_W_compare_64 : decode bc_W_compare 64 = .ok (.iastore, 1) := by decide +kernel
theorem dc_W_compare_65 : decode bc_W_compare 65 = .ok (.iinc 3 1, 3) := by decide +kernel
theorem dc_W_compare_68 : decode bc_W_compare 68 = .ok (.goto (-66), 3) := by decide +kernel
theorem dc_W_compare_71 : decode bc_W_compare 71 = .ok (.return_, 1) := by decide +kernel
theorem dc_W_placesOfRepeat_0 : decode bc_W_placesOfRepeat 0 = .ok (.iconst 0, 1) := by decide +kernel
theorem dc_W_placesOfRepeat_1 : decode bc_W_placesOfRepeat 1 = .ok (.istore 4, 2) := by decide +kernel
theorem dc_W_placesOfRepeat_3 : decode bc_W_placesOfRepeat 3 = .ok (.iload_n 2, 1) := by decide +kernel
theorem dc_W_placesOfRepeat_4 : decode bc_W_placesOfRepeat 4 = .ok (.ifCond .le 7, 3) := by decide +kernel
theorem dc_W_placesOfRepeat_7 : decode bc_W_placesOfRepeat 7 = .ok (.iconst 1, 1) := by decide +kernel
theorem dc_W_placesOfRepeat_8 : decode bc_W_placesOfRepeat 8 = .ok (.goto 4, 3) := by decide +kernel
theorem dc_W_placesOfRepeat_11 : decode bc_W_placesOfRepeat 11 = .ok (.iconst 0, 1) := by decide +kernel
theorem dc_W_placesOfRepeat_12 : decode bc_W_placesOfRepeat 12 = .ok (.istore 5, 2) := by decide +kernel
theorem dc_W_placesOfRepeat_14 : decode bc_W_placesOfRepeat 14 = .ok (.iconst 1, 1) := by decide +kernel
theorem dc_W_placesOfRepeat_15 : decode bc_W_placesOfRepeat 15 = .ok (.istore 6, 2) := by decide +kernel
theorem dc_W_placesOfRepeat_17 : decode bc_W_placesOfRepeat 17 = .ok (.iconst 0, 1) := by decide +kernel
theorem dc_W_placesOfRepeat_18 : decode bc_W_placesOfRepeat 18 = .ok (.istore 7, 2) := by decide +kernel
theorem dc_W_placesOfRepeat_20 : decode bc_W_placesOfRepeat 20 = .ok (.iload 7, 2) := by decide +kernel
theorem dc_W_placesOfRepeat_22 : decode bc_W_placesOfRepeat 22 = .ok (.aload_n 1, 1) := by decide +kernel
theorem dc_W_placesOfRepeat_23 : decode bc_W_placesOfRepeat 23 = .ok (.invokevirtual 15, 3) := by decide +kernel
theorem dc_W_placesOfRepeat_26 : decode bc_W_placesOfRepeat 26 = .ok (.if_icmp .ge 84, 3) := by decide +kernel
theorem dc_W_placesOfRepeat_29 : decode bc_W_placesOfRepeat 29 = .ok (.aload_n 0, 1) := by decide +kernel
theorem dc_W_placesOfRepeat_30 : decode bc_W_placesOfRepeat 30 = .ok (.getfield 9, 3) := by decide +kernel
theorem dc_W_placesOfRepeat_33 : decode bc_W_placesOfRepeat 33 = .ok (.iload 7, 2) := by decide +kernel
theorem dc_W_placesOfRepeat_35 : decode bc_W_placesOfRepeat 35 = .ok (.iaload, 1) := by decide +kernel
theorem dc_W_placesOfRepeat_36 : decode bc_W_placesOfRepeat 36 = .ok (.iload_n 3, 1) := by decide +kernel
theorem dc_W_placesOfRepeat_37 : decode bc_W_placesOfRepeat 37 = .ok (.if_icmp .lt 67, 3) := by decide +kernel
theorem dc_W_placesOfRepeat_40 : decode bc_W_placesOfRepeat 40 = .ok (.iload 7, 2) := by decide +kernel
theorem dc_W_placesOfRepeat_42 : decode bc_W_placesOfRepeat 42 = .ok (.iload_n 2, 1) := by decide +kernel
theorem dc_W_placesOfRepeat_43 : decode bc_W_placesOfRepeat 43 = .ok (.if_icmp .ge 5, 3) := by decide +kernel
theorem dc_W_placesOfRepeat_46 : decode bc_W_placesOfRepeat 46 = .ok (.iconst 0, 1) := by decide +kernel
theorem dc_W_placesOfRepeat_47 : decode bc_W_placesOfRepeat 47 = .ok (.ireturn, 1) := by decide +kernel
theorem dc_W_placesOfRepeat_48 : decode bc_W_placesOfRepeat 48 = .ok (.iinc 4 1, 3) := by decide +kernel
theorem dc_W_placesOfRepeat_51 : decode bc_W_placesOfRepeat 51 = .ok (.iload 5, 2) := by decide +kernel
theorem dc_W_placesOfRepeat_53 : decode bc_W_placesOfRepeat 53 = .ok (.ifCond .eq 25, 3) := by decide +kernel
theorem dc_W_placesOfRepeat_56 : decode bc_W_placesOfRepeat 56 = .ok (.aload_n 1, 1) := by decide +kernel
theorem dc_W_placesOfRepeat_57 : decode bc_W_placesOfRepeat 57 = .ok (.iload 7, 2) := by decide +kernel
theorem dc_W_placesOfRepeat_59 : decode bc_W_placesOfRepeat 59 = .ok (.iconst 1, 1) := by decide +kernel
theorem dc_W_placesOfRepeat_60 : decode bc_W_placesOfRepeat 60 = .ok (.isub, 1) := by decide +kernel
theorem dc_W_placesOfRepeat_61 : decode bc_W_placesOfRepeat 61 = .ok (.invokevirtual 45, 3) := by decide +kernel
theorem dc_W_placesOfRepeat_64 : decode bc_W_placesOfRepeat 64 = .ok (.aload_n 1, 1) := by decide +kernel
theorem dc_W_placesOfRepeat_65 : decode bc_W_placesOfRepeat 65 = .ok (.iload_n 2, 1) := by decide +kernel
theorem dc_W_placesOfRepeat_66 : decode bc_W_placesOfRepeat 66 = .ok (.iconst 1, 1) := by decide +kernel
theorem dc_W_placesOfRepeat_67 : decode bc_W_placesOfRepeat 67 = .ok (.isub, 1) := by decide +kernel
theorem dc_W_placesOfRepeat_68 : decode bc_W_placesOfRepeat 68 = .ok (.invokevirtual 45, 3) := by decide +kernel
theorem dc_W_placesOfRepeat_71 : decode bc_W_placesOfRepeat 71 = .ok (.if_icmp .ne 7, 3) := by decide +kernel
theorem dc_W_placesOfRepeat_74 : decode bc_W_placesOfRepeat 74 = .ok (.iconst 1, 1) := by decide +kernel
theorem dc_W_placesOfRepeat_75 : decode bc_W_placesOfRepeat 75 = .ok (.goto 4, 3) := by decide +kernel
theorem dc_W_placesOfRepeat_78 : decode bc_W_placesOfRepeat 78 = .ok (.iconst 0, 1) := by decide +kernel
theorem dc_W_placesOfRepeat_79 : decode bc_W_placesOfRepeat 79 = .ok (.istore 5, 2) := by decide +kernel
theorem dc_W_placesOfRepeat_81 : decode bc_W_placesOfRepeat 81 = .ok (.iload 6, 2) := by decide +kernel
theorem dc_W_placesOfRepeat_83 : decode bc_W_placesOfRepeat 83 = .ok (.ifCond .eq 18, 3) := by decide +kernel
theorem dc_W_placesOfRepeat_86 : decode bc_W_placesOfRepeat 86 = .ok (.aload_n 0, 1) := by decide +kernel
theorem dc_W_placesOfRepeat_87 : decode bc_W_placesOfRepeat 87 = .ok (.getfield 9, 3) := by decide +kernel
theorem dc_W_placesOfRepeat_90 : decode bc_W_placesOfRepeat 90 = .ok (.iload 7, 2) := by decide +kernel
theorem dc_W_placesOfRepeat_92 : decode bc_W_placesOfRepeat 92 = .ok (.iaload, 1) := by decide +kernel
theorem dc_W_placesOfRepeat_93 : decode bc_W_placesOfRepeat 93 = .ok (.iload_n 3, 1) := by decide +kernel
theorem dc_W_placesOfRepeat_94 : decode bc_W_placesOfRepeat 94 = .ok (.if_icmp .le 7, 3) := by decide +kernel
theorem dc_W_placesOfRepeat_97 : decode bc_W_placesOfRepeat 97 = .ok (.iconst 1, 1) := by decide +kernel
theorem dc_W_placesOfRepeat_98 : decode bc_W_placesOfRepeat 98 = .ok (.goto 4, 3) := by decide +kernel
theorem dc_W_placesOfRepeat_101 : decode bc_W_placesOfRepeat 101 = .ok (.iconst 0, 1) := by decide +kernel
theorem dc_W_placesOfRepeat_102 : decode bc_W_placesOfRepeat 102 = .ok (.istore 6, 2) := by decide +kernel
theorem dc_W_placesOfRepeat_104 : decode bc_W_placesOfRepeat 104 = .ok (.iinc 7 1, 3) := by decide +kernel
theorem dc_W_placesOfRepeat_107 : decode bc_W_placesOfRepeat 107 = .ok (.goto (-87), 3) := by decide +kernel
theorem dc_W_placesOfRepeat_110 : decode bc_W_placesOfRepeat 110 = .ok (.iload 4, 2) := by decide +kernel
theorem dc_W_placesOfRepeat_112 : decode bc_W_placesOfRepeat 112 = .ok (.iconst 2, 1) := by decide +kernel
theorem dc_W_placesOfRepeat_113 : decode bc_W_placesOfRepeat 113 = .ok (.if_icmp .lt 18, 3) := by decide +kernel
theorem dc_W_placesOfRepeat_116 : decode bc_W_placesOfRepeat 116 = .ok (.iload 5, 2) := by decide +kernel
theorem dc_W_placesOfRepeat_118 : decode bc_W_placesOfRepeat 118 = .ok (.ifCond .ne 13, 3) := by decide +kernel
theorem dc_W_placesOfRepeat_121 : decode bc_W_placesOfRepeat 121 = .ok (.iload 6, 2) := by decide +kernel
theorem dc_W_placesOfRepeat_123 : decode bc_W_placesOfRepeat 123 = .ok (.ifCond .ne 8, 3) := by decide +kernel
theorem dc_W_placesOfRepeat_126 : decode bc_W_placesOfRepeat 126 = .ok (.iload 4, 2) := by decide +kernel
theorem dc_W_placesOfRepeat_128 : decode bc_W_placesOfRepeat 128 = .ok (.goto 4, 3) := by decide +kernel
theorem dc_W_placesOfRepeat_131 : decode bc_W_placesOfRepeat 131 = .ok (.iconst 0, 1) := by decide +kernel
theorem dc_W_placesOfRepeat_132 : decode bc_W_placesOfRepeat 132 = .ok (.ireturn, 1) := by decide +kernel
