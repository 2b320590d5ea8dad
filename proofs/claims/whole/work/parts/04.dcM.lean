theorem dc_M_init_0 : decode bc_M_init 0 = .ok (.aload_n 0, 1) := by decide +kernel
theorem dc_M_init_1 : decode bc_M_init 1 = .ok (.invokespecial 1, 3) := by decide +kernel
theorem dc_M_init_4 : decode bc_M_init 4 = .ok (.aload_n 0, 1) := by decide +kernel
theorem dc_M_init_5 : decode bc_M_init 5 = .ok (.bipush 8, 2) := by decide +kernel
theorem dc_M_init_7 : decode bc_M_init 7 = .ok (.newarray .boolean, 2) := by decide +kernel
theorem dc_M_init_9 : decode bc_M_init 9 = .ok (.putfield 7, 3) := by decide +kernel
theorem dc_M_init_12 : decode bc_M_init 12 = .ok (.aload_n 0, 1) := by decide +kernel
theorem dc_M_init_13 : decode bc_M_init 13 = .ok (.bipush 8, 2) := by decide +kernel
theorem dc_M_init_15 : decode bc_M_init 15 = .ok (.newarray .boolean, 2) := by decide +kernel
theorem dc_M_init_17 : decode bc_M_init 17 = .ok (.putfield 13, 3) := by decide +kernel
theorem dc_M_init_20 : decode bc_M_init 20 = .ok (.aload_n 0, 1) := by decide +kernel
theorem dc_M_init_21 : decode bc_M_init 21 = .ok (.bipush 8, 2) := by decide +kernel
theorem dc_M_init_23 : decode bc_M_init 23 = .ok (.newarray .int, 2) := by decide +kernel
theorem dc_M_init_25 : decode bc_M_init 25 = .ok (.putfield 16, 3) := by decide +kernel
theorem dc_M_init_28 : decode bc_M_init 28 = .ok (.aload_n 0, 1) := by decide +kernel
theorem dc_M_init_29 : decode bc_M_init 29 = .ok (.bipush 8, 2) := by decide +kernel
theorem dc_M_init_31 : decode bc_M_init 31 = .ok (.newarray .int, 2) := by decide +kernel
theorem dc_M_init_33 : decode bc_M_init 33 = .ok (.putfield 20, 3) := by decide +kernel
theorem dc_M_init_36 : decode bc_M_init 36 = .ok (.aload_n 0, 1) := by decide +kernel
theorem dc_M_init_37 : decode bc_M_init 37 = .ok (.sipush 1440, 3) := by decide +kernel
theorem dc_M_init_40 : decode bc_M_init 40 = .ok (.newarray .int, 2) := by decide +kernel
theorem dc_M_init_42 : decode bc_M_init 42 = .ok (.putfield 23, 3) := by decide +kernel
theorem dc_M_init_45 : decode bc_M_init 45 = .ok (.aload_n 0, 1) := by decide +kernel
theorem dc_M_init_46 : decode bc_M_init 46 = .ok (.sipush 1440, 3) := by decide +kernel
theorem dc_M_init_49 : decode bc_M_init 49 = .ok (.newarray .int, 2) := by decide +kernel
theorem dc_M_init_51 : decode bc_M_init 51 = .ok (.putfield 26, 3) := by decide +kernel
theorem dc_M_init_54 : decode bc_M_init 54 = .ok (.aload_n 0, 1) := by decide +kernel
theorem dc_M_init_55 : decode bc_M_init 55 = .ok (.bipush 8, 2) := by decide +kernel
theorem dc_M_init_57 : decode bc_M_init 57 = .ok (.newarray .int, 2) := by decide +kernel
theorem dc_M_init_59 : decode bc_M_init 59 = .ok (.putfield 29, 3) := by decide +kernel
theorem dc_M_init_62 : decode bc_M_init 62 = .ok (.aload_n 0, 1) := by decide +kernel
theorem dc_M_init_63 : decode bc_M_init 63 = .ok (.bipush 8, 2) := by decide +kernel
theorem dc_M_init_65 : decode bc_M_init 65 = .ok (.newarray .int, 2) := by decide +kernel
theorem dc_M_init_67 : decode bc_M_init 67 = .ok (.putfield 32, 3) := by decide +kernel
theorem dc_M_init_70 : decode bc_M_init 70 = .ok (.aload_n 0, 1) := by decide +kernel
theorem dc_M_init_71 : decode bc_M_init 71 = .ok (.sipush 1520, 3) := by decide +kernel
theorem dc_M_init_74 : decode bc_M_init 74 = .ok (.newarray .int, 2) := by decide +kernel
theorem dc_M_init_76 : decode bc_M_init 76 = .ok (.putfield 35, 3) := by decide +kernel
theorem dc_M_init_79 : decode bc_M_init 79 = .ok (.aload_n 0, 1) := by decide +kernel
theorem dc_M_init_80 : decode bc_M_init 80 = .ok (.sipush 1520, 3) := by decide +kernel
theorem dc_M_init_83 : decode bc_M_init 83 = .ok (.newarray .int, 2) := by decide +kernel
theorem dc_M_init_85 : decode bc_M_init 85 = .ok (.putfield 38, 3) := by decide +kernel
theorem dc_M_init_88 : decode bc_M_init 88 = .ok (.aload_n 0, 1) := by decide +kernel
theorem dc_M_init_89 : decode bc_M_init 89 = .ok (.sipush 1520, 3) := by decide +kernel
theorem dc_M_init_92 : decode bc_M_init 92 = .ok (.newarray .int, 2) := by decide +kernel
theorem dc_M_init_94 : decode bc_M_init 94 = .ok (.putfield 41, 3) := by decide +kernel
theorem dc_M_init_97 : decode bc_M_init 97 = .ok (.aload_n 0, 1) := by decide +kernel
theorem dc_M_init_98 : decode bc_M_init 98 = .ok (.sipush 1520, 3) := by decide +kernel
theorem dc_M_init_101 : decode bc_M_init 101 = .ok (.newarray .int, 2) := by decide +kernel
theorem dc_M_init_103 : decode bc_M_init 103 = .ok (.putfield 44, 3) := by decide +kernel
theorem dc_M_init_106 : decode bc_M_init 106 = .ok (.aload_n 0, 1) := by decide +kernel
theorem dc_M_init_107 : decode bc_M_init 107 = .ok (.sipush 1520, 3) := by decide +kernel
theorem dc_M_init_110 : decode bc_M_init 110 = .ok (.newarray .boolean, 2) := by decide +kernel
theorem dc_M_init_112 : decode bc_M_init 112 = .ok (.putfield 47, 3) := by decide +kernel
theorem dc_M_init_115 : decode bc_M_init 115 = .ok (.aload_n 0, 1) := by decide +kernel
theorem dc_M_init_116 : decode bc_M_init 116 = .ok (.sipush 180, 3) := by decide +kernel
theorem dc_M_init_119 : decode bc_M_init 119 = .ok (.newarray .int, 2) := by decide +kernel
theorem dc_M_init_121 : decode bc_M_init 121 = .ok (.putfield 50, 3) := by decide +kernel
theorem dc_M_init_124 : decode bc_M_init 124 = .ok (.aload_n 0, 1) := by decide +kernel
theorem dc_M_init_125 : decode bc_M_init 125 = .ok (.sipush 160, 3) := by decide +kernel
theorem dc_M_init_128 : decode bc_M_init 128 = .ok (.newarray .int, 2) := by decide +kernel
theorem dc_M_init_130 : decode bc_M_init 130 = .ok (.putfield 53, 3) := by decide +kernel
theorem dc_M_init_133 : decode bc_M_init 133 = .ok (.aload_n 0, 1) := by decide +kernel
theorem dc_M_init_134 : decode bc_M_init 134 = .ok (.sipush 160, 3) := by decide +kernel
theorem dc_M_init_137 : decode bc_M_init 137 = .ok (.newarray .int, 2) := by decide +kernel
theorem dc_M_init_139 : decode bc_M_init 139 = .ok (.putfield 56, 3) := by decide +kernel
theorem dc_M_init_142 : decode bc_M_init 142 = .ok (.aload_n 0, 1) := by decide +kernel
theorem dc_M_init_143 : decode bc_M_init 143 = .ok (.sipush 160, 3) := by decide +kernel
theorem dc_M_init_146 : decode bc_M_init 146 = .ok (.newarray .boolean, 2) := by decide +kernel
theorem dc_M_init_148 : decode bc_M_init 148 = .ok (.putfield 59, 3) := by decide +kernel
theorem dc_M_init_151 : decode bc_M_init 151 = .ok (.return_, 1) := by decide +kernel
theorem dc_M_thrown_0 : decode bc_M_thrown 0 = .ok (.aload_n 0, 1) := by decide +kernel
theorem dc_M_thrown_1 : decode bc_M_thrown 1 = .ok (.getfield 62, 3) := by decide +kernel
theorem dc_M_thrown_4 : decode bc_M_thrown 4 = .ok (.ireturn, 1) := by decide +kernel
theorem dc_M_tune_0 : decode bc_M_tune 0 = .ok (.aload_n 0, 1) := by decide +kernel
theorem dc_M_tune_1 : decode bc_M_tune 1 = .ok (.iload_n 1, 1) := by decide +kernel
theorem dc_M_tune_2 : decode bc_M_tune 2 = .ok (.ifCond .lt 9, 3) := by decide +kernel
theorem dc_M_tune_5 : decode bc_M_tune 5 = .ok (.iload_n 1, 1) := by decide +kernel
theorem dc_M_tune_6 : decode bc_M_tune 6 = .ok (.bipush 7, 2) := by decide +kernel
theorem dc_M_tune_8 : decode bc_M_tune 8 = .ok (.if_icmp .le 7, 3) := by decide +kernel
theorem dc_M_tune_11 : decode bc_M_tune 11 = .ok (.iconst 1, 1) := by decide +kernel
theorem dc_M_tune_12 : decode bc_M_tune 12 = .ok (.goto 17, 3) := by decide +kernel
theorem dc_M_tune_15 : decode bc_M_tune 15 = .ok (.aload_n 0, 1) := by decide +kernel
theorem dc_M_tune_16 : decode bc_M_tune 16 = .ok (.getfield 7, 3) := by decide +kernel
theorem dc_M_tune_19 : decode bc_M_tune 19 = .ok (.iload_n 1, 1) := by decide +kernel
theorem dc_M_tune_20 : decode bc_M_tune 20 = .ok (.baload, 1) := by decide +kernel
theorem dc_M_tune_21 : decode bc_M_tune 21 = .ok (.ifCond .eq 7, 3) := by decide +kernel
theorem dc_M_tune_24 : decode bc_M_tune 24 = .ok (.iconst 2, 1) := by decide +kernel
theorem dc_M_tune_25 : decode bc_M_tune 25 = .ok (.goto 4, 3) := by decide +kernel
theorem dc_M_tune_28 : decode bc_M_tune 28 = .ok (.iconst 0, 1) := by decide +kernel
theorem dc_M_tune_29 : decode bc_M_tune 29 = .ok (.putfield 62, 3) := by decide +kernel
theorem dc_M_tune_32 : decode bc_M_tune 32 = .ok (.aload_n 0, 1) := by decide +kernel
theorem dc_M_tune_33 : decode bc_M_tune 33 = .ok (.getfield 62, 3) := by decide +kernel
theorem dc_M_tune_36 : decode bc_M_tune 36 = .ok (.ifCond .le 4, 3) := by decide +kernel
theorem dc_M_tune_39 : decode bc_M_tune 39 = .ok (.return_, 1) := by decide +kernel
theorem dc_M_tune_40 : decode bc_M_tune 40 = .ok (.aload_n 0, 1) := by decide +kernel
theorem dc_M_tune_41 : decode bc_M_tune 41 = .ok (.getfield 7, 3) := by decide +kernel
theorem dc_M_tune_44 : decode bc_M_tune 44 = .ok (.iload_n 1, 1) := by decide +kernel
theorem dc_M_tune_45 : decode bc_M_tune 45 = .ok (.iconst 1, 1) := by decide +kernel
theorem dc_M_tune_46 : decode bc_M_tune 46 = .ok (.bastore, 1) := by decide +kernel
theorem dc_M_tune_47 : decode bc_M_tune 47 = .ok (.aload_n 0, 1) := by decide +kernel
theorem dc_M_tune_48 : decode bc_M_tune 48 = .ok (.getfield 13, 3) := by decide +kernel
theorem dc_M_tune_51 : decode bc_M_tune 51 = .ok (.iload_n 1, 1) := by decide +kernel
theorem dc_M_tune_52 : decode bc_M_tune 52 = .ok (.iconst 0, 1) := by decide +kernel
theorem dc_M_tune_53 : decode bc_M_tune 53 = .ok (.bastore, 1) := by decide +kernel
theorem dc_M_tune_54 : decode bc_M_tune 54 = .ok (.aload_n 0, 1) := by decide +kernel
theorem dc_M_tune_55 : decode bc_M_tune 55 = .ok (.getfield 16, 3) := by decide +kernel
theorem dc_M_tune_58 : decode bc_M_tune 58 = .ok (.iload_n 1, 1) := by decide +kernel
theorem dc_M_tune_59 : decode bc_M_tune 59 = .ok (.iconst 0, 1) := by decide +kernel
theorem dc_M_tune_60 : decode bc_M_tune 60 = .ok (.iastore, 1) := by decide +kernel
theorem dc_M_tune_61 : decode bc_M_tune 61 = .ok (.aload_n 0, 1) := by decide +kernel
theorem dc_M_tune_62 : decode bc_M_tune 62 = .ok (.getfield 20, 3) := by decide +kernel
theorem dc_M_tune_65 : decode bc_M_tune 65 = .ok (.iload_n 1, 1) := by decide +kernel
theorem dc_M_tune_66 : decode bc_M_tune 66 = .ok (.iconst 1, 1) := by decide +kernel
theorem dc_M_tune_67 : decode bc_M_tune 67 = .ok (.iastore, 1) := by decide +kernel
theorem dc_M_tune_68 : decode bc_M_tune 68 = .ok (.return_, 1) := by decide +kernel
theorem dc_M_drop_0 : decode bc_M_drop 0 = .ok (.aload_n 0, 1) := by decide +kernel
theorem dc_M_drop_1 : decode bc_M_drop 1 = .ok (.aload_n 0, 1) := by decide +kernel
theorem dc_M_drop_2 : decode bc_M_drop 2 = .ok (.iload_n 1, 1) := by decide +kernel
theorem dc_M_drop_3 : decode bc_M_drop 3 = .ok (.invokevirtual 74, 3) := by decide +kernel
theorem dc_M_drop_6 : decode bc_M_drop 6 = .ok (.ifCond .eq 7, 3) := by decide +kernel
theorem dc_M_drop_9 : decode bc_M_drop 9 = .ok (.iconst 1, 1) := by decide +kernel
theorem dc_M_drop_10 : decode bc_M_drop 10 = .ok (.goto 4, 3) := by decide +kernel
theorem dc_M_drop_13 : decode bc_M_drop 13 = .ok (.iconst 0, 1) := by decide +kernel
theorem dc_M_drop_14 : decode bc_M_drop 14 = .ok (.putfield 62, 3) := by decide +kernel
theorem dc_M_drop_17 : decode bc_M_drop 17 = .ok (.aload_n 0, 1) := by decide +kernel
theorem dc_M_drop_18 : decode bc_M_drop 18 = .ok (.getfield 62, 3) := by decide +kernel
theorem dc_M_drop_21 : decode bc_M_drop 21 = .ok (.ifCond .ne 10, 3) := by decide +kernel
theorem dc_M_drop_24 : decode bc_M_drop 24 = .ok (.aload_n 0, 1) := by decide +kernel
theorem dc_M_drop_25 : decode bc_M_drop 25 = .ok (.getfield 7, 3) := by decide +kernel
theorem dc_M_drop_28 : decode bc_M_drop 28 = .ok (.iload_n 1, 1) := by decide +kernel
theorem dc_M_drop_29 : decode bc_M_drop 29 = .ok (.iconst 0, 1) := by decide +kernel
theorem dc_M_drop_30 : decode bc_M_drop 30 = .ok (.bastore, 1) := by decide +kernel
theorem dc_M_drop_31 : decode bc_M_drop 31 = .ok (.return_, 1) := by decide +kernel
theorem dc_M_noTune_0 : decode bc_M_noTune 0 = .ok (.iload_n 1, 1) := by decide +kernel
theorem dc_M_noTune_1 : decode bc_M_noTune 1 = .ok (.ifCond .lt 18, 3) := by decide +kernel
theorem dc_M_noTune_4 : decode bc_M_noTune 4 = .ok (.iload_n 1, 1) := by decide +kernel
theorem dc_M_noTune_5 : decode bc_M_noTune 5 = .ok (.bipush 7, 2) := by decide +kernel
theorem dc_M_noTune_7 : decode bc_M_noTune 7 = .ok (.if_icmp .gt 12, 3) := by decide +kernel
theorem dc_M_noTune_10 : decode bc_M_noTune 10 = .ok (.aload_n 0, 1) := by decide +kernel
theorem dc_M_noTune_11 : decode bc_M_noTune 11 = .ok (.getfield 7, 3) := by decide +kernel
theorem dc_M_noTune_14 : decode bc_M_noTune 14 = .ok (.iload_n 1, 1) := by decide +kernel
theorem dc_M_noTune_15 : decode bc_M_noTune 15 = .ok (.baload, 1) := by decide +kernel
theorem dc_M_noTune_16 : decode bc_M_noTune 16 = .ok (.ifCond .ne 7, 3) := by decide +kernel
theorem dc_M_noTune_19 : decode bc_M_noTune 19 = .ok (.iconst 1, 1) := by decide +kernel
theorem dc_M_noTune_20 : decode bc_M_noTune 20 = .ok (.goto 4, 3) := by decide +kernel
theorem dc_M_noTune_23 : decode bc_M_noTune 23 = .ok (.iconst 0, 1) := by decide +kernel
theorem dc_M_noTune_24 : decode bc_M_noTune 24 = .ok (.ireturn, 1) := by decide +kernel
theorem dc_M_note_0 : decode bc_M_note 0 = .ok (.aload_n 0, 1) := by decide +kernel
theorem dc_M_note_1 : decode bc_M_note 1 = .ok (.aload_n 0, 1) := by decide +kernel
theorem dc_M_note_2 : decode bc_M_note 2 = .ok (.iload_n 1, 1) := by decide +kernel
theorem dc_M_note_3 : decode bc_M_note 3 = .ok (.invokevirtual 74, 3) := by decide +kernel
theorem dc_M_note_6 : decode bc_M_note 6 = .ok (.ifCond .eq 7, 3) := by decide +kernel
theorem dc_M_note_9 : decode bc_M_note 9 = .ok (.iconst 1, 1) := by decide +kernel
theorem dc_M_note_10 : decode bc_M_note 10 = .ok (.goto 50, 3) := by decide +kernel
theorem dc_M_note_13 : decode bc_M_note 13 = .ok (.iload_n 2, 1) := by decide +kernel
theorem dc_M_note_14 : decode bc_M_note 14 = .ok (.iload_n 3, 1) := by decide +kernel
theorem dc_M_note_15 : decode bc_M_note 15 = .ok (.invokestatic 78, 3) := by decide +kernel
theorem dc_M_note_18 : decode bc_M_note 18 = .ok (.ifCond .eq 7, 3) := by decide +kernel
theorem dc_M_note_21 : decode bc_M_note 21 = .ok (.iconst 2, 1) := by decide +kernel
theorem dc_M_note_22 : decode bc_M_note 22 = .ok (.goto 38, 3) := by decide +kernel
theorem dc_M_note_25 : decode bc_M_note 25 = .ok (.aload_n 0, 1) := by decide +kernel
theorem dc_M_note_26 : decode bc_M_note 26 = .ok (.getfield 13, 3) := by decide +kernel
theorem dc_M_note_29 : decode bc_M_note 29 = .ok (.iload_n 1, 1) := by decide +kernel
theorem dc_M_note_30 : decode bc_M_note 30 = .ok (.baload, 1) := by decide +kernel
theorem dc_M_note_31 : decode bc_M_note 31 = .ok (.ifCond .ne 24, 3) := by decide +kernel
theorem dc_M_note_34 : decode bc_M_note 34 = .ok (.aload_n 0, 1) := by decide +kernel
theorem dc_M_note_35 : decode bc_M_note 35 = .ok (.getfield 20, 3) := by decide +kernel
theorem dc_M_note_38 : decode bc_M_note 38 = .ok (.iload_n 1, 1) := by decide +kernel
theorem dc_M_note_39 : decode bc_M_note 39 = .ok (.iaload, 1) := by decide +kernel
theorem dc_M_note_40 : decode bc_M_note 40 = .ok (.iconst 1, 1) := by decide +kernel
theorem dc_M_note_41 : decode bc_M_note 41 = .ok (.if_icmp .gt 14, 3) := by decide +kernel
theorem dc_M_note_44 : decode bc_M_note 44 = .ok (.aload_n 0, 1) := by decide +kernel
theorem dc_M_note_45 : decode bc_M_note 45 = .ok (.getfield 16, 3) := by decide +kernel
theorem dc_M_note_48 : decode bc_M_note 48 = .ok (.iload_n 1, 1) := by decide +kernel
theorem dc_M_note_49 : decode bc_M_note 49 = .ok (.iaload, 1) := by decide +kernel
theorem dc_M_note_50 : decode bc_M_note 50 = .ok (.bipush 20, 2) := by decide +kernel
theorem dc_M_note_52 : decode bc_M_note 52 = .ok (.if_icmp .ne 7, 3) := by decide +kernel
theorem dc_M_note_55 : decode bc_M_note 55 = .ok (.iconst 3, 1) := by decide +kernel
theorem dc_M_note_56 : decode bc_M_note 56 = .ok (.goto 4, 3) := by decide +kernel
theorem dc_M_note_59 : decode bc_M_note 59 = .ok (.iconst 0, 1) := by decide +kernel
theorem dc_M_note_60 : decode bc_M_note 60 = .ok (.putfield 62, 3) := by decide +kernel
theorem dc_M_note_63 : decode bc_M_note 63 = .ok (.aload_n 0, 1) := by decide +kernel
theorem dc_M_note_64 : decode bc_M_note 64 = .ok (.getfield 62, 3) := by decide +kernel
theorem dc_M_note_67 : decode bc_M_note 67 = .ok (.ifCond .le 5, 3) := by decide +kernel
theorem dc_M_note_70 : decode bc_M_note 70 = .ok (.iconst 0, 1) := by decide +kernel
theorem dc_M_note_71 : decode bc_M_note 71 = .ok (.ireturn, 1) := by decide +kernel
theorem dc_M_note_72 : decode bc_M_note 72 = .ok (.aload_n 0, 1) := by decide +kernel
theorem dc_M_note_73 : decode bc_M_note 73 = .ok (.getfield 23, 3) := by decide +kernel
theorem dc_M_note_76 : decode bc_M_note 76 = .ok (.aload_n 0, 1) := by decide +kernel
theorem dc_M_note_77 : decode bc_M_note 77 = .ok (.iload_n 1, 1) := by decide +kernel
theorem dc_M_note_78 : decode bc_M_note 78 = .ok (.iconst 0, 1) := by decide +kernel
theorem dc_M_note_79 : decode bc_M_note 79 = .ok (.aload_n 0, 1) := by decide +kernel
theorem dc_M_note_80 : decode bc_M_note 80 = .ok (.getfield 16, 3) := by decide +kernel
theorem dc_M_note_83 : decode bc_M_note 83 = .ok (.iload_n 1, 1) := by decide +kernel
theorem dc_M_note_84 : decode bc_M_note 84 = .ok (.iaload, 1) := by decide +kernel
theorem dc_M_note_85 : decode bc_M_note 85 = .ok (.invokevirtual 66, 3) := by decide +kernel
theorem dc_M_note_88 : decode bc_M_note 88 = .ok (.iload_n 2, 1) := by decide +kernel
theorem dc_M_note_89 : decode bc_M_note 89 = .ok (.iastore, 1) := by decide +kernel
theorem dc_M_note_90 : decode bc_M_note 90 = .ok (.aload_n 0, 1) := by decide +kernel
theorem dc_M_note_91 : decode bc_M_note 91 = .ok (.getfield 26, 3) := by decide +kernel
theorem dc_M_note_94 : decode bc_M_note 94 = .ok (.aload_n 0, 1) := by decide +kernel
theorem dc_M_note_95 : decode bc_M_note 95 = .ok (.iload_n 1, 1) := by decide +kernel
theorem dc_M_note_96 : decode bc_M_note 96 = .ok (.iconst 0, 1) := by decide +kernel
theorem dc_M_note_97 : decode bc_M_note 97 = .ok (.aload_n 0, 1) := by decide +kernel
theorem dc_M_note_98 : decode bc_M_note 98 = .ok (.getfield 16, 3) := by decide +kernel
theorem dc_M_note_101 : decode bc_M_note 101 = .ok (.iload_n 1, 1) := by decide +kernel
theorem dc_M_note_102 : decode bc_M_note 102 = .ok (.iaload, 1) := by decide +kernel
theorem dc_M_note_103 : decode bc_M_note 103 = .ok (.invokevirtual 66, 3) := by decide +kernel
theorem dc_M_note_106 : decode bc_M_note 106 = .ok (.iload_n 3, 1) := by decide +kernel
theorem dc_M_note_107 : decode bc_M_note 107 = .ok (.iastore, 1) := by decide +kernel
theorem dc_M_note_108 : decode bc_M_note 108 = .ok (.aload_n 0, 1) := by decide +kernel
theorem dc_M_note_109 : decode bc_M_note 109 = .ok (.getfield 16, 3) := by decide +kernel
theorem dc_M_note_112 : decode bc_M_note 112 = .ok (.iload_n 1, 1) := by decide +kernel
theorem dc_M_note_113 : decode bc_M_note 113 = .ok (.dup2, 1) := by decide +kernel
theorem dc_M_note_114 : decode bc_M_note 114 = .ok (.iaload, 1) := by decide +kernel
theorem dc_M_note_115 : decode bc_M_note 115 = .ok (.iconst 1, 1) := by decide +kernel
theorem dc_M_note_116 : decode bc_M_note 116 = .ok (.iadd, 1) := by decide +kernel
theorem dc_M_note_117 : decode bc_M_note 117 = .ok (.iastore, 1) := by decide +kernel
theorem dc_M_note_118 : decode bc_M_note 118 = .ok (.aload_n 0, 1) := by decide +kernel
theorem dc_M_note_119 : decode bc_M_note 119 = .ok (.getfield 16, 3) := by decide +kernel
theorem dc_M_note_122 : decode bc_M_note 122 = .ok (.iload_n 1, 1) := by decide +kernel
theorem dc_M_note_123 : decode bc_M_note 123 = .ok (.iaload, 1) := by decide +kernel
theorem dc_M_note_124 : decode bc_M_note 124 = .ok (.ireturn, 1) := by decide +kernel
theorem dc_M_noNote_0 : decode bc_M_noNote 0 = .ok (.iload_n 0, 1) := by decide +kernel
theorem dc_M_noNote_1 : decode bc_M_noNote 1 = .ok (.ifCond .lt 20, 3) := by decide +kernel
theorem dc_M_noNote_4 : decode bc_M_noNote 4 = .ok (.iload_n 0, 1) := by decide +kernel
theorem dc_M_noNote_5 : decode bc_M_noNote 5 = .ok (.bipush 127, 2) := by decide +kernel
theorem dc_M_noNote_7 : decode bc_M_noNote 7 = .ok (.if_icmp .gt 14, 3) := by decide +kernel
theorem dc_M_noNote_10 : decode bc_M_noNote 10 = .ok (.iload_n 1, 1) := by decide +kernel
theorem dc_M_noNote_11 : decode bc_M_noNote 11 = .ok (.iconst 1, 1) := by decide +kernel
theorem dc_M_noNote_12 : decode bc_M_noNote 12 = .ok (.if_icmp .lt 9, 3) := by decide +kernel
theorem dc_M_noNote_15 : decode bc_M_noNote 15 = .ok (.iload_n 1, 1) := by decide +kernel
theorem dc_M_noNote_16 : decode bc_M_noNote 16 = .ok (.bipush 64, 2) := by decide +kernel
theorem dc_M_noNote_18 : decode bc_M_noNote 18 = .ok (.if_icmp .le 7, 3) := by decide +kernel
theorem dc_M_noNote_21 : decode bc_M_noNote 21 = .ok (.iconst 1, 1) := by decide +kernel
theorem dc_M_noNote_22 : decode bc_M_noNote 22 = .ok (.goto 4, 3) := by decide +kernel
theorem dc_M_noNote_25 : decode bc_M_noNote 25 = .ok (.iconst 0, 1) := by decide +kernel
theorem dc_M_noNote_26 : decode bc_M_noNote 26 = .ok (.ireturn, 1) := by decide +kernel
theorem dc_M_spot_0 : decode bc_M_spot 0 = .ok (.sipush 180, 3) := by decide +kernel
theorem dc_M_spot_3 : decode bc_M_spot 3 = .ok (.iload_n 1, 1) := by decide +kernel
theorem dc_M_spot_4 : decode bc_M_spot 4 = .ok (.imul, 1) := by decide +kernel
theorem dc_M_spot_5 : decode bc_M_spot 5 = .ok (.bipush 20, 2) := by decide +kernel
theorem dc_M_spot_7 : decode bc_M_spot 7 = .ok (.iload_n 2, 1) := by decide +kernel
theorem dc_M_spot_8 : decode bc_M_spot 8 = .ok (.imul, 1) := by decide +kernel
theorem dc_M_spot_9 : decode bc_M_spot 9 = .ok (.iadd, 1) := by decide +kernel
theorem dc_M_spot_10 : decode bc_M_spot 10 = .ok (.iload_n 3, 1) := by decide +kernel
theorem dc_M_spot_11 : decode bc_M_spot 11 = .ok (.iadd, 1) := by decide +kernel
theorem dc_M_spot_12 : decode bc_M_spot 12 = .ok (.ireturn, 1) := by decide +kernel
theorem dc_M_show_0 : decode bc_M_show 0 = .ok (.aload_n 0, 1) := by decide +kernel
theorem dc_M_show_1 : decode bc_M_show 1 = .ok (.aload_n 0, 1) := by decide +kernel
theorem dc_M_show_2 : decode bc_M_show 2 = .ok (.iload_n 1, 1) := by decide +kernel
theorem dc_M_show_3 : decode bc_M_show 3 = .ok (.invokevirtual 74, 3) := by decide +kernel
theorem dc_M_show_6 : decode bc_M_show 6 = .ok (.ifCond .eq 7, 3) := by decide +kernel
theorem dc_M_show_9 : decode bc_M_show 9 = .ok (.iconst 1, 1) := by decide +kernel
theorem dc_M_show_10 : decode bc_M_show 10 = .ok (.goto 28, 3) := by decide +kernel
theorem dc_M_show_13 : decode bc_M_show 13 = .ok (.aload_n 0, 1) := by decide +kernel
theorem dc_M_show_14 : decode bc_M_show 14 = .ok (.getfield 13, 3) := by decide +kernel
theorem dc_M_show_17 : decode bc_M_show 17 = .ok (.iload_n 1, 1) := by decide +kernel
theorem dc_M_show_18 : decode bc_M_show 18 = .ok (.baload, 1) := by decide +kernel
theorem dc_M_show_19 : decode bc_M_show 19 = .ok (.iload_n 2, 1) := by decide +kernel
theorem dc_M_show_20 : decode bc_M_show 20 = .ok (.if_icmp .eq 13, 3) := by decide +kernel
theorem dc_M_show_23 : decode bc_M_show 23 = .ok (.aload_n 0, 1) := by decide +kernel
theorem dc_M_show_24 : decode bc_M_show 24 = .ok (.getfield 16, 3) := by decide +kernel
theorem dc_M_show_27 : decode bc_M_show 27 = .ok (.iload_n 1, 1) := by decide +kernel
theorem dc_M_show_28 : decode bc_M_show 28 = .ok (.iaload, 1) := by decide +kernel
theorem dc_M_show_29 : decode bc_M_show 29 = .ok (.iconst 2, 1) := by decide +kernel
theorem dc_M_show_30 : decode bc_M_show 30 = .ok (.if_icmp .ge 7, 3) := by decide +kernel
theorem dc_M_show_33 : decode bc_M_show 33 = .ok (.iconst 2, 1) := by decide +kernel
theorem dc_M_show_34 : decode bc_M_show 34 = .ok (.goto 4, 3) := by decide +kernel
theorem dc_M_show_37 : decode bc_M_show 37 = .ok (.iconst 0, 1) := by decide +kernel
theorem dc_M_show_38 : decode bc_M_show 38 = .ok (.putfield 62, 3) := by decide +kernel
theorem dc_M_show_41 : decode bc_M_show 41 = .ok (.aload_n 0, 1) := by decide +kernel
theorem dc_M_show_42 : decode bc_M_show 42 = .ok (.getfield 62, 3) := by decide +kernel
theorem dc_M_show_45 : decode bc_M_show 45 = .ok (.ifCond .ne 10, 3) := by decide +kernel
theorem dc_M_show_48 : decode bc_M_show 48 = .ok (.aload_n 0, 1) := by decide +kernel
theorem dc_M_show_49 : decode bc_M_show 49 = .ok (.getfield 13, 3) := by decide +kernel
theorem dc_M_show_52 : decode bc_M_show 52 = .ok (.iload_n 1, 1) := by decide +kernel
theorem dc_M_show_53 : decode bc_M_show 53 = .ok (.iload_n 2, 1) := by decide +kernel
theorem dc_M_show_54 : decode bc_M_show 54 = .ok (.bastore, 1) := by decide +kernel
theorem dc_M_show_55 : decode bc_M_show 55 = .ok (.return_, 1) := by decide +kernel
theorem dc_M_correct_0 : decode bc_M_correct 0 = .ok (.aload_n 0, 1) := by decide +kernel
theorem dc_M_correct_1 : decode bc_M_correct 1 = .ok (.aload_n 0, 1) := by decide +kernel
theorem dc_M_correct_2 : decode bc_M_correct 2 = .ok (.iload_n 1, 1) := by decide +kernel
theorem dc_M_correct_3 : decode bc_M_correct 3 = .ok (.invokevirtual 74, 3) := by decide +kernel
theorem dc_M_correct_6 : decode bc_M_correct 6 = .ok (.ifCond .eq 7, 3) := by decide +kernel
theorem dc_M_correct_9 : decode bc_M_correct 9 = .ok (.iconst 1, 1) := by decide +kernel
theorem dc_M_correct_10 : decode bc_M_correct 10 = .ok (.goto 50, 3) := by decide +kernel
theorem dc_M_correct_13 : decode bc_M_correct 13 = .ok (.iload_n 2, 1) := by decide +kernel
theorem dc_M_correct_14 : decode bc_M_correct 14 = .ok (.ifCond .lt 13, 3) := by decide +kernel
theorem dc_M_correct_17 : decode bc_M_correct 17 = .ok (.iload_n 2, 1) := by decide +kernel
theorem dc_M_correct_18 : decode bc_M_correct 18 = .ok (.aload_n 0, 1) := by decide +kernel
theorem dc_M_correct_19 : decode bc_M_correct 19 = .ok (.getfield 16, 3) := by decide +kernel
theorem dc_M_correct_22 : decode bc_M_correct 22 = .ok (.iload_n 1, 1) := by decide +kernel
theorem dc_M_correct_23 : decode bc_M_correct 23 = .ok (.iaload, 1) := by decide +kernel
theorem dc_M_correct_24 : decode bc_M_correct 24 = .ok (.if_icmp .lt 7, 3) := by decide +kernel
theorem dc_M_correct_27 : decode bc_M_correct 27 = .ok (.iconst 1, 1) := by decide +kernel
theorem dc_M_correct_28 : decode bc_M_correct 28 = .ok (.goto 32, 3) := by decide +kernel
theorem dc_M_correct_31 : decode bc_M_correct 31 = .ok (.iload_n 3, 1) := by decide +kernel
theorem dc_M_correct_32 : decode bc_M_correct 32 = .ok (.iload 4, 2) := by decide +kernel
theorem dc_M_correct_34 : decode bc_M_correct 34 = .ok (.invokestatic 78, 3) := by decide +kernel
theorem dc_M_correct_37 : decode bc_M_correct 37 = .ok (.ifCond .eq 7, 3) := by decide +kernel
theorem dc_M_correct_40 : decode bc_M_correct 40 = .ok (.iconst 2, 1) := by decide +kernel
theorem dc_M_correct_41 : decode bc_M_correct 41 = .ok (.goto 19, 3) := by decide +kernel
theorem dc_M_correct_44 : decode bc_M_correct 44 = .ok (.aload_n 0, 1) := by decide +kernel
theorem dc_M_correct_45 : decode bc_M_correct 45 = .ok (.getfield 20, 3) := by decide +kernel
theorem dc_M_correct_48 : decode bc_M_correct 48 = .ok (.iload_n 1, 1) := by decide +kernel
theorem dc_M_correct_49 : decode bc_M_correct 49 = .ok (.iaload, 1) := by decide +kernel
theorem dc_M_correct_50 : decode bc_M_correct 50 = .ok (.bipush 9, 2) := by decide +kernel
theorem dc_M_correct_52 : decode bc_M_correct 52 = .ok (.if_icmp .ne 7, 3) := by decide +kernel
theorem dc_M_correct_55 : decode bc_M_correct 55 = .ok (.iconst 3, 1) := by decide +kernel
theorem dc_M_correct_56 : decode bc_M_correct 56 = .ok (.goto 4, 3) := by decide +kernel
theorem dc_M_correct_59 : decode bc_M_correct 59 = .ok (.iconst 0, 1) := by decide +kernel
theorem dc_M_correct_60 : decode bc_M_correct 60 = .ok (.putfield 62, 3) := by decide +kernel
theorem dc_M_correct_63 : decode bc_M_correct 63 = .ok (.aload_n 0, 1) := by decide +kernel
theorem dc_M_correct_64 : decode bc_M_correct 64 = .ok (.getfield 62, 3) := by decide +kernel
theorem dc_M_correct_67 : decode bc_M_correct 67 = .ok (.ifCond .le 5, 3) := by decide +kernel
theorem dc_M_correct_70 : decode bc_M_correct 70 = .ok (.iconst 0, 1) := by decide +kernel
theorem dc_M_correct_71 : decode bc_M_correct 71 = .ok (.ireturn, 1) := by decide +kernel
theorem dc_M_correct_72 : decode bc_M_correct 72 = .ok (.aload_n 0, 1) := by decide +kernel
theorem dc_M_correct_73 : decode bc_M_correct 73 = .ok (.getfield 20, 3) := by decide +kernel
theorem dc_M_correct_76 : decode bc_M_correct 76 = .ok (.iload_n 1, 1) := by decide +kernel
theorem dc_M_correct_77 : decode bc_M_correct 77 = .ok (.iaload, 1) := by decide +kernel
theorem dc_M_correct_78 : decode bc_M_correct 78 = .ok (.istore 5, 2) := by decide +kernel
theorem dc_M_correct_80 : decode bc_M_correct 80 = .ok (.iconst 0, 1) := by decide +kernel
theorem dc_M_correct_81 : decode bc_M_correct 81 = .ok (.istore 6, 2) := by decide +kernel
theorem dc_M_correct_83 : decode bc_M_correct 83 = .ok (.iload 6, 2) := by decide +kernel
theorem dc_M_correct_85 : decode bc_M_correct 85 = .ok (.aload_n 0, 1) := by decide +kernel
theorem dc_M_correct_86 : decode bc_M_correct 86 = .ok (.getfield 16, 3) := by decide +kernel
theorem dc_M_correct_89 : decode bc_M_correct 89 = .ok (.iload_n 1, 1) := by decide +kernel
theorem dc_M_correct_90 : decode bc_M_correct 90 = .ok (.iaload, 1) := by decide +kernel
theorem dc_M_correct_91 : decode bc_M_correct 91 = .ok (.if_icmp .ge 90, 3) := by decide +kernel
theorem dc_M_correct_94 : decode bc_M_correct 94 = .ok (.aload_n 0, 1) := by decide +kernel
theorem dc_M_correct_95 : decode bc_M_correct 95 = .ok (.getfield 23, 3) := by decide +kernel
theorem dc_M_correct_98 : decode bc_M_correct 98 = .ok (.aload_n 0, 1) := by decide +kernel
theorem dc_M_correct_99 : decode bc_M_correct 99 = .ok (.iload_n 1, 1) := by decide +kernel
theorem dc_M_correct_100 : decode bc_M_correct 100 = .ok (.iload 5, 2) := by decide +kernel
theorem dc_M_correct_102 : decode bc_M_correct 102 = .ok (.iload 6, 2) := by decide +kernel
theorem dc_M_correct_104 : decode bc_M_correct 104 = .ok (.invokevirtual 66, 3) := by decide +kernel
theorem dc_M_correct_107 : decode bc_M_correct 107 = .ok (.iload 6, 2) := by decide +kernel
theorem dc_M_correct_109 : decode bc_M_correct 109 = .ok (.iload_n 2, 1) := by decide +kernel
theorem dc_M_correct_110 : decode bc_M_correct 110 = .ok (.if_icmp .ne 7, 3) := by decide +kernel
theorem dc_M_correct_113 : decode bc_M_correct 113 = .ok (.iload_n 3, 1) := by decide +kernel
theorem dc_M_correct_114 : decode bc_M_correct 114 = .ok (.goto 19, 3) := by decide +kernel
theorem dc_M_correct_117 : decode bc_M_correct 117 = .ok (.aload_n 0, 1) := by decide +kernel
theorem dc_M_correct_118 : decode bc_M_correct 118 = .ok (.getfield 23, 3) := by decide +kernel
theorem dc_M_correct_121 : decode bc_M_correct 121 = .ok (.aload_n 0, 1) := by decide +kernel
theorem dc_M_correct_122 : decode bc_M_correct 122 = .ok (.iload_n 1, 1) := by decide +kernel
theorem dc_M_correct_123 : decode bc_M_correct 123 = .ok (.iload 5, 2) := by decide +kernel
theorem dc_M_correct_125 : decode bc_M_correct 125 = .ok (.iconst 1, 1) := by decide +kernel
theorem dc_M_correct_126 : decode bc_M_correct 126 = .ok (.isub, 1) := by decide +kernel
theorem dc_M_correct_127 : decode bc_M_correct 127 = .ok (.iload 6, 2) := by decide +kernel
theorem dc_M_correct_129 : decode bc_M_correct 129 = .ok (.invokevirtual 66, 3) := by decide +kernel
theorem dc_M_correct_132 : decode bc_M_correct 132 = .ok (.iaload, 1) := by decide +kernel
theorem dc_M_correct_133 : decode bc_M_correct 133 = .ok (.iastore, 1) := by decide +kernel
theorem dc_M_correct_134 : decode bc_M_correct 134 = .ok (.aload_n 0, 1) := by decide +kernel
theorem dc_M_correct_135 : decode bc_M_correct 135 = .ok (.getfield 26, 3) := by decide +kernel
theorem dc_M_correct_138 : decode bc_M_correct 138 = .ok (.aload_n 0, 1) := by decide +kernel
theorem dc_M_correct_139 : decode bc_M_correct 139 = .ok (.iload_n 1, 1) := by decide +kernel
theorem dc_M_correct_140 : decode bc_M_correct 140 = .ok (.iload 5, 2) := by decide +kernel
theorem dc_M_correct_142 : decode bc_M_correct 142 = .ok (.iload 6, 2) := by decide +kernel
theorem dc_M_correct_144 : decode bc_M_correct 144 = .ok (.invokevirtual 66, 3) := by decide +kernel
theorem dc_M_correct_147 : decode bc_M_correct 147 = .ok (.iload 6, 2) := by decide +kernel
theorem dc_M_correct_149 : decode bc_M_correct 149 = .ok (.iload_n 2, 1) := by decide +kernel
theorem dc_M_correct_150 : decode bc_M_correct 150 = .ok (.if_icmp .ne 8, 3) := by decide +kernel
theorem dc_M_correct_153 : decode bc_M_correct 153 = .ok (.iload 4, 2) := by decide +kernel
theorem dc_M_correct_155 : decode bc_M_correct 155 = .ok (.goto 19, 3) := by decide +kernel
theorem dc_M_correct_158 : decode bc_M_correct 158 = .ok (.aload_n 0, 1) := by decide +kernel
theorem dc_M_correct_159 : decode bc_M_correct 159 = .ok (.getfield 26, 3) := by decide +kernel
theorem dc_M_correct_162 : decode bc_M_correct 162 = .ok (.aload_n 0, 1) := by decide +kernel
theorem dc_M_correct_163 : decode bc_M_correct 163 = .ok (.iload_n 1, 1) := by decide +kernel
theorem dc_M_correct_164 : decode bc_M_correct 164 = .ok (.iload 5, 2) := by decide +kernel
theorem dc_M_correct_166 : decode bc_M_correct 166 = .ok (.iconst 1, 1) := by decide +kernel
theorem dc_M_correct_167 : decode bc_M_correct 167 = .ok (.isub, 1) := by decide +kernel
theorem dc_M_correct_168 : decode bc_M_correct 168 = .ok (.iload 6, 2) := by decide +kernel
theorem dc_M_correct_170 : decode bc_M_correct 170 = .ok (.invokevirtual 66, 3) := by decide +kernel
theorem dc_M_correct_173 : decode bc_M_correct 173 = .ok (.iaload, 1) := by decide +kernel
theorem dc_M_correct_174 : decode bc_M_correct 174 = .ok (.iastore, 1) := by decide +kernel
theorem dc_M_correct_175 : decode bc_M_correct 175 = .ok (.iinc 6 1, 3) := by decide +kernel
theorem dc_M_correct_178 : decode bc_M_correct 178 = .ok (.goto (-95), 3) := by decide +kernel
theorem dc_M_correct_181 : decode bc_M_correct 181 = .ok (.aload_n 0, 1) := by decide +kernel
theorem dc_M_correct_182 : decode bc_M_correct 182 = .ok (.getfield 20, 3) := by decide +kernel
theorem dc_M_correct_185 : decode bc_M_correct 185 = .ok (.iload_n 1, 1) := by decide +kernel
theorem dc_M_correct_186 : decode bc_M_correct 186 = .ok (.dup2, 1) := by decide +kernel
theorem dc_M_correct_187 : decode bc_M_correct 187 = .ok (.iaload, 1) := by decide +kernel
theorem dc_M_correct_188 : decode bc_M_correct 188 = .ok (.iconst 1, 1) := by decide +kernel
theorem dc_M_correct_189 : decode bc_M_correct 189 = .ok (.iadd, 1) := by decide +kernel
theorem dc_M_correct_190 : decode bc_M_correct 190 = .ok (.iastore, 1) := by decide +kernel
theorem dc_M_correct_191 : decode bc_M_correct 191 = .ok (.iload 5, 2) := by decide +kernel
theorem dc_M_correct_193 : decode bc_M_correct 193 = .ok (.ireturn, 1) := by decide +kernel
theorem dc_M_restore_0 : decode bc_M_restore 0 = .ok (.aload_n 0, 1) := by decide +kernel
theorem dc_M_restore_1 : decode bc_M_restore 1 = .ok (.aload_n 0, 1) := by decide +kernel
theorem dc_M_restore_2 : decode bc_M_restore 2 = .ok (.iload_n 1, 1) := by decide +kernel
theorem dc_M_restore_3 : decode bc_M_restore 3 = .ok (.invokevirtual 74, 3) := by decide +kernel
theorem dc_M_restore_6 : decode bc_M_restore 6 = .ok (.ifCond .eq 7, 3) := by decide +kernel
theorem dc_M_restore_9 : decode bc_M_restore 9 = .ok (.iconst 1, 1) := by decide +kernel
theorem dc_M_restore_10 : decode bc_M_restore 10 = .ok (.goto 22, 3) := by decide +kernel
theorem dc_M_restore_13 : decode bc_M_restore 13 = .ok (.iload_n 2, 1) := by decide +kernel
theorem dc_M_restore_14 : decode bc_M_restore 14 = .ok (.ifCond .lt 13, 3) := by decide +kernel
theorem dc_M_restore_17 : decode bc_M_restore 17 = .ok (.iload_n 2, 1) := by decide +kernel
theorem dc_M_restore_18 : decode bc_M_restore 18 = .ok (.aload_n 0, 1) := by decide +kernel
theorem dc_M_restore_19 : decode bc_M_restore 19 = .ok (.getfield 20, 3) := by decide +kernel
theorem dc_M_restore_22 : decode bc_M_restore 22 = .ok (.iload_n 1, 1) := by decide +kernel
theorem dc_M_restore_23 : decode bc_M_restore 23 = .ok (.iaload, 1) := by decide +kernel
theorem dc_M_restore_24 : decode bc_M_restore 24 = .ok (.if_icmp .lt 7, 3) := by decide +kernel
theorem dc_M_restore_27 : decode bc_M_restore 27 = .ok (.iconst 1, 1) := by decide +kernel
theorem dc_M_restore_28 : decode bc_M_restore 28 = .ok (.goto 4, 3) := by decide +kernel
theorem dc_M_restore_31 : decode bc_M_restore 31 = .ok (.iconst 0, 1) := by decide +kernel
theorem dc_M_restore_32 : decode bc_M_restore 32 = .ok (.putfield 62, 3) := by decide +kernel
theorem dc_M_restore_35 : decode bc_M_restore 35 = .ok (.aload_n 0, 1) := by decide +kernel
theorem dc_M_restore_36 : decode bc_M_restore 36 = .ok (.getfield 62, 3) := by decide +kernel
theorem dc_M_restore_39 : decode bc_M_restore 39 = .ok (.ifCond .ne 12, 3) := by decide +kernel
theorem dc_M_restore_42 : decode bc_M_restore 42 = .ok (.aload_n 0, 1) := by decide +kernel
theorem dc_M_restore_43 : decode bc_M_restore 43 = .ok (.getfield 20, 3) := by decide +kernel
theorem dc_M_restore_46 : decode bc_M_restore 46 = .ok (.iload_n 1, 1) := by decide +kernel
theorem dc_M_restore_47 : decode bc_M_restore 47 = .ok (.iload_n 2, 1) := by decide +kernel
theorem dc_M_restore_48 : decode bc_M_restore 48 = .ok (.iconst 1, 1) := by decide +kernel
theorem dc_M_restore_49 : decode bc_M_restore 49 = .ok (.iadd, 1) := by decide +kernel
theorem dc_M_restore_50 : decode bc_M_restore 50 = .ok (.iastore, 1) := by decide +kernel
theorem dc_M_restore_51 : decode bc_M_restore 51 = .ok (.return_, 1) := by decide +kernel
theorem dc_M_at_0 : decode bc_M_at 0 = .ok (.aload_n 0, 1) := by decide +kernel
theorem dc_M_at_1 : decode bc_M_at 1 = .ok (.aload_n 0, 1) := by decide +kernel
theorem dc_M_at_2 : decode bc_M_at 2 = .ok (.iload_n 1, 1) := by decide +kernel
theorem dc_M_at_3 : decode bc_M_at 3 = .ok (.invokevirtual 74, 3) := by decide +kernel
theorem dc_M_at_6 : decode bc_M_at 6 = .ok (.ifCond .eq 7, 3) := by decide +kernel
theorem dc_M_at_9 : decode bc_M_at 9 = .ok (.iconst 1, 1) := by decide +kernel
theorem dc_M_at_10 : decode bc_M_at 10 = .ok (.goto 52, 3) := by decide +kernel
theorem dc_M_at_13 : decode bc_M_at 13 = .ok (.iload_n 2, 1) := by decide +kernel
theorem dc_M_at_14 : decode bc_M_at 14 = .ok (.ifCond .lt 30, 3) := by decide +kernel
theorem dc_M_at_17 : decode bc_M_at 17 = .ok (.iload_n 2, 1) := by decide +kernel
theorem dc_M_at_18 : decode bc_M_at 18 = .ok (.aload_n 0, 1) := by decide +kernel
theorem dc_M_at_19 : decode bc_M_at 19 = .ok (.getfield 16, 3) := by decide +kernel
theorem dc_M_at_22 : decode bc_M_at 22 = .ok (.iload_n 1, 1) := by decide +kernel
theorem dc_M_at_23 : decode bc_M_at 23 = .ok (.iaload, 1) := by decide +kernel
theorem dc_M_at_24 : decode bc_M_at 24 = .ok (.if_icmp .ge 20, 3) := by decide +kernel
theorem dc_M_at_27 : decode bc_M_at 27 = .ok (.iload 4, 2) := by decide +kernel
theorem dc_M_at_29 : decode bc_M_at 29 = .ok (.iconst (-1), 1) := by decide +kernel
theorem dc_M_at_30 : decode bc_M_at 30 = .ok (.if_icmp .lt 14, 3) := by decide +kernel
theorem dc_M_at_33 : decode bc_M_at 33 = .ok (.iload 4, 2) := by decide +kernel
theorem dc_M_at_35 : decode bc_M_at 35 = .ok (.aload_n 0, 1) := by decide +kernel
theorem dc_M_at_36 : decode bc_M_at 36 = .ok (.getfield 20, 3) := by decide +kernel
theorem dc_M_at_39 : decode bc_M_at 39 = .ok (.iload_n 1, 1) := by decide +kernel
theorem dc_M_at_40 : decode bc_M_at 40 = .ok (.iaload, 1) := by decide +kernel
theorem dc_M_at_41 : decode bc_M_at 41 = .ok (.if_icmp .lt 7, 3) := by decide +kernel
theorem dc_M_at_44 : decode bc_M_at 44 = .ok (.iconst 1, 1) := by decide +kernel
theorem dc_M_at_45 : decode bc_M_at 45 = .ok (.goto 17, 3) := by decide +kernel
theorem dc_M_at_48 : decode bc_M_at 48 = .ok (.iload_n 3, 1) := by decide +kernel
theorem dc_M_at_49 : decode bc_M_at 49 = .ok (.ifCond .lt 8, 3) := by decide +kernel
theorem dc_M_at_52 : decode bc_M_at 52 = .ok (.iload_n 3, 1) := by decide +kernel
theorem dc_M_at_53 : decode bc_M_at 53 = .ok (.iconst 2, 1) := by decide +kernel
theorem dc_M_at_54 : decode bc_M_at 54 = .ok (.if_icmp .le 7, 3) := by decide +kernel
theorem dc_M_at_57 : decode bc_M_at 57 = .ok (.iconst 2, 1) := by decide +kernel
theorem dc_M_at_58 : decode bc_M_at 58 = .ok (.goto 4, 3) := by decide +kernel
theorem dc_M_at_61 : decode bc_M_at 61 = .ok (.iconst 0, 1) := by decide +kernel
theorem dc_M_at_62 : decode bc_M_at 62 = .ok (.putfield 62, 3) := by decide +kernel
theorem dc_M_at_65 : decode bc_M_at 65 = .ok (.aload_n 0, 1) := by decide +kernel
theorem dc_M_at_66 : decode bc_M_at 66 = .ok (.getfield 62, 3) := by decide +kernel
theorem dc_M_at_69 : decode bc_M_at 69 = .ok (.ifCond .le 5, 3) := by decide +kernel
theorem dc_M_at_72 : decode bc_M_at 72 = .ok (.iconst 0, 1) := by decide +kernel
theorem dc_M_at_73 : decode bc_M_at 73 = .ok (.ireturn, 1) := by decide +kernel
theorem dc_M_at_74 : decode bc_M_at 74 = .ok (.iload 4, 2) := by decide +kernel
theorem dc_M_at_76 : decode bc_M_at 76 = .ok (.ifCond .ge 14, 3) := by decide +kernel
theorem dc_M_at_79 : decode bc_M_at 79 = .ok (.aload_n 0, 1) := by decide +kernel
theorem dc_M_at_80 : decode bc_M_at 80 = .ok (.getfield 20, 3) := by decide +kernel
theorem dc_M_at_83 : decode bc_M_at 83 = .ok (.iload_n 1, 1) := by decide +kernel
theorem dc_M_at_84 : decode bc_M_at 84 = .ok (.iaload, 1) := by decide +kernel
theorem dc_M_at_85 : decode bc_M_at 85 = .ok (.iconst 1, 1) := by decide +kernel
theorem dc_M_at_86 : decode bc_M_at 86 = .ok (.isub, 1) := by decide +kernel
theorem dc_M_at_87 : decode bc_M_at 87 = .ok (.goto 5, 3) := by decide +kernel
theorem dc_M_at_90 : decode bc_M_at 90 = .ok (.iload 4, 2) := by decide +kernel
theorem dc_M_at_92 : decode bc_M_at 92 = .ok (.istore 5, 2) := by decide +kernel
theorem dc_M_at_94 : decode bc_M_at 94 = .ok (.aload_n 0, 1) := by decide +kernel
theorem dc_M_at_95 : decode bc_M_at 95 = .ok (.getfield 23, 3) := by decide +kernel
theorem dc_M_at_98 : decode bc_M_at 98 = .ok (.aload_n 0, 1) := by decide +kernel
theorem dc_M_at_99 : decode bc_M_at 99 = .ok (.iload_n 1, 1) := by decide +kernel
theorem dc_M_at_100 : decode bc_M_at 100 = .ok (.iload 5, 2) := by decide +kernel
theorem dc_M_at_102 : decode bc_M_at 102 = .ok (.iload_n 2, 1) := by decide +kernel
theorem dc_M_at_103 : decode bc_M_at 103 = .ok (.invokevirtual 66, 3) := by decide +kernel
theorem dc_M_at_106 : decode bc_M_at 106 = .ok (.iaload, 1) := by decide +kernel
theorem dc_M_at_107 : decode bc_M_at 107 = .ok (.istore 6, 2) := by decide +kernel
theorem dc_M_at_109 : decode bc_M_at 109 = .ok (.iload_n 3, 1) := by decide +kernel
theorem dc_M_at_110 : decode bc_M_at 110 = .ok (.ifCond .ne 6, 3) := by decide +kernel
theorem dc_M_at_113 : decode bc_M_at 113 = .ok (.iload 6, 2) := by decide +kernel
theorem dc_M_at_115 : decode bc_M_at 115 = .ok (.ireturn, 1) := by decide +kernel
theorem dc_M_at_116 : decode bc_M_at 116 = .ok (.iload_n 3, 1) := by decide +kernel
theorem dc_M_at_117 : decode bc_M_at 117 = .ok (.iconst 1, 1) := by decide +kernel
theorem dc_M_at_118 : decode bc_M_at 118 = .ok (.if_icmp .ne 17, 3) := by decide +kernel
theorem dc_M_at_121 : decode bc_M_at 121 = .ok (.aload_n 0, 1) := by decide +kernel
theorem dc_M_at_122 : decode bc_M_at 122 = .ok (.getfield 26, 3) := by decide +kernel
theorem dc_M_at_125 : decode bc_M_at 125 = .ok (.aload_n 0, 1) := by decide +kernel
theorem dc_M_at_126 : decode bc_M_at 126 = .ok (.iload_n 1, 1) := by decide +kernel
theorem dc_M_at_127 : decode bc_M_at 127 = .ok (.iload 5, 2) := by decide +kernel
theorem dc_M_at_129 : decode bc_M_at 129 = .ok (.iload_n 2, 1) := by decide +kernel
theorem dc_M_at_130 : decode bc_M_at 130 = .ok (.invokevirtual 66, 3) := by decide +kernel
theorem dc_M_at_133 : decode bc_M_at 133 = .ok (.iaload, 1) := by decide +kernel
theorem dc_M_at_134 : decode bc_M_at 134 = .ok (.ireturn, 1) := by decide +kernel
theorem dc_M_at_135 : decode bc_M_at 135 = .ok (.iload_n 2, 1) := by decide +kernel
theorem dc_M_at_136 : decode bc_M_at 136 = .ok (.iconst 1, 1) := by decide +kernel
theorem dc_M_at_137 : decode bc_M_at 137 = .ok (.iadd, 1) := by decide +kernel
theorem dc_M_at_138 : decode bc_M_at 138 = .ok (.aload_n 0, 1) := by decide +kernel
theorem dc_M_at_139 : decode bc_M_at 139 = .ok (.getfield 16, 3) := by decide +kernel
theorem dc_M_at_142 : decode bc_M_at 142 = .ok (.iload_n 1, 1) := by decide +kernel
theorem dc_M_at_143 : decode bc_M_at 143 = .ok (.iaload, 1) := by decide +kernel
theorem dc_M_at_144 : decode bc_M_at 144 = .ok (.if_icmp .ne 7, 3) := by decide +kernel
theorem dc_M_at_147 : decode bc_M_at 147 = .ok (.iconst 0, 1) := by decide +kernel
theorem dc_M_at_148 : decode bc_M_at 148 = .ok (.goto 21, 3) := by decide +kernel
theorem dc_M_at_151 : decode bc_M_at 151 = .ok (.aload_n 0, 1) := by decide +kernel
theorem dc_M_at_152 : decode bc_M_at 152 = .ok (.getfield 23, 3) := by decide +kernel
theorem dc_M_at_155 : decode bc_M_at 155 = .ok (.aload_n 0, 1) := by decide +kernel
theorem dc_M_at_156 : decode bc_M_at 156 = .ok (.iload_n 1, 1) := by decide +kernel
theorem dc_M_at_157 : decode bc_M_at 157 = .ok (.iload 5, 2) := by decide +kernel
theorem dc_M_at_159 : decode bc_M_at 159 = .ok (.iload_n 2, 1) := by decide +kernel
theorem dc_M_at_160 : decode bc_M_at 160 = .ok (.iconst 1, 1) := by decide +kernel
theorem dc_M_at_161 : decode bc_M_at 161 = .ok (.iadd, 1) := by decide +kernel
theorem dc_M_at_162 : decode bc_M_at 162 = .ok (.invokevirtual 66, 3) := by decide +kernel
theorem dc_M_at_165 : decode bc_M_at 165 = .ok (.iaload, 1) := by decide +kernel
theorem dc_M_at_166 : decode bc_M_at 166 = .ok (.iload 6, 2) := by decide +kernel
theorem dc_M_at_168 : decode bc_M_at 168 = .ok (.isub, 1) := by decide +kernel
theorem dc_M_at_169 : decode bc_M_at 169 = .ok (.ireturn, 1) := by decide +kernel
theorem dc_M_about_0 : decode bc_M_about 0 = .ok (.aload_n 0, 1) := by decide +kernel
theorem dc_M_about_1 : decode bc_M_about 1 = .ok (.aload_n 0, 1) := by decide +kernel
theorem dc_M_about_2 : decode bc_M_about 2 = .ok (.iload_n 1, 1) := by decide +kernel
theorem dc_M_about_3 : decode bc_M_about 3 = .ok (.invokevirtual 74, 3) := by decide +kernel
theorem dc_M_about_6 : decode bc_M_about 6 = .ok (.ifCond .eq 7, 3) := by decide +kernel
theorem dc_M_about_9 : decode bc_M_about 9 = .ok (.iconst 1, 1) := by decide +kernel
theorem dc_M_about_10 : decode bc_M_about 10 = .ok (.goto 17, 3) := by decide +kernel
theorem dc_M_about_13 : decode bc_M_about 13 = .ok (.iload_n 2, 1) := by decide +kernel
theorem dc_M_about_14 : decode bc_M_about 14 = .ok (.ifCond .lt 8, 3) := by decide +kernel
theorem dc_M_about_17 : decode bc_M_about 17 = .ok (.iload_n 2, 1) := by decide +kernel
theorem dc_M_about_18 : decode bc_M_about 18 = .ok (.iconst 2, 1) := by decide +kernel
theorem dc_M_about_19 : decode bc_M_about 19 = .ok (.if_icmp .le 7, 3) := by decide +kernel
theorem dc_M_about_22 : decode bc_M_about 22 = .ok (.iconst 2, 1) := by decide +kernel
theorem dc_M_about_23 : decode bc_M_about 23 = .ok (.goto 4, 3) := by decide +kernel
theorem dc_M_about_26 : decode bc_M_about 26 = .ok (.iconst 0, 1) := by decide +kernel
theorem dc_M_about_27 : decode bc_M_about 27 = .ok (.putfield 62, 3) := by decide +kernel
theorem dc_M_about_30 : decode bc_M_about 30 = .ok (.aload_n 0, 1) := by decide +kernel
theorem dc_M_about_31 : decode bc_M_about 31 = .ok (.getfield 62, 3) := by decide +kernel
theorem dc_M_about_34 : decode bc_M_about 34 = .ok (.ifCond .le 5, 3) := by decide +kernel
theorem dc_M_about_37 : decode bc_M_about 37 = .ok (.iconst 0, 1) := by decide +kernel
theorem dc_M_about_38 : decode bc_M_about 38 = .ok (.ireturn, 1) := by decide +kernel
theorem dc_M_about_39 : decode bc_M_about 39 = .ok (.iload_n 2, 1) := by decide +kernel
theorem dc_M_about_40 : decode bc_M_about 40 = .ok (.ifCond .ne 12, 3) := by decide +kernel
theorem dc_M_about_43 : decode bc_M_about 43 = .ok (.aload_n 0, 1) := by decide +kernel
theorem dc_M_about_44 : decode bc_M_about 44 = .ok (.getfield 16, 3) := by decide +kernel
theorem dc_M_about_47 : decode bc_M_about 47 = .ok (.iload_n 1, 1) := by decide +kernel
theorem dc_M_about_48 : decode bc_M_about 48 = .ok (.iaload, 1) := by decide +kernel
theorem dc_M_about_49 : decode bc_M_about 49 = .ok (.goto 31, 3) := by decide +kernel
theorem dc_M_about_52 : decode bc_M_about 52 = .ok (.iload_n 2, 1) := by decide +kernel
theorem dc_M_about_53 : decode bc_M_about 53 = .ok (.iconst 1, 1) := by decide +kernel
theorem dc_M_about_54 : decode bc_M_about 54 = .ok (.if_icmp .ne 20, 3) := by decide +kernel
theorem dc_M_about_57 : decode bc_M_about 57 = .ok (.aload_n 0, 1) := by decide +kernel
theorem dc_M_about_58 : decode bc_M_about 58 = .ok (.getfield 13, 3) := by decide +kernel
theorem dc_M_about_61 : decode bc_M_about 61 = .ok (.iload_n 1, 1) := by decide +kernel
theorem dc_M_about_62 : decode bc_M_about 62 = .ok (.baload, 1) := by decide +kernel
theorem dc_M_about_63 : decode bc_M_about 63 = .ok (.ifCond .eq 7, 3) := by decide +kernel
theorem dc_M_about_66 : decode bc_M_about 66 = .ok (.iconst 1, 1) := by decide +kernel
theorem dc_M_about_67 : decode bc_M_about 67 = .ok (.goto 13, 3) := by decide +kernel
theorem dc_M_about_70 : decode bc_M_about 70 = .ok (.iconst 0, 1) := by decide +kernel
theorem dc_M_about_71 : decode bc_M_about 71 = .ok (.goto 9, 3) := by decide +kernel
theorem dc_M_about_74 : decode bc_M_about 74 = .ok (.aload_n 0, 1) := by decide +kernel
theorem dc_M_about_75 : decode bc_M_about 75 = .ok (.getfield 20, 3) := by decide +kernel
theorem dc_M_about_78 : decode bc_M_about 78 = .ok (.iload_n 1, 1) := by decide +kernel
theorem dc_M_about_79 : decode bc_M_about 79 = .ok (.iaload, 1) := by decide +kernel
theorem dc_M_about_80 : decode bc_M_about 80 = .ok (.ireturn, 1) := by decide +kernel
theorem dc_M_contour_0 : decode bc_M_contour 0 = .ok (.aload_n 0, 1) := by decide +kernel
theorem dc_M_contour_1 : decode bc_M_contour 1 = .ok (.aload_n 0, 1) := by decide +kernel
theorem dc_M_contour_2 : decode bc_M_contour 2 = .ok (.iload_n 1, 1) := by decide +kernel
theorem dc_M_contour_3 : decode bc_M_contour 3 = .ok (.invokevirtual 74, 3) := by decide +kernel
theorem dc_M_contour_6 : decode bc_M_contour 6 = .ok (.ifCond .eq 7, 3) := by decide +kernel
theorem dc_M_contour_9 : decode bc_M_contour 9 = .ok (.iconst 1, 1) := by decide +kernel
theorem dc_M_contour_10 : decode bc_M_contour 10 = .ok (.goto 4, 3) := by decide +kernel
theorem dc_M_contour_13 : decode bc_M_contour 13 = .ok (.iconst 0, 1) := by decide +kernel
theorem dc_M_contour_14 : decode bc_M_contour 14 = .ok (.putfield 62, 3) := by decide +kernel
theorem dc_M_contour_17 : decode bc_M_contour 17 = .ok (.aload_n 0, 1) := by decide +kernel
theorem dc_M_contour_18 : decode bc_M_contour 18 = .ok (.getfield 62, 3) := by decide +kernel
theorem dc_M_contour_21 : decode bc_M_contour 21 = .ok (.ifCond .le 5, 3) := by decide +kernel
theorem dc_M_contour_24 : decode bc_M_contour 24 = .ok (.iconst 0, 1) := by decide +kernel
theorem dc_M_contour_25 : decode bc_M_contour 25 = .ok (.ireturn, 1) := by decide +kernel
theorem dc_M_contour_26 : decode bc_M_contour 26 = .ok (.iload_n 2, 1) := by decide +kernel
theorem dc_M_contour_27 : decode bc_M_contour 27 = .ok (.ifCond .lt 15, 3) := by decide +kernel
theorem dc_M_contour_30 : decode bc_M_contour 30 = .ok (.iload_n 2, 1) := by decide +kernel
theorem dc_M_contour_31 : decode bc_M_contour 31 = .ok (.aload_n 0, 1) := by decide +kernel
theorem dc_M_contour_32 : decode bc_M_contour 32 = .ok (.getfield 16, 3) := by decide +kernel
theorem dc_M_contour_35 : decode bc_M_contour 35 = .ok (.iload_n 1, 1) := by decide +kernel
theorem dc_M_contour_36 : decode bc_M_contour 36 = .ok (.iaload, 1) := by decide +kernel
theorem dc_M_contour_37 : decode bc_M_contour 37 = .ok (.iconst 1, 1) := by decide +kernel
theorem dc_M_contour_38 : decode bc_M_contour 38 = .ok (.isub, 1) := by decide +kernel
theorem dc_M_contour_39 : decode bc_M_contour 39 = .ok (.if_icmp .lt 5, 3) := by decide +kernel
theorem dc_M_contour_42 : decode bc_M_contour 42 = .ok (.iconst (-1), 1) := by decide +kernel
theorem dc_M_contour_43 : decode bc_M_contour 43 = .ok (.ireturn, 1) := by decide +kernel
theorem dc_M_contour_44 : decode bc_M_contour 44 = .ok (.aload_n 0, 1) := by decide +kernel
theorem dc_M_contour_45 : decode bc_M_contour 45 = .ok (.iload_n 1, 1) := by decide +kernel
theorem dc_M_contour_46 : decode bc_M_contour 46 = .ok (.iload_n 2, 1) := by decide +kernel
theorem dc_M_contour_47 : decode bc_M_contour 47 = .ok (.invokevirtual 82, 3) := by decide +kernel
theorem dc_M_contour_50 : decode bc_M_contour 50 = .ok (.invokestatic 85, 3) := by decide +kernel
theorem dc_M_contour_53 : decode bc_M_contour 53 = .ok (.istore_n 3, 1) := by decide +kernel
theorem dc_M_contour_54 : decode bc_M_contour 54 = .ok (.iload_n 3, 1) := by decide +kernel
theorem dc_M_contour_55 : decode bc_M_contour 55 = .ok (.ifCond .le 8, 3) := by decide +kernel
theorem dc_M_contour_58 : decode bc_M_contour 58 = .ok (.bipush 117, 2) := by decide +kernel
theorem dc_M_contour_60 : decode bc_M_contour 60 = .ok (.goto 14, 3) := by decide +kernel
theorem dc_M_contour_63 : decode bc_M_contour 63 = .ok (.iload_n 3, 1) := by decide +kernel
theorem dc_M_contour_64 : decode bc_M_contour 64 = .ok (.ifCond .ge 8, 3) := by decide +kernel
theorem dc_M_contour_67 : decode bc_M_contour 67 = .ok (.bipush 100, 2) := by decide +kernel
theorem dc_M_contour_69 : decode bc_M_contour 69 = .ok (.goto 5, 3) := by decide +kernel
theorem dc_M_contour_72 : decode bc_M_contour 72 = .ok (.bipush 115, 2) := by decide +kernel
theorem dc_M_contour_74 : decode bc_M_contour 74 = .ok (.ireturn, 1) := by decide +kernel
theorem dc_M_step_0 : decode bc_M_step 0 = .ok (.aload_n 0, 1) := by decide +kernel
theorem dc_M_step_1 : decode bc_M_step 1 = .ok (.iload_n 1, 1) := by decide +kernel
theorem dc_M_step_2 : decode bc_M_step 2 = .ok (.iload_n 2, 1) := by decide +kernel
theorem dc_M_step_3 : decode bc_M_step 3 = .ok (.iconst 1, 1) := by decide +kernel
theorem dc_M_step_4 : decode bc_M_step 4 = .ok (.iadd, 1) := by decide +kernel
theorem dc_M_step_5 : decode bc_M_step 5 = .ok (.invokevirtual 70, 3) := by decide +kernel
theorem dc_M_step_8 : decode bc_M_step 8 = .ok (.aload_n 0, 1) := by decide +kernel
theorem dc_M_step_9 : decode bc_M_step 9 = .ok (.iload_n 1, 1) := by decide +kernel
theorem dc_M_step_10 : decode bc_M_step 10 = .ok (.iload_n 2, 1) := by decide +kernel
theorem dc_M_step_11 : decode bc_M_step 11 = .ok (.invokevirtual 70, 3) := by decide +kernel
theorem dc_M_step_14 : decode bc_M_step 14 = .ok (.isub, 1) := by decide +kernel
theorem dc_M_step_15 : decode bc_M_step 15 = .ok (.ireturn, 1) := by decide +kernel
theorem dc_M_pitch_0 : decode bc_M_pitch 0 = .ok (.aload_n 0, 1) := by decide +kernel
theorem dc_M_pitch_1 : decode bc_M_pitch 1 = .ok (.getfield 23, 3) := by decide +kernel
theorem dc_M_pitch_4 : decode bc_M_pitch 4 = .ok (.aload_n 0, 1) := by decide +kernel
theorem dc_M_pitch_5 : decode bc_M_pitch 5 = .ok (.iload_n 1, 1) := by decide +kernel
theorem dc_M_pitch_6 : decode bc_M_pitch 6 = .ok (.aload_n 0, 1) := by decide +kernel
theorem dc_M_pitch_7 : decode bc_M_pitch 7 = .ok (.getfield 20, 3) := by decide +kernel
theorem dc_M_pitch_10 : decode bc_M_pitch 10 = .ok (.iload_n 1, 1) := by decide +kernel
theorem dc_M_pitch_11 : decode bc_M_pitch 11 = .ok (.iaload, 1) := by decide +kernel
theorem dc_M_pitch_12 : decode bc_M_pitch 12 = .ok (.iconst 1, 1) := by decide +kernel
theorem dc_M_pitch_13 : decode bc_M_pitch 13 = .ok (.isub, 1) := by decide +kernel
theorem dc_M_pitch_14 : decode bc_M_pitch 14 = .ok (.iload_n 2, 1) := by decide +kernel
theorem dc_M_pitch_15 : decode bc_M_pitch 15 = .ok (.invokevirtual 66, 3) := by decide +kernel
theorem dc_M_pitch_18 : decode bc_M_pitch 18 = .ok (.iaload, 1) := by decide +kernel
theorem dc_M_pitch_19 : decode bc_M_pitch 19 = .ok (.ireturn, 1) := by decide +kernel
theorem dc_M_sign_0 : decode bc_M_sign 0 = .ok (.iload_n 0, 1) := by decide +kernel
theorem dc_M_sign_1 : decode bc_M_sign 1 = .ok (.ifCond .le 7, 3) := by decide +kernel
theorem dc_M_sign_4 : decode bc_M_sign 4 = .ok (.iconst 1, 1) := by decide +kernel
theorem dc_M_sign_5 : decode bc_M_sign 5 = .ok (.goto 12, 3) := by decide +kernel
theorem dc_M_sign_8 : decode bc_M_sign 8 = .ok (.iload_n 0, 1) := by decide +kernel
theorem dc_M_sign_9 : decode bc_M_sign 9 = .ok (.ifCond .ge 7, 3) := by decide +kernel
theorem dc_M_sign_12 : decode bc_M_sign 12 = .ok (.iconst (-1), 1) := by decide +kernel
theorem dc_M_sign_13 : decode bc_M_sign 13 = .ok (.goto 4, 3) := by decide +kernel
theorem dc_M_sign_16 : decode bc_M_sign 16 = .ok (.iconst 0, 1) := by decide +kernel
theorem dc_M_sign_17 : decode bc_M_sign 17 = .ok (.ireturn, 1) := by decide +kernel
theorem dc_M_ask_0 : decode bc_M_ask 0 = .ok (.aload_n 0, 1) := by decide +kernel
theorem dc_M_ask_1 : decode bc_M_ask 1 = .ok (.iload_n 1, 1) := by decide +kernel
theorem dc_M_ask_2 : decode bc_M_ask 2 = .ok (.iload_n 2, 1) := by decide +kernel
theorem dc_M_ask_3 : decode bc_M_ask 3 = .ok (.invokestatic 78, 3) := by decide +kernel
theorem dc_M_ask_6 : decode bc_M_ask 6 = .ok (.ifCond .eq 7, 3) := by decide +kernel
theorem dc_M_ask_9 : decode bc_M_ask 9 = .ok (.iconst 1, 1) := by decide +kernel
theorem dc_M_ask_10 : decode bc_M_ask 10 = .ok (.goto 17, 3) := by decide +kernel
theorem dc_M_ask_13 : decode bc_M_ask 13 = .ok (.aload_n 0, 1) := by decide +kernel
theorem dc_M_ask_14 : decode bc_M_ask 14 = .ok (.getfield 89, 3) := by decide +kernel
theorem dc_M_ask_17 : decode bc_M_ask 17 = .ok (.bipush 8, 2) := by decide +kernel
theorem dc_M_ask_19 : decode bc_M_ask 19 = .ok (.if_icmp .ne 7, 3) := by decide +kernel
theorem dc_M_ask_22 : decode bc_M_ask 22 = .ok (.iconst 2, 1) := by decide +kernel
theorem dc_M_ask_23 : decode bc_M_ask 23 = .ok (.goto 4, 3) := by decide +kernel
theorem dc_M_ask_26 : decode bc_M_ask 26 = .ok (.iconst 0, 1) := by decide +kernel
theorem dc_M_ask_27 : decode bc_M_ask 27 = .ok (.putfield 62, 3) := by decide +kernel
theorem dc_M_ask_30 : decode bc_M_ask 30 = .ok (.aload_n 0, 1) := by decide +kernel
theorem dc_M_ask_31 : decode bc_M_ask 31 = .ok (.getfield 62, 3) := by decide +kernel
theorem dc_M_ask_34 : decode bc_M_ask 34 = .ok (.ifCond .le 5, 3) := by decide +kernel
theorem dc_M_ask_37 : decode bc_M_ask 37 = .ok (.iconst 0, 1) := by decide +kernel
theorem dc_M_ask_38 : decode bc_M_ask 38 = .ok (.ireturn, 1) := by decide +kernel
theorem dc_M_ask_39 : decode bc_M_ask 39 = .ok (.aload_n 0, 1) := by decide +kernel
theorem dc_M_ask_40 : decode bc_M_ask 40 = .ok (.getfield 29, 3) := by decide +kernel
theorem dc_M_ask_43 : decode bc_M_ask 43 = .ok (.aload_n 0, 1) := by decide +kernel
theorem dc_M_ask_44 : decode bc_M_ask 44 = .ok (.getfield 89, 3) := by decide +kernel
theorem dc_M_ask_47 : decode bc_M_ask 47 = .ok (.iload_n 1, 1) := by decide +kernel
theorem dc_M_ask_48 : decode bc_M_ask 48 = .ok (.iastore, 1) := by decide +kernel
theorem dc_M_ask_49 : decode bc_M_ask 49 = .ok (.aload_n 0, 1) := by decide +kernel
theorem dc_M_ask_50 : decode bc_M_ask 50 = .ok (.getfield 32, 3) := by decide +kernel
theorem dc_M_ask_53 : decode bc_M_ask 53 = .ok (.aload_n 0, 1) := by decide +kernel
theorem dc_M_ask_54 : decode bc_M_ask 54 = .ok (.getfield 89, 3) := by decide +kernel
theorem dc_M_ask_57 : decode bc_M_ask 57 = .ok (.iload_n 2, 1) := by decide +kernel
theorem dc_M_ask_58 : decode bc_M_ask 58 = .ok (.iastore, 1) := by decide +kernel
theorem dc_M_ask_59 : decode bc_M_ask 59 = .ok (.aload_n 0, 1) := by decide +kernel
theorem dc_M_ask_60 : decode bc_M_ask 60 = .ok (.dup, 1) := by decide +kernel
theorem dc_M_ask_61 : decode bc_M_ask 61 = .ok (.getfield 89, 3) := by decide +kernel
theorem dc_M_ask_64 : decode bc_M_ask 64 = .ok (.iconst 1, 1) := by decide +kernel
theorem dc_M_ask_65 : decode bc_M_ask 65 = .ok (.iadd, 1) := by decide +kernel
theorem dc_M_ask_66 : decode bc_M_ask 66 = .ok (.putfield 89, 3) := by decide +kernel
theorem dc_M_ask_69 : decode bc_M_ask 69 = .ok (.aload_n 0, 1) := by decide +kernel
theorem dc_M_ask_70 : decode bc_M_ask 70 = .ok (.getfield 89, 3) := by decide +kernel
theorem dc_M_ask_73 : decode bc_M_ask 73 = .ok (.ireturn, 1) := by decide +kernel
theorem dc_M_forget_0 : decode bc_M_forget 0 = .ok (.aload_n 0, 1) := by decide +kernel
theorem dc_M_forget_1 : decode bc_M_forget 1 = .ok (.iconst 0, 1) := by decide +kernel
theorem dc_M_forget_2 : decode bc_M_forget 2 = .ok (.putfield 62, 3) := by decide +kernel
theorem dc_M_forget_5 : decode bc_M_forget 5 = .ok (.aload_n 0, 1) := by decide +kernel
theorem dc_M_forget_6 : decode bc_M_forget 6 = .ok (.iconst 0, 1) := by decide +kernel
theorem dc_M_forget_7 : decode bc_M_forget 7 = .ok (.putfield 89, 3) := by decide +kernel
theorem dc_M_forget_10 : decode bc_M_forget 10 = .ok (.return_, 1) := by decide +kernel
theorem dc_M_search_0 : decode bc_M_search 0 = .ok (.aload_n 0, 1) := by decide +kernel
theorem dc_M_search_1 : decode bc_M_search 1 = .ok (.iload_n 1, 1) := by decide +kernel
theorem dc_M_search_2 : decode bc_M_search 2 = .ok (.ifCond .lt 17, 3) := by decide +kernel
theorem dc_M_search_5 : decode bc_M_search 5 = .ok (.iload_n 1, 1) := by decide +kernel
theorem dc_M_search_6 : decode bc_M_search 6 = .ok (.iconst 5, 1) := by decide +kernel
theorem dc_M_search_7 : decode bc_M_search 7 = .ok (.if_icmp .gt 12, 3) := by decide +kernel
theorem dc_M_search_10 : decode bc_M_search 10 = .ok (.iload_n 2, 1) := by decide +kernel
theorem dc_M_search_11 : decode bc_M_search 11 = .ok (.ifCond .lt 8, 3) := by decide +kernel
theorem dc_M_search_14 : decode bc_M_search 14 = .ok (.iload_n 2, 1) := by decide +kernel
theorem dc_M_search_15 : decode bc_M_search 15 = .ok (.iconst 4, 1) := by decide +kernel
theorem dc_M_search_16 : decode bc_M_search 16 = .ok (.if_icmp .le 7, 3) := by decide +kernel
theorem dc_M_search_19 : decode bc_M_search 19 = .ok (.iconst 1, 1) := by decide +kernel
theorem dc_M_search_20 : decode bc_M_search 20 = .ok (.goto 16, 3) := by decide +kernel
theorem dc_M_search_23 : decode bc_M_search 23 = .ok (.aload_n 0, 1) := by decide +kernel
theorem dc_M_search_24 : decode bc_M_search 24 = .ok (.getfield 89, 3) := by decide +kernel
theorem dc_M_search_27 : decode bc_M_search 27 = .ok (.iconst 2, 1) := by decide +kernel
theorem dc_M_search_28 : decode bc_M_search 28 = .ok (.if_icmp .ge 7, 3) := by decide +kernel
theorem dc_M_search_31 : decode bc_M_search 31 = .ok (.iconst 2, 1) := by decide +kernel
theorem dc_M_search_32 : decode bc_M_search 32 = .ok (.goto 4, 3) := by decide +kernel
theorem dc_M_search_35 : decode bc_M_search 35 = .ok (.iconst 0, 1) := by decide +kernel
theorem dc_M_search_36 : decode bc_M_search 36 = .ok (.putfield 62, 3) := by decide +kernel
theorem dc_M_search_39 : decode bc_M_search 39 = .ok (.aload_n 0, 1) := by decide +kernel
theorem dc_M_search_40 : decode bc_M_search 40 = .ok (.getfield 62, 3) := by decide +kernel
theorem dc_M_search_43 : decode bc_M_search 43 = .ok (.ifCond .le 5, 3) := by decide +kernel
theorem dc_M_search_46 : decode bc_M_search 46 = .ok (.iconst 0, 1) := by decide +kernel
theorem dc_M_search_47 : decode bc_M_search 47 = .ok (.ireturn, 1) := by decide +kernel
theorem dc_M_search_48 : decode bc_M_search 48 = .ok (.aload_n 0, 1) := by decide +kernel
theorem dc_M_search_49 : decode bc_M_search 49 = .ok (.iconst 0, 1) := by decide +kernel
theorem dc_M_search_50 : decode bc_M_search 50 = .ok (.putfield 112, 3) := by decide +kernel
theorem dc_M_search_53 : decode bc_M_search 53 = .ok (.iconst 0, 1) := by decide +kernel
theorem dc_M_search_54 : decode bc_M_search 54 = .ok (.istore_n 3, 1) := by decide +kernel
theorem dc_M_search_55 : decode bc_M_search 55 = .ok (.iload_n 3, 1) := by decide +kernel
theorem dc_M_search_56 : decode bc_M_search 56 = .ok (.bipush 8, 2) := by decide +kernel
theorem dc_M_search_58 : decode bc_M_search 58 = .ok (.if_icmp .ge 151, 3) := by decide +kernel
theorem dc_M_search_61 : decode bc_M_search 61 = .ok (.iconst 0, 1) := by decide +kernel
theorem dc_M_search_62 : decode bc_M_search 62 = .ok (.istore 4, 2) := by decide +kernel
theorem dc_M_search_64 : decode bc_M_search 64 = .ok (.aload_n 0, 1) := by decide +kernel
theorem dc_M_search_65 : decode bc_M_search 65 = .ok (.getfield 7, 3) := by decide +kernel
theorem dc_M_search_68 : decode bc_M_search 68 = .ok (.iload_n 3, 1) := by decide +kernel
theorem dc_M_search_69 : decode bc_M_search 69 = .ok (.baload, 1) := by decide +kernel
theorem dc_M_search_70 : decode bc_M_search 70 = .ok (.ifCond .eq 133, 3) := by decide +kernel
theorem dc_M_search_73 : decode bc_M_search 73 = .ok (.aload_n 0, 1) := by decide +kernel
theorem dc_M_search_74 : decode bc_M_search 74 = .ok (.getfield 13, 3) := by decide +kernel
theorem dc_M_search_77 : decode bc_M_search 77 = .ok (.iload_n 3, 1) := by decide +kernel
theorem dc_M_search_78 : decode bc_M_search 78 = .ok (.baload, 1) := by decide +kernel
theorem dc_M_search_79 : decode bc_M_search 79 = .ok (.ifCond .eq 124, 3) := by decide +kernel
theorem dc_M_search_82 : decode bc_M_search 82 = .ok (.iload 4, 2) := by decide +kernel
theorem dc_M_search_84 : decode bc_M_search 84 = .ok (.aload_n 0, 1) := by decide +kernel
theorem dc_M_search_85 : decode bc_M_search 85 = .ok (.getfield 16, 3) := by decide +kernel
theorem dc_M_search_88 : decode bc_M_search 88 = .ok (.iload_n 3, 1) := by decide +kernel
theorem dc_M_search_89 : decode bc_M_search 89 = .ok (.iaload, 1) := by decide +kernel
theorem dc_M_search_90 : decode bc_M_search 90 = .ok (.if_icmp .ge 113, 3) := by decide +kernel
theorem dc_M_search_93 : decode bc_M_search 93 = .ok (.iconst 2, 1) := by decide +kernel
theorem dc_M_search_94 : decode bc_M_search 94 = .ok (.istore 5, 2) := by decide +kernel
theorem dc_M_search_96 : decode bc_M_search 96 = .ok (.iload 4, 2) := by decide +kernel
theorem dc_M_search_98 : decode bc_M_search 98 = .ok (.iload 5, 2) := by decide +kernel
theorem dc_M_search_100 : decode bc_M_search 100 = .ok (.iadd, 1) := by decide +kernel
theorem dc_M_search_101 : decode bc_M_search 101 = .ok (.aload_n 0, 1) := by decide +kernel
theorem dc_M_search_102 : decode bc_M_search 102 = .ok (.getfield 16, 3) := by decide +kernel
theorem dc_M_search_105 : decode bc_M_search 105 = .ok (.iload_n 3, 1) := by decide +kernel
theorem dc_M_search_106 : decode bc_M_search 106 = .ok (.iaload, 1) := by decide +kernel
theorem dc_M_search_107 : decode bc_M_search 107 = .ok (.if_icmp .gt 90, 3) := by decide +kernel
theorem dc_M_search_110 : decode bc_M_search 110 = .ok (.aload_n 0, 1) := by decide +kernel
theorem dc_M_search_111 : decode bc_M_search 111 = .ok (.iload_n 1, 1) := by decide +kernel
theorem dc_M_search_112 : decode bc_M_search 112 = .ok (.iload_n 2, 1) := by decide +kernel
theorem dc_M_search_113 : decode bc_M_search 113 = .ok (.iload_n 3, 1) := by decide +kernel
theorem dc_M_search_114 : decode bc_M_search 114 = .ok (.iload 4, 2) := by decide +kernel
theorem dc_M_search_116 : decode bc_M_search 116 = .ok (.iload 5, 2) := by decide +kernel
theorem dc_M_search_118 : decode bc_M_search 118 = .ok (.invokevirtual 115, 3) := by decide +kernel
theorem dc_M_search_121 : decode bc_M_search 121 = .ok (.istore 6, 2) := by decide +kernel
theorem dc_M_search_123 : decode bc_M_search 123 = .ok (.iload 6, 2) := by decide +kernel
theorem dc_M_search_125 : decode bc_M_search 125 = .ok (.ifCond .le 66, 3) := by decide +kernel
theorem dc_M_search_128 : decode bc_M_search 128 = .ok (.aload_n 0, 1) := by decide +kernel
theorem dc_M_search_129 : decode bc_M_search 129 = .ok (.getfield 35, 3) := by decide +kernel
theorem dc_M_search_132 : decode bc_M_search 132 = .ok (.aload_n 0, 1) := by decide +kernel
theorem dc_M_search_133 : decode bc_M_search 133 = .ok (.getfield 112, 3) := by decide +kernel
theorem dc_M_search_136 : decode bc_M_search 136 = .ok (.iload_n 3, 1) := by decide +kernel
theorem dc_M_search_137 : decode bc_M_search 137 = .ok (.iastore, 1) := by decide +kernel
theorem dc_M_search_138 : decode bc_M_search 138 = .ok (.aload_n 0, 1) := by decide +kernel
theorem dc_M_search_139 : decode bc_M_search 139 = .ok (.getfield 38, 3) := by decide +kernel
theorem dc_M_search_142 : decode bc_M_search 142 = .ok (.aload_n 0, 1) := by decide +kernel
theorem dc_M_search_143 : decode bc_M_search 143 = .ok (.getfield 112, 3) := by decide +kernel
theorem dc_M_search_146 : decode bc_M_search 146 = .ok (.iload 4, 2) := by decide +kernel
theorem dc_M_search_148 : decode bc_M_search 148 = .ok (.iastore, 1) := by decide +kernel
theorem dc_M_search_149 : decode bc_M_search 149 = .ok (.aload_n 0, 1) := by decide +kernel
theorem dc_M_search_150 : decode bc_M_search 150 = .ok (.getfield 41, 3) := by decide +kernel
theorem dc_M_search_153 : decode bc_M_search 153 = .ok (.aload_n 0, 1) := by decide +kernel
theorem dc_M_search_154 : decode bc_M_search 154 = .ok (.getfield 112, 3) := by decide +kernel
theorem dc_M_search_157 : decode bc_M_search 157 = .ok (.iload 5, 2) := by decide +kernel
theorem dc_M_search_159 : decode bc_M_search 159 = .ok (.iastore, 1) := by decide +kernel
theorem dc_M_search_160 : decode bc_M_search 160 = .ok (.aload_n 0, 1) := by decide +kernel
theorem dc_M_search_161 : decode bc_M_search 161 = .ok (.getfield 44, 3) := by decide +kernel
theorem dc_M_search_164 : decode bc_M_search 164 = .ok (.aload_n 0, 1) := by decide +kernel
theorem dc_M_search_165 : decode bc_M_search 165 = .ok (.getfield 112, 3) := by decide +kernel
theorem dc_M_search_168 : decode bc_M_search 168 = .ok (.iload 6, 2) := by decide +kernel
theorem dc_M_search_170 : decode bc_M_search 170 = .ok (.iastore, 1) := by decide +kernel
theorem dc_M_search_171 : decode bc_M_search 171 = .ok (.aload_n 0, 1) := by decide +kernel
theorem dc_M_search_172 : decode bc_M_search 172 = .ok (.getfield 47, 3) := by decide +kernel
theorem dc_M_search_175 : decode bc_M_search 175 = .ok (.aload_n 0, 1) := by decide +kernel
theorem dc_M_search_176 : decode bc_M_search 176 = .ok (.getfield 112, 3) := by decide +kernel
theorem dc_M_search_179 : decode bc_M_search 179 = .ok (.iconst 0, 1) := by decide +kernel
theorem dc_M_search_180 : decode bc_M_search 180 = .ok (.bastore, 1) := by decide +kernel
theorem dc_M_search_181 : decode bc_M_search 181 = .ok (.aload_n 0, 1) := by decide +kernel
theorem dc_M_search_182 : decode bc_M_search 182 = .ok (.dup, 1) := by decide +kernel
theorem dc_M_search_183 : decode bc_M_search 183 = .ok (.getfield 112, 3) := by decide +kernel
theorem dc_M_search_186 : decode bc_M_search 186 = .ok (.iconst 1, 1) := by decide +kernel
theorem dc_M_search_187 : decode bc_M_search 187 = .ok (.iadd, 1) := by decide +kernel
theorem dc_M_search_188 : decode bc_M_search 188 = .ok (.putfield 112, 3) := by decide +kernel
theorem dc_M_search_191 : decode bc_M_search 191 = .ok (.iinc 5 1, 3) := by decide +kernel
theorem dc_M_search_194 : decode bc_M_search 194 = .ok (.goto (-98), 3) := by decide +kernel
theorem dc_M_search_197 : decode bc_M_search 197 = .ok (.iinc 4 1, 3) := by decide +kernel
theorem dc_M_search_200 : decode bc_M_search 200 = .ok (.goto (-136), 3) := by decide +kernel
theorem dc_M_search_203 : decode bc_M_search 203 = .ok (.iinc 3 1, 3) := by decide +kernel
theorem dc_M_search_206 : decode bc_M_search 206 = .ok (.goto (-151), 3) := by decide +kernel
theorem dc_M_search_209 : decode bc_M_search 209 = .ok (.aload_n 0, 1) := by decide +kernel
theorem dc_M_search_210 : decode bc_M_search 210 = .ok (.iconst 0, 1) := by decide +kernel
theorem dc_M_search_211 : decode bc_M_search 211 = .ok (.putfield 119, 3) := by decide +kernel
theorem dc_M_search_214 : decode bc_M_search 214 = .ok (.aload_n 0, 1) := by decide +kernel
theorem dc_M_search_215 : decode bc_M_search 215 = .ok (.getfield 119, 3) := by decide +kernel
theorem dc_M_search_218 : decode bc_M_search 218 = .ok (.bipush 30, 2) := by decide +kernel
theorem dc_M_search_220 : decode bc_M_search 220 = .ok (.if_icmp .ge 251, 3) := by decide +kernel
theorem dc_M_search_223 : decode bc_M_search 223 = .ok (.aload_n 0, 1) := by decide +kernel
theorem dc_M_search_224 : decode bc_M_search 224 = .ok (.getfield 119, 3) := by decide +kernel
theorem dc_M_search_227 : decode bc_M_search 227 = .ok (.aload_n 0, 1) := by decide +kernel
theorem dc_M_search_228 : decode bc_M_search 228 = .ok (.getfield 112, 3) := by decide +kernel
theorem dc_M_search_231 : decode bc_M_search 231 = .ok (.if_icmp .ge 240, 3) := by decide +kernel
theorem dc_M_search_234 : decode bc_M_search 234 = .ok (.iconst (-1), 1) := by decide +kernel
theorem dc_M_search_235 : decode bc_M_search 235 = .ok (.istore_n 3, 1) := by decide +kernel
theorem dc_M_search_236 : decode bc_M_search 236 = .ok (.iconst 0, 1) := by decide +kernel
theorem dc_M_search_237 : decode bc_M_search 237 = .ok (.istore 4, 2) := by decide +kernel
theorem dc_M_search_239 : decode bc_M_search 239 = .ok (.iload 4, 2) := by decide +kernel
theorem dc_M_search_241 : decode bc_M_search 241 = .ok (.aload_n 0, 1) := by decide +kernel
theorem dc_M_search_242 : decode bc_M_search 242 = .ok (.getfield 112, 3) := by decide +kernel
theorem dc_M_search_245 : decode bc_M_search 245 = .ok (.if_icmp .ge 36, 3) := by decide +kernel
theorem dc_M_search_248 : decode bc_M_search 248 = .ok (.aload_n 0, 1) := by decide +kernel
theorem dc_M_search_249 : decode bc_M_search 249 = .ok (.getfield 47, 3) := by decide +kernel
theorem dc_M_search_252 : decode bc_M_search 252 = .ok (.iload 4, 2) := by decide +kernel
theorem dc_M_search_254 : decode bc_M_search 254 = .ok (.baload, 1) := by decide +kernel
theorem dc_M_search_255 : decode bc_M_search 255 = .ok (.ifCond .ne 20, 3) := by decide +kernel
theorem dc_M_search_258 : decode bc_M_search 258 = .ok (.iload_n 3, 1) := by decide +kernel
theorem dc_M_search_259 : decode bc_M_search 259 = .ok (.ifCond .lt 13, 3) := by decide +kernel
theorem dc_M_search_262 : decode bc_M_search 262 = .ok (.aload_n 0, 1) := by decide +kernel
theorem dc_M_search_263 : decode bc_M_search 263 = .ok (.iload 4, 2) := by decide +kernel
theorem dc_M_search_265 : decode bc_M_search 265 = .ok (.iload_n 3, 1) := by decide +kernel
theorem dc_M_search_266 : decode bc_M_search 266 = .ok (.invokevirtual 122, 3) := by decide +kernel
theorem dc_M_search_269 : decode bc_M_search 269 = .ok (.ifCond .eq 6, 3) := by decide +kernel
theorem dc_M_search_272 : decode bc_M_search 272 = .ok (.iload 4, 2) := by decide +kernel
theorem dc_M_search_274 : decode bc_M_search 274 = .ok (.istore_n 3, 1) := by decide +kernel
theorem dc_M_search_275 : decode bc_M_search 275 = .ok (.iinc 4 1, 3) := by decide +kernel
theorem dc_M_search_278 : decode bc_M_search 278 = .ok (.goto (-39), 3) := by decide +kernel
theorem dc_M_search_281 : decode bc_M_search 281 = .ok (.aload_n 0, 1) := by decide +kernel
theorem dc_M_search_282 : decode bc_M_search 282 = .ok (.getfield 47, 3) := by decide +kernel
theorem dc_M_search_285 : decode bc_M_search 285 = .ok (.iload_n 3, 1) := by decide +kernel
theorem dc_M_search_286 : decode bc_M_search 286 = .ok (.iconst 1, 1) := by decide +kernel
theorem dc_M_search_287 : decode bc_M_search 287 = .ok (.bastore, 1) := by decide +kernel
theorem dc_M_search_288 : decode bc_M_search 288 = .ok (.aload_n 0, 1) := by decide +kernel
theorem dc_M_search_289 : decode bc_M_search 289 = .ok (.getfield 44, 3) := by decide +kernel
theorem dc_M_search_292 : decode bc_M_search 292 = .ok (.iload_n 3, 1) := by decide +kernel
theorem dc_M_search_293 : decode bc_M_search 293 = .ok (.iaload, 1) := by decide +kernel
theorem dc_M_search_294 : decode bc_M_search 294 = .ok (.aload_n 0, 1) := by decide +kernel
theorem dc_M_search_295 : decode bc_M_search 295 = .ok (.getfield 44, 3) := by decide +kernel
theorem dc_M_search_298 : decode bc_M_search 298 = .ok (.iload_n 3, 1) := by decide +kernel
theorem dc_M_search_299 : decode bc_M_search 299 = .ok (.iaload, 1) := by decide +kernel
theorem dc_M_search_300 : decode bc_M_search 300 = .ok (.imul, 1) := by decide +kernel
theorem dc_M_search_301 : decode bc_M_search 301 = .ok (.istore 4, 2) := by decide +kernel
theorem dc_M_search_303 : decode bc_M_search 303 = .ok (.aload_n 0, 1) := by decide +kernel
theorem dc_M_search_304 : decode bc_M_search 304 = .ok (.getfield 89, 3) := by decide +kernel
theorem dc_M_search_307 : decode bc_M_search 307 = .ok (.aload_n 0, 1) := by decide +kernel
theorem dc_M_search_308 : decode bc_M_search 308 = .ok (.getfield 41, 3) := by decide +kernel
theorem dc_M_search_311 : decode bc_M_search 311 = .ok (.iload_n 3, 1) := by decide +kernel
theorem dc_M_search_312 : decode bc_M_search 312 = .ok (.iaload, 1) := by decide +kernel
theorem dc_M_search_313 : decode bc_M_search 313 = .ok (.imul, 1) := by decide +kernel
theorem dc_M_search_314 : decode bc_M_search 314 = .ok (.istore 5, 2) := by decide +kernel
theorem dc_M_search_316 : decode bc_M_search 316 = .ok (.iload 4, 2) := by decide +kernel
theorem dc_M_search_318 : decode bc_M_search 318 = .ok (.iload 5, 2) := by decide +kernel
theorem dc_M_search_320 : decode bc_M_search 320 = .ok (.invokestatic 125, 3) := by decide +kernel
theorem dc_M_search_323 : decode bc_M_search 323 = .ok (.istore 6, 2) := by decide +kernel
theorem dc_M_search_325 : decode bc_M_search 325 = .ok (.aload_n 0, 1) := by decide +kernel
theorem dc_M_search_326 : decode bc_M_search 326 = .ok (.getfield 50, 3) := by decide +kernel
theorem dc_M_search_329 : decode bc_M_search 329 = .ok (.bipush 6, 2) := by decide +kernel
theorem dc_M_search_331 : decode bc_M_search 331 = .ok (.aload_n 0, 1) := by decide +kernel
theorem dc_M_search_332 : decode bc_M_search 332 = .ok (.getfield 119, 3) := by decide +kernel
theorem dc_M_search_335 : decode bc_M_search 335 = .ok (.imul, 1) := by decide +kernel
theorem dc_M_search_336 : decode bc_M_search 336 = .ok (.aload_n 0, 1) := by decide +kernel
theorem dc_M_search_337 : decode bc_M_search 337 = .ok (.getfield 35, 3) := by decide +kernel
theorem dc_M_search_340 : decode bc_M_search 340 = .ok (.iload_n 3, 1) := by decide +kernel
theorem dc_M_search_341 : decode bc_M_search 341 = .ok (.iaload, 1) := by decide +kernel
theorem dc_M_search_342 : decode bc_M_search 342 = .ok (.iastore, 1) := by decide +kernel
theorem dc_M_search_343 : decode bc_M_search 343 = .ok (.aload_n 0, 1) := by decide +kernel
theorem dc_M_search_344 : decode bc_M_search 344 = .ok (.getfield 50, 3) := by decide +kernel
theorem dc_M_search_347 : decode bc_M_search 347 = .ok (.bipush 6, 2) := by decide +kernel
theorem dc_M_search_349 : decode bc_M_search 349 = .ok (.aload_n 0, 1) := by decide +kernel
theorem dc_M_search_350 : decode bc_M_search 350 = .ok (.getfield 119, 3) := by decide +kernel
theorem dc_M_search_353 : decode bc_M_search 353 = .ok (.imul, 1) := by decide +kernel
theorem dc_M_search_354 : decode bc_M_search 354 = .ok (.iconst 1, 1) := by decide +kernel
theorem dc_M_search_355 : decode bc_M_search 355 = .ok (.iadd, 1) := by decide +kernel
theorem dc_M_search_356 : decode bc_M_search 356 = .ok (.aload_n 0, 1) := by decide +kernel
theorem dc_M_search_357 : decode bc_M_search 357 = .ok (.getfield 38, 3) := by decide +kernel
theorem dc_M_search_360 : decode bc_M_search 360 = .ok (.iload_n 3, 1) := by decide +kernel
theorem dc_M_search_361 : decode bc_M_search 361 = .ok (.iaload, 1) := by decide +kernel
theorem dc_M_search_362 : decode bc_M_search 362 = .ok (.iastore, 1) := by decide +kernel
theorem dc_M_search_363 : decode bc_M_search 363 = .ok (.aload_n 0, 1) := by decide +kernel
theorem dc_M_search_364 : decode bc_M_search 364 = .ok (.getfield 50, 3) := by decide +kernel
theorem dc_M_search_367 : decode bc_M_search 367 = .ok (.bipush 6, 2) := by decide +kernel
theorem dc_M_search_369 : decode bc_M_search 369 = .ok (.aload_n 0, 1) := by decide +kernel
theorem dc_M_search_370 : decode bc_M_search 370 = .ok (.getfield 119, 3) := by decide +kernel
theorem dc_M_search_373 : decode bc_M_search 373 = .ok (.imul, 1) := by decide +kernel
theorem dc_M_search_374 : decode bc_M_search 374 = .ok (.iconst 2, 1) := by decide +kernel
theorem dc_M_search_375 : decode bc_M_search 375 = .ok (.iadd, 1) := by decide +kernel
theorem dc_M_search_376 : decode bc_M_search 376 = .ok (.aload_n 0, 1) := by decide +kernel
theorem dc_M_search_377 : decode bc_M_search 377 = .ok (.getfield 41, 3) := by decide +kernel
theorem dc_M_search_380 : decode bc_M_search 380 = .ok (.iload_n 3, 1) := by decide +kernel
theorem dc_M_search_381 : decode bc_M_search 381 = .ok (.iaload, 1) := by decide +kernel
theorem dc_M_search_382 : decode bc_M_search 382 = .ok (.iastore, 1) := by decide +kernel
theorem dc_M_search_383 : decode bc_M_search 383 = .ok (.aload_n 0, 1) := by decide +kernel
theorem dc_M_search_384 : decode bc_M_search 384 = .ok (.getfield 50, 3) := by decide +kernel
theorem dc_M_search_387 : decode bc_M_search 387 = .ok (.bipush 6, 2) := by decide +kernel
theorem dc_M_search_389 : decode bc_M_search 389 = .ok (.aload_n 0, 1) := by decide +kernel
theorem dc_M_search_390 : decode bc_M_search 390 = .ok (.getfield 119, 3) := by decide +kernel
theorem dc_M_search_393 : decode bc_M_search 393 = .ok (.imul, 1) := by decide +kernel
theorem dc_M_search_394 : decode bc_M_search 394 = .ok (.iconst 3, 1) := by decide +kernel
theorem dc_M_search_395 : decode bc_M_search 395 = .ok (.iadd, 1) := by decide +kernel
theorem dc_M_search_396 : decode bc_M_search 396 = .ok (.aload_n 0, 1) := by decide +kernel
theorem dc_M_search_397 : decode bc_M_search 397 = .ok (.aload_n 0, 1) := by decide +kernel
theorem dc_M_search_398 : decode bc_M_search 398 = .ok (.getfield 35, 3) := by decide +kernel
theorem dc_M_search_401 : decode bc_M_search 401 = .ok (.iload_n 3, 1) := by decide +kernel
theorem dc_M_search_402 : decode bc_M_search 402 = .ok (.iaload, 1) := by decide +kernel
theorem dc_M_search_403 : decode bc_M_search 403 = .ok (.aload_n 0, 1) := by decide +kernel
theorem dc_M_search_404 : decode bc_M_search 404 = .ok (.getfield 38, 3) := by decide +kernel
theorem dc_M_search_407 : decode bc_M_search 407 = .ok (.iload_n 3, 1) := by decide +kernel
theorem dc_M_search_408 : decode bc_M_search 408 = .ok (.iaload, 1) := by decide +kernel
theorem dc_M_search_409 : decode bc_M_search 409 = .ok (.invokevirtual 70, 3) := by decide +kernel
theorem dc_M_search_412 : decode bc_M_search 412 = .ok (.aload_n 0, 1) := by decide +kernel
theorem dc_M_search_413 : decode bc_M_search 413 = .ok (.getfield 29, 3) := by decide +kernel
theorem dc_M_search_416 : decode bc_M_search 416 = .ok (.iconst 0, 1) := by decide +kernel
theorem dc_M_search_417 : decode bc_M_search 417 = .ok (.iaload, 1) := by decide +kernel
theorem dc_M_search_418 : decode bc_M_search 418 = .ok (.isub, 1) := by decide +kernel
theorem dc_M_search_419 : decode bc_M_search 419 = .ok (.iastore, 1) := by decide +kernel
theorem dc_M_search_420 : decode bc_M_search 420 = .ok (.aload_n 0, 1) := by decide +kernel
theorem dc_M_search_421 : decode bc_M_search 421 = .ok (.getfield 50, 3) := by decide +kernel
theorem dc_M_search_424 : decode bc_M_search 424 = .ok (.bipush 6, 2) := by decide +kernel
theorem dc_M_search_426 : decode bc_M_search 426 = .ok (.aload_n 0, 1) := by decide +kernel
theorem dc_M_search_427 : decode bc_M_search 427 = .ok (.getfield 119, 3) := by decide +kernel
theorem dc_M_search_430 : decode bc_M_search 430 = .ok (.imul, 1) := by decide +kernel
theorem dc_M_search_431 : decode bc_M_search 431 = .ok (.iconst 4, 1) := by decide +kernel
theorem dc_M_search_432 : decode bc_M_search 432 = .ok (.iadd, 1) := by decide +kernel
theorem dc_M_search_433 : decode bc_M_search 433 = .ok (.iload 4, 2) := by decide +kernel
theorem dc_M_search_435 : decode bc_M_search 435 = .ok (.iload 6, 2) := by decide +kernel
theorem dc_M_search_437 : decode bc_M_search 437 = .ok (.idiv, 1) := by decide +kernel
theorem dc_M_search_438 : decode bc_M_search 438 = .ok (.iastore, 1) := by decide +kernel
theorem dc_M_search_439 : decode bc_M_search 439 = .ok (.aload_n 0, 1) := by decide +kernel
theorem dc_M_search_440 : decode bc_M_search 440 = .ok (.getfield 50, 3) := by decide +kernel
theorem dc_M_search_443 : decode bc_M_search 443 = .ok (.bipush 6, 2) := by decide +kernel
theorem dc_M_search_445 : decode bc_M_search 445 = .ok (.aload_n 0, 1) := by decide +kernel
theorem dc_M_search_446 : decode bc_M_search 446 = .ok (.getfield 119, 3) := by decide +kernel
theorem dc_M_search_449 : decode bc_M_search 449 = .ok (.imul, 1) := by decide +kernel
theorem dc_M_search_450 : decode bc_M_search 450 = .ok (.iconst 5, 1) := by decide +kernel
theorem dc_M_search_451 : decode bc_M_search 451 = .ok (.iadd, 1) := by decide +kernel
theorem dc_M_search_452 : decode bc_M_search 452 = .ok (.iload 5, 2) := by decide +kernel
theorem dc_M_search_454 : decode bc_M_search 454 = .ok (.iload 6, 2) := by decide +kernel
theorem dc_M_search_456 : decode bc_M_search 456 = .ok (.idiv, 1) := by decide +kernel
theorem dc_M_search_457 : decode bc_M_search 457 = .ok (.iastore, 1) := by decide +kernel
theorem dc_M_search_458 : decode bc_M_search 458 = .ok (.aload_n 0, 1) := by decide +kernel
theorem dc_M_search_459 : decode bc_M_search 459 = .ok (.dup, 1) := by decide +kernel
theorem dc_M_search_460 : decode bc_M_search 460 = .ok (.getfield 119, 3) := by decide +kernel
theorem dc_M_search_463 : decode bc_M_search 463 = .ok (.iconst 1, 1) := by decide +kernel
theorem dc_M_search_464 : decode bc_M_search 464 = .ok (.iadd, 1) := by decide +kernel
theorem dc_M_search_465 : decode bc_M_search 465 = .ok (.putfield 119, 3) := by decide +kernel
theorem dc_M_search_468 : decode bc_M_search 468 = .ok (.goto (-254), 3) := by decide +kernel
theorem dc_M_search_471 : decode bc_M_search 471 = .ok (.aload_n 0, 1) := by decide +kernel
theorem dc_M_search_472 : decode bc_M_search 472 = .ok (.getfield 112, 3) := by decide +kernel
theorem dc_M_search_475 : decode bc_M_search 475 = .ok (.ireturn, 1) := by decide +kernel
theorem dc_M_part_0 : decode bc_M_part 0 = .ok (.iload_n 1, 1) := by decide +kernel
theorem dc_M_part_1 : decode bc_M_part 1 = .ok (.iconst 4, 1) := by decide +kernel
theorem dc_M_part_2 : decode bc_M_part 2 = .ok (.if_icmp .ge 32, 3) := by decide +kernel
theorem dc_M_part_5 : decode bc_M_part 5 = .ok (.iload 5, 2) := by decide +kernel
theorem dc_M_part_7 : decode bc_M_part 7 = .ok (.aload_n 0, 1) := by decide +kernel
theorem dc_M_part_8 : decode bc_M_part 8 = .ok (.getfield 89, 3) := by decide +kernel
theorem dc_M_part_11 : decode bc_M_part 11 = .ok (.if_icmp .ne 21, 3) := by decide +kernel
theorem dc_M_part_14 : decode bc_M_part 14 = .ok (.aload_n 0, 1) := by decide +kernel
theorem dc_M_part_15 : decode bc_M_part 15 = .ok (.iload_n 1, 1) := by decide +kernel
theorem dc_M_part_16 : decode bc_M_part 16 = .ok (.iload_n 3, 1) := by decide +kernel
theorem dc_M_part_17 : decode bc_M_part 17 = .ok (.iload 4, 2) := by decide +kernel
theorem dc_M_part_19 : decode bc_M_part 19 = .ok (.invokevirtual 101, 3) := by decide +kernel
theorem dc_M_part_22 : decode bc_M_part 22 = .ok (.ifCond .eq 10, 3) := by decide +kernel
theorem dc_M_part_25 : decode bc_M_part 25 = .ok (.aload_n 0, 1) := by decide +kernel
theorem dc_M_part_26 : decode bc_M_part 26 = .ok (.getfield 89, 3) := by decide +kernel
theorem dc_M_part_29 : decode bc_M_part 29 = .ok (.goto 4, 3) := by decide +kernel
theorem dc_M_part_32 : decode bc_M_part 32 = .ok (.iconst 0, 1) := by decide +kernel
theorem dc_M_part_33 : decode bc_M_part 33 = .ok (.ireturn, 1) := by decide +kernel
theorem dc_M_part_34 : decode bc_M_part 34 = .ok (.iload_n 1, 1) := by decide +kernel
theorem dc_M_part_35 : decode bc_M_part 35 = .ok (.iconst 4, 1) := by decide +kernel
theorem dc_M_part_36 : decode bc_M_part 36 = .ok (.if_icmp .ne 25, 3) := by decide +kernel
theorem dc_M_part_39 : decode bc_M_part 39 = .ok (.aload_n 0, 1) := by decide +kernel
theorem dc_M_part_40 : decode bc_M_part 40 = .ok (.iload_n 3, 1) := by decide +kernel
theorem dc_M_part_41 : decode bc_M_part 41 = .ok (.iload 4, 2) := by decide +kernel
theorem dc_M_part_43 : decode bc_M_part 43 = .ok (.iload 5, 2) := by decide +kernel
theorem dc_M_part_45 : decode bc_M_part 45 = .ok (.iload_n 2, 1) := by decide +kernel
theorem dc_M_part_46 : decode bc_M_part 46 = .ok (.invokevirtual 105, 3) := by decide +kernel
theorem dc_M_part_49 : decode bc_M_part 49 = .ok (.ifCond .eq 10, 3) := by decide +kernel
theorem dc_M_part_52 : decode bc_M_part 52 = .ok (.aload_n 0, 1) := by decide +kernel
theorem dc_M_part_53 : decode bc_M_part 53 = .ok (.getfield 89, 3) := by decide +kernel
theorem dc_M_part_56 : decode bc_M_part 56 = .ok (.goto 4, 3) := by decide +kernel
theorem dc_M_part_59 : decode bc_M_part 59 = .ok (.iconst 0, 1) := by decide +kernel
theorem dc_M_part_60 : decode bc_M_part 60 = .ok (.ireturn, 1) := by decide +kernel
theorem dc_M_part_61 : decode bc_M_part 61 = .ok (.aload_n 0, 1) := by decide +kernel
theorem dc_M_part_62 : decode bc_M_part 62 = .ok (.iload_n 3, 1) := by decide +kernel
theorem dc_M_part_63 : decode bc_M_part 63 = .ok (.iload 4, 2) := by decide +kernel
theorem dc_M_part_65 : decode bc_M_part 65 = .ok (.iload 5, 2) := by decide +kernel
theorem dc_M_part_67 : decode bc_M_part 67 = .ok (.iload_n 2, 1) := by decide +kernel
theorem dc_M_part_68 : decode bc_M_part 68 = .ok (.invokevirtual 109, 3) := by decide +kernel
theorem dc_M_part_71 : decode bc_M_part 71 = .ok (.ifCond .eq 35, 3) := by decide +kernel
theorem dc_M_part_74 : decode bc_M_part 74 = .ok (.aload_n 0, 1) := by decide +kernel
theorem dc_M_part_75 : decode bc_M_part 75 = .ok (.iload_n 3, 1) := by decide +kernel
theorem dc_M_part_76 : decode bc_M_part 76 = .ok (.iload 4, 2) := by decide +kernel
theorem dc_M_part_78 : decode bc_M_part 78 = .ok (.iconst 1, 1) := by decide +kernel
theorem dc_M_part_79 : decode bc_M_part 79 = .ok (.iadd, 1) := by decide +kernel
theorem dc_M_part_80 : decode bc_M_part 80 = .ok (.iload 5, 2) := by decide +kernel
theorem dc_M_part_82 : decode bc_M_part 82 = .ok (.iconst 1, 1) := by decide +kernel
theorem dc_M_part_83 : decode bc_M_part 83 = .ok (.isub, 1) := by decide +kernel
theorem dc_M_part_84 : decode bc_M_part 84 = .ok (.iload_n 2, 1) := by decide +kernel
theorem dc_M_part_85 : decode bc_M_part 85 = .ok (.invokevirtual 109, 3) := by decide +kernel
theorem dc_M_part_88 : decode bc_M_part 88 = .ok (.ifCond .ne 18, 3) := by decide +kernel
theorem dc_M_part_91 : decode bc_M_part 91 = .ok (.aload_n 0, 1) := by decide +kernel
theorem dc_M_part_92 : decode bc_M_part 92 = .ok (.iload_n 3, 1) := by decide +kernel
theorem dc_M_part_93 : decode bc_M_part 93 = .ok (.iload 4, 2) := by decide +kernel
theorem dc_M_part_95 : decode bc_M_part 95 = .ok (.iload 5, 2) := by decide +kernel
theorem dc_M_part_97 : decode bc_M_part 97 = .ok (.iconst 1, 1) := by decide +kernel
theorem dc_M_part_98 : decode bc_M_part 98 = .ok (.isub, 1) := by decide +kernel
theorem dc_M_part_99 : decode bc_M_part 99 = .ok (.iload_n 2, 1) := by decide +kernel
theorem dc_M_part_100 : decode bc_M_part 100 = .ok (.invokevirtual 109, 3) := by decide +kernel
theorem dc_M_part_103 : decode bc_M_part 103 = .ok (.ifCond .eq 5, 3) := by decide +kernel
theorem dc_M_part_106 : decode bc_M_part 106 = .ok (.iconst 0, 1) := by decide +kernel
theorem dc_M_part_107 : decode bc_M_part 107 = .ok (.ireturn, 1) := by decide +kernel
theorem dc_M_part_108 : decode bc_M_part 108 = .ok (.aload_n 0, 1) := by decide +kernel
theorem dc_M_part_109 : decode bc_M_part 109 = .ok (.iload_n 3, 1) := by decide +kernel
theorem dc_M_part_110 : decode bc_M_part 110 = .ok (.iload 4, 2) := by decide +kernel
theorem dc_M_part_112 : decode bc_M_part 112 = .ok (.iload 5, 2) := by decide +kernel
theorem dc_M_part_114 : decode bc_M_part 114 = .ok (.invokevirtual 98, 3) := by decide +kernel
theorem dc_M_part_117 : decode bc_M_part 117 = .ok (.istore 6, 2) := by decide +kernel
theorem dc_M_part_119 : decode bc_M_part 119 = .ok (.aload_n 0, 1) := by decide +kernel
theorem dc_M_part_120 : decode bc_M_part 120 = .ok (.getfield 56, 3) := by decide +kernel
theorem dc_M_part_123 : decode bc_M_part 123 = .ok (.bipush 20, 2) := by decide +kernel
theorem dc_M_part_125 : decode bc_M_part 125 = .ok (.aload_n 0, 1) := by decide +kernel
theorem dc_M_part_126 : decode bc_M_part 126 = .ok (.getfield 89, 3) := by decide +kernel
theorem dc_M_part_129 : decode bc_M_part 129 = .ok (.iconst 1, 1) := by decide +kernel
theorem dc_M_part_130 : decode bc_M_part 130 = .ok (.isub, 1) := by decide +kernel
theorem dc_M_part_131 : decode bc_M_part 131 = .ok (.imul, 1) := by decide +kernel
theorem dc_M_part_132 : decode bc_M_part 132 = .ok (.iload 5, 2) := by decide +kernel
theorem dc_M_part_134 : decode bc_M_part 134 = .ok (.iadd, 1) := by decide +kernel
theorem dc_M_part_135 : decode bc_M_part 135 = .ok (.iconst 1, 1) := by decide +kernel
theorem dc_M_part_136 : decode bc_M_part 136 = .ok (.isub, 1) := by decide +kernel
theorem dc_M_part_137 : decode bc_M_part 137 = .ok (.iaload, 1) := by decide +kernel
theorem dc_M_part_138 : decode bc_M_part 138 = .ok (.iconst 1, 1) := by decide +kernel
theorem dc_M_part_139 : decode bc_M_part 139 = .ok (.iadd, 1) := by decide +kernel
theorem dc_M_part_140 : decode bc_M_part 140 = .ok (.ireturn, 1) := by decide +kernel
theorem dc_M_plain_0 : decode bc_M_plain 0 = .ok (.iconst 1, 1) := by decide +kernel
theorem dc_M_plain_1 : decode bc_M_plain 1 = .ok (.istore 4, 2) := by decide +kernel
theorem dc_M_plain_3 : decode bc_M_plain 3 = .ok (.iconst 0, 1) := by decide +kernel
theorem dc_M_plain_4 : decode bc_M_plain 4 = .ok (.istore 5, 2) := by decide +kernel
theorem dc_M_plain_6 : decode bc_M_plain 6 = .ok (.iload 5, 2) := by decide +kernel
theorem dc_M_plain_8 : decode bc_M_plain 8 = .ok (.iconst 1, 1) := by decide +kernel
theorem dc_M_plain_9 : decode bc_M_plain 9 = .ok (.iadd, 1) := by decide +kernel
theorem dc_M_plain_10 : decode bc_M_plain 10 = .ok (.aload_n 0, 1) := by decide +kernel
theorem dc_M_plain_11 : decode bc_M_plain 11 = .ok (.getfield 89, 3) := by decide +kernel
theorem dc_M_plain_14 : decode bc_M_plain 14 = .ok (.if_icmp .ge 160, 3) := by decide +kernel
theorem dc_M_plain_17 : decode bc_M_plain 17 = .ok (.aload_n 0, 1) := by decide +kernel
theorem dc_M_plain_18 : decode bc_M_plain 18 = .ok (.iload_n 2, 1) := by decide +kernel
theorem dc_M_plain_19 : decode bc_M_plain 19 = .ok (.iload_n 3, 1) := by decide +kernel
theorem dc_M_plain_20 : decode bc_M_plain 20 = .ok (.iload 5, 2) := by decide +kernel
theorem dc_M_plain_22 : decode bc_M_plain 22 = .ok (.iadd, 1) := by decide +kernel
theorem dc_M_plain_23 : decode bc_M_plain 23 = .ok (.invokevirtual 82, 3) := by decide +kernel
theorem dc_M_plain_26 : decode bc_M_plain 26 = .ok (.istore 6, 2) := by decide +kernel
theorem dc_M_plain_28 : decode bc_M_plain 28 = .ok (.aload_n 0, 1) := by decide +kernel
theorem dc_M_plain_29 : decode bc_M_plain 29 = .ok (.iload 5, 2) := by decide +kernel
theorem dc_M_plain_31 : decode bc_M_plain 31 = .ok (.invokevirtual 92, 3) := by decide +kernel
theorem dc_M_plain_34 : decode bc_M_plain 34 = .ok (.istore 7, 2) := by decide +kernel
theorem dc_M_plain_36 : decode bc_M_plain 36 = .ok (.iload 4, 2) := by decide +kernel
theorem dc_M_plain_38 : decode bc_M_plain 38 = .ok (.ifCond .eq 40, 3) := by decide +kernel
theorem dc_M_plain_41 : decode bc_M_plain 41 = .ok (.iload_n 1, 1) := by decide +kernel
theorem dc_M_plain_42 : decode bc_M_plain 42 = .ok (.iconst 3, 1) := by decide +kernel
theorem dc_M_plain_43 : decode bc_M_plain 43 = .ok (.if_icmp .eq 31, 3) := by decide +kernel
theorem dc_M_plain_46 : decode bc_M_plain 46 = .ok (.iload_n 1, 1) := by decide +kernel
theorem dc_M_plain_47 : decode bc_M_plain 47 = .ok (.iconst 2, 1) := by decide +kernel
theorem dc_M_plain_48 : decode bc_M_plain 48 = .ok (.if_icmp .ne 19, 3) := by decide +kernel
theorem dc_M_plain_51 : decode bc_M_plain 51 = .ok (.iload 6, 2) := by decide +kernel
theorem dc_M_plain_53 : decode bc_M_plain 53 = .ok (.invokestatic 85, 3) := by decide +kernel
theorem dc_M_plain_56 : decode bc_M_plain 56 = .ok (.iload 7, 2) := by decide +kernel
theorem dc_M_plain_58 : decode bc_M_plain 58 = .ok (.invokestatic 85, 3) := by decide +kernel
theorem dc_M_plain_61 : decode bc_M_plain 61 = .ok (.if_icmp .ne 17, 3) := by decide +kernel
theorem dc_M_plain_64 : decode bc_M_plain 64 = .ok (.goto 10, 3) := by decide +kernel
theorem dc_M_plain_67 : decode bc_M_plain 67 = .ok (.iload 6, 2) := by decide +kernel
theorem dc_M_plain_69 : decode bc_M_plain 69 = .ok (.iload 7, 2) := by decide +kernel
theorem dc_M_plain_71 : decode bc_M_plain 71 = .ok (.if_icmp .ne 7, 3) := by decide +kernel
theorem dc_M_plain_74 : decode bc_M_plain 74 = .ok (.iconst 1, 1) := by decide +kernel
theorem dc_M_plain_75 : decode bc_M_plain 75 = .ok (.goto 4, 3) := by decide +kernel
theorem dc_M_plain_78 : decode bc_M_plain 78 = .ok (.iconst 0, 1) := by decide +kernel
theorem dc_M_plain_79 : decode bc_M_plain 79 = .ok (.istore 4, 2) := by decide +kernel
theorem dc_M_plain_81 : decode bc_M_plain 81 = .ok (.iload_n 1, 1) := by decide +kernel
theorem dc_M_plain_82 : decode bc_M_plain 82 = .ok (.ifCond .ne 8, 3) := by decide +kernel
theorem dc_M_plain_85 : decode bc_M_plain 85 = .ok (.iload 5, 2) := by decide +kernel
theorem dc_M_plain_87 : decode bc_M_plain 87 = .ok (.goto 4, 3) := by decide +kernel
theorem dc_M_plain_90 : decode bc_M_plain 90 = .ok (.iconst 0, 1) := by decide +kernel
theorem dc_M_plain_91 : decode bc_M_plain 91 = .ok (.istore 8, 2) := by decide +kernel
theorem dc_M_plain_93 : decode bc_M_plain 93 = .ok (.aload_n 0, 1) := by decide +kernel
theorem dc_M_plain_94 : decode bc_M_plain 94 = .ok (.iload_n 2, 1) := by decide +kernel
theorem dc_M_plain_95 : decode bc_M_plain 95 = .ok (.iload_n 3, 1) := by decide +kernel
theorem dc_M_plain_96 : decode bc_M_plain 96 = .ok (.iload 8, 2) := by decide +kernel
theorem dc_M_plain_98 : decode bc_M_plain 98 = .ok (.iadd, 1) := by decide +kernel
theorem dc_M_plain_99 : decode bc_M_plain 99 = .ok (.invokevirtual 95, 3) := by decide +kernel
theorem dc_M_plain_102 : decode bc_M_plain 102 = .ok (.aload_n 0, 1) := by decide +kernel
theorem dc_M_plain_103 : decode bc_M_plain 103 = .ok (.getfield 32, 3) := by decide +kernel
theorem dc_M_plain_106 : decode bc_M_plain 106 = .ok (.iload 5, 2) := by decide +kernel
theorem dc_M_plain_108 : decode bc_M_plain 108 = .ok (.iconst 1, 1) := by decide +kernel
theorem dc_M_plain_109 : decode bc_M_plain 109 = .ok (.iadd, 1) := by decide +kernel
theorem dc_M_plain_110 : decode bc_M_plain 110 = .ok (.iaload, 1) := by decide +kernel
theorem dc_M_plain_111 : decode bc_M_plain 111 = .ok (.imul, 1) := by decide +kernel
theorem dc_M_plain_112 : decode bc_M_plain 112 = .ok (.aload_n 0, 1) := by decide +kernel
theorem dc_M_plain_113 : decode bc_M_plain 113 = .ok (.iload_n 2, 1) := by decide +kernel
theorem dc_M_plain_114 : decode bc_M_plain 114 = .ok (.iload_n 3, 1) := by decide +kernel
theorem dc_M_plain_115 : decode bc_M_plain 115 = .ok (.iload 5, 2) := by decide +kernel
theorem dc_M_plain_117 : decode bc_M_plain 117 = .ok (.iadd, 1) := by decide +kernel
theorem dc_M_plain_118 : decode bc_M_plain 118 = .ok (.iconst 1, 1) := by decide +kernel
theorem dc_M_plain_119 : decode bc_M_plain 119 = .ok (.iadd, 1) := by decide +kernel
theorem dc_M_plain_120 : decode bc_M_plain 120 = .ok (.invokevirtual 95, 3) := by decide +kernel
theorem dc_M_plain_123 : decode bc_M_plain 123 = .ok (.aload_n 0, 1) := by decide +kernel
theorem dc_M_plain_124 : decode bc_M_plain 124 = .ok (.getfield 32, 3) := by decide +kernel
theorem dc_M_plain_127 : decode bc_M_plain 127 = .ok (.iload 8, 2) := by decide +kernel
theorem dc_M_plain_129 : decode bc_M_plain 129 = .ok (.iaload, 1) := by decide +kernel
theorem dc_M_plain_130 : decode bc_M_plain 130 = .ok (.imul, 1) := by decide +kernel
theorem dc_M_plain_131 : decode bc_M_plain 131 = .ok (.if_icmp .ne 7, 3) := by decide +kernel
theorem dc_M_plain_134 : decode bc_M_plain 134 = .ok (.iconst 1, 1) := by decide +kernel
theorem dc_M_plain_135 : decode bc_M_plain 135 = .ok (.goto 4, 3) := by decide +kernel
theorem dc_M_plain_138 : decode bc_M_plain 138 = .ok (.iconst 0, 1) := by decide +kernel
theorem dc_M_plain_139 : decode bc_M_plain 139 = .ok (.istore 9, 2) := by decide +kernel
theorem dc_M_plain_141 : decode bc_M_plain 141 = .ok (.iload 4, 2) := by decide +kernel
theorem dc_M_plain_143 : decode bc_M_plain 143 = .ok (.ifCond .eq 22, 3) := by decide +kernel
theorem dc_M_plain_146 : decode bc_M_plain 146 = .ok (.iload_n 1, 1) := by decide +kernel
theorem dc_M_plain_147 : decode bc_M_plain 147 = .ok (.iconst 1, 1) := by decide +kernel
theorem dc_M_plain_148 : decode bc_M_plain 148 = .ok (.if_icmp .eq 13, 3) := by decide +kernel
theorem dc_M_plain_151 : decode bc_M_plain 151 = .ok (.iload_n 1, 1) := by decide +kernel
theorem dc_M_plain_152 : decode bc_M_plain 152 = .ok (.iconst 2, 1) := by decide +kernel
theorem dc_M_plain_153 : decode bc_M_plain 153 = .ok (.if_icmp .eq 8, 3) := by decide +kernel
theorem dc_M_plain_156 : decode bc_M_plain 156 = .ok (.iload 9, 2) := by decide +kernel
theorem dc_M_plain_158 : decode bc_M_plain 158 = .ok (.ifCond .eq 7, 3) := by decide +kernel
theorem dc_M_plain_161 : decode bc_M_plain 161 = .ok (.iconst 1, 1) := by decide +kernel
theorem dc_M_plain_162 : decode bc_M_plain 162 = .ok (.goto 4, 3) := by decide +kernel
theorem dc_M_plain_165 : decode bc_M_plain 165 = .ok (.iconst 0, 1) := by decide +kernel
theorem dc_M_plain_166 : decode bc_M_plain 166 = .ok (.istore 4, 2) := by decide +kernel
theorem dc_M_plain_168 : decode bc_M_plain 168 = .ok (.iinc 5 1, 3) := by decide +kernel
theorem dc_M_plain_171 : decode bc_M_plain 171 = .ok (.goto (-165), 3) := by decide +kernel
theorem dc_M_plain_174 : decode bc_M_plain 174 = .ok (.iload 4, 2) := by decide +kernel
theorem dc_M_plain_176 : decode bc_M_plain 176 = .ok (.ireturn, 1) := by decide +kernel
theorem dc_M_askedStep_0 : decode bc_M_askedStep 0 = .ok (.aload_n 0, 1) := by decide +kernel
theorem dc_M_askedStep_1 : decode bc_M_askedStep 1 = .ok (.getfield 29, 3) := by decide +kernel
theorem dc_M_askedStep_4 : decode bc_M_askedStep 4 = .ok (.iload_n 1, 1) := by decide +kernel
theorem dc_M_askedStep_5 : decode bc_M_askedStep 5 = .ok (.iconst 1, 1) := by decide +kernel
theorem dc_M_askedStep_6 : decode bc_M_askedStep 6 = .ok (.iadd, 1) := by decide +kernel
theorem dc_M_askedStep_7 : decode bc_M_askedStep 7 = .ok (.iaload, 1) := by decide +kernel
theorem dc_M_askedStep_8 : decode bc_M_askedStep 8 = .ok (.aload_n 0, 1) := by decide +kernel
theorem dc_M_askedStep_9 : decode bc_M_askedStep 9 = .ok (.getfield 29, 3) := by decide +kernel
theorem dc_M_askedStep_12 : decode bc_M_askedStep 12 = .ok (.iload_n 1, 1) := by decide +kernel
theorem dc_M_askedStep_13 : decode bc_M_askedStep 13 = .ok (.iaload, 1) := by decide +kernel
theorem dc_M_askedStep_14 : decode bc_M_askedStep 14 = .ok (.isub, 1) := by decide +kernel
theorem dc_M_askedStep_15 : decode bc_M_askedStep 15 = .ok (.ireturn, 1) := by decide +kernel
theorem dc_M_lengthOf_0 : decode bc_M_lengthOf 0 = .ok (.aload_n 0, 1) := by decide +kernel
theorem dc_M_lengthOf_1 : decode bc_M_lengthOf 1 = .ok (.getfield 26, 3) := by decide +kernel
theorem dc_M_lengthOf_4 : decode bc_M_lengthOf 4 = .ok (.aload_n 0, 1) := by decide +kernel
theorem dc_M_lengthOf_5 : decode bc_M_lengthOf 5 = .ok (.iload_n 1, 1) := by decide +kernel
theorem dc_M_lengthOf_6 : decode bc_M_lengthOf 6 = .ok (.aload_n 0, 1) := by decide +kernel
theorem dc_M_lengthOf_7 : decode bc_M_lengthOf 7 = .ok (.getfield 20, 3) := by decide +kernel
theorem dc_M_lengthOf_10 : decode bc_M_lengthOf 10 = .ok (.iload_n 1, 1) := by decide +kernel
theorem dc_M_lengthOf_11 : decode bc_M_lengthOf 11 = .ok (.iaload, 1) := by decide +kernel
theorem dc_M_lengthOf_12 : decode bc_M_lengthOf 12 = .ok (.iconst 1, 1) := by decide +kernel
theorem dc_M_lengthOf_13 : decode bc_M_lengthOf 13 = .ok (.isub, 1) := by decide +kernel
theorem dc_M_lengthOf_14 : decode bc_M_lengthOf 14 = .ok (.iload_n 2, 1) := by decide +kernel
theorem dc_M_lengthOf_15 : decode bc_M_lengthOf 15 = .ok (.invokevirtual 66, 3) := by decide +kernel
theorem dc_M_lengthOf_18 : decode bc_M_lengthOf 18 = .ok (.iaload, 1) := by decide +kernel
theorem dc_M_lengthOf_19 : decode bc_M_lengthOf 19 = .ok (.ireturn, 1) := by decide +kernel
theorem dc_M_outlines_0 : decode bc_M_outlines 0 = .ok (.aload_n 0, 1) := by decide +kernel
theorem dc_M_outlines_1 : decode bc_M_outlines 1 = .ok (.iload_n 1, 1) := by decide +kernel
theorem dc_M_outlines_2 : decode bc_M_outlines 2 = .ok (.iload_n 2, 1) := by decide +kernel
theorem dc_M_outlines_3 : decode bc_M_outlines 3 = .ok (.invokevirtual 70, 3) := by decide +kernel
theorem dc_M_outlines_6 : decode bc_M_outlines 6 = .ok (.aload_n 0, 1) := by decide +kernel
theorem dc_M_outlines_7 : decode bc_M_outlines 7 = .ok (.getfield 29, 3) := by decide +kernel
theorem dc_M_outlines_10 : decode bc_M_outlines 10 = .ok (.iconst 0, 1) := by decide +kernel
theorem dc_M_outlines_11 : decode bc_M_outlines 11 = .ok (.iaload, 1) := by decide +kernel
theorem dc_M_outlines_12 : decode bc_M_outlines 12 = .ok (.isub, 1) := by decide +kernel
theorem dc_M_outlines_13 : decode bc_M_outlines 13 = .ok (.istore 5, 2) := by decide +kernel
theorem dc_M_outlines_15 : decode bc_M_outlines 15 = .ok (.iconst 0, 1) := by decide +kernel
theorem dc_M_outlines_16 : decode bc_M_outlines 16 = .ok (.istore 6, 2) := by decide +kernel
theorem dc_M_outlines_18 : decode bc_M_outlines 18 = .ok (.iload 6, 2) := by decide +kernel
theorem dc_M_outlines_20 : decode bc_M_outlines 20 = .ok (.aload_n 0, 1) := by decide +kernel
theorem dc_M_outlines_21 : decode bc_M_outlines 21 = .ok (.getfield 89, 3) := by decide +kernel
theorem dc_M_outlines_24 : decode bc_M_outlines 24 = .ok (.if_icmp .ge 150, 3) := by decide +kernel
theorem dc_M_outlines_27 : decode bc_M_outlines 27 = .ok (.iconst 0, 1) := by decide +kernel
theorem dc_M_outlines_28 : decode bc_M_outlines 28 = .ok (.istore 7, 2) := by decide +kernel
theorem dc_M_outlines_30 : decode bc_M_outlines 30 = .ok (.iload 7, 2) := by decide +kernel
theorem dc_M_outlines_32 : decode bc_M_outlines 32 = .ok (.iload_n 3, 1) := by decide +kernel
theorem dc_M_outlines_33 : decode bc_M_outlines 33 = .ok (.if_icmp .ge 135, 3) := by decide +kernel
theorem dc_M_outlines_36 : decode bc_M_outlines 36 = .ok (.iload 6, 2) := by decide +kernel
theorem dc_M_outlines_38 : decode bc_M_outlines 38 = .ok (.ifCond .ne 12, 3) := by decide +kernel
theorem dc_M_outlines_41 : decode bc_M_outlines 41 = .ok (.iload 7, 2) := by decide +kernel
theorem dc_M_outlines_43 : decode bc_M_outlines 43 = .ok (.ifCond .ne 7, 3) := by decide +kernel
theorem dc_M_outlines_46 : decode bc_M_outlines 46 = .ok (.iconst 1, 1) := by decide +kernel
theorem dc_M_outlines_47 : decode bc_M_outlines 47 = .ok (.goto 4, 3) := by decide +kernel
theorem dc_M_outlines_50 : decode bc_M_outlines 50 = .ok (.iconst 0, 1) := by decide +kernel
theorem dc_M_outlines_51 : decode bc_M_outlines 51 = .ok (.istore 8, 2) := by decide +kernel
theorem dc_M_outlines_53 : decode bc_M_outlines 53 = .ok (.iload 7, 2) := by decide +kernel
theorem dc_M_outlines_55 : decode bc_M_outlines 55 = .ok (.iconst 1, 1) := by decide +kernel
theorem dc_M_outlines_56 : decode bc_M_outlines 56 = .ok (.isub, 1) := by decide +kernel
theorem dc_M_outlines_57 : decode bc_M_outlines 57 = .ok (.istore 9, 2) := by decide +kernel
theorem dc_M_outlines_59 : decode bc_M_outlines 59 = .ok (.iload 9, 2) := by decide +kernel
theorem dc_M_outlines_61 : decode bc_M_outlines 61 = .ok (.ifCond .lt 56, 3) := by decide +kernel
theorem dc_M_outlines_64 : decode bc_M_outlines 64 = .ok (.iload 9, 2) := by decide +kernel
theorem dc_M_outlines_66 : decode bc_M_outlines 66 = .ok (.iload 7, 2) := by decide +kernel
theorem dc_M_outlines_68 : decode bc_M_outlines 68 = .ok (.iconst 1, 1) := by decide +kernel
theorem dc_M_outlines_69 : decode bc_M_outlines 69 = .ok (.isub, 1) := by decide +kernel
theorem dc_M_outlines_70 : decode bc_M_outlines 70 = .ok (.iload 4, 2) := by decide +kernel
theorem dc_M_outlines_72 : decode bc_M_outlines 72 = .ok (.isub, 1) := by decide +kernel
theorem dc_M_outlines_73 : decode bc_M_outlines 73 = .ok (.if_icmp .lt 44, 3) := by decide +kernel
theorem dc_M_outlines_76 : decode bc_M_outlines 76 = .ok (.iload 6, 2) := by decide +kernel
theorem dc_M_outlines_78 : decode bc_M_outlines 78 = .ok (.ifCond .le 39, 3) := by decide +kernel
theorem dc_M_outlines_81 : decode bc_M_outlines 81 = .ok (.iload 8, 2) := by decide +kernel
theorem dc_M_outlines_83 : decode bc_M_outlines 83 = .ok (.ifCond .ne 21, 3) := by decide +kernel
theorem dc_M_outlines_86 : decode bc_M_outlines 86 = .ok (.aload_n 0, 1) := by decide +kernel
theorem dc_M_outlines_87 : decode bc_M_outlines 87 = .ok (.getfield 59, 3) := by decide +kernel
theorem dc_M_outlines_90 : decode bc_M_outlines 90 = .ok (.bipush 20, 2) := by decide +kernel
theorem dc_M_outlines_92 : decode bc_M_outlines 92 = .ok (.iload 6, 2) := by decide +kernel
theorem dc_M_outlines_94 : decode bc_M_outlines 94 = .ok (.iconst 1, 1) := by decide +kernel
theorem dc_M_outlines_95 : decode bc_M_outlines 95 = .ok (.isub, 1) := by decide +kernel
theorem dc_M_outlines_96 : decode bc_M_outlines 96 = .ok (.imul, 1) := by decide +kernel
theorem dc_M_outlines_97 : decode bc_M_outlines 97 = .ok (.iload 9, 2) := by decide +kernel
theorem dc_M_outlines_99 : decode bc_M_outlines 99 = .ok (.iadd, 1) := by decide +kernel
theorem dc_M_outlines_100 : decode bc_M_outlines 100 = .ok (.baload, 1) := by decide +kernel
theorem dc_M_outlines_101 : decode bc_M_outlines 101 = .ok (.ifCond .eq 7, 3) := by decide +kernel
theorem dc_M_outlines_104 : decode bc_M_outlines 104 = .ok (.iconst 1, 1) := by decide +kernel
theorem dc_M_outlines_105 : decode bc_M_outlines 105 = .ok (.goto 4, 3) := by decide +kernel
theorem dc_M_outlines_108 : decode bc_M_outlines 108 = .ok (.iconst 0, 1) := by decide +kernel
theorem dc_M_outlines_109 : decode bc_M_outlines 109 = .ok (.istore 8, 2) := by decide +kernel
theorem dc_M_outlines_111 : decode bc_M_outlines 111 = .ok (.iinc 9 (-1), 3) := by decide +kernel
theorem dc_M_outlines_114 : decode bc_M_outlines 114 = .ok (.goto (-55), 3) := by decide +kernel
theorem dc_M_outlines_117 : decode bc_M_outlines 117 = .ok (.aload_n 0, 1) := by decide +kernel
theorem dc_M_outlines_118 : decode bc_M_outlines 118 = .ok (.getfield 59, 3) := by decide +kernel
theorem dc_M_outlines_121 : decode bc_M_outlines 121 = .ok (.bipush 20, 2) := by decide +kernel
theorem dc_M_outlines_123 : decode bc_M_outlines 123 = .ok (.iload 6, 2) := by decide +kernel
theorem dc_M_outlines_125 : decode bc_M_outlines 125 = .ok (.imul, 1) := by decide +kernel
theorem dc_M_outlines_126 : decode bc_M_outlines 126 = .ok (.iload 7, 2) := by decide +kernel
theorem dc_M_outlines_128 : decode bc_M_outlines 128 = .ok (.iadd, 1) := by decide +kernel
theorem dc_M_outlines_129 : decode bc_M_outlines 129 = .ok (.iload 8, 2) := by decide +kernel
theorem dc_M_outlines_131 : decode bc_M_outlines 131 = .ok (.ifCond .eq 29, 3) := by decide +kernel
theorem dc_M_outlines_134 : decode bc_M_outlines 134 = .ok (.aload_n 0, 1) := by decide +kernel
theorem dc_M_outlines_135 : decode bc_M_outlines 135 = .ok (.iload_n 1, 1) := by decide +kernel
theorem dc_M_outlines_136 : decode bc_M_outlines 136 = .ok (.iload_n 2, 1) := by decide +kernel
theorem dc_M_outlines_137 : decode bc_M_outlines 137 = .ok (.iload 7, 2) := by decide +kernel
theorem dc_M_outlines_139 : decode bc_M_outlines 139 = .ok (.iadd, 1) := by decide +kernel
theorem dc_M_outlines_140 : decode bc_M_outlines 140 = .ok (.invokevirtual 70, 3) := by decide +kernel
theorem dc_M_outlines_143 : decode bc_M_outlines 143 = .ok (.aload_n 0, 1) := by decide +kernel
theorem dc_M_outlines_144 : decode bc_M_outlines 144 = .ok (.getfield 29, 3) := by decide +kernel
theorem dc_M_outlines_147 : decode bc_M_outlines 147 = .ok (.iload 6, 2) := by decide +kernel
theorem dc_M_outlines_149 : decode bc_M_outlines 149 = .ok (.iaload, 1) := by decide +kernel
theorem dc_M_outlines_150 : decode bc_M_outlines 150 = .ok (.isub, 1) := by decide +kernel
theorem dc_M_outlines_151 : decode bc_M_outlines 151 = .ok (.iload 5, 2) := by decide +kernel
theorem dc_M_outlines_153 : decode bc_M_outlines 153 = .ok (.if_icmp .ne 7, 3) := by decide +kernel
theorem dc_M_outlines_156 : decode bc_M_outlines 156 = .ok (.iconst 1, 1) := by decide +kernel
theorem dc_M_outlines_157 : decode bc_M_outlines 157 = .ok (.goto 4, 3) := by decide +kernel
theorem dc_M_outlines_160 : decode bc_M_outlines 160 = .ok (.iconst 0, 1) := by decide +kernel
theorem dc_M_outlines_161 : decode bc_M_outlines 161 = .ok (.bastore, 1) := by decide +kernel
theorem dc_M_outlines_162 : decode bc_M_outlines 162 = .ok (.iinc 7 1, 3) := by decide +kernel
theorem dc_M_outlines_165 : decode bc_M_outlines 165 = .ok (.goto (-135), 3) := by decide +kernel
theorem dc_M_outlines_168 : decode bc_M_outlines 168 = .ok (.iinc 6 1, 3) := by decide +kernel
theorem dc_M_outlines_171 : decode bc_M_outlines 171 = .ok (.goto (-153), 3) := by decide +kernel
theorem dc_M_outlines_174 : decode bc_M_outlines 174 = .ok (.aload_n 0, 1) := by decide +kernel
theorem dc_M_outlines_175 : decode bc_M_outlines 175 = .ok (.getfield 59, 3) := by decide +kernel
theorem dc_M_outlines_178 : decode bc_M_outlines 178 = .ok (.bipush 20, 2) := by decide +kernel
theorem dc_M_outlines_180 : decode bc_M_outlines 180 = .ok (.aload_n 0, 1) := by decide +kernel
theorem dc_M_outlines_181 : decode bc_M_outlines 181 = .ok (.getfield 89, 3) := by decide +kernel
theorem dc_M_outlines_184 : decode bc_M_outlines 184 = .ok (.iconst 1, 1) := by decide +kernel
theorem dc_M_outlines_185 : decode bc_M_outlines 185 = .ok (.isub, 1) := by decide +kernel
theorem dc_M_outlines_186 : decode bc_M_outlines 186 = .ok (.imul, 1) := by decide +kernel
theorem dc_M_outlines_187 : decode bc_M_outlines 187 = .ok (.iload_n 3, 1) := by decide +kernel
theorem dc_M_outlines_188 : decode bc_M_outlines 188 = .ok (.iadd, 1) := by decide +kernel
theorem dc_M_outlines_189 : decode bc_M_outlines 189 = .ok (.iconst 1, 1) := by decide +kernel
theorem dc_M_outlines_190 : decode bc_M_outlines 190 = .ok (.isub, 1) := by decide +kernel
theorem dc_M_outlines_191 : decode bc_M_outlines 191 = .ok (.baload, 1) := by decide +kernel
theorem dc_M_outlines_192 : decode bc_M_outlines 192 = .ok (.ireturn, 1) := by decide +kernel
theorem dc_M_near_0 : decode bc_M_near 0 = .ok (.iload_n 3, 1) := by decide +kernel
theorem dc_M_near_1 : decode bc_M_near 1 = .ok (.iconst 1, 1) := by decide +kernel
theorem dc_M_near_2 : decode bc_M_near 2 = .ok (.if_icmp .le 19, 3) := by decide +kernel
theorem dc_M_near_5 : decode bc_M_near 5 = .ok (.aload_n 0, 1) := by decide +kernel
theorem dc_M_near_6 : decode bc_M_near 6 = .ok (.iload_n 1, 1) := by decide +kernel
theorem dc_M_near_7 : decode bc_M_near 7 = .ok (.iload_n 2, 1) := by decide +kernel
theorem dc_M_near_8 : decode bc_M_near 8 = .ok (.iload_n 3, 1) := by decide +kernel
theorem dc_M_near_9 : decode bc_M_near 9 = .ok (.invokevirtual 98, 3) := by decide +kernel
theorem dc_M_near_12 : decode bc_M_near 12 = .ok (.iload 4, 2) := by decide +kernel
theorem dc_M_near_14 : decode bc_M_near 14 = .ok (.if_icmp .gt 7, 3) := by decide +kernel
theorem dc_M_near_17 : decode bc_M_near 17 = .ok (.iconst 1, 1) := by decide +kernel
theorem dc_M_near_18 : decode bc_M_near 18 = .ok (.goto 4, 3) := by decide +kernel
theorem dc_M_near_21 : decode bc_M_near 21 = .ok (.iconst 0, 1) := by decide +kernel
theorem dc_M_near_22 : decode bc_M_near 22 = .ok (.ireturn, 1) := by decide +kernel
theorem dc_M_distance_0 : decode bc_M_distance 0 = .ok (.iconst 0, 1) := by decide +kernel
theorem dc_M_distance_1 : decode bc_M_distance 1 = .ok (.istore 4, 2) := by decide +kernel
theorem dc_M_distance_3 : decode bc_M_distance 3 = .ok (.iload 4, 2) := by decide +kernel
theorem dc_M_distance_5 : decode bc_M_distance 5 = .ok (.aload_n 0, 1) := by decide +kernel
theorem dc_M_distance_6 : decode bc_M_distance 6 = .ok (.getfield 89, 3) := by decide +kernel
theorem dc_M_distance_9 : decode bc_M_distance 9 = .ok (.if_icmp .ge 292, 3) := by decide +kernel
theorem dc_M_distance_12 : decode bc_M_distance 12 = .ok (.iconst 0, 1) := by decide +kernel
theorem dc_M_distance_13 : decode bc_M_distance 13 = .ok (.istore 5, 2) := by decide +kernel
theorem dc_M_distance_15 : decode bc_M_distance 15 = .ok (.iload 5, 2) := by decide +kernel
theorem dc_M_distance_17 : decode bc_M_distance 17 = .ok (.iload_n 3, 1) := by decide +kernel
theorem dc_M_distance_18 : decode bc_M_distance 18 = .ok (.if_icmp .ge 277, 3) := by decide +kernel
theorem dc_M_distance_21 : decode bc_M_distance 21 = .ok (.iload 4, 2) := by decide +kernel
theorem dc_M_distance_23 : decode bc_M_distance 23 = .ok (.ifCond .ne 8, 3) := by decide +kernel
theorem dc_M_distance_26 : decode bc_M_distance 26 = .ok (.iload 5, 2) := by decide +kernel
theorem dc_M_distance_28 : decode bc_M_distance 28 = .ok (.goto 15, 3) := by decide +kernel
theorem dc_M_distance_31 : decode bc_M_distance 31 = .ok (.iload 5, 2) := by decide +kernel
theorem dc_M_distance_33 : decode bc_M_distance 33 = .ok (.ifCond .ne 8, 3) := by decide +kernel
theorem dc_M_distance_36 : decode bc_M_distance 36 = .ok (.iload 4, 2) := by decide +kernel
theorem dc_M_distance_38 : decode bc_M_distance 38 = .ok (.goto 5, 3) := by decide +kernel
theorem dc_M_distance_41 : decode bc_M_distance 41 = .ok (.bipush 99, 2) := by decide +kernel
theorem dc_M_distance_43 : decode bc_M_distance 43 = .ok (.istore 6, 2) := by decide +kernel
theorem dc_M_distance_45 : decode bc_M_distance 45 = .ok (.iconst 0, 1) := by decide +kernel
theorem dc_M_distance_46 : decode bc_M_distance 46 = .ok (.istore 7, 2) := by decide +kernel
theorem dc_M_distance_48 : decode bc_M_distance 48 = .ok (.iload 4, 2) := by decide +kernel
theorem dc_M_distance_50 : decode bc_M_distance 50 = .ok (.ifCond .le 209, 3) := by decide +kernel
theorem dc_M_distance_53 : decode bc_M_distance 53 = .ok (.iload 5, 2) := by decide +kernel
theorem dc_M_distance_55 : decode bc_M_distance 55 = .ok (.ifCond .le 204, 3) := by decide +kernel
theorem dc_M_distance_58 : decode bc_M_distance 58 = .ok (.aload_n 0, 1) := by decide +kernel
theorem dc_M_distance_59 : decode bc_M_distance 59 = .ok (.iload 4, 2) := by decide +kernel
theorem dc_M_distance_61 : decode bc_M_distance 61 = .ok (.iconst 1, 1) := by decide +kernel
theorem dc_M_distance_62 : decode bc_M_distance 62 = .ok (.isub, 1) := by decide +kernel
theorem dc_M_distance_63 : decode bc_M_distance 63 = .ok (.invokevirtual 92, 3) := by decide +kernel
theorem dc_M_distance_66 : decode bc_M_distance 66 = .ok (.aload_n 0, 1) := by decide +kernel
theorem dc_M_distance_67 : decode bc_M_distance 67 = .ok (.iload_n 1, 1) := by decide +kernel
theorem dc_M_distance_68 : decode bc_M_distance 68 = .ok (.iload_n 2, 1) := by decide +kernel
theorem dc_M_distance_69 : decode bc_M_distance 69 = .ok (.iload 5, 2) := by decide +kernel
theorem dc_M_distance_71 : decode bc_M_distance 71 = .ok (.iadd, 1) := by decide +kernel
theorem dc_M_distance_72 : decode bc_M_distance 72 = .ok (.iconst 1, 1) := by decide +kernel
theorem dc_M_distance_73 : decode bc_M_distance 73 = .ok (.isub, 1) := by decide +kernel
theorem dc_M_distance_74 : decode bc_M_distance 74 = .ok (.invokevirtual 82, 3) := by decide +kernel
theorem dc_M_distance_77 : decode bc_M_distance 77 = .ok (.if_icmp .ne 7, 3) := by decide +kernel
theorem dc_M_distance_80 : decode bc_M_distance 80 = .ok (.iconst 1, 1) := by decide +kernel
theorem dc_M_distance_81 : decode bc_M_distance 81 = .ok (.goto 4, 3) := by decide +kernel
theorem dc_M_distance_84 : decode bc_M_distance 84 = .ok (.iconst 0, 1) := by decide +kernel
theorem dc_M_distance_85 : decode bc_M_distance 85 = .ok (.istore 8, 2) := by decide +kernel
theorem dc_M_distance_87 : decode bc_M_distance 87 = .ok (.aload_n 0, 1) := by decide +kernel
theorem dc_M_distance_88 : decode bc_M_distance 88 = .ok (.getfield 53, 3) := by decide +kernel
theorem dc_M_distance_91 : decode bc_M_distance 91 = .ok (.bipush 20, 2) := by decide +kernel
theorem dc_M_distance_93 : decode bc_M_distance 93 = .ok (.iload 4, 2) := by decide +kernel
theorem dc_M_distance_95 : decode bc_M_distance 95 = .ok (.iconst 1, 1) := by decide +kernel
theorem dc_M_distance_96 : decode bc_M_distance 96 = .ok (.isub, 1) := by decide +kernel
theorem dc_M_distance_97 : decode bc_M_distance 97 = .ok (.imul, 1) := by decide +kernel
theorem dc_M_distance_98 : decode bc_M_distance 98 = .ok (.iload 5, 2) := by decide +kernel
theorem dc_M_distance_100 : decode bc_M_distance 100 = .ok (.iadd, 1) := by decide +kernel
theorem dc_M_distance_101 : decode bc_M_distance 101 = .ok (.iconst 1, 1) := by decide +kernel
theorem dc_M_distance_102 : decode bc_M_distance 102 = .ok (.isub, 1) := by decide +kernel
theorem dc_M_distance_103 : decode bc_M_distance 103 = .ok (.iaload, 1) := by decide +kernel
theorem dc_M_distance_104 : decode bc_M_distance 104 = .ok (.iload 8, 2) := by decide +kernel
theorem dc_M_distance_106 : decode bc_M_distance 106 = .ok (.ifCond .eq 7, 3) := by decide +kernel
theorem dc_M_distance_109 : decode bc_M_distance 109 = .ok (.iconst 0, 1) := by decide +kernel
theorem dc_M_distance_110 : decode bc_M_distance 110 = .ok (.goto 4, 3) := by decide +kernel
theorem dc_M_distance_113 : decode bc_M_distance 113 = .ok (.iconst 1, 1) := by decide +kernel
theorem dc_M_distance_114 : decode bc_M_distance 114 = .ok (.iadd, 1) := by decide +kernel
theorem dc_M_distance_115 : decode bc_M_distance 115 = .ok (.istore 6, 2) := by decide +kernel
theorem dc_M_distance_117 : decode bc_M_distance 117 = .ok (.aload_n 0, 1) := by decide +kernel
theorem dc_M_distance_118 : decode bc_M_distance 118 = .ok (.getfield 56, 3) := by decide +kernel
theorem dc_M_distance_121 : decode bc_M_distance 121 = .ok (.bipush 20, 2) := by decide +kernel
theorem dc_M_distance_123 : decode bc_M_distance 123 = .ok (.iload 4, 2) := by decide +kernel
theorem dc_M_distance_125 : decode bc_M_distance 125 = .ok (.iconst 1, 1) := by decide +kernel
theorem dc_M_distance_126 : decode bc_M_distance 126 = .ok (.isub, 1) := by decide +kernel
theorem dc_M_distance_127 : decode bc_M_distance 127 = .ok (.imul, 1) := by decide +kernel
theorem dc_M_distance_128 : decode bc_M_distance 128 = .ok (.iload 5, 2) := by decide +kernel
theorem dc_M_distance_130 : decode bc_M_distance 130 = .ok (.iadd, 1) := by decide +kernel
theorem dc_M_distance_131 : decode bc_M_distance 131 = .ok (.iconst 1, 1) := by decide +kernel
theorem dc_M_distance_132 : decode bc_M_distance 132 = .ok (.isub, 1) := by decide +kernel
theorem dc_M_distance_133 : decode bc_M_distance 133 = .ok (.iaload, 1) := by decide +kernel
theorem dc_M_distance_134 : decode bc_M_distance 134 = .ok (.iload 8, 2) := by decide +kernel
theorem dc_M_distance_136 : decode bc_M_distance 136 = .ok (.ifCond .eq 7, 3) := by decide +kernel
theorem dc_M_distance_139 : decode bc_M_distance 139 = .ok (.iconst 1, 1) := by decide +kernel
theorem dc_M_distance_140 : decode bc_M_distance 140 = .ok (.goto 4, 3) := by decide +kernel
theorem dc_M_distance_143 : decode bc_M_distance 143 = .ok (.iconst 0, 1) := by decide +kernel
theorem dc_M_distance_144 : decode bc_M_distance 144 = .ok (.iadd, 1) := by decide +kernel
theorem dc_M_distance_145 : decode bc_M_distance 145 = .ok (.istore 7, 2) := by decide +kernel
theorem dc_M_distance_147 : decode bc_M_distance 147 = .ok (.iconst 0, 1) := by decide +kernel
theorem dc_M_distance_148 : decode bc_M_distance 148 = .ok (.istore 9, 2) := by decide +kernel
theorem dc_M_distance_150 : decode bc_M_distance 150 = .ok (.iload 9, 2) := by decide +kernel
theorem dc_M_distance_152 : decode bc_M_distance 152 = .ok (.iconst 2, 1) := by decide +kernel
theorem dc_M_distance_153 : decode bc_M_distance 153 = .ok (.if_icmp .ge 106, 3) := by decide +kernel
theorem dc_M_distance_156 : decode bc_M_distance 156 = .ok (.iload 9, 2) := by decide +kernel
theorem dc_M_distance_158 : decode bc_M_distance 158 = .ok (.ifCond .ne 16, 3) := by decide +kernel
theorem dc_M_distance_161 : decode bc_M_distance 161 = .ok (.bipush 20, 2) := by decide +kernel
theorem dc_M_distance_163 : decode bc_M_distance 163 = .ok (.iload 4, 2) := by decide +kernel
theorem dc_M_distance_165 : decode bc_M_distance 165 = .ok (.iconst 1, 1) := by decide +kernel
theorem dc_M_distance_166 : decode bc_M_distance 166 = .ok (.isub, 1) := by decide +kernel
theorem dc_M_distance_167 : decode bc_M_distance 167 = .ok (.imul, 1) := by decide +kernel
theorem dc_M_distance_168 : decode bc_M_distance 168 = .ok (.iload 5, 2) := by decide +kernel
theorem dc_M_distance_170 : decode bc_M_distance 170 = .ok (.iadd, 1) := by decide +kernel
theorem dc_M_distance_171 : decode bc_M_distance 171 = .ok (.goto 13, 3) := by decide +kernel
theorem dc_M_distance_174 : decode bc_M_distance 174 = .ok (.bipush 20, 2) := by decide +kernel
theorem dc_M_distance_176 : decode bc_M_distance 176 = .ok (.iload 4, 2) := by decide +kernel
theorem dc_M_distance_178 : decode bc_M_distance 178 = .ok (.imul, 1) := by decide +kernel
theorem dc_M_distance_179 : decode bc_M_distance 179 = .ok (.iload 5, 2) := by decide +kernel
theorem dc_M_distance_181 : decode bc_M_distance 181 = .ok (.iadd, 1) := by decide +kernel
theorem dc_M_distance_182 : decode bc_M_distance 182 = .ok (.iconst 1, 1) := by decide +kernel
theorem dc_M_distance_183 : decode bc_M_distance 183 = .ok (.isub, 1) := by decide +kernel
theorem dc_M_distance_184 : decode bc_M_distance 184 = .ok (.istore 10, 2) := by decide +kernel
theorem dc_M_distance_186 : decode bc_M_distance 186 = .ok (.aload_n 0, 1) := by decide +kernel
theorem dc_M_distance_187 : decode bc_M_distance 187 = .ok (.getfield 53, 3) := by decide +kernel
theorem dc_M_distance_190 : decode bc_M_distance 190 = .ok (.iload 10, 2) := by decide +kernel
theorem dc_M_distance_192 : decode bc_M_distance 192 = .ok (.iaload, 1) := by decide +kernel
theorem dc_M_distance_193 : decode bc_M_distance 193 = .ok (.iconst 1, 1) := by decide +kernel
theorem dc_M_distance_194 : decode bc_M_distance 194 = .ok (.iadd, 1) := by decide +kernel
theorem dc_M_distance_195 : decode bc_M_distance 195 = .ok (.istore 11, 2) := by decide +kernel
theorem dc_M_distance_197 : decode bc_M_distance 197 = .ok (.iload 11, 2) := by decide +kernel
theorem dc_M_distance_199 : decode bc_M_distance 199 = .ok (.iload 6, 2) := by decide +kernel
theorem dc_M_distance_201 : decode bc_M_distance 201 = .ok (.if_icmp .lt 22, 3) := by decide +kernel
theorem dc_M_distance_204 : decode bc_M_distance 204 = .ok (.iload 11, 2) := by decide +kernel
theorem dc_M_distance_206 : decode bc_M_distance 206 = .ok (.iload 6, 2) := by decide +kernel
theorem dc_M_distance_208 : decode bc_M_distance 208 = .ok (.if_icmp .ne 25, 3) := by decide +kernel
theorem dc_M_distance_211 : decode bc_M_distance 211 = .ok (.aload_n 0, 1) := by decide +kernel
theorem dc_M_distance_212 : decode bc_M_distance 212 = .ok (.getfield 56, 3) := by decide +kernel
theorem dc_M_distance_215 : decode bc_M_distance 215 = .ok (.iload 10, 2) := by decide +kernel
theorem dc_M_distance_217 : decode bc_M_distance 217 = .ok (.iaload, 1) := by decide +kernel
theorem dc_M_distance_218 : decode bc_M_distance 218 = .ok (.iload 7, 2) := by decide +kernel
theorem dc_M_distance_220 : decode bc_M_distance 220 = .ok (.if_icmp .le 13, 3) := by decide +kernel
theorem dc_M_distance_223 : decode bc_M_distance 223 = .ok (.aload_n 0, 1) := by decide +kernel
theorem dc_M_distance_224 : decode bc_M_distance 224 = .ok (.getfield 56, 3) := by decide +kernel
theorem dc_M_distance_227 : decode bc_M_distance 227 = .ok (.iload 10, 2) := by decide +kernel
theorem dc_M_distance_229 : decode bc_M_distance 229 = .ok (.iaload, 1) := by decide +kernel
theorem dc_M_distance_230 : decode bc_M_distance 230 = .ok (.goto 5, 3) := by decide +kernel
theorem dc_M_distance_233 : decode bc_M_distance 233 = .ok (.iload 7, 2) := by decide +kernel
theorem dc_M_distance_235 : decode bc_M_distance 235 = .ok (.istore 7, 2) := by decide +kernel
theorem dc_M_distance_237 : decode bc_M_distance 237 = .ok (.iload 11, 2) := by decide +kernel
theorem dc_M_distance_239 : decode bc_M_distance 239 = .ok (.iload 6, 2) := by decide +kernel
theorem dc_M_distance_241 : decode bc_M_distance 241 = .ok (.if_icmp .ge 8, 3) := by decide +kernel
theorem dc_M_distance_244 : decode bc_M_distance 244 = .ok (.iload 11, 2) := by decide +kernel
theorem dc_M_distance_246 : decode bc_M_distance 246 = .ok (.goto 5, 3) := by decide +kernel
theorem dc_M_distance_249 : decode bc_M_distance 249 = .ok (.iload 6, 2) := by decide +kernel
theorem dc_M_distance_251 : decode bc_M_distance 251 = .ok (.istore 6, 2) := by decide +kernel
theorem dc_M_distance_253 : decode bc_M_distance 253 = .ok (.iinc 9 1, 3) := by decide +kernel
theorem dc_M_distance_256 : decode bc_M_distance 256 = .ok (.goto (-106), 3) := by decide +kernel
theorem dc_M_distance_259 : decode bc_M_distance 259 = .ok (.aload_n 0, 1) := by decide +kernel
theorem dc_M_distance_260 : decode bc_M_distance 260 = .ok (.getfield 53, 3) := by decide +kernel
theorem dc_M_distance_263 : decode bc_M_distance 263 = .ok (.bipush 20, 2) := by decide +kernel
theorem dc_M_distance_265 : decode bc_M_distance 265 = .ok (.iload 4, 2) := by decide +kernel
theorem dc_M_distance_267 : decode bc_M_distance 267 = .ok (.imul, 1) := by decide +kernel
theorem dc_M_distance_268 : decode bc_M_distance 268 = .ok (.iload 5, 2) := by decide +kernel
theorem dc_M_distance_270 : decode bc_M_distance 270 = .ok (.iadd, 1) := by decide +kernel
theorem dc_M_distance_271 : decode bc_M_distance 271 = .ok (.iload 6, 2) := by decide +kernel
theorem dc_M_distance_273 : decode bc_M_distance 273 = .ok (.iastore, 1) := by decide +kernel
theorem dc_M_distance_274 : decode bc_M_distance 274 = .ok (.aload_n 0, 1) := by decide +kernel
theorem dc_M_distance_275 : decode bc_M_distance 275 = .ok (.getfield 56, 3) := by decide +kernel
theorem dc_M_distance_278 : decode bc_M_distance 278 = .ok (.bipush 20, 2) := by decide +kernel
theorem dc_M_distance_280 : decode bc_M_distance 280 = .ok (.iload 4, 2) := by decide +kernel
theorem dc_M_distance_282 : decode bc_M_distance 282 = .ok (.imul, 1) := by decide +kernel
theorem dc_M_distance_283 : decode bc_M_distance 283 = .ok (.iload 5, 2) := by decide +kernel
theorem dc_M_distance_285 : decode bc_M_distance 285 = .ok (.iadd, 1) := by decide +kernel
theorem dc_M_distance_286 : decode bc_M_distance 286 = .ok (.iload 7, 2) := by decide +kernel
theorem dc_M_distance_288 : decode bc_M_distance 288 = .ok (.iastore, 1) := by decide +kernel
theorem dc_M_distance_289 : decode bc_M_distance 289 = .ok (.iinc 5 1, 3) := by decide +kernel
theorem dc_M_distance_292 : decode bc_M_distance 292 = .ok (.goto (-277), 3) := by decide +kernel
theorem dc_M_distance_295 : decode bc_M_distance 295 = .ok (.iinc 4 1, 3) := by decide +kernel
theorem dc_M_distance_298 : decode bc_M_distance 298 = .ok (.goto (-295), 3) := by decide +kernel
theorem dc_M_distance_301 : decode bc_M_distance 301 = .ok (.aload_n 0, 1) := by decide +kernel
theorem dc_M_distance_302 : decode bc_M_distance 302 = .ok (.getfield 53, 3) := by decide +kernel
theorem dc_M_distance_305 : decode bc_M_distance 305 = .ok (.bipush 20, 2) := by decide +kernel
theorem dc_M_distance_307 : decode bc_M_distance 307 = .ok (.aload_n 0, 1) := by decide +kernel
theorem dc_M_distance_308 : decode bc_M_distance 308 = .ok (.getfield 89, 3) := by decide +kernel
theorem dc_M_distance_311 : decode bc_M_distance 311 = .ok (.iconst 1, 1) := by decide +kernel
theorem dc_M_distance_312 : decode bc_M_distance 312 = .ok (.isub, 1) := by decide +kernel
theorem dc_M_distance_313 : decode bc_M_distance 313 = .ok (.imul, 1) := by decide +kernel
theorem dc_M_distance_314 : decode bc_M_distance 314 = .ok (.iload_n 3, 1) := by decide +kernel
theorem dc_M_distance_315 : decode bc_M_distance 315 = .ok (.iadd, 1) := by decide +kernel
theorem dc_M_distance_316 : decode bc_M_distance 316 = .ok (.iconst 1, 1) := by decide +kernel
theorem dc_M_distance_317 : decode bc_M_distance 317 = .ok (.isub, 1) := by decide +kernel
theorem dc_M_distance_318 : decode bc_M_distance 318 = .ok (.iaload, 1) := by decide +kernel
theorem dc_M_distance_319 : decode bc_M_distance 319 = .ok (.ireturn, 1) := by decide +kernel
theorem dc_M_leads_0 : decode bc_M_leads 0 = .ok (.aload_n 0, 1) := by decide +kernel
theorem dc_M_leads_1 : decode bc_M_leads 1 = .ok (.getfield 44, 3) := by decide +kernel
theorem dc_M_leads_4 : decode bc_M_leads 4 = .ok (.iload_n 1, 1) := by decide +kernel
theorem dc_M_leads_5 : decode bc_M_leads 5 = .ok (.iaload, 1) := by decide +kernel
theorem dc_M_leads_6 : decode bc_M_leads 6 = .ok (.aload_n 0, 1) := by decide +kernel
theorem dc_M_leads_7 : decode bc_M_leads 7 = .ok (.getfield 44, 3) := by decide +kernel
theorem dc_M_leads_10 : decode bc_M_leads 10 = .ok (.iload_n 1, 1) := by decide +kernel
theorem dc_M_leads_11 : decode bc_M_leads 11 = .ok (.iaload, 1) := by decide +kernel
theorem dc_M_leads_12 : decode bc_M_leads 12 = .ok (.imul, 1) := by decide +kernel
theorem dc_M_leads_13 : decode bc_M_leads 13 = .ok (.aload_n 0, 1) := by decide +kernel
theorem dc_M_leads_14 : decode bc_M_leads 14 = .ok (.getfield 41, 3) := by decide +kernel
theorem dc_M_leads_17 : decode bc_M_leads 17 = .ok (.iload_n 2, 1) := by decide +kernel
theorem dc_M_leads_18 : decode bc_M_leads 18 = .ok (.iaload, 1) := by decide +kernel
theorem dc_M_leads_19 : decode bc_M_leads 19 = .ok (.imul, 1) := by decide +kernel
theorem dc_M_leads_20 : decode bc_M_leads 20 = .ok (.istore_n 3, 1) := by decide +kernel
theorem dc_M_leads_21 : decode bc_M_leads 21 = .ok (.aload_n 0, 1) := by decide +kernel
theorem dc_M_leads_22 : decode bc_M_leads 22 = .ok (.getfield 44, 3) := by decide +kernel
theorem dc_M_leads_25 : decode bc_M_leads 25 = .ok (.iload_n 2, 1) := by decide +kernel
theorem dc_M_leads_26 : decode bc_M_leads 26 = .ok (.iaload, 1) := by decide +kernel
theorem dc_M_leads_27 : decode bc_M_leads 27 = .ok (.aload_n 0, 1) := by decide +kernel
theorem dc_M_leads_28 : decode bc_M_leads 28 = .ok (.getfield 44, 3) := by decide +kernel
theorem dc_M_leads_31 : decode bc_M_leads 31 = .ok (.iload_n 2, 1) := by decide +kernel
theorem dc_M_leads_32 : decode bc_M_leads 32 = .ok (.iaload, 1) := by decide +kernel
theorem dc_M_leads_33 : decode bc_M_leads 33 = .ok (.imul, 1) := by decide +kernel
theorem dc_M_leads_34 : decode bc_M_leads 34 = .ok (.aload_n 0, 1) := by decide +kernel
theorem dc_M_leads_35 : decode bc_M_leads 35 = .ok (.getfield 41, 3) := by decide +kernel
theorem dc_M_leads_38 : decode bc_M_leads 38 = .ok (.iload_n 1, 1) := by decide +kernel
theorem dc_M_leads_39 : decode bc_M_leads 39 = .ok (.iaload, 1) := by decide +kernel
theorem dc_M_leads_40 : decode bc_M_leads 40 = .ok (.imul, 1) := by decide +kernel
theorem dc_M_leads_41 : decode bc_M_leads 41 = .ok (.istore 4, 2) := by decide +kernel
theorem dc_M_leads_43 : decode bc_M_leads 43 = .ok (.iload_n 3, 1) := by decide +kernel
theorem dc_M_leads_44 : decode bc_M_leads 44 = .ok (.iload 4, 2) := by decide +kernel
theorem dc_M_leads_46 : decode bc_M_leads 46 = .ok (.if_icmp .le 7, 3) := by decide +kernel
theorem dc_M_leads_49 : decode bc_M_leads 49 = .ok (.iconst 1, 1) := by decide +kernel
theorem dc_M_leads_50 : decode bc_M_leads 50 = .ok (.goto 4, 3) := by decide +kernel
theorem dc_M_leads_53 : decode bc_M_leads 53 = .ok (.iconst 0, 1) := by decide +kernel
theorem dc_M_leads_54 : decode bc_M_leads 54 = .ok (.ireturn, 1) := by decide +kernel
theorem dc_M_divisor_0 : decode bc_M_divisor 0 = .ok (.iload_n 0, 1) := by decide +kernel
theorem dc_M_divisor_1 : decode bc_M_divisor 1 = .ok (.iload_n 1, 1) := by decide +kernel
theorem dc_M_divisor_2 : decode bc_M_divisor 2 = .ok (.if_icmp .ge 7, 3) := by decide +kernel
theorem dc_M_divisor_5 : decode bc_M_divisor 5 = .ok (.iload_n 0, 1) := by decide +kernel
theorem dc_M_divisor_6 : decode bc_M_divisor 6 = .ok (.goto 4, 3) := by decide +kernel
theorem dc_M_divisor_9 : decode bc_M_divisor 9 = .ok (.iload_n 1, 1) := by decide +kernel
theorem dc_M_divisor_10 : decode bc_M_divisor 10 = .ok (.istore_n 2, 1) := by decide +kernel
theorem dc_M_divisor_11 : decode bc_M_divisor 11 = .ok (.iload_n 0, 1) := by decide +kernel
theorem dc_M_divisor_12 : decode bc_M_divisor 12 = .ok (.iload_n 2, 1) := by decide +kernel
theorem dc_M_divisor_13 : decode bc_M_divisor 13 = .ok (.irem, 1) := by decide +kernel
theorem dc_M_divisor_14 : decode bc_M_divisor 14 = .ok (.ifCond .ne 9, 3) := by decide +kernel
theorem dc_M_divisor_17 : decode bc_M_divisor 17 = .ok (.iload_n 1, 1) := by decide +kernel
theorem dc_M_divisor_18 : decode bc_M_divisor 18 = .ok (.iload_n 2, 1) := by decide +kernel
theorem dc_M_divisor_19 : decode bc_M_divisor 19 = .ok (.irem, 1) := by decide +kernel
theorem dc_M_divisor_20 : decode bc_M_divisor 20 = .ok (.ifCond .eq 9, 3) := by decide +kernel
theorem dc_M_divisor_23 : decode bc_M_divisor 23 = .ok (.iinc 2 (-1), 3) := by decide +kernel
theorem dc_M_divisor_26 : decode bc_M_divisor 26 = .ok (.goto (-15), 3) := by decide +kernel
theorem dc_M_divisor_29 : decode bc_M_divisor 29 = .ok (.iload_n 2, 1) := by decide +kernel
theorem dc_M_divisor_30 : decode bc_M_divisor 30 = .ok (.ireturn, 1) := by decide +kernel
theorem dc_M_match_0 : decode bc_M_match 0 = .ok (.aload_n 0, 1) := by decide +kernel
theorem dc_M_match_1 : decode bc_M_match 1 = .ok (.iload_n 1, 1) := by decide +kernel
theorem dc_M_match_2 : decode bc_M_match 2 = .ok (.ifCond .lt 11, 3) := by decide +kernel
theorem dc_M_match_5 : decode bc_M_match 5 = .ok (.iload_n 1, 1) := by decide +kernel
theorem dc_M_match_6 : decode bc_M_match 6 = .ok (.aload_n 0, 1) := by decide +kernel
theorem dc_M_match_7 : decode bc_M_match 7 = .ok (.getfield 119, 3) := by decide +kernel
theorem dc_M_match_10 : decode bc_M_match 10 = .ok (.if_icmp .lt 7, 3) := by decide +kernel
theorem dc_M_match_13 : decode bc_M_match 13 = .ok (.iconst 1, 1) := by decide +kernel
theorem dc_M_match_14 : decode bc_M_match 14 = .ok (.goto 17, 3) := by decide +kernel
theorem dc_M_match_17 : decode bc_M_match 17 = .ok (.iload_n 2, 1) := by decide +kernel
theorem dc_M_match_18 : decode bc_M_match 18 = .ok (.ifCond .lt 8, 3) := by decide +kernel
theorem dc_M_match_21 : decode bc_M_match 21 = .ok (.iload_n 2, 1) := by decide +kernel
theorem dc_M_match_22 : decode bc_M_match 22 = .ok (.iconst 5, 1) := by decide +kernel
theorem dc_M_match_23 : decode bc_M_match 23 = .ok (.if_icmp .le 7, 3) := by decide +kernel
theorem dc_M_match_26 : decode bc_M_match 26 = .ok (.iconst 2, 1) := by decide +kernel
theorem dc_M_match_27 : decode bc_M_match 27 = .ok (.goto 4, 3) := by decide +kernel
theorem dc_M_match_30 : decode bc_M_match 30 = .ok (.iconst 0, 1) := by decide +kernel
theorem dc_M_match_31 : decode bc_M_match 31 = .ok (.putfield 62, 3) := by decide +kernel
theorem dc_M_match_34 : decode bc_M_match 34 = .ok (.aload_n 0, 1) := by decide +kernel
theorem dc_M_match_35 : decode bc_M_match 35 = .ok (.getfield 62, 3) := by decide +kernel
theorem dc_M_match_38 : decode bc_M_match 38 = .ok (.ifCond .le 7, 3) := by decide +kernel
theorem dc_M_match_41 : decode bc_M_match 41 = .ok (.iconst 0, 1) := by decide +kernel
theorem dc_M_match_42 : decode bc_M_match 42 = .ok (.goto 14, 3) := by decide +kernel
theorem dc_M_match_45 : decode bc_M_match 45 = .ok (.aload_n 0, 1) := by decide +kernel
theorem dc_M_match_46 : decode bc_M_match 46 = .ok (.getfield 50, 3) := by decide +kernel
theorem dc_M_match_49 : decode bc_M_match 49 = .ok (.bipush 6, 2) := by decide +kernel
theorem dc_M_match_51 : decode bc_M_match 51 = .ok (.iload_n 1, 1) := by decide +kernel
theorem dc_M_match_52 : decode bc_M_match 52 = .ok (.imul, 1) := by decide +kernel
theorem dc_M_match_53 : decode bc_M_match 53 = .ok (.iload_n 2, 1) := by decide +kernel
theorem dc_M_match_54 : decode bc_M_match 54 = .ok (.iadd, 1) := by decide +kernel
theorem dc_M_match_55 : decode bc_M_match 55 = .ok (.iaload, 1) := by decide +kernel
theorem dc_M_match_56 : decode bc_M_match 56 = .ok (.ireturn, 1) := by decide +kernel
theorem dc_M_repeats_0 : decode bc_M_repeats 0 = .ok (.aload_n 0, 1) := by decide +kernel
theorem dc_M_repeats_1 : decode bc_M_repeats 1 = .ok (.aload_n 0, 1) := by decide +kernel
theorem dc_M_repeats_2 : decode bc_M_repeats 2 = .ok (.iload_n 1, 1) := by decide +kernel
theorem dc_M_repeats_3 : decode bc_M_repeats 3 = .ok (.invokevirtual 74, 3) := by decide +kernel
theorem dc_M_repeats_6 : decode bc_M_repeats 6 = .ok (.ifCond .eq 7, 3) := by decide +kernel
theorem dc_M_repeats_9 : decode bc_M_repeats 9 = .ok (.iconst 1, 1) := by decide +kernel
theorem dc_M_repeats_10 : decode bc_M_repeats 10 = .ok (.goto 19, 3) := by decide +kernel
theorem dc_M_repeats_13 : decode bc_M_repeats 13 = .ok (.iload_n 2, 1) := by decide +kernel
theorem dc_M_repeats_14 : decode bc_M_repeats 14 = .ok (.iconst 1, 1) := by decide +kernel
theorem dc_M_repeats_15 : decode bc_M_repeats 15 = .ok (.if_icmp .lt 9, 3) := by decide +kernel
theorem dc_M_repeats_18 : decode bc_M_repeats 18 = .ok (.iload_n 2, 1) := by decide +kernel
theorem dc_M_repeats_19 : decode bc_M_repeats 19 = .ok (.bipush 19, 2) := by decide +kernel
theorem dc_M_repeats_21 : decode bc_M_repeats 21 = .ok (.if_icmp .le 7, 3) := by decide +kernel
theorem dc_M_repeats_24 : decode bc_M_repeats 24 = .ok (.iconst 2, 1) := by decide +kernel
theorem dc_M_repeats_25 : decode bc_M_repeats 25 = .ok (.goto 4, 3) := by decide +kernel
theorem dc_M_repeats_28 : decode bc_M_repeats 28 = .ok (.iconst 0, 1) := by decide +kernel
theorem dc_M_repeats_29 : decode bc_M_repeats 29 = .ok (.putfield 62, 3) := by decide +kernel
theorem dc_M_repeats_32 : decode bc_M_repeats 32 = .ok (.aload_n 0, 1) := by decide +kernel
theorem dc_M_repeats_33 : decode bc_M_repeats 33 = .ok (.getfield 62, 3) := by decide +kernel
theorem dc_M_repeats_36 : decode bc_M_repeats 36 = .ok (.ifCond .le 5, 3) := by decide +kernel
theorem dc_M_repeats_39 : decode bc_M_repeats 39 = .ok (.iconst 0, 1) := by decide +kernel
theorem dc_M_repeats_40 : decode bc_M_repeats 40 = .ok (.ireturn, 1) := by decide +kernel
theorem dc_M_repeats_41 : decode bc_M_repeats 41 = .ok (.iconst 0, 1) := by decide +kernel
theorem dc_M_repeats_42 : decode bc_M_repeats 42 = .ok (.istore_n 3, 1) := by decide +kernel
theorem dc_M_repeats_43 : decode bc_M_repeats 43 = .ok (.iconst 0, 1) := by decide +kernel
theorem dc_M_repeats_44 : decode bc_M_repeats 44 = .ok (.istore 4, 2) := by decide +kernel
theorem dc_M_repeats_46 : decode bc_M_repeats 46 = .ok (.iload 4, 2) := by decide +kernel
theorem dc_M_repeats_48 : decode bc_M_repeats 48 = .ok (.aload_n 0, 1) := by decide +kernel
theorem dc_M_repeats_49 : decode bc_M_repeats 49 = .ok (.getfield 16, 3) := by decide +kernel
theorem dc_M_repeats_52 : decode bc_M_repeats 52 = .ok (.iload_n 1, 1) := by decide +kernel
theorem dc_M_repeats_53 : decode bc_M_repeats 53 = .ok (.iaload, 1) := by decide +kernel
theorem dc_M_repeats_54 : decode bc_M_repeats 54 = .ok (.if_icmp .ge 47, 3) := by decide +kernel
theorem dc_M_repeats_57 : decode bc_M_repeats 57 = .ok (.iload_n 2, 1) := by decide +kernel
theorem dc_M_repeats_58 : decode bc_M_repeats 58 = .ok (.istore 5, 2) := by decide +kernel
theorem dc_M_repeats_60 : decode bc_M_repeats 60 = .ok (.iload 4, 2) := by decide +kernel
theorem dc_M_repeats_62 : decode bc_M_repeats 62 = .ok (.iload 5, 2) := by decide +kernel
theorem dc_M_repeats_64 : decode bc_M_repeats 64 = .ok (.iadd, 1) := by decide +kernel
theorem dc_M_repeats_65 : decode bc_M_repeats 65 = .ok (.aload_n 0, 1) := by decide +kernel
theorem dc_M_repeats_66 : decode bc_M_repeats 66 = .ok (.getfield 16, 3) := by decide +kernel
theorem dc_M_repeats_69 : decode bc_M_repeats 69 = .ok (.iload_n 1, 1) := by decide +kernel
theorem dc_M_repeats_70 : decode bc_M_repeats 70 = .ok (.iaload, 1) := by decide +kernel
theorem dc_M_repeats_71 : decode bc_M_repeats 71 = .ok (.if_icmp .ge 24, 3) := by decide +kernel
theorem dc_M_repeats_74 : decode bc_M_repeats 74 = .ok (.aload_n 0, 1) := by decide +kernel
theorem dc_M_repeats_75 : decode bc_M_repeats 75 = .ok (.iload_n 1, 1) := by decide +kernel
theorem dc_M_repeats_76 : decode bc_M_repeats 76 = .ok (.iload 4, 2) := by decide +kernel
theorem dc_M_repeats_78 : decode bc_M_repeats 78 = .ok (.iload 5, 2) := by decide +kernel
theorem dc_M_repeats_80 : decode bc_M_repeats 80 = .ok (.invokevirtual 134, 3) := by decide +kernel
theorem dc_M_repeats_83 : decode bc_M_repeats 83 = .ok (.ifCond .le 6, 3) := by decide +kernel
theorem dc_M_repeats_86 : decode bc_M_repeats 86 = .ok (.iinc 3 1, 3) := by decide +kernel
theorem dc_M_repeats_89 : decode bc_M_repeats 89 = .ok (.iinc 5 1, 3) := by decide +kernel
theorem dc_M_repeats_92 : decode bc_M_repeats 92 = .ok (.goto (-32), 3) := by decide +kernel
theorem dc_M_repeats_95 : decode bc_M_repeats 95 = .ok (.iinc 4 1, 3) := by decide +kernel
theorem dc_M_repeats_98 : decode bc_M_repeats 98 = .ok (.goto (-52), 3) := by decide +kernel
theorem dc_M_repeats_101 : decode bc_M_repeats 101 = .ok (.iload_n 3, 1) := by decide +kernel
theorem dc_M_repeats_102 : decode bc_M_repeats 102 = .ok (.ireturn, 1) := by decide +kernel
theorem dc_M_places_0 : decode bc_M_places 0 = .ok (.iconst 0, 1) := by decide +kernel
theorem dc_M_places_1 : decode bc_M_places 1 = .ok (.istore 4, 2) := by decide +kernel
theorem dc_M_places_3 : decode bc_M_places 3 = .ok (.iconst 1, 1) := by decide +kernel
theorem dc_M_places_4 : decode bc_M_places 4 = .ok (.istore 5, 2) := by decide +kernel
theorem dc_M_places_6 : decode bc_M_places 6 = .ok (.iconst 1, 1) := by decide +kernel
theorem dc_M_places_7 : decode bc_M_places 7 = .ok (.istore 6, 2) := by decide +kernel
theorem dc_M_places_9 : decode bc_M_places 9 = .ok (.iconst 0, 1) := by decide +kernel
theorem dc_M_places_10 : decode bc_M_places 10 = .ok (.istore 7, 2) := by decide +kernel
theorem dc_M_places_12 : decode bc_M_places 12 = .ok (.iload 7, 2) := by decide +kernel
theorem dc_M_places_14 : decode bc_M_places 14 = .ok (.iload_n 3, 1) := by decide +kernel
theorem dc_M_places_15 : decode bc_M_places 15 = .ok (.iadd, 1) := by decide +kernel
theorem dc_M_places_16 : decode bc_M_places 16 = .ok (.aload_n 0, 1) := by decide +kernel
theorem dc_M_places_17 : decode bc_M_places 17 = .ok (.getfield 16, 3) := by decide +kernel
theorem dc_M_places_20 : decode bc_M_places 20 = .ok (.iload_n 1, 1) := by decide +kernel
theorem dc_M_places_21 : decode bc_M_places 21 = .ok (.iaload, 1) := by decide +kernel
theorem dc_M_places_22 : decode bc_M_places 22 = .ok (.if_icmp .ge 142, 3) := by decide +kernel
theorem dc_M_places_25 : decode bc_M_places 25 = .ok (.aload_n 0, 1) := by decide +kernel
theorem dc_M_places_26 : decode bc_M_places 26 = .ok (.iload_n 1, 1) := by decide +kernel
theorem dc_M_places_27 : decode bc_M_places 27 = .ok (.iload 7, 2) := by decide +kernel
theorem dc_M_places_29 : decode bc_M_places 29 = .ok (.iload_n 2, 1) := by decide +kernel
theorem dc_M_places_30 : decode bc_M_places 30 = .ok (.iload_n 3, 1) := by decide +kernel
theorem dc_M_places_31 : decode bc_M_places 31 = .ok (.invokevirtual 128, 3) := by decide +kernel
theorem dc_M_places_34 : decode bc_M_places 34 = .ok (.ifCond .eq 124, 3) := by decide +kernel
theorem dc_M_places_37 : decode bc_M_places 37 = .ok (.iload 7, 2) := by decide +kernel
theorem dc_M_places_39 : decode bc_M_places 39 = .ok (.iload_n 2, 1) := by decide +kernel
theorem dc_M_places_40 : decode bc_M_places 40 = .ok (.if_icmp .ge 5, 3) := by decide +kernel
theorem dc_M_places_43 : decode bc_M_places 43 = .ok (.iconst 0, 1) := by decide +kernel
theorem dc_M_places_44 : decode bc_M_places 44 = .ok (.ireturn, 1) := by decide +kernel
theorem dc_M_places_45 : decode bc_M_places 45 = .ok (.iinc 4 1, 3) := by decide +kernel
theorem dc_M_places_48 : decode bc_M_places 48 = .ok (.iload 5, 2) := by decide +kernel
theorem dc_M_places_50 : decode bc_M_places 50 = .ok (.ifCond .eq 50, 3) := by decide +kernel
theorem dc_M_places_53 : decode bc_M_places 53 = .ok (.aload_n 0, 1) := by decide +kernel
theorem dc_M_places_54 : decode bc_M_places 54 = .ok (.iload_n 1, 1) := by decide +kernel
theorem dc_M_places_55 : decode bc_M_places 55 = .ok (.iload 7, 2) := by decide +kernel
theorem dc_M_places_57 : decode bc_M_places 57 = .ok (.iconst 1, 1) := by decide +kernel
theorem dc_M_places_58 : decode bc_M_places 58 = .ok (.isub, 1) := by decide +kernel
theorem dc_M_places_59 : decode bc_M_places 59 = .ok (.invokevirtual 131, 3) := by decide +kernel
theorem dc_M_places_62 : decode bc_M_places 62 = .ok (.ifCond .eq 38, 3) := by decide +kernel
theorem dc_M_places_65 : decode bc_M_places 65 = .ok (.aload_n 0, 1) := by decide +kernel
theorem dc_M_places_66 : decode bc_M_places 66 = .ok (.iload_n 1, 1) := by decide +kernel
theorem dc_M_places_67 : decode bc_M_places 67 = .ok (.iload_n 2, 1) := by decide +kernel
theorem dc_M_places_68 : decode bc_M_places 68 = .ok (.iconst 1, 1) := by decide +kernel
theorem dc_M_places_69 : decode bc_M_places 69 = .ok (.isub, 1) := by decide +kernel
theorem dc_M_places_70 : decode bc_M_places 70 = .ok (.invokevirtual 131, 3) := by decide +kernel
theorem dc_M_places_73 : decode bc_M_places 73 = .ok (.ifCond .eq 27, 3) := by decide +kernel
theorem dc_M_places_76 : decode bc_M_places 76 = .ok (.aload_n 0, 1) := by decide +kernel
theorem dc_M_places_77 : decode bc_M_places 77 = .ok (.iload_n 1, 1) := by decide +kernel
theorem dc_M_places_78 : decode bc_M_places 78 = .ok (.iload 7, 2) := by decide +kernel
theorem dc_M_places_80 : decode bc_M_places 80 = .ok (.iconst 1, 1) := by decide +kernel
theorem dc_M_places_81 : decode bc_M_places 81 = .ok (.isub, 1) := by decide +kernel
theorem dc_M_places_82 : decode bc_M_places 82 = .ok (.invokevirtual 82, 3) := by decide +kernel
theorem dc_M_places_85 : decode bc_M_places 85 = .ok (.aload_n 0, 1) := by decide +kernel
theorem dc_M_places_86 : decode bc_M_places 86 = .ok (.iload_n 1, 1) := by decide +kernel
theorem dc_M_places_87 : decode bc_M_places 87 = .ok (.iload_n 2, 1) := by decide +kernel
theorem dc_M_places_88 : decode bc_M_places 88 = .ok (.iconst 1, 1) := by decide +kernel
theorem dc_M_places_89 : decode bc_M_places 89 = .ok (.isub, 1) := by decide +kernel
theorem dc_M_places_90 : decode bc_M_places 90 = .ok (.invokevirtual 82, 3) := by decide +kernel
theorem dc_M_places_93 : decode bc_M_places 93 = .ok (.if_icmp .ne 7, 3) := by decide +kernel
theorem dc_M_places_96 : decode bc_M_places 96 = .ok (.iconst 1, 1) := by decide +kernel
theorem dc_M_places_97 : decode bc_M_places 97 = .ok (.goto 4, 3) := by decide +kernel
theorem dc_M_places_100 : decode bc_M_places 100 = .ok (.iconst 0, 1) := by decide +kernel
theorem dc_M_places_101 : decode bc_M_places 101 = .ok (.istore 5, 2) := by decide +kernel
theorem dc_M_places_103 : decode bc_M_places 103 = .ok (.iload 6, 2) := by decide +kernel
theorem dc_M_places_105 : decode bc_M_places 105 = .ok (.ifCond .eq 50, 3) := by decide +kernel
theorem dc_M_places_108 : decode bc_M_places 108 = .ok (.aload_n 0, 1) := by decide +kernel
theorem dc_M_places_109 : decode bc_M_places 109 = .ok (.iload_n 1, 1) := by decide +kernel
theorem dc_M_places_110 : decode bc_M_places 110 = .ok (.iload 7, 2) := by decide +kernel
theorem dc_M_places_112 : decode bc_M_places 112 = .ok (.iload_n 3, 1) := by decide +kernel
theorem dc_M_places_113 : decode bc_M_places 113 = .ok (.iadd, 1) := by decide +kernel
theorem dc_M_places_114 : decode bc_M_places 114 = .ok (.invokevirtual 131, 3) := by decide +kernel
theorem dc_M_places_117 : decode bc_M_places 117 = .ok (.ifCond .eq 38, 3) := by decide +kernel
theorem dc_M_places_120 : decode bc_M_places 120 = .ok (.aload_n 0, 1) := by decide +kernel
theorem dc_M_places_121 : decode bc_M_places 121 = .ok (.iload_n 1, 1) := by decide +kernel
theorem dc_M_places_122 : decode bc_M_places 122 = .ok (.iload_n 2, 1) := by decide +kernel
theorem dc_M_places_123 : decode bc_M_places 123 = .ok (.iload_n 3, 1) := by decide +kernel
theorem dc_M_places_124 : decode bc_M_places 124 = .ok (.iadd, 1) := by decide +kernel
theorem dc_M_places_125 : decode bc_M_places 125 = .ok (.invokevirtual 131, 3) := by decide +kernel
theorem dc_M_places_128 : decode bc_M_places 128 = .ok (.ifCond .eq 27, 3) := by decide +kernel
theorem dc_M_places_131 : decode bc_M_places 131 = .ok (.aload_n 0, 1) := by decide +kernel
theorem dc_M_places_132 : decode bc_M_places 132 = .ok (.iload_n 1, 1) := by decide +kernel
theorem dc_M_places_133 : decode bc_M_places 133 = .ok (.iload 7, 2) := by decide +kernel
theorem dc_M_places_135 : decode bc_M_places 135 = .ok (.iload_n 3, 1) := by decide +kernel
theorem dc_M_places_136 : decode bc_M_places 136 = .ok (.iadd, 1) := by decide +kernel
theorem dc_M_places_137 : decode bc_M_places 137 = .ok (.invokevirtual 82, 3) := by decide +kernel
theorem dc_M_places_140 : decode bc_M_places 140 = .ok (.aload_n 0, 1) := by decide +kernel
theorem dc_M_places_141 : decode bc_M_places 141 = .ok (.iload_n 1, 1) := by decide +kernel
theorem dc_M_places_142 : decode bc_M_places 142 = .ok (.iload_n 2, 1) := by decide +kernel
theorem dc_M_places_143 : decode bc_M_places 143 = .ok (.iload_n 3, 1) := by decide +kernel
theorem dc_M_places_144 : decode bc_M_places 144 = .ok (.iadd, 1) := by decide +kernel
theorem dc_M_places_145 : decode bc_M_places 145 = .ok (.invokevirtual 82, 3) := by decide +kernel
theorem dc_M_places_148 : decode bc_M_places 148 = .ok (.if_icmp .ne 7, 3) := by decide +kernel
theorem dc_M_places_151 : decode bc_M_places 151 = .ok (.iconst 1, 1) := by decide +kernel
theorem dc_M_places_152 : decode bc_M_places 152 = .ok (.goto 4, 3) := by decide +kernel
theorem dc_M_places_155 : decode bc_M_places 155 = .ok (.iconst 0, 1) := by decide +kernel
theorem dc_M_places_156 : decode bc_M_places 156 = .ok (.istore 6, 2) := by decide +kernel
theorem dc_M_places_158 : decode bc_M_places 158 = .ok (.iinc 7 1, 3) := by decide +kernel
theorem dc_M_places_161 : decode bc_M_places 161 = .ok (.goto (-149), 3) := by decide +kernel
theorem dc_M_places_164 : decode bc_M_places 164 = .ok (.iload 4, 2) := by decide +kernel
theorem dc_M_places_166 : decode bc_M_places 166 = .ok (.iconst 2, 1) := by decide +kernel
theorem dc_M_places_167 : decode bc_M_places 167 = .ok (.if_icmp .lt 13, 3) := by decide +kernel
theorem dc_M_places_170 : decode bc_M_places 170 = .ok (.iload 5, 2) := by decide +kernel
theorem dc_M_places_172 : decode bc_M_places 172 = .ok (.ifCond .ne 8, 3) := by decide +kernel
theorem dc_M_places_175 : decode bc_M_places 175 = .ok (.iload 6, 2) := by decide +kernel
theorem dc_M_places_177 : decode bc_M_places 177 = .ok (.ifCond .eq 7, 3) := by decide +kernel
theorem dc_M_places_180 : decode bc_M_places 180 = .ok (.iconst 0, 1) := by decide +kernel
theorem dc_M_places_181 : decode bc_M_places 181 = .ok (.goto 5, 3) := by decide +kernel
theorem dc_M_places_184 : decode bc_M_places 184 = .ok (.iload 4, 2) := by decide +kernel
theorem dc_M_places_186 : decode bc_M_places 186 = .ok (.ireturn, 1) := by decide +kernel
theorem dc_M_sameSteps_0 : decode bc_M_sameSteps 0 = .ok (.iconst 1, 1) := by decide +kernel
theorem dc_M_sameSteps_1 : decode bc_M_sameSteps 1 = .ok (.istore 5, 2) := by decide +kernel
theorem dc_M_sameSteps_3 : decode bc_M_sameSteps 3 = .ok (.iconst 0, 1) := by decide +kernel
theorem dc_M_sameSteps_4 : decode bc_M_sameSteps 4 = .ok (.istore 6, 2) := by decide +kernel
theorem dc_M_sameSteps_6 : decode bc_M_sameSteps 6 = .ok (.iload 6, 2) := by decide +kernel
theorem dc_M_sameSteps_8 : decode bc_M_sameSteps 8 = .ok (.iload 4, 2) := by decide +kernel
theorem dc_M_sameSteps_10 : decode bc_M_sameSteps 10 = .ok (.if_icmp .ge 42, 3) := by decide +kernel
theorem dc_M_sameSteps_13 : decode bc_M_sameSteps 13 = .ok (.iload 5, 2) := by decide +kernel
theorem dc_M_sameSteps_15 : decode bc_M_sameSteps 15 = .ok (.ifCond .eq 28, 3) := by decide +kernel
theorem dc_M_sameSteps_18 : decode bc_M_sameSteps 18 = .ok (.aload_n 0, 1) := by decide +kernel
theorem dc_M_sameSteps_19 : decode bc_M_sameSteps 19 = .ok (.iload_n 1, 1) := by decide +kernel
theorem dc_M_sameSteps_20 : decode bc_M_sameSteps 20 = .ok (.iload_n 2, 1) := by decide +kernel
theorem dc_M_sameSteps_21 : decode bc_M_sameSteps 21 = .ok (.iload 6, 2) := by decide +kernel
theorem dc_M_sameSteps_23 : decode bc_M_sameSteps 23 = .ok (.iadd, 1) := by decide +kernel
theorem dc_M_sameSteps_24 : decode bc_M_sameSteps 24 = .ok (.invokevirtual 82, 3) := by decide +kernel
theorem dc_M_sameSteps_27 : decode bc_M_sameSteps 27 = .ok (.aload_n 0, 1) := by decide +kernel
theorem dc_M_sameSteps_28 : decode bc_M_sameSteps 28 = .ok (.iload_n 1, 1) := by decide +kernel
theorem dc_M_sameSteps_29 : decode bc_M_sameSteps 29 = .ok (.iload_n 3, 1) := by decide +kernel
theorem dc_M_sameSteps_30 : decode bc_M_sameSteps 30 = .ok (.iload 6, 2) := by decide +kernel
theorem dc_M_sameSteps_32 : decode bc_M_sameSteps 32 = .ok (.iadd, 1) := by decide +kernel
theorem dc_M_sameSteps_33 : decode bc_M_sameSteps 33 = .ok (.invokevirtual 82, 3) := by decide +kernel
theorem dc_M_sameSteps_36 : decode bc_M_sameSteps 36 = .ok (.if_icmp .ne 7, 3) := by decide +kernel
theorem dc_M_sameSteps_39 : decode bc_M_sameSteps 39 = .ok (.iconst 1, 1) := by decide +kernel
theorem dc_M_sameSteps_40 : decode bc_M_sameSteps 40 = .ok (.goto 4, 3) := by decide +kernel
theorem dc_M_sameSteps_43 : decode bc_M_sameSteps 43 = .ok (.iconst 0, 1) := by decide +kernel
theorem dc_M_sameSteps_44 : decode bc_M_sameSteps 44 = .ok (.istore 5, 2) := by decide +kernel
theorem dc_M_sameSteps_46 : decode bc_M_sameSteps 46 = .ok (.iinc 6 1, 3) := by decide +kernel
theorem dc_M_sameSteps_49 : decode bc_M_sameSteps 49 = .ok (.goto (-43), 3) := by decide +kernel
theorem dc_M_sameSteps_52 : decode bc_M_sameSteps 52 = .ok (.iload 5, 2) := by decide +kernel
theorem dc_M_sameSteps_54 : decode bc_M_sameSteps 54 = .ok (.ireturn, 1) := by decide +kernel
theorem dc_M_hasStep_0 : decode bc_M_hasStep 0 = .ok (.iload_n 2, 1) := by decide +kernel
theorem dc_M_hasStep_1 : decode bc_M_hasStep 1 = .ok (.ifCond .lt 19, 3) := by decide +kernel
theorem dc_M_hasStep_4 : decode bc_M_hasStep 4 = .ok (.iload_n 2, 1) := by decide +kernel
theorem dc_M_hasStep_5 : decode bc_M_hasStep 5 = .ok (.iconst 1, 1) := by decide +kernel
theorem dc_M_hasStep_6 : decode bc_M_hasStep 6 = .ok (.iadd, 1) := by decide +kernel
theorem dc_M_hasStep_7 : decode bc_M_hasStep 7 = .ok (.aload_n 0, 1) := by decide +kernel
theorem dc_M_hasStep_8 : decode bc_M_hasStep 8 = .ok (.getfield 16, 3) := by decide +kernel
theorem dc_M_hasStep_11 : decode bc_M_hasStep 11 = .ok (.iload_n 1, 1) := by decide +kernel
theorem dc_M_hasStep_12 : decode bc_M_hasStep 12 = .ok (.iaload, 1) := by decide +kernel
theorem dc_M_hasStep_13 : decode bc_M_hasStep 13 = .ok (.if_icmp .ge 7, 3) := by decide +kernel
theorem dc_M_hasStep_16 : decode bc_M_hasStep 16 = .ok (.iconst 1, 1) := by decide +kernel
theorem dc_M_hasStep_17 : decode bc_M_hasStep 17 = .ok (.goto 4, 3) := by decide +kernel
theorem dc_M_hasStep_20 : decode bc_M_hasStep 20 = .ok (.iconst 0, 1) := by decide +kernel
theorem dc_M_hasStep_21 : decode bc_M_hasStep 21 = .ok (.ireturn, 1) := by decide +kernel
theorem dc_M_repeat_0 : decode bc_M_repeat 0 = .ok (.aload_n 0, 1) := by decide +kernel
theorem dc_M_repeat_1 : decode bc_M_repeat 1 = .ok (.aload_n 0, 1) := by decide +kernel
theorem dc_M_repeat_2 : decode bc_M_repeat 2 = .ok (.iload_n 1, 1) := by decide +kernel
theorem dc_M_repeat_3 : decode bc_M_repeat 3 = .ok (.invokevirtual 74, 3) := by decide +kernel
theorem dc_M_repeat_6 : decode bc_M_repeat 6 = .ok (.ifCond .eq 7, 3) := by decide +kernel
theorem dc_M_repeat_9 : decode bc_M_repeat 9 = .ok (.iconst 1, 1) := by decide +kernel
theorem dc_M_repeat_10 : decode bc_M_repeat 10 = .ok (.goto 30, 3) := by decide +kernel
theorem dc_M_repeat_13 : decode bc_M_repeat 13 = .ok (.iload_n 2, 1) := by decide +kernel
theorem dc_M_repeat_14 : decode bc_M_repeat 14 = .ok (.iconst 1, 1) := by decide +kernel
theorem dc_M_repeat_15 : decode bc_M_repeat 15 = .ok (.if_icmp .lt 20, 3) := by decide +kernel
theorem dc_M_repeat_18 : decode bc_M_repeat 18 = .ok (.iload_n 2, 1) := by decide +kernel
theorem dc_M_repeat_19 : decode bc_M_repeat 19 = .ok (.bipush 19, 2) := by decide +kernel
theorem dc_M_repeat_21 : decode bc_M_repeat 21 = .ok (.if_icmp .gt 14, 3) := by decide +kernel
theorem dc_M_repeat_24 : decode bc_M_repeat 24 = .ok (.iload 4, 2) := by decide +kernel
theorem dc_M_repeat_26 : decode bc_M_repeat 26 = .ok (.ifCond .lt 9, 3) := by decide +kernel
theorem dc_M_repeat_29 : decode bc_M_repeat 29 = .ok (.iload 4, 2) := by decide +kernel
theorem dc_M_repeat_31 : decode bc_M_repeat 31 = .ok (.iconst 2, 1) := by decide +kernel
theorem dc_M_repeat_32 : decode bc_M_repeat 32 = .ok (.if_icmp .le 7, 3) := by decide +kernel
theorem dc_M_repeat_35 : decode bc_M_repeat 35 = .ok (.iconst 2, 1) := by decide +kernel
theorem dc_M_repeat_36 : decode bc_M_repeat 36 = .ok (.goto 4, 3) := by decide +kernel
theorem dc_M_repeat_39 : decode bc_M_repeat 39 = .ok (.iconst 0, 1) := by decide +kernel
theorem dc_M_repeat_40 : decode bc_M_repeat 40 = .ok (.putfield 62, 3) := by decide +kernel
theorem dc_M_repeat_43 : decode bc_M_repeat 43 = .ok (.aload_n 0, 1) := by decide +kernel
theorem dc_M_repeat_44 : decode bc_M_repeat 44 = .ok (.getfield 62, 3) := by decide +kernel
theorem dc_M_repeat_47 : decode bc_M_repeat 47 = .ok (.ifCond .le 5, 3) := by decide +kernel
theorem dc_M_repeat_50 : decode bc_M_repeat 50 = .ok (.iconst 0, 1) := by decide +kernel
theorem dc_M_repeat_51 : decode bc_M_repeat 51 = .ok (.ireturn, 1) := by decide +kernel
theorem dc_M_repeat_52 : decode bc_M_repeat 52 = .ok (.iconst 0, 1) := by decide +kernel
theorem dc_M_repeat_53 : decode bc_M_repeat 53 = .ok (.istore 5, 2) := by decide +kernel
theorem dc_M_repeat_55 : decode bc_M_repeat 55 = .ok (.iconst 0, 1) := by decide +kernel
theorem dc_M_repeat_56 : decode bc_M_repeat 56 = .ok (.istore 6, 2) := by decide +kernel
theorem dc_M_repeat_58 : decode bc_M_repeat 58 = .ok (.iload 6, 2) := by decide +kernel
theorem dc_M_repeat_60 : decode bc_M_repeat 60 = .ok (.aload_n 0, 1) := by decide +kernel
theorem dc_M_repeat_61 : decode bc_M_repeat 61 = .ok (.getfield 16, 3) := by decide +kernel
theorem dc_M_repeat_64 : decode bc_M_repeat 64 = .ok (.iload_n 1, 1) := by decide +kernel
theorem dc_M_repeat_65 : decode bc_M_repeat 65 = .ok (.iaload, 1) := by decide +kernel
theorem dc_M_repeat_66 : decode bc_M_repeat 66 = .ok (.if_icmp .ge 94, 3) := by decide +kernel
theorem dc_M_repeat_69 : decode bc_M_repeat 69 = .ok (.iload_n 2, 1) := by decide +kernel
theorem dc_M_repeat_70 : decode bc_M_repeat 70 = .ok (.istore 7, 2) := by decide +kernel
theorem dc_M_repeat_72 : decode bc_M_repeat 72 = .ok (.iload 6, 2) := by decide +kernel
theorem dc_M_repeat_74 : decode bc_M_repeat 74 = .ok (.iload 7, 2) := by decide +kernel
theorem dc_M_repeat_76 : decode bc_M_repeat 76 = .ok (.iadd, 1) := by decide +kernel
theorem dc_M_repeat_77 : decode bc_M_repeat 77 = .ok (.aload_n 0, 1) := by decide +kernel
theorem dc_M_repeat_78 : decode bc_M_repeat 78 = .ok (.getfield 16, 3) := by decide +kernel
theorem dc_M_repeat_81 : decode bc_M_repeat 81 = .ok (.iload_n 1, 1) := by decide +kernel
theorem dc_M_repeat_82 : decode bc_M_repeat 82 = .ok (.iaload, 1) := by decide +kernel
theorem dc_M_repeat_83 : decode bc_M_repeat 83 = .ok (.if_icmp .ge 71, 3) := by decide +kernel
theorem dc_M_repeat_86 : decode bc_M_repeat 86 = .ok (.aload_n 0, 1) := by decide +kernel
theorem dc_M_repeat_87 : decode bc_M_repeat 87 = .ok (.iload_n 1, 1) := by decide +kernel
theorem dc_M_repeat_88 : decode bc_M_repeat 88 = .ok (.iload 6, 2) := by decide +kernel
theorem dc_M_repeat_90 : decode bc_M_repeat 90 = .ok (.iload 7, 2) := by decide +kernel
theorem dc_M_repeat_92 : decode bc_M_repeat 92 = .ok (.invokevirtual 134, 3) := by decide +kernel
theorem dc_M_repeat_95 : decode bc_M_repeat 95 = .ok (.istore 8, 2) := by decide +kernel
theorem dc_M_repeat_97 : decode bc_M_repeat 97 = .ok (.iload 8, 2) := by decide +kernel
theorem dc_M_repeat_99 : decode bc_M_repeat 99 = .ok (.ifCond .le 33, 3) := by decide +kernel
theorem dc_M_repeat_102 : decode bc_M_repeat 102 = .ok (.iload 5, 2) := by decide +kernel
theorem dc_M_repeat_104 : decode bc_M_repeat 104 = .ok (.iload_n 3, 1) := by decide +kernel
theorem dc_M_repeat_105 : decode bc_M_repeat 105 = .ok (.if_icmp .ne 27, 3) := by decide +kernel
theorem dc_M_repeat_108 : decode bc_M_repeat 108 = .ok (.iload 4, 2) := by decide +kernel
theorem dc_M_repeat_110 : decode bc_M_repeat 110 = .ok (.ifCond .ne 8, 3) := by decide +kernel
theorem dc_M_repeat_113 : decode bc_M_repeat 113 = .ok (.iload 6, 2) := by decide +kernel
theorem dc_M_repeat_115 : decode bc_M_repeat 115 = .ok (.goto 16, 3) := by decide +kernel
theorem dc_M_repeat_118 : decode bc_M_repeat 118 = .ok (.iload 4, 2) := by decide +kernel
theorem dc_M_repeat_120 : decode bc_M_repeat 120 = .ok (.iconst 1, 1) := by decide +kernel
theorem dc_M_repeat_121 : decode bc_M_repeat 121 = .ok (.if_icmp .ne 8, 3) := by decide +kernel
theorem dc_M_repeat_124 : decode bc_M_repeat 124 = .ok (.iload 7, 2) := by decide +kernel
theorem dc_M_repeat_126 : decode bc_M_repeat 126 = .ok (.goto 5, 3) := by decide +kernel
theorem dc_M_repeat_129 : decode bc_M_repeat 129 = .ok (.iload 8, 2) := by decide +kernel
theorem dc_M_repeat_131 : decode bc_M_repeat 131 = .ok (.ireturn, 1) := by decide +kernel
theorem dc_M_repeat_132 : decode bc_M_repeat 132 = .ok (.iload 8, 2) := by decide +kernel
theorem dc_M_repeat_134 : decode bc_M_repeat 134 = .ok (.ifCond .le 10, 3) := by decide +kernel
theorem dc_M_repeat_137 : decode bc_M_repeat 137 = .ok (.iload 5, 2) := by decide +kernel
theorem dc_M_repeat_139 : decode bc_M_repeat 139 = .ok (.iconst 1, 1) := by decide +kernel
theorem dc_M_repeat_140 : decode bc_M_repeat 140 = .ok (.iadd, 1) := by decide +kernel
theorem dc_M_repeat_141 : decode bc_M_repeat 141 = .ok (.goto 5, 3) := by decide +kernel
theorem dc_M_repeat_144 : decode bc_M_repeat 144 = .ok (.iload 5, 2) := by decide +kernel
theorem dc_M_repeat_146 : decode bc_M_repeat 146 = .ok (.istore 5, 2) := by decide +kernel
theorem dc_M_repeat_148 : decode bc_M_repeat 148 = .ok (.iinc 7 1, 3) := by decide +kernel
theorem dc_M_repeat_151 : decode bc_M_repeat 151 = .ok (.goto (-79), 3) := by decide +kernel
theorem dc_M_repeat_154 : decode bc_M_repeat 154 = .ok (.iinc 6 1, 3) := by decide +kernel
theorem dc_M_repeat_157 : decode bc_M_repeat 157 = .ok (.goto (-99), 3) := by decide +kernel
theorem dc_M_repeat_160 : decode bc_M_repeat 160 = .ok (.iconst (-1), 1) := by decide +kernel
theorem dc_M_repeat_161 : decode bc_M_repeat 161 = .ok (.ireturn, 1) := by decide +kernel
theorem dc_M_canon_0 : decode bc_M_canon 0 = .ok (.aload_n 0, 1) := by decide +kernel
theorem dc_M_canon_1 : decode bc_M_canon 1 = .ok (.aload_n 0, 1) := by decide +kernel
theorem dc_M_canon_2 : decode bc_M_canon 2 = .ok (.iload_n 1, 1) := by decide +kernel
theorem dc_M_canon_3 : decode bc_M_canon 3 = .ok (.invokevirtual 74, 3) := by decide +kernel
theorem dc_M_canon_6 : decode bc_M_canon 6 = .ok (.ifCond .ne 11, 3) := by decide +kernel
theorem dc_M_canon_9 : decode bc_M_canon 9 = .ok (.aload_n 0, 1) := by decide +kernel
theorem dc_M_canon_10 : decode bc_M_canon 10 = .ok (.iload_n 2, 1) := by decide +kernel
theorem dc_M_canon_11 : decode bc_M_canon 11 = .ok (.invokevirtual 74, 3) := by decide +kernel
theorem dc_M_canon_14 : decode bc_M_canon 14 = .ok (.ifCond .eq 7, 3) := by decide +kernel
theorem dc_M_canon_17 : decode bc_M_canon 17 = .ok (.iconst 1, 1) := by decide +kernel
theorem dc_M_canon_18 : decode bc_M_canon 18 = .ok (.goto 19, 3) := by decide +kernel
theorem dc_M_canon_21 : decode bc_M_canon 21 = .ok (.iload_n 3, 1) := by decide +kernel
theorem dc_M_canon_22 : decode bc_M_canon 22 = .ok (.iconst 2, 1) := by decide +kernel
theorem dc_M_canon_23 : decode bc_M_canon 23 = .ok (.if_icmp .lt 9, 3) := by decide +kernel
theorem dc_M_canon_26 : decode bc_M_canon 26 = .ok (.iload_n 3, 1) := by decide +kernel
theorem dc_M_canon_27 : decode bc_M_canon 27 = .ok (.bipush 20, 2) := by decide +kernel
theorem dc_M_canon_29 : decode bc_M_canon 29 = .ok (.if_icmp .le 7, 3) := by decide +kernel
theorem dc_M_canon_32 : decode bc_M_canon 32 = .ok (.iconst 2, 1) := by decide +kernel
theorem dc_M_canon_33 : decode bc_M_canon 33 = .ok (.goto 4, 3) := by decide +kernel
theorem dc_M_canon_36 : decode bc_M_canon 36 = .ok (.iconst 0, 1) := by decide +kernel
theorem dc_M_canon_37 : decode bc_M_canon 37 = .ok (.putfield 62, 3) := by decide +kernel
theorem dc_M_canon_40 : decode bc_M_canon 40 = .ok (.aload_n 0, 1) := by decide +kernel
theorem dc_M_canon_41 : decode bc_M_canon 41 = .ok (.getfield 62, 3) := by decide +kernel
theorem dc_M_canon_44 : decode bc_M_canon 44 = .ok (.ifCond .le 5, 3) := by decide +kernel
theorem dc_M_canon_47 : decode bc_M_canon 47 = .ok (.iconst 0, 1) := by decide +kernel
theorem dc_M_canon_48 : decode bc_M_canon 48 = .ok (.ireturn, 1) := by decide +kernel
theorem dc_M_canon_49 : decode bc_M_canon 49 = .ok (.iload_n 3, 1) := by decide +kernel
theorem dc_M_canon_50 : decode bc_M_canon 50 = .ok (.aload_n 0, 1) := by decide +kernel
theorem dc_M_canon_51 : decode bc_M_canon 51 = .ok (.getfield 16, 3) := by decide +kernel
theorem dc_M_canon_54 : decode bc_M_canon 54 = .ok (.iload_n 2, 1) := by decide +kernel
theorem dc_M_canon_55 : decode bc_M_canon 55 = .ok (.iaload, 1) := by decide +kernel
theorem dc_M_canon_56 : decode bc_M_canon 56 = .ok (.if_icmp .le 5, 3) := by decide +kernel
theorem dc_M_canon_59 : decode bc_M_canon 59 = .ok (.iconst (-1), 1) := by decide +kernel
theorem dc_M_canon_60 : decode bc_M_canon 60 = .ok (.ireturn, 1) := by decide +kernel
theorem dc_M_canon_61 : decode bc_M_canon 61 = .ok (.iload_n 1, 1) := by decide +kernel
theorem dc_M_canon_62 : decode bc_M_canon 62 = .ok (.iload_n 2, 1) := by decide +kernel
theorem dc_M_canon_63 : decode bc_M_canon 63 = .ok (.if_icmp .ne 7, 3) := by decide +kernel
theorem dc_M_canon_66 : decode bc_M_canon 66 = .ok (.iconst 1, 1) := by decide +kernel
theorem dc_M_canon_67 : decode bc_M_canon 67 = .ok (.goto 4, 3) := by decide +kernel
theorem dc_M_canon_70 : decode bc_M_canon 70 = .ok (.iconst 0, 1) := by decide +kernel
theorem dc_M_canon_71 : decode bc_M_canon 71 = .ok (.istore 4, 2) := by decide +kernel
theorem dc_M_canon_73 : decode bc_M_canon 73 = .ok (.iload 4, 2) := by decide +kernel
theorem dc_M_canon_75 : decode bc_M_canon 75 = .ok (.iload_n 3, 1) := by decide +kernel
theorem dc_M_canon_76 : decode bc_M_canon 76 = .ok (.iadd, 1) := by decide +kernel
theorem dc_M_canon_77 : decode bc_M_canon 77 = .ok (.aload_n 0, 1) := by decide +kernel
theorem dc_M_canon_78 : decode bc_M_canon 78 = .ok (.getfield 16, 3) := by decide +kernel
theorem dc_M_canon_81 : decode bc_M_canon 81 = .ok (.iload_n 1, 1) := by decide +kernel
theorem dc_M_canon_82 : decode bc_M_canon 82 = .ok (.iaload, 1) := by decide +kernel
theorem dc_M_canon_83 : decode bc_M_canon 83 = .ok (.if_icmp .gt 102, 3) := by decide +kernel
theorem dc_M_canon_86 : decode bc_M_canon 86 = .ok (.iconst 1, 1) := by decide +kernel
theorem dc_M_canon_87 : decode bc_M_canon 87 = .ok (.istore 5, 2) := by decide +kernel
theorem dc_M_canon_89 : decode bc_M_canon 89 = .ok (.iconst 0, 1) := by decide +kernel
theorem dc_M_canon_90 : decode bc_M_canon 90 = .ok (.istore 6, 2) := by decide +kernel
theorem dc_M_canon_92 : decode bc_M_canon 92 = .ok (.iload 6, 2) := by decide +kernel
theorem dc_M_canon_94 : decode bc_M_canon 94 = .ok (.iload_n 3, 1) := by decide +kernel
theorem dc_M_canon_95 : decode bc_M_canon 95 = .ok (.if_icmp .ge 76, 3) := by decide +kernel
theorem dc_M_canon_98 : decode bc_M_canon 98 = .ok (.iload 5, 2) := by decide +kernel
theorem dc_M_canon_100 : decode bc_M_canon 100 = .ok (.ifCond .eq 62, 3) := by decide +kernel
theorem dc_M_canon_103 : decode bc_M_canon 103 = .ok (.aload_n 0, 1) := by decide +kernel
theorem dc_M_canon_104 : decode bc_M_canon 104 = .ok (.iload_n 1, 1) := by decide +kernel
theorem dc_M_canon_105 : decode bc_M_canon 105 = .ok (.iload 4, 2) := by decide +kernel
theorem dc_M_canon_107 : decode bc_M_canon 107 = .ok (.iload 6, 2) := by decide +kernel
theorem dc_M_canon_109 : decode bc_M_canon 109 = .ok (.iadd, 1) := by decide +kernel
theorem dc_M_canon_110 : decode bc_M_canon 110 = .ok (.invokevirtual 95, 3) := by decide +kernel
theorem dc_M_canon_113 : decode bc_M_canon 113 = .ok (.aload_n 0, 1) := by decide +kernel
theorem dc_M_canon_114 : decode bc_M_canon 114 = .ok (.iload_n 2, 1) := by decide +kernel
theorem dc_M_canon_115 : decode bc_M_canon 115 = .ok (.iload 6, 2) := by decide +kernel
theorem dc_M_canon_117 : decode bc_M_canon 117 = .ok (.invokevirtual 95, 3) := by decide +kernel
theorem dc_M_canon_120 : decode bc_M_canon 120 = .ok (.if_icmp .ne 42, 3) := by decide +kernel
theorem dc_M_canon_123 : decode bc_M_canon 123 = .ok (.aload_n 0, 1) := by decide +kernel
theorem dc_M_canon_124 : decode bc_M_canon 124 = .ok (.iload_n 1, 1) := by decide +kernel
theorem dc_M_canon_125 : decode bc_M_canon 125 = .ok (.iload 4, 2) := by decide +kernel
theorem dc_M_canon_127 : decode bc_M_canon 127 = .ok (.iload 6, 2) := by decide +kernel
theorem dc_M_canon_129 : decode bc_M_canon 129 = .ok (.iadd, 1) := by decide +kernel
theorem dc_M_canon_130 : decode bc_M_canon 130 = .ok (.invokevirtual 70, 3) := by decide +kernel
theorem dc_M_canon_133 : decode bc_M_canon 133 = .ok (.aload_n 0, 1) := by decide +kernel
theorem dc_M_canon_134 : decode bc_M_canon 134 = .ok (.iload_n 1, 1) := by decide +kernel
theorem dc_M_canon_135 : decode bc_M_canon 135 = .ok (.iload 4, 2) := by decide +kernel
theorem dc_M_canon_137 : decode bc_M_canon 137 = .ok (.invokevirtual 70, 3) := by decide +kernel
theorem dc_M_canon_140 : decode bc_M_canon 140 = .ok (.isub, 1) := by decide +kernel
theorem dc_M_canon_141 : decode bc_M_canon 141 = .ok (.aload_n 0, 1) := by decide +kernel
theorem dc_M_canon_142 : decode bc_M_canon 142 = .ok (.iload_n 2, 1) := by decide +kernel
theorem dc_M_canon_143 : decode bc_M_canon 143 = .ok (.iload 6, 2) := by decide +kernel
theorem dc_M_canon_145 : decode bc_M_canon 145 = .ok (.invokevirtual 70, 3) := by decide +kernel
theorem dc_M_canon_148 : decode bc_M_canon 148 = .ok (.aload_n 0, 1) := by decide +kernel
theorem dc_M_canon_149 : decode bc_M_canon 149 = .ok (.iload_n 2, 1) := by decide +kernel
theorem dc_M_canon_150 : decode bc_M_canon 150 = .ok (.iconst 0, 1) := by decide +kernel
theorem dc_M_canon_151 : decode bc_M_canon 151 = .ok (.invokevirtual 70, 3) := by decide +kernel
theorem dc_M_canon_154 : decode bc_M_canon 154 = .ok (.isub, 1) := by decide +kernel
theorem dc_M_canon_155 : decode bc_M_canon 155 = .ok (.if_icmp .ne 7, 3) := by decide +kernel
theorem dc_M_canon_158 : decode bc_M_canon 158 = .ok (.iconst 1, 1) := by decide +kernel
theorem dc_M_canon_159 : decode bc_M_canon 159 = .ok (.goto 4, 3) := by decide +kernel
theorem dc_M_canon_162 : decode bc_M_canon 162 = .ok (.iconst 0, 1) := by decide +kernel
theorem dc_M_canon_163 : decode bc_M_canon 163 = .ok (.istore 5, 2) := by decide +kernel
theorem dc_M_canon_165 : decode bc_M_canon 165 = .ok (.iinc 6 1, 3) := by decide +kernel
theorem dc_M_canon_168 : decode bc_M_canon 168 = .ok (.goto (-76), 3) := by decide +kernel
theorem dc_M_canon_171 : decode bc_M_canon 171 = .ok (.iload 5, 2) := by decide +kernel
theorem dc_M_canon_173 : decode bc_M_canon 173 = .ok (.ifCond .eq 6, 3) := by decide +kernel
theorem dc_M_canon_176 : decode bc_M_canon 176 = .ok (.iload 4, 2) := by decide +kernel
theorem dc_M_canon_178 : decode bc_M_canon 178 = .ok (.ireturn, 1) := by decide +kernel
theorem dc_M_canon_179 : decode bc_M_canon 179 = .ok (.iinc 4 1, 3) := by decide +kernel
theorem dc_M_canon_182 : decode bc_M_canon 182 = .ok (.goto (-109), 3) := by decide +kernel
theorem dc_M_canon_185 : decode bc_M_canon 185 = .ok (.iconst (-1), 1) := by decide +kernel
theorem dc_M_canon_186 : decode bc_M_canon 186 = .ok (.ireturn, 1) := by decide +kernel
theorem dc_M_opening_0 : decode bc_M_opening 0 = .ok (.aload_n 0, 1) := by decide +kernel
theorem dc_M_opening_1 : decode bc_M_opening 1 = .ok (.aload_n 0, 1) := by decide +kernel
theorem dc_M_opening_2 : decode bc_M_opening 2 = .ok (.iload_n 1, 1) := by decide +kernel
theorem dc_M_opening_3 : decode bc_M_opening 3 = .ok (.invokevirtual 74, 3) := by decide +kernel
theorem dc_M_opening_6 : decode bc_M_opening 6 = .ok (.ifCond .eq 7, 3) := by decide +kernel
theorem dc_M_opening_9 : decode bc_M_opening 9 = .ok (.iconst 1, 1) := by decide +kernel
theorem dc_M_opening_10 : decode bc_M_opening 10 = .ok (.goto 4, 3) := by decide +kernel
theorem dc_M_opening_13 : decode bc_M_opening 13 = .ok (.iconst 0, 1) := by decide +kernel
theorem dc_M_opening_14 : decode bc_M_opening 14 = .ok (.putfield 62, 3) := by decide +kernel
theorem dc_M_opening_17 : decode bc_M_opening 17 = .ok (.aload_n 0, 1) := by decide +kernel
theorem dc_M_opening_18 : decode bc_M_opening 18 = .ok (.getfield 62, 3) := by decide +kernel
theorem dc_M_opening_21 : decode bc_M_opening 21 = .ok (.ifCond .le 5, 3) := by decide +kernel
theorem dc_M_opening_24 : decode bc_M_opening 24 = .ok (.iconst 0, 1) := by decide +kernel
theorem dc_M_opening_25 : decode bc_M_opening 25 = .ok (.ireturn, 1) := by decide +kernel
theorem dc_M_opening_26 : decode bc_M_opening 26 = .ok (.iconst 0, 1) := by decide +kernel
theorem dc_M_opening_27 : decode bc_M_opening 27 = .ok (.istore_n 3, 1) := by decide +kernel
theorem dc_M_opening_28 : decode bc_M_opening 28 = .ok (.iload_n 3, 1) := by decide +kernel
theorem dc_M_opening_29 : decode bc_M_opening 29 = .ok (.bipush 8, 2) := by decide +kernel
theorem dc_M_opening_31 : decode bc_M_opening 31 = .ok (.if_icmp .ge 169, 3) := by decide +kernel
theorem dc_M_opening_34 : decode bc_M_opening 34 = .ok (.iload_n 3, 1) := by decide +kernel
theorem dc_M_opening_35 : decode bc_M_opening 35 = .ok (.iload_n 1, 1) := by decide +kernel
theorem dc_M_opening_36 : decode bc_M_opening 36 = .ok (.if_icmp .eq 158, 3) := by decide +kernel
theorem dc_M_opening_39 : decode bc_M_opening 39 = .ok (.aload_n 0, 1) := by decide +kernel
theorem dc_M_opening_40 : decode bc_M_opening 40 = .ok (.getfield 7, 3) := by decide +kernel
theorem dc_M_opening_43 : decode bc_M_opening 43 = .ok (.iload_n 3, 1) := by decide +kernel
theorem dc_M_opening_44 : decode bc_M_opening 44 = .ok (.baload, 1) := by decide +kernel
theorem dc_M_opening_45 : decode bc_M_opening 45 = .ok (.ifCond .eq 149, 3) := by decide +kernel
theorem dc_M_opening_48 : decode bc_M_opening 48 = .ok (.aload_n 0, 1) := by decide +kernel
theorem dc_M_opening_49 : decode bc_M_opening 49 = .ok (.getfield 13, 3) := by decide +kernel
theorem dc_M_opening_52 : decode bc_M_opening 52 = .ok (.iload_n 3, 1) := by decide +kernel
theorem dc_M_opening_53 : decode bc_M_opening 53 = .ok (.baload, 1) := by decide +kernel
theorem dc_M_opening_54 : decode bc_M_opening 54 = .ok (.ifCond .eq 140, 3) := by decide +kernel
theorem dc_M_opening_57 : decode bc_M_opening 57 = .ok (.iconst 0, 1) := by decide +kernel
theorem dc_M_opening_58 : decode bc_M_opening 58 = .ok (.istore 4, 2) := by decide +kernel
theorem dc_M_opening_60 : decode bc_M_opening 60 = .ok (.iconst 0, 1) := by decide +kernel
theorem dc_M_opening_61 : decode bc_M_opening 61 = .ok (.istore 5, 2) := by decide +kernel
theorem dc_M_opening_63 : decode bc_M_opening 63 = .ok (.iload 5, 2) := by decide +kernel
theorem dc_M_opening_65 : decode bc_M_opening 65 = .ok (.bipush 8, 2) := by decide +kernel
theorem dc_M_opening_67 : decode bc_M_opening 67 = .ok (.if_icmp .ge 119, 3) := by decide +kernel
theorem dc_M_opening_70 : decode bc_M_opening 70 = .ok (.iload 5, 2) := by decide +kernel
theorem dc_M_opening_72 : decode bc_M_opening 72 = .ok (.iload_n 1, 1) := by decide +kernel
theorem dc_M_opening_73 : decode bc_M_opening 73 = .ok (.if_icmp .eq 33, 3) := by decide +kernel
theorem dc_M_opening_76 : decode bc_M_opening 76 = .ok (.iload 5, 2) := by decide +kernel
theorem dc_M_opening_78 : decode bc_M_opening 78 = .ok (.iload_n 3, 1) := by decide +kernel
theorem dc_M_opening_79 : decode bc_M_opening 79 = .ok (.if_icmp .eq 27, 3) := by decide +kernel
theorem dc_M_opening_82 : decode bc_M_opening 82 = .ok (.aload_n 0, 1) := by decide +kernel
theorem dc_M_opening_83 : decode bc_M_opening 83 = .ok (.getfield 7, 3) := by decide +kernel
theorem dc_M_opening_86 : decode bc_M_opening 86 = .ok (.iload 5, 2) := by decide +kernel
theorem dc_M_opening_88 : decode bc_M_opening 88 = .ok (.baload, 1) := by decide +kernel
theorem dc_M_opening_89 : decode bc_M_opening 89 = .ok (.ifCond .eq 17, 3) := by decide +kernel
theorem dc_M_opening_92 : decode bc_M_opening 92 = .ok (.aload_n 0, 1) := by decide +kernel
theorem dc_M_opening_93 : decode bc_M_opening 93 = .ok (.getfield 13, 3) := by decide +kernel
theorem dc_M_opening_96 : decode bc_M_opening 96 = .ok (.iload 5, 2) := by decide +kernel
theorem dc_M_opening_98 : decode bc_M_opening 98 = .ok (.baload, 1) := by decide +kernel
theorem dc_M_opening_99 : decode bc_M_opening 99 = .ok (.ifCond .eq 7, 3) := by decide +kernel
theorem dc_M_opening_102 : decode bc_M_opening 102 = .ok (.iconst 1, 1) := by decide +kernel
theorem dc_M_opening_103 : decode bc_M_opening 103 = .ok (.goto 4, 3) := by decide +kernel
theorem dc_M_opening_106 : decode bc_M_opening 106 = .ok (.iconst 0, 1) := by decide +kernel
theorem dc_M_opening_107 : decode bc_M_opening 107 = .ok (.istore 6, 2) := by decide +kernel
theorem dc_M_opening_109 : decode bc_M_opening 109 = .ok (.iload 6, 2) := by decide +kernel
theorem dc_M_opening_111 : decode bc_M_opening 111 = .ok (.ifCond .eq 13, 3) := by decide +kernel
theorem dc_M_opening_114 : decode bc_M_opening 114 = .ok (.aload_n 0, 1) := by decide +kernel
theorem dc_M_opening_115 : decode bc_M_opening 115 = .ok (.iload_n 1, 1) := by decide +kernel
theorem dc_M_opening_116 : decode bc_M_opening 116 = .ok (.iload 5, 2) := by decide +kernel
theorem dc_M_opening_118 : decode bc_M_opening 118 = .ok (.invokevirtual 137, 3) := by decide +kernel
theorem dc_M_opening_121 : decode bc_M_opening 121 = .ok (.goto 4, 3) := by decide +kernel
theorem dc_M_opening_124 : decode bc_M_opening 124 = .ok (.iconst 0, 1) := by decide +kernel
theorem dc_M_opening_125 : decode bc_M_opening 125 = .ok (.istore 7, 2) := by decide +kernel
theorem dc_M_opening_127 : decode bc_M_opening 127 = .ok (.iload 6, 2) := by decide +kernel
theorem dc_M_opening_129 : decode bc_M_opening 129 = .ok (.ifCond .eq 12, 3) := by decide +kernel
theorem dc_M_opening_132 : decode bc_M_opening 132 = .ok (.aload_n 0, 1) := by decide +kernel
theorem dc_M_opening_133 : decode bc_M_opening 133 = .ok (.iload_n 1, 1) := by decide +kernel
theorem dc_M_opening_134 : decode bc_M_opening 134 = .ok (.iload_n 3, 1) := by decide +kernel
theorem dc_M_opening_135 : decode bc_M_opening 135 = .ok (.invokevirtual 137, 3) := by decide +kernel
theorem dc_M_opening_138 : decode bc_M_opening 138 = .ok (.goto 4, 3) := by decide +kernel
theorem dc_M_opening_141 : decode bc_M_opening 141 = .ok (.iconst 0, 1) := by decide +kernel
theorem dc_M_opening_142 : decode bc_M_opening 142 = .ok (.istore 8, 2) := by decide +kernel
theorem dc_M_opening_144 : decode bc_M_opening 144 = .ok (.iload 6, 2) := by decide +kernel
theorem dc_M_opening_146 : decode bc_M_opening 146 = .ok (.ifCond .eq 30, 3) := by decide +kernel
theorem dc_M_opening_149 : decode bc_M_opening 149 = .ok (.iload 7, 2) := by decide +kernel
theorem dc_M_opening_151 : decode bc_M_opening 151 = .ok (.iload 8, 2) := by decide +kernel
theorem dc_M_opening_153 : decode bc_M_opening 153 = .ok (.if_icmp .gt 16, 3) := by decide +kernel
theorem dc_M_opening_156 : decode bc_M_opening 156 = .ok (.iload 7, 2) := by decide +kernel
theorem dc_M_opening_158 : decode bc_M_opening 158 = .ok (.iload 8, 2) := by decide +kernel
theorem dc_M_opening_160 : decode bc_M_opening 160 = .ok (.if_icmp .ne 16, 3) := by decide +kernel
theorem dc_M_opening_163 : decode bc_M_opening 163 = .ok (.iload 5, 2) := by decide +kernel
theorem dc_M_opening_165 : decode bc_M_opening 165 = .ok (.iload_n 3, 1) := by decide +kernel
theorem dc_M_opening_166 : decode bc_M_opening 166 = .ok (.if_icmp .ge 10, 3) := by decide +kernel
theorem dc_M_opening_169 : decode bc_M_opening 169 = .ok (.iload 4, 2) := by decide +kernel
theorem dc_M_opening_171 : decode bc_M_opening 171 = .ok (.iconst 1, 1) := by decide +kernel
theorem dc_M_opening_172 : decode bc_M_opening 172 = .ok (.iadd, 1) := by decide +kernel
theorem dc_M_opening_173 : decode bc_M_opening 173 = .ok (.goto 5, 3) := by decide +kernel
theorem dc_M_opening_176 : decode bc_M_opening 176 = .ok (.iload 4, 2) := by decide +kernel
theorem dc_M_opening_178 : decode bc_M_opening 178 = .ok (.istore 4, 2) := by decide +kernel
theorem dc_M_opening_180 : decode bc_M_opening 180 = .ok (.iinc 5 1, 3) := by decide +kernel
theorem dc_M_opening_183 : decode bc_M_opening 183 = .ok (.goto (-120), 3) := by decide +kernel
theorem dc_M_opening_186 : decode bc_M_opening 186 = .ok (.iload 4, 2) := by decide +kernel
theorem dc_M_opening_188 : decode bc_M_opening 188 = .ok (.iload_n 2, 1) := by decide +kernel
theorem dc_M_opening_189 : decode bc_M_opening 189 = .ok (.if_icmp .ne 5, 3) := by decide +kernel
theorem dc_M_opening_192 : decode bc_M_opening 192 = .ok (.iload_n 3, 1) := by decide +kernel
theorem dc_M_opening_193 : decode bc_M_opening 193 = .ok (.ireturn, 1) := by decide +kernel
theorem dc_M_opening_194 : decode bc_M_opening 194 = .ok (.iinc 3 1, 3) := by decide +kernel
theorem dc_M_opening_197 : decode bc_M_opening 197 = .ok (.goto (-169), 3) := by decide +kernel
theorem dc_M_opening_200 : decode bc_M_opening 200 = .ok (.iconst (-1), 1) := by decide +kernel
theorem dc_M_opening_201 : decode bc_M_opening 201 = .ok (.ireturn, 1) := by decide +kernel
theorem dc_M_sharing_0 : decode bc_M_sharing 0 = .ok (.iconst 0, 1) := by decide +kernel
theorem dc_M_sharing_1 : decode bc_M_sharing 1 = .ok (.istore_n 3, 1) := by decide +kernel
theorem dc_M_sharing_2 : decode bc_M_sharing 2 = .ok (.aload_n 0, 1) := by decide +kernel
theorem dc_M_sharing_3 : decode bc_M_sharing 3 = .ok (.iload_n 1, 1) := by decide +kernel
theorem dc_M_sharing_4 : decode bc_M_sharing 4 = .ok (.iload_n 3, 1) := by decide +kernel
theorem dc_M_sharing_5 : decode bc_M_sharing 5 = .ok (.invokevirtual 131, 3) := by decide +kernel
theorem dc_M_sharing_8 : decode bc_M_sharing 8 = .ok (.ifCond .eq 33, 3) := by decide +kernel
theorem dc_M_sharing_11 : decode bc_M_sharing 11 = .ok (.aload_n 0, 1) := by decide +kernel
theorem dc_M_sharing_12 : decode bc_M_sharing 12 = .ok (.iload_n 2, 1) := by decide +kernel
theorem dc_M_sharing_13 : decode bc_M_sharing 13 = .ok (.iload_n 3, 1) := by decide +kernel
theorem dc_M_sharing_14 : decode bc_M_sharing 14 = .ok (.invokevirtual 131, 3) := by decide +kernel
theorem dc_M_sharing_17 : decode bc_M_sharing 17 = .ok (.ifCond .eq 24, 3) := by decide +kernel
theorem dc_M_sharing_20 : decode bc_M_sharing 20 = .ok (.aload_n 0, 1) := by decide +kernel
theorem dc_M_sharing_21 : decode bc_M_sharing 21 = .ok (.iload_n 1, 1) := by decide +kernel
theorem dc_M_sharing_22 : decode bc_M_sharing 22 = .ok (.iload_n 3, 1) := by decide +kernel
theorem dc_M_sharing_23 : decode bc_M_sharing 23 = .ok (.invokevirtual 82, 3) := by decide +kernel
theorem dc_M_sharing_26 : decode bc_M_sharing 26 = .ok (.aload_n 0, 1) := by decide +kernel
theorem dc_M_sharing_27 : decode bc_M_sharing 27 = .ok (.iload_n 2, 1) := by decide +kernel
theorem dc_M_sharing_28 : decode bc_M_sharing 28 = .ok (.iload_n 3, 1) := by decide +kernel
theorem dc_M_sharing_29 : decode bc_M_sharing 29 = .ok (.invokevirtual 82, 3) := by decide +kernel
theorem dc_M_sharing_32 : decode bc_M_sharing 32 = .ok (.if_icmp .ne 9, 3) := by decide +kernel
theorem dc_M_sharing_35 : decode bc_M_sharing 35 = .ok (.iinc 3 1, 3) := by decide +kernel
theorem dc_M_sharing_38 : decode bc_M_sharing 38 = .ok (.goto (-36), 3) := by decide +kernel
theorem dc_M_sharing_41 : decode bc_M_sharing 41 = .ok (.iload_n 3, 1) := by decide +kernel
theorem dc_M_sharing_42 : decode bc_M_sharing 42 = .ok (.ireturn, 1) := by decide +kernel
