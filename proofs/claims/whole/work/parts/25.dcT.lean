theorem dc_T_init_0 : decode bc_T_init 0 = .ok (.aload_n 0, 1) := by decide +kernel
theorem dc_T_init_1 : decode bc_T_init 1 = .ok (.invokespecial 3, 3) := by decide +kernel
theorem dc_T_init_4 : decode bc_T_init 4 = .ok (.aload_n 0, 1) := by decide +kernel
theorem dc_T_init_5 : decode bc_T_init 5 = .ok (.bipush 8, 2) := by decide +kernel
theorem dc_T_init_7 : decode bc_T_init 7 = .ok (.anewarray 9, 3) := by decide +kernel
theorem dc_T_init_10 : decode bc_T_init 10 = .ok (.putfield 11, 3) := by decide +kernel
theorem dc_T_init_13 : decode bc_T_init 13 = .ok (.iconst 0, 1) := by decide +kernel
theorem dc_T_init_14 : decode bc_T_init 14 = .ok (.istore_n 1, 1) := by decide +kernel
theorem dc_T_init_15 : decode bc_T_init 15 = .ok (.iload_n 1, 1) := by decide +kernel
theorem dc_T_init_16 : decode bc_T_init 16 = .ok (.bipush 8, 2) := by decide +kernel
theorem dc_T_init_18 : decode bc_T_init 18 = .ok (.if_icmp .ge 22, 3) := by decide +kernel
theorem dc_T_init_21 : decode bc_T_init 21 = .ok (.aload_n 0, 1) := by decide +kernel
theorem dc_T_init_22 : decode bc_T_init 22 = .ok (.getfield 11, 3) := by decide +kernel
theorem dc_T_init_25 : decode bc_T_init 25 = .ok (.iload_n 1, 1) := by decide +kernel
theorem dc_T_init_26 : decode bc_T_init 26 = .ok (.new 9, 3) := by decide +kernel
theorem dc_T_init_29 : decode bc_T_init 29 = .ok (.dup, 1) := by decide +kernel
theorem dc_T_init_30 : decode bc_T_init 30 = .ok (.invokespecial 15, 3) := by decide +kernel
theorem dc_T_init_33 : decode bc_T_init 33 = .ok (.aastore, 1) := by decide +kernel
theorem dc_T_init_34 : decode bc_T_init 34 = .ok (.iinc 1 1, 3) := by decide +kernel
theorem dc_T_init_37 : decode bc_T_init 37 = .ok (.goto (-22), 3) := by decide +kernel
theorem dc_T_init_40 : decode bc_T_init 40 = .ok (.aload_n 0, 1) := by decide +kernel
theorem dc_T_init_41 : decode bc_T_init 41 = .ok (.new 16, 3) := by decide +kernel
theorem dc_T_init_44 : decode bc_T_init 44 = .ok (.dup, 1) := by decide +kernel
theorem dc_T_init_45 : decode bc_T_init 45 = .ok (.bipush 8, 2) := by decide +kernel
theorem dc_T_init_47 : decode bc_T_init 47 = .ok (.invokespecial 18, 3) := by decide +kernel
theorem dc_T_init_50 : decode bc_T_init 50 = .ok (.putfield 21, 3) := by decide +kernel
theorem dc_T_init_53 : decode bc_T_init 53 = .ok (.aload_n 0, 1) := by decide +kernel
theorem dc_T_init_54 : decode bc_T_init 54 = .ok (.new 25, 3) := by decide +kernel
theorem dc_T_init_57 : decode bc_T_init 57 = .ok (.dup, 1) := by decide +kernel
theorem dc_T_init_58 : decode bc_T_init 58 = .ok (.invokespecial 27, 3) := by decide +kernel
theorem dc_T_init_61 : decode bc_T_init 61 = .ok (.putfield 28, 3) := by decide +kernel
theorem dc_T_init_64 : decode bc_T_init 64 = .ok (.aload_n 0, 1) := by decide +kernel
theorem dc_T_init_65 : decode bc_T_init 65 = .ok (.new 32, 3) := by decide +kernel
theorem dc_T_init_68 : decode bc_T_init 68 = .ok (.dup, 1) := by decide +kernel
theorem dc_T_init_69 : decode bc_T_init 69 = .ok (.invokespecial 34, 3) := by decide +kernel
theorem dc_T_init_72 : decode bc_T_init 72 = .ok (.putfield 35, 3) := by decide +kernel
theorem dc_T_init_75 : decode bc_T_init 75 = .ok (.aload_n 0, 1) := by decide +kernel
theorem dc_T_init_76 : decode bc_T_init 76 = .ok (.new 39, 3) := by decide +kernel
theorem dc_T_init_79 : decode bc_T_init 79 = .ok (.dup, 1) := by decide +kernel
theorem dc_T_init_80 : decode bc_T_init 80 = .ok (.invokespecial 41, 3) := by decide +kernel
theorem dc_T_init_83 : decode bc_T_init 83 = .ok (.putfield 42, 3) := by decide +kernel
theorem dc_T_init_86 : decode bc_T_init 86 = .ok (.aload_n 0, 1) := by decide +kernel
theorem dc_T_init_87 : decode bc_T_init 87 = .ok (.bipush 8, 2) := by decide +kernel
theorem dc_T_init_89 : decode bc_T_init 89 = .ok (.newarray .int, 2) := by decide +kernel
theorem dc_T_init_91 : decode bc_T_init 91 = .ok (.putfield 46, 3) := by decide +kernel
theorem dc_T_init_94 : decode bc_T_init 94 = .ok (.return_, 1) := by decide +kernel
theorem dc_T_forget_0 : decode bc_T_forget 0 = .ok (.aload_n 0, 1) := by decide +kernel
theorem dc_T_forget_1 : decode bc_T_forget 1 = .ok (.getfield 21, 3) := by decide +kernel
theorem dc_T_forget_4 : decode bc_T_forget 4 = .ok (.invokevirtual 125, 3) := by decide +kernel
theorem dc_T_forget_7 : decode bc_T_forget 7 = .ok (.return_, 1) := by decide +kernel
theorem dc_T_tune_0 : decode bc_T_tune 0 = .ok (.iload_n 1, 1) := by decide +kernel
theorem dc_T_tune_1 : decode bc_T_tune 1 = .ok (.ifCond .lt 9, 3) := by decide +kernel
theorem dc_T_tune_4 : decode bc_T_tune 4 = .ok (.iload_n 1, 1) := by decide +kernel
theorem dc_T_tune_5 : decode bc_T_tune 5 = .ok (.bipush 8, 2) := by decide +kernel
theorem dc_T_tune_7 : decode bc_T_tune 7 = .ok (.if_icmp .lt 11, 3) := by decide +kernel
theorem dc_T_tune_10 : decode bc_T_tune 10 = .ok (.new 50, 3) := by decide +kernel
theorem dc_T_tune_13 : decode bc_T_tune 13 = .ok (.dup, 1) := by decide +kernel
theorem dc_T_tune_14 : decode bc_T_tune 14 = .ok (.invokespecial 52, 3) := by decide +kernel
theorem dc_T_tune_17 : decode bc_T_tune 17 = .ok (.athrow, 1) := by decide +kernel
theorem dc_T_tune_18 : decode bc_T_tune 18 = .ok (.aload_n 0, 1) := by decide +kernel
theorem dc_T_tune_19 : decode bc_T_tune 19 = .ok (.getfield 11, 3) := by decide +kernel
theorem dc_T_tune_22 : decode bc_T_tune 22 = .ok (.iload_n 1, 1) := by decide +kernel
theorem dc_T_tune_23 : decode bc_T_tune 23 = .ok (.aaload, 1) := by decide +kernel
theorem dc_T_tune_24 : decode bc_T_tune 24 = .ok (.getfield 53, 3) := by decide +kernel
theorem dc_T_tune_27 : decode bc_T_tune 27 = .ok (.ifCond .eq 11, 3) := by decide +kernel
theorem dc_T_tune_30 : decode bc_T_tune 30 = .ok (.new 57, 3) := by decide +kernel
theorem dc_T_tune_33 : decode bc_T_tune 33 = .ok (.dup, 1) := by decide +kernel
theorem dc_T_tune_34 : decode bc_T_tune 34 = .ok (.invokespecial 59, 3) := by decide +kernel
theorem dc_T_tune_37 : decode bc_T_tune 37 = .ok (.athrow, 1) := by decide +kernel
theorem dc_T_tune_38 : decode bc_T_tune 38 = .ok (.aload_n 0, 1) := by decide +kernel
theorem dc_T_tune_39 : decode bc_T_tune 39 = .ok (.getfield 11, 3) := by decide +kernel
theorem dc_T_tune_42 : decode bc_T_tune 42 = .ok (.iload_n 1, 1) := by decide +kernel
theorem dc_T_tune_43 : decode bc_T_tune 43 = .ok (.aaload, 1) := by decide +kernel
theorem dc_T_tune_44 : decode bc_T_tune 44 = .ok (.invokevirtual 60, 3) := by decide +kernel
theorem dc_T_tune_47 : decode bc_T_tune 47 = .ok (.return_, 1) := by decide +kernel
theorem dc_T_drop_0 : decode bc_T_drop 0 = .ok (.aload_n 0, 1) := by decide +kernel
theorem dc_T_drop_1 : decode bc_T_drop 1 = .ok (.iload_n 1, 1) := by decide +kernel
theorem dc_T_drop_2 : decode bc_T_drop 2 = .ok (.invokevirtual 63, 3) := by decide +kernel
theorem dc_T_drop_5 : decode bc_T_drop 5 = .ok (.invokevirtual 67, 3) := by decide +kernel
theorem dc_T_drop_8 : decode bc_T_drop 8 = .ok (.return_, 1) := by decide +kernel
theorem dc_T_existing_0 : decode bc_T_existing 0 = .ok (.iload_n 1, 1) := by decide +kernel
theorem dc_T_existing_1 : decode bc_T_existing 1 = .ok (.ifCond .lt 21, 3) := by decide +kernel
theorem dc_T_existing_4 : decode bc_T_existing 4 = .ok (.iload_n 1, 1) := by decide +kernel
theorem dc_T_existing_5 : decode bc_T_existing 5 = .ok (.bipush 8, 2) := by decide +kernel
theorem dc_T_existing_7 : decode bc_T_existing 7 = .ok (.if_icmp .ge 15, 3) := by decide +kernel
theorem dc_T_existing_10 : decode bc_T_existing 10 = .ok (.aload_n 0, 1) := by decide +kernel
theorem dc_T_existing_11 : decode bc_T_existing 11 = .ok (.getfield 11, 3) := by decide +kernel
theorem dc_T_existing_14 : decode bc_T_existing 14 = .ok (.iload_n 1, 1) := by decide +kernel
theorem dc_T_existing_15 : decode bc_T_existing 15 = .ok (.aaload, 1) := by decide +kernel
theorem dc_T_existing_16 : decode bc_T_existing 16 = .ok (.getfield 53, 3) := by decide +kernel
theorem dc_T_existing_19 : decode bc_T_existing 19 = .ok (.ifCond .ne 11, 3) := by decide +kernel
theorem dc_T_existing_22 : decode bc_T_existing 22 = .ok (.new 50, 3) := by decide +kernel
theorem dc_T_existing_25 : decode bc_T_existing 25 = .ok (.dup, 1) := by decide +kernel
theorem dc_T_existing_26 : decode bc_T_existing 26 = .ok (.invokespecial 52, 3) := by decide +kernel
theorem dc_T_existing_29 : decode bc_T_existing 29 = .ok (.athrow, 1) := by decide +kernel
theorem dc_T_existing_30 : decode bc_T_existing 30 = .ok (.aload_n 0, 1) := by decide +kernel
theorem dc_T_existing_31 : decode bc_T_existing 31 = .ok (.getfield 11, 3) := by decide +kernel
theorem dc_T_existing_34 : decode bc_T_existing 34 = .ok (.iload_n 1, 1) := by decide +kernel
theorem dc_T_existing_35 : decode bc_T_existing 35 = .ok (.aaload, 1) := by decide +kernel
theorem dc_T_existing_36 : decode bc_T_existing 36 = .ok (.areturn, 1) := by decide +kernel
theorem dc_T_note_0 : decode bc_T_note 0 = .ok (.aload_n 0, 1) := by decide +kernel
theorem dc_T_note_1 : decode bc_T_note 1 = .ok (.iload_n 1, 1) := by decide +kernel
theorem dc_T_note_2 : decode bc_T_note 2 = .ok (.invokevirtual 63, 3) := by decide +kernel
theorem dc_T_note_5 : decode bc_T_note 5 = .ok (.astore 4, 2) := by decide +kernel
theorem dc_T_note_7 : decode bc_T_note 7 = .ok (.iload_n 2, 1) := by decide +kernel
theorem dc_T_note_8 : decode bc_T_note 8 = .ok (.iload_n 3, 1) := by decide +kernel
theorem dc_T_note_9 : decode bc_T_note 9 = .ok (.invokestatic 70, 3) := by decide +kernel
theorem dc_T_note_12 : decode bc_T_note 12 = .ok (.aload 4, 2) := by decide +kernel
theorem dc_T_note_14 : decode bc_T_note 14 = .ok (.getfield 74, 3) := by decide +kernel
theorem dc_T_note_17 : decode bc_T_note 17 = .ok (.ifCond .ne 24, 3) := by decide +kernel
theorem dc_T_note_20 : decode bc_T_note 20 = .ok (.aload 4, 2) := by decide +kernel
theorem dc_T_note_22 : decode bc_T_note 22 = .ok (.getfield 77, 3) := by decide +kernel
theorem dc_T_note_25 : decode bc_T_note 25 = .ok (.ifCond .gt 16, 3) := by decide +kernel
theorem dc_T_note_28 : decode bc_T_note 28 = .ok (.aload 4, 2) := by decide +kernel
theorem dc_T_note_30 : decode bc_T_note 30 = .ok (.getfield 81, 3) := by decide +kernel
theorem dc_T_note_33 : decode bc_T_note 33 = .ok (.getfield 84, 3) := by decide +kernel
theorem dc_T_note_36 : decode bc_T_note 36 = .ok (.bipush 20, 2) := by decide +kernel
theorem dc_T_note_38 : decode bc_T_note 38 = .ok (.if_icmp .lt 11, 3) := by decide +kernel
theorem dc_T_note_41 : decode bc_T_note 41 = .ok (.new 57, 3) := by decide +kernel
theorem dc_T_note_44 : decode bc_T_note 44 = .ok (.dup, 1) := by decide +kernel
theorem dc_T_note_45 : decode bc_T_note 45 = .ok (.invokespecial 59, 3) := by decide +kernel
theorem dc_T_note_48 : decode bc_T_note 48 = .ok (.athrow, 1) := by decide +kernel
theorem dc_T_note_49 : decode bc_T_note 49 = .ok (.aload 4, 2) := by decide +kernel
theorem dc_T_note_51 : decode bc_T_note 51 = .ok (.getfield 81, 3) := by decide +kernel
theorem dc_T_note_54 : decode bc_T_note 54 = .ok (.iload_n 2, 1) := by decide +kernel
theorem dc_T_note_55 : decode bc_T_note 55 = .ok (.iload_n 3, 1) := by decide +kernel
theorem dc_T_note_56 : decode bc_T_note 56 = .ok (.invokevirtual 87, 3) := by decide +kernel
theorem dc_T_note_59 : decode bc_T_note 59 = .ok (.ireturn, 1) := by decide +kernel
theorem dc_T_refuseUnlessNote_0 : decode bc_T_refuseUnlessNote 0 = .ok (.iload_n 0, 1) := by decide +kernel
theorem dc_T_refuseUnlessNote_1 : decode bc_T_refuseUnlessNote 1 = .ok (.ifCond .lt 20, 3) := by decide +kernel
theorem dc_T_refuseUnlessNote_4 : decode bc_T_refuseUnlessNote 4 = .ok (.iload_n 0, 1) := by decide +kernel
theorem dc_T_refuseUnlessNote_5 : decode bc_T_refuseUnlessNote 5 = .ok (.bipush 127, 2) := by decide +kernel
theorem dc_T_refuseUnlessNote_7 : decode bc_T_refuseUnlessNote 7 = .ok (.if_icmp .gt 14, 3) := by decide +kernel
theorem dc_T_refuseUnlessNote_10 : decode bc_T_refuseUnlessNote 10 = .ok (.iload_n 1, 1) := by decide +kernel
theorem dc_T_refuseUnlessNote_11 : decode bc_T_refuseUnlessNote 11 = .ok (.iconst 1, 1) := by decide +kernel
theorem dc_T_refuseUnlessNote_12 : decode bc_T_refuseUnlessNote 12 = .ok (.if_icmp .lt 9, 3) := by decide +kernel
theorem dc_T_refuseUnlessNote_15 : decode bc_T_refuseUnlessNote 15 = .ok (.iload_n 1, 1) := by decide +kernel
theorem dc_T_refuseUnlessNote_16 : decode bc_T_refuseUnlessNote 16 = .ok (.bipush 64, 2) := by decide +kernel
theorem dc_T_refuseUnlessNote_18 : decode bc_T_refuseUnlessNote 18 = .ok (.if_icmp .le 11, 3) := by decide +kernel
theorem dc_T_refuseUnlessNote_21 : decode bc_T_refuseUnlessNote 21 = .ok (.new 114, 3) := by decide +kernel
theorem dc_T_refuseUnlessNote_24 : decode bc_T_refuseUnlessNote 24 = .ok (.dup, 1) := by decide +kernel
theorem dc_T_refuseUnlessNote_25 : decode bc_T_refuseUnlessNote 25 = .ok (.invokespecial 116, 3) := by decide +kernel
theorem dc_T_refuseUnlessNote_28 : decode bc_T_refuseUnlessNote 28 = .ok (.athrow, 1) := by decide +kernel
theorem dc_T_refuseUnlessNote_29 : decode bc_T_refuseUnlessNote 29 = .ok (.return_, 1) := by decide +kernel
theorem dc_T_show_0 : decode bc_T_show 0 = .ok (.aload_n 0, 1) := by decide +kernel
theorem dc_T_show_1 : decode bc_T_show 1 = .ok (.iload_n 1, 1) := by decide +kernel
theorem dc_T_show_2 : decode bc_T_show 2 = .ok (.invokevirtual 63, 3) := by decide +kernel
theorem dc_T_show_5 : decode bc_T_show 5 = .ok (.astore_n 3, 1) := by decide +kernel
theorem dc_T_show_6 : decode bc_T_show 6 = .ok (.aload_n 3, 1) := by decide +kernel
theorem dc_T_show_7 : decode bc_T_show 7 = .ok (.getfield 74, 3) := by decide +kernel
theorem dc_T_show_10 : decode bc_T_show 10 = .ok (.iload_n 2, 1) := by decide +kernel
theorem dc_T_show_11 : decode bc_T_show 11 = .ok (.if_icmp .eq 14, 3) := by decide +kernel
theorem dc_T_show_14 : decode bc_T_show 14 = .ok (.aload_n 3, 1) := by decide +kernel
theorem dc_T_show_15 : decode bc_T_show 15 = .ok (.getfield 81, 3) := by decide +kernel
theorem dc_T_show_18 : decode bc_T_show 18 = .ok (.getfield 84, 3) := by decide +kernel
theorem dc_T_show_21 : decode bc_T_show 21 = .ok (.iconst 2, 1) := by decide +kernel
theorem dc_T_show_22 : decode bc_T_show 22 = .ok (.if_icmp .ge 11, 3) := by decide +kernel
theorem dc_T_show_25 : decode bc_T_show 25 = .ok (.new 57, 3) := by decide +kernel
theorem dc_T_show_28 : decode bc_T_show 28 = .ok (.dup, 1) := by decide +kernel
theorem dc_T_show_29 : decode bc_T_show 29 = .ok (.invokespecial 59, 3) := by decide +kernel
theorem dc_T_show_32 : decode bc_T_show 32 = .ok (.athrow, 1) := by decide +kernel
theorem dc_T_show_33 : decode bc_T_show 33 = .ok (.aload_n 3, 1) := by decide +kernel
theorem dc_T_show_34 : decode bc_T_show 34 = .ok (.iload_n 2, 1) := by decide +kernel
theorem dc_T_show_35 : decode bc_T_show 35 = .ok (.putfield 74, 3) := by decide +kernel
theorem dc_T_show_38 : decode bc_T_show 38 = .ok (.return_, 1) := by decide +kernel
theorem dc_T_correct_0 : decode bc_T_correct 0 = .ok (.aload_n 0, 1) := by decide +kernel
theorem dc_T_correct_1 : decode bc_T_correct 1 = .ok (.iload_n 1, 1) := by decide +kernel
theorem dc_T_correct_2 : decode bc_T_correct 2 = .ok (.invokevirtual 63, 3) := by decide +kernel
theorem dc_T_correct_5 : decode bc_T_correct 5 = .ok (.astore 5, 2) := by decide +kernel
theorem dc_T_correct_7 : decode bc_T_correct 7 = .ok (.aload 5, 2) := by decide +kernel
theorem dc_T_correct_9 : decode bc_T_correct 9 = .ok (.iload_n 2, 1) := by decide +kernel
theorem dc_T_correct_10 : decode bc_T_correct 10 = .ok (.invokestatic 91, 3) := by decide +kernel
theorem dc_T_correct_13 : decode bc_T_correct 13 = .ok (.iload_n 3, 1) := by decide +kernel
theorem dc_T_correct_14 : decode bc_T_correct 14 = .ok (.iload 4, 2) := by decide +kernel
theorem dc_T_correct_16 : decode bc_T_correct 16 = .ok (.invokestatic 70, 3) := by decide +kernel
theorem dc_T_correct_19 : decode bc_T_correct 19 = .ok (.aload 5, 2) := by decide +kernel
theorem dc_T_correct_21 : decode bc_T_correct 21 = .ok (.getfield 77, 3) := by decide +kernel
theorem dc_T_correct_24 : decode bc_T_correct 24 = .ok (.iconst 1, 1) := by decide +kernel
theorem dc_T_correct_25 : decode bc_T_correct 25 = .ok (.iadd, 1) := by decide +kernel
theorem dc_T_correct_26 : decode bc_T_correct 26 = .ok (.bipush 9, 2) := by decide +kernel
theorem dc_T_correct_28 : decode bc_T_correct 28 = .ok (.if_icmp .lt 11, 3) := by decide +kernel
theorem dc_T_correct_31 : decode bc_T_correct 31 = .ok (.new 57, 3) := by decide +kernel
theorem dc_T_correct_34 : decode bc_T_correct 34 = .ok (.dup, 1) := by decide +kernel
theorem dc_T_correct_35 : decode bc_T_correct 35 = .ok (.invokespecial 59, 3) := by decide +kernel
theorem dc_T_correct_38 : decode bc_T_correct 38 = .ok (.athrow, 1) := by decide +kernel
theorem dc_T_correct_39 : decode bc_T_correct 39 = .ok (.aload 5, 2) := by decide +kernel
theorem dc_T_correct_41 : decode bc_T_correct 41 = .ok (.iload_n 2, 1) := by decide +kernel
theorem dc_T_correct_42 : decode bc_T_correct 42 = .ok (.iload_n 3, 1) := by decide +kernel
theorem dc_T_correct_43 : decode bc_T_correct 43 = .ok (.iload 4, 2) := by decide +kernel
theorem dc_T_correct_45 : decode bc_T_correct 45 = .ok (.invokevirtual 95, 3) := by decide +kernel
theorem dc_T_correct_48 : decode bc_T_correct 48 = .ok (.ireturn, 1) := by decide +kernel
theorem dc_T_refuseUnlessPlace_0 : decode bc_T_refuseUnlessPlace 0 = .ok (.iload_n 1, 1) := by decide +kernel
theorem dc_T_refuseUnlessPlace_1 : decode bc_T_refuseUnlessPlace 1 = .ok (.ifCond .lt 14, 3) := by decide +kernel
theorem dc_T_refuseUnlessPlace_4 : decode bc_T_refuseUnlessPlace 4 = .ok (.iload_n 1, 1) := by decide +kernel
theorem dc_T_refuseUnlessPlace_5 : decode bc_T_refuseUnlessPlace 5 = .ok (.aload_n 0, 1) := by decide +kernel
theorem dc_T_refuseUnlessPlace_6 : decode bc_T_refuseUnlessPlace 6 = .ok (.getfield 81, 3) := by decide +kernel
theorem dc_T_refuseUnlessPlace_9 : decode bc_T_refuseUnlessPlace 9 = .ok (.getfield 84, 3) := by decide +kernel
theorem dc_T_refuseUnlessPlace_12 : decode bc_T_refuseUnlessPlace 12 = .ok (.if_icmp .lt 11, 3) := by decide +kernel
theorem dc_T_refuseUnlessPlace_15 : decode bc_T_refuseUnlessPlace 15 = .ok (.new 50, 3) := by decide +kernel
theorem dc_T_refuseUnlessPlace_18 : decode bc_T_refuseUnlessPlace 18 = .ok (.dup, 1) := by decide +kernel
theorem dc_T_refuseUnlessPlace_19 : decode bc_T_refuseUnlessPlace 19 = .ok (.invokespecial 52, 3) := by decide +kernel
theorem dc_T_refuseUnlessPlace_22 : decode bc_T_refuseUnlessPlace 22 = .ok (.athrow, 1) := by decide +kernel
theorem dc_T_refuseUnlessPlace_23 : decode bc_T_refuseUnlessPlace 23 = .ok (.return_, 1) := by decide +kernel
theorem dc_T_restore_0 : decode bc_T_restore 0 = .ok (.aload_n 0, 1) := by decide +kernel
theorem dc_T_restore_1 : decode bc_T_restore 1 = .ok (.iload_n 1, 1) := by decide +kernel
theorem dc_T_restore_2 : decode bc_T_restore 2 = .ok (.invokevirtual 63, 3) := by decide +kernel
theorem dc_T_restore_5 : decode bc_T_restore 5 = .ok (.astore_n 3, 1) := by decide +kernel
theorem dc_T_restore_6 : decode bc_T_restore 6 = .ok (.aload_n 3, 1) := by decide +kernel
theorem dc_T_restore_7 : decode bc_T_restore 7 = .ok (.iload_n 2, 1) := by decide +kernel
theorem dc_T_restore_8 : decode bc_T_restore 8 = .ok (.invokestatic 99, 3) := by decide +kernel
theorem dc_T_restore_11 : decode bc_T_restore 11 = .ok (.aload_n 3, 1) := by decide +kernel
theorem dc_T_restore_12 : decode bc_T_restore 12 = .ok (.iload_n 2, 1) := by decide +kernel
theorem dc_T_restore_13 : decode bc_T_restore 13 = .ok (.invokevirtual 102, 3) := by decide +kernel
theorem dc_T_restore_16 : decode bc_T_restore 16 = .ok (.return_, 1) := by decide +kernel
theorem dc_T_refuseUnlessReading_0 : decode bc_T_refuseUnlessReading 0 = .ok (.iload_n 1, 1) := by decide +kernel
theorem dc_T_refuseUnlessReading_1 : decode bc_T_refuseUnlessReading 1 = .ok (.ifCond .lt 11, 3) := by decide +kernel
theorem dc_T_refuseUnlessReading_4 : decode bc_T_refuseUnlessReading 4 = .ok (.iload_n 1, 1) := by decide +kernel
theorem dc_T_refuseUnlessReading_5 : decode bc_T_refuseUnlessReading 5 = .ok (.aload_n 0, 1) := by decide +kernel
theorem dc_T_refuseUnlessReading_6 : decode bc_T_refuseUnlessReading 6 = .ok (.getfield 77, 3) := by decide +kernel
theorem dc_T_refuseUnlessReading_9 : decode bc_T_refuseUnlessReading 9 = .ok (.if_icmp .le 11, 3) := by decide +kernel
theorem dc_T_refuseUnlessReading_12 : decode bc_T_refuseUnlessReading 12 = .ok (.new 50, 3) := by decide +kernel
theorem dc_T_refuseUnlessReading_15 : decode bc_T_refuseUnlessReading 15 = .ok (.dup, 1) := by decide +kernel
theorem dc_T_refuseUnlessReading_16 : decode bc_T_refuseUnlessReading 16 = .ok (.invokespecial 52, 3) := by decide +kernel
theorem dc_T_refuseUnlessReading_19 : decode bc_T_refuseUnlessReading 19 = .ok (.athrow, 1) := by decide +kernel
theorem dc_T_refuseUnlessReading_20 : decode bc_T_refuseUnlessReading 20 = .ok (.return_, 1) := by decide +kernel
theorem dc_T_at_0 : decode bc_T_at 0 = .ok (.aload_n 0, 1) := by decide +kernel
theorem dc_T_at_1 : decode bc_T_at 1 = .ok (.iload_n 1, 1) := by decide +kernel
theorem dc_T_at_2 : decode bc_T_at 2 = .ok (.invokevirtual 63, 3) := by decide +kernel
theorem dc_T_at_5 : decode bc_T_at 5 = .ok (.astore 5, 2) := by decide +kernel
theorem dc_T_at_7 : decode bc_T_at 7 = .ok (.aload 5, 2) := by decide +kernel
theorem dc_T_at_9 : decode bc_T_at 9 = .ok (.iload_n 2, 1) := by decide +kernel
theorem dc_T_at_10 : decode bc_T_at 10 = .ok (.invokestatic 91, 3) := by decide +kernel
theorem dc_T_at_13 : decode bc_T_at 13 = .ok (.iload 4, 2) := by decide +kernel
theorem dc_T_at_15 : decode bc_T_at 15 = .ok (.iconst (-1), 1) := by decide +kernel
theorem dc_T_at_16 : decode bc_T_at 16 = .ok (.if_icmp .ne 11, 3) := by decide +kernel
theorem dc_T_at_19 : decode bc_T_at 19 = .ok (.aload 5, 2) := by decide +kernel
theorem dc_T_at_21 : decode bc_T_at 21 = .ok (.getfield 77, 3) := by decide +kernel
theorem dc_T_at_24 : decode bc_T_at 24 = .ok (.goto 5, 3) := by decide +kernel
theorem dc_T_at_27 : decode bc_T_at 27 = .ok (.iload 4, 2) := by decide +kernel
theorem dc_T_at_29 : decode bc_T_at 29 = .ok (.istore 6, 2) := by decide +kernel
theorem dc_T_at_31 : decode bc_T_at 31 = .ok (.aload 5, 2) := by decide +kernel
theorem dc_T_at_33 : decode bc_T_at 33 = .ok (.iload 6, 2) := by decide +kernel
theorem dc_T_at_35 : decode bc_T_at 35 = .ok (.invokestatic 99, 3) := by decide +kernel
theorem dc_T_at_38 : decode bc_T_at 38 = .ok (.iload_n 3, 1) := by decide +kernel
theorem dc_T_at_39 : decode bc_T_at 39 = .ok (.tableswitch 52 0 2 #[25, 34, 43], 25) := by decide +kernel
theorem dc_T_at_64 : decode bc_T_at 64 = .ok (.aload 5, 2) := by decide +kernel
theorem dc_T_at_66 : decode bc_T_at 66 = .ok (.iload 6, 2) := by decide +kernel
theorem dc_T_at_68 : decode bc_T_at 68 = .ok (.iload_n 2, 1) := by decide +kernel
theorem dc_T_at_69 : decode bc_T_at 69 = .ok (.invokevirtual 105, 3) := by decide +kernel
theorem dc_T_at_72 : decode bc_T_at 72 = .ok (.ireturn, 1) := by decide +kernel
theorem dc_T_at_73 : decode bc_T_at 73 = .ok (.aload 5, 2) := by decide +kernel
theorem dc_T_at_75 : decode bc_T_at 75 = .ok (.iload 6, 2) := by decide +kernel
theorem dc_T_at_77 : decode bc_T_at 77 = .ok (.iload_n 2, 1) := by decide +kernel
theorem dc_T_at_78 : decode bc_T_at 78 = .ok (.invokevirtual 108, 3) := by decide +kernel
theorem dc_T_at_81 : decode bc_T_at 81 = .ok (.ireturn, 1) := by decide +kernel
theorem dc_T_at_82 : decode bc_T_at 82 = .ok (.aload 5, 2) := by decide +kernel
theorem dc_T_at_84 : decode bc_T_at 84 = .ok (.iload 6, 2) := by decide +kernel
theorem dc_T_at_86 : decode bc_T_at 86 = .ok (.iload_n 2, 1) := by decide +kernel
theorem dc_T_at_87 : decode bc_T_at 87 = .ok (.invokevirtual 111, 3) := by decide +kernel
theorem dc_T_at_90 : decode bc_T_at 90 = .ok (.ireturn, 1) := by decide +kernel
theorem dc_T_at_91 : decode bc_T_at 91 = .ok (.new 114, 3) := by decide +kernel
theorem dc_T_at_94 : decode bc_T_at 94 = .ok (.dup, 1) := by decide +kernel
theorem dc_T_at_95 : decode bc_T_at 95 = .ok (.invokespecial 116, 3) := by decide +kernel
theorem dc_T_at_98 : decode bc_T_at 98 = .ok (.athrow, 1) := by decide +kernel
theorem dc_T_about_0 : decode bc_T_about 0 = .ok (.aload_n 0, 1) := by decide +kernel
theorem dc_T_about_1 : decode bc_T_about 1 = .ok (.iload_n 1, 1) := by decide +kernel
theorem dc_T_about_2 : decode bc_T_about 2 = .ok (.invokevirtual 63, 3) := by decide +kernel
theorem dc_T_about_5 : decode bc_T_about 5 = .ok (.astore_n 3, 1) := by decide +kernel
theorem dc_T_about_6 : decode bc_T_about 6 = .ok (.iload_n 2, 1) := by decide +kernel
theorem dc_T_about_7 : decode bc_T_about 7 = .ok (.tableswitch 53 0 2 #[25, 33, 46], 25) := by decide +kernel
theorem dc_T_about_32 : decode bc_T_about 32 = .ok (.aload_n 3, 1) := by decide +kernel
theorem dc_T_about_33 : decode bc_T_about 33 = .ok (.getfield 81, 3) := by decide +kernel
theorem dc_T_about_36 : decode bc_T_about 36 = .ok (.getfield 84, 3) := by decide +kernel
theorem dc_T_about_39 : decode bc_T_about 39 = .ok (.ireturn, 1) := by decide +kernel
theorem dc_T_about_40 : decode bc_T_about 40 = .ok (.aload_n 3, 1) := by decide +kernel
theorem dc_T_about_41 : decode bc_T_about 41 = .ok (.getfield 74, 3) := by decide +kernel
theorem dc_T_about_44 : decode bc_T_about 44 = .ok (.ifCond .eq 7, 3) := by decide +kernel
theorem dc_T_about_47 : decode bc_T_about 47 = .ok (.iconst 1, 1) := by decide +kernel
theorem dc_T_about_48 : decode bc_T_about 48 = .ok (.goto 4, 3) := by decide +kernel
theorem dc_T_about_51 : decode bc_T_about 51 = .ok (.iconst 0, 1) := by decide +kernel
theorem dc_T_about_52 : decode bc_T_about 52 = .ok (.ireturn, 1) := by decide +kernel
theorem dc_T_about_53 : decode bc_T_about 53 = .ok (.aload_n 3, 1) := by decide +kernel
theorem dc_T_about_54 : decode bc_T_about 54 = .ok (.getfield 77, 3) := by decide +kernel
theorem dc_T_about_57 : decode bc_T_about 57 = .ok (.iconst 1, 1) := by decide +kernel
theorem dc_T_about_58 : decode bc_T_about 58 = .ok (.iadd, 1) := by decide +kernel
theorem dc_T_about_59 : decode bc_T_about 59 = .ok (.ireturn, 1) := by decide +kernel
theorem dc_T_about_60 : decode bc_T_about 60 = .ok (.new 114, 3) := by decide +kernel
theorem dc_T_about_63 : decode bc_T_about 63 = .ok (.dup, 1) := by decide +kernel
theorem dc_T_about_64 : decode bc_T_about 64 = .ok (.invokespecial 116, 3) := by decide +kernel
theorem dc_T_about_67 : decode bc_T_about 67 = .ok (.athrow, 1) := by decide +kernel
theorem dc_T_contour_0 : decode bc_T_contour 0 = .ok (.aload_n 0, 1) := by decide +kernel
theorem dc_T_contour_1 : decode bc_T_contour 1 = .ok (.iload_n 1, 1) := by decide +kernel
theorem dc_T_contour_2 : decode bc_T_contour 2 = .ok (.invokevirtual 63, 3) := by decide +kernel
theorem dc_T_contour_5 : decode bc_T_contour 5 = .ok (.getfield 81, 3) := by decide +kernel
theorem dc_T_contour_8 : decode bc_T_contour 8 = .ok (.astore_n 3, 1) := by decide +kernel
theorem dc_T_contour_9 : decode bc_T_contour 9 = .ok (.iload_n 2, 1) := by decide +kernel
theorem dc_T_contour_10 : decode bc_T_contour 10 = .ok (.ifCond .lt 11, 3) := by decide +kernel
theorem dc_T_contour_13 : decode bc_T_contour 13 = .ok (.iload_n 2, 1) := by decide +kernel
theorem dc_T_contour_14 : decode bc_T_contour 14 = .ok (.aload_n 3, 1) := by decide +kernel
theorem dc_T_contour_15 : decode bc_T_contour 15 = .ok (.invokevirtual 117, 3) := by decide +kernel
theorem dc_T_contour_18 : decode bc_T_contour 18 = .ok (.if_icmp .lt 5, 3) := by decide +kernel
theorem dc_T_contour_21 : decode bc_T_contour 21 = .ok (.iconst (-1), 1) := by decide +kernel
theorem dc_T_contour_22 : decode bc_T_contour 22 = .ok (.ireturn, 1) := by decide +kernel
theorem dc_T_contour_23 : decode bc_T_contour 23 = .ok (.aload_n 3, 1) := by decide +kernel
theorem dc_T_contour_24 : decode bc_T_contour 24 = .ok (.iload_n 2, 1) := by decide +kernel
theorem dc_T_contour_25 : decode bc_T_contour 25 = .ok (.invokevirtual 121, 3) := by decide +kernel
theorem dc_T_contour_28 : decode bc_T_contour 28 = .ok (.istore 4, 2) := by decide +kernel
theorem dc_T_contour_30 : decode bc_T_contour 30 = .ok (.iload 4, 2) := by decide +kernel
theorem dc_T_contour_32 : decode bc_T_contour 32 = .ok (.ifCond .ne 6, 3) := by decide +kernel
theorem dc_T_contour_35 : decode bc_T_contour 35 = .ok (.bipush 115, 2) := by decide +kernel
theorem dc_T_contour_37 : decode bc_T_contour 37 = .ok (.ireturn, 1) := by decide +kernel
theorem dc_T_contour_38 : decode bc_T_contour 38 = .ok (.iload 4, 2) := by decide +kernel
theorem dc_T_contour_40 : decode bc_T_contour 40 = .ok (.ifCond .le 8, 3) := by decide +kernel
theorem dc_T_contour_43 : decode bc_T_contour 43 = .ok (.bipush 117, 2) := by decide +kernel
theorem dc_T_contour_45 : decode bc_T_contour 45 = .ok (.goto 5, 3) := by decide +kernel
theorem dc_T_contour_48 : decode bc_T_contour 48 = .ok (.bipush 100, 2) := by decide +kernel
theorem dc_T_contour_50 : decode bc_T_contour 50 = .ok (.ireturn, 1) := by decide +kernel
theorem dc_T_ask_0 : decode bc_T_ask 0 = .ok (.iload_n 1, 1) := by decide +kernel
theorem dc_T_ask_1 : decode bc_T_ask 1 = .ok (.iload_n 2, 1) := by decide +kernel
theorem dc_T_ask_2 : decode bc_T_ask 2 = .ok (.invokestatic 70, 3) := by decide +kernel
theorem dc_T_ask_5 : decode bc_T_ask 5 = .ok (.aload_n 0, 1) := by decide +kernel
theorem dc_T_ask_6 : decode bc_T_ask 6 = .ok (.getfield 21, 3) := by decide +kernel
theorem dc_T_ask_9 : decode bc_T_ask 9 = .ok (.getfield 84, 3) := by decide +kernel
theorem dc_T_ask_12 : decode bc_T_ask 12 = .ok (.bipush 8, 2) := by decide +kernel
theorem dc_T_ask_14 : decode bc_T_ask 14 = .ok (.if_icmp .lt 11, 3) := by decide +kernel
theorem dc_T_ask_17 : decode bc_T_ask 17 = .ok (.new 57, 3) := by decide +kernel
theorem dc_T_ask_20 : decode bc_T_ask 20 = .ok (.dup, 1) := by decide +kernel
theorem dc_T_ask_21 : decode bc_T_ask 21 = .ok (.invokespecial 59, 3) := by decide +kernel
theorem dc_T_ask_24 : decode bc_T_ask 24 = .ok (.athrow, 1) := by decide +kernel
theorem dc_T_ask_25 : decode bc_T_ask 25 = .ok (.aload_n 0, 1) := by decide +kernel
theorem dc_T_ask_26 : decode bc_T_ask 26 = .ok (.getfield 21, 3) := by decide +kernel
theorem dc_T_ask_29 : decode bc_T_ask 29 = .ok (.iload_n 1, 1) := by decide +kernel
theorem dc_T_ask_30 : decode bc_T_ask 30 = .ok (.iload_n 2, 1) := by decide +kernel
theorem dc_T_ask_31 : decode bc_T_ask 31 = .ok (.invokevirtual 87, 3) := by decide +kernel
theorem dc_T_ask_34 : decode bc_T_ask 34 = .ok (.ireturn, 1) := by decide +kernel
theorem dc_T_search_0 : decode bc_T_search 0 = .ok (.iload_n 1, 1) := by decide +kernel
theorem dc_T_search_1 : decode bc_T_search 1 = .ok (.ifCond .lt 17, 3) := by decide +kernel
theorem dc_T_search_4 : decode bc_T_search 4 = .ok (.iload_n 1, 1) := by decide +kernel
theorem dc_T_search_5 : decode bc_T_search 5 = .ok (.iconst 5, 1) := by decide +kernel
theorem dc_T_search_6 : decode bc_T_search 6 = .ok (.if_icmp .gt 12, 3) := by decide +kernel
theorem dc_T_search_9 : decode bc_T_search 9 = .ok (.iload_n 2, 1) := by decide +kernel
theorem dc_T_search_10 : decode bc_T_search 10 = .ok (.ifCond .lt 8, 3) := by decide +kernel
theorem dc_T_search_13 : decode bc_T_search 13 = .ok (.iload_n 2, 1) := by decide +kernel
theorem dc_T_search_14 : decode bc_T_search 14 = .ok (.iconst 4, 1) := by decide +kernel
theorem dc_T_search_15 : decode bc_T_search 15 = .ok (.if_icmp .le 11, 3) := by decide +kernel
theorem dc_T_search_18 : decode bc_T_search 18 = .ok (.new 114, 3) := by decide +kernel
theorem dc_T_search_21 : decode bc_T_search 21 = .ok (.dup, 1) := by decide +kernel
theorem dc_T_search_22 : decode bc_T_search 22 = .ok (.invokespecial 116, 3) := by decide +kernel
theorem dc_T_search_25 : decode bc_T_search 25 = .ok (.athrow, 1) := by decide +kernel
theorem dc_T_search_26 : decode bc_T_search 26 = .ok (.aload_n 0, 1) := by decide +kernel
theorem dc_T_search_27 : decode bc_T_search 27 = .ok (.getfield 21, 3) := by decide +kernel
theorem dc_T_search_30 : decode bc_T_search 30 = .ok (.getfield 84, 3) := by decide +kernel
theorem dc_T_search_33 : decode bc_T_search 33 = .ok (.iconst 2, 1) := by decide +kernel
theorem dc_T_search_34 : decode bc_T_search 34 = .ok (.if_icmp .ge 11, 3) := by decide +kernel
theorem dc_T_search_37 : decode bc_T_search 37 = .ok (.new 57, 3) := by decide +kernel
theorem dc_T_search_40 : decode bc_T_search 40 = .ok (.dup, 1) := by decide +kernel
theorem dc_T_search_41 : decode bc_T_search 41 = .ok (.invokespecial 59, 3) := by decide +kernel
theorem dc_T_search_44 : decode bc_T_search 44 = .ok (.athrow, 1) := by decide +kernel
theorem dc_T_search_45 : decode bc_T_search 45 = .ok (.aload_n 0, 1) := by decide +kernel
theorem dc_T_search_46 : decode bc_T_search 46 = .ok (.getfield 28, 3) := by decide +kernel
theorem dc_T_search_49 : decode bc_T_search 49 = .ok (.aload_n 0, 1) := by decide +kernel
theorem dc_T_search_50 : decode bc_T_search 50 = .ok (.getfield 21, 3) := by decide +kernel
theorem dc_T_search_53 : decode bc_T_search 53 = .ok (.getfield 84, 3) := by decide +kernel
theorem dc_T_search_56 : decode bc_T_search 56 = .ok (.invokevirtual 128, 3) := by decide +kernel
theorem dc_T_search_59 : decode bc_T_search 59 = .ok (.iconst 0, 1) := by decide +kernel
theorem dc_T_search_60 : decode bc_T_search 60 = .ok (.istore_n 3, 1) := by decide +kernel
theorem dc_T_search_61 : decode bc_T_search 61 = .ok (.iload_n 3, 1) := by decide +kernel
theorem dc_T_search_62 : decode bc_T_search 62 = .ok (.bipush 8, 2) := by decide +kernel
theorem dc_T_search_64 : decode bc_T_search 64 = .ok (.if_icmp .ge 28, 3) := by decide +kernel
theorem dc_T_search_67 : decode bc_T_search 67 = .ok (.aload_n 0, 1) := by decide +kernel
theorem dc_T_search_68 : decode bc_T_search 68 = .ok (.getfield 11, 3) := by decide +kernel
theorem dc_T_search_71 : decode bc_T_search 71 = .ok (.iload_n 3, 1) := by decide +kernel
theorem dc_T_search_72 : decode bc_T_search 72 = .ok (.aaload, 1) := by decide +kernel
theorem dc_T_search_73 : decode bc_T_search 73 = .ok (.getfield 74, 3) := by decide +kernel
theorem dc_T_search_76 : decode bc_T_search 76 = .ok (.ifCond .eq 10, 3) := by decide +kernel
theorem dc_T_search_79 : decode bc_T_search 79 = .ok (.aload_n 0, 1) := by decide +kernel
theorem dc_T_search_80 : decode bc_T_search 80 = .ok (.iload_n 3, 1) := by decide +kernel
theorem dc_T_search_81 : decode bc_T_search 81 = .ok (.iload_n 1, 1) := by decide +kernel
theorem dc_T_search_82 : decode bc_T_search 82 = .ok (.iload_n 2, 1) := by decide +kernel
theorem dc_T_search_83 : decode bc_T_search 83 = .ok (.invokevirtual 130, 3) := by decide +kernel
theorem dc_T_search_86 : decode bc_T_search 86 = .ok (.iinc 3 1, 3) := by decide +kernel
theorem dc_T_search_89 : decode bc_T_search 89 = .ok (.goto (-28), 3) := by decide +kernel
theorem dc_T_search_92 : decode bc_T_search 92 = .ok (.aload_n 0, 1) := by decide +kernel
theorem dc_T_search_93 : decode bc_T_search 93 = .ok (.getfield 28, 3) := by decide +kernel
theorem dc_T_search_96 : decode bc_T_search 96 = .ok (.getfield 134, 3) := by decide +kernel
theorem dc_T_search_99 : decode bc_T_search 99 = .ok (.ireturn, 1) := by decide +kernel
theorem dc_T_searchTune_0 : decode bc_T_searchTune 0 = .ok (.iload_n 2, 1) := by decide +kernel
theorem dc_T_searchTune_1 : decode bc_T_searchTune 1 = .ok (.lookupswitch 45 #[(4, 27), (5, 36)], 27) := by decide +kernel
theorem dc_T_searchTune_28 : decode bc_T_searchTune 28 = .ok (.aload_n 0, 1) := by decide +kernel
theorem dc_T_searchTune_29 : decode bc_T_searchTune 29 = .ok (.iload_n 1, 1) := by decide +kernel
theorem dc_T_searchTune_30 : decode bc_T_searchTune 30 = .ok (.iload_n 3, 1) := by decide +kernel
theorem dc_T_searchTune_31 : decode bc_T_searchTune 31 = .ok (.invokevirtual 192, 3) := by decide +kernel
theorem dc_T_searchTune_34 : decode bc_T_searchTune 34 = .ok (.goto 18, 3) := by decide +kernel
theorem dc_T_searchTune_37 : decode bc_T_searchTune 37 = .ok (.aload_n 0, 1) := by decide +kernel
theorem dc_T_searchTune_38 : decode bc_T_searchTune 38 = .ok (.iload_n 1, 1) := by decide +kernel
theorem dc_T_searchTune_39 : decode bc_T_searchTune 39 = .ok (.iload_n 3, 1) := by decide +kernel
theorem dc_T_searchTune_40 : decode bc_T_searchTune 40 = .ok (.invokevirtual 195, 3) := by decide +kernel
theorem dc_T_searchTune_43 : decode bc_T_searchTune 43 = .ok (.goto 9, 3) := by decide +kernel
theorem dc_T_searchTune_46 : decode bc_T_searchTune 46 = .ok (.aload_n 0, 1) := by decide +kernel
theorem dc_T_searchTune_47 : decode bc_T_searchTune 47 = .ok (.iload_n 1, 1) := by decide +kernel
theorem dc_T_searchTune_48 : decode bc_T_searchTune 48 = .ok (.iload_n 2, 1) := by decide +kernel
theorem dc_T_searchTune_49 : decode bc_T_searchTune 49 = .ok (.invokevirtual 198, 3) := by decide +kernel
theorem dc_T_searchTune_52 : decode bc_T_searchTune 52 = .ok (.return_, 1) := by decide +kernel
theorem dc_T_searchOutline_0 : decode bc_T_searchOutline 0 = .ok (.aload_n 0, 1) := by decide +kernel
theorem dc_T_searchOutline_1 : decode bc_T_searchOutline 1 = .ok (.getfield 11, 3) := by decide +kernel
theorem dc_T_searchOutline_4 : decode bc_T_searchOutline 4 = .ok (.iload_n 1, 1) := by decide +kernel
theorem dc_T_searchOutline_5 : decode bc_T_searchOutline 5 = .ok (.aaload, 1) := by decide +kernel
theorem dc_T_searchOutline_6 : decode bc_T_searchOutline 6 = .ok (.getfield 81, 3) := by decide +kernel
theorem dc_T_searchOutline_9 : decode bc_T_searchOutline 9 = .ok (.astore_n 3, 1) := by decide +kernel
theorem dc_T_searchOutline_10 : decode bc_T_searchOutline 10 = .ok (.iconst 0, 1) := by decide +kernel
theorem dc_T_searchOutline_11 : decode bc_T_searchOutline 11 = .ok (.istore 4, 2) := by decide +kernel
theorem dc_T_searchOutline_13 : decode bc_T_searchOutline 13 = .ok (.iload 4, 2) := by decide +kernel
theorem dc_T_searchOutline_15 : decode bc_T_searchOutline 15 = .ok (.aload_n 0, 1) := by decide +kernel
theorem dc_T_searchOutline_16 : decode bc_T_searchOutline 16 = .ok (.getfield 21, 3) := by decide +kernel
theorem dc_T_searchOutline_19 : decode bc_T_searchOutline 19 = .ok (.getfield 84, 3) := by decide +kernel
theorem dc_T_searchOutline_22 : decode bc_T_searchOutline 22 = .ok (.iadd, 1) := by decide +kernel
theorem dc_T_searchOutline_23 : decode bc_T_searchOutline 23 = .ok (.aload_n 3, 1) := by decide +kernel
theorem dc_T_searchOutline_24 : decode bc_T_searchOutline 24 = .ok (.getfield 84, 3) := by decide +kernel
theorem dc_T_searchOutline_27 : decode bc_T_searchOutline 27 = .ok (.if_icmp .gt 72, 3) := by decide +kernel
theorem dc_T_searchOutline_30 : decode bc_T_searchOutline 30 = .ok (.aload_n 0, 1) := by decide +kernel
theorem dc_T_searchOutline_31 : decode bc_T_searchOutline 31 = .ok (.aload_n 3, 1) := by decide +kernel
theorem dc_T_searchOutline_32 : decode bc_T_searchOutline 32 = .ok (.iload 4, 2) := by decide +kernel
theorem dc_T_searchOutline_34 : decode bc_T_searchOutline 34 = .ok (.iload_n 2, 1) := by decide +kernel
theorem dc_T_searchOutline_35 : decode bc_T_searchOutline 35 = .ok (.invokevirtual 216, 3) := by decide +kernel
theorem dc_T_searchOutline_38 : decode bc_T_searchOutline 38 = .ok (.istore 5, 2) := by decide +kernel
theorem dc_T_searchOutline_40 : decode bc_T_searchOutline 40 = .ok (.iload 4, 2) := by decide +kernel
theorem dc_T_searchOutline_42 : decode bc_T_searchOutline 42 = .ok (.iconst 1, 1) := by decide +kernel
theorem dc_T_searchOutline_43 : decode bc_T_searchOutline 43 = .ok (.iadd, 1) := by decide +kernel
theorem dc_T_searchOutline_44 : decode bc_T_searchOutline 44 = .ok (.istore 6, 2) := by decide +kernel
theorem dc_T_searchOutline_46 : decode bc_T_searchOutline 46 = .ok (.iload 6, 2) := by decide +kernel
theorem dc_T_searchOutline_48 : decode bc_T_searchOutline 48 = .ok (.aload_n 3, 1) := by decide +kernel
theorem dc_T_searchOutline_49 : decode bc_T_searchOutline 49 = .ok (.getfield 84, 3) := by decide +kernel
theorem dc_T_searchOutline_52 : decode bc_T_searchOutline 52 = .ok (.if_icmp .ge 41, 3) := by decide +kernel
theorem dc_T_searchOutline_55 : decode bc_T_searchOutline 55 = .ok (.iload 5, 2) := by decide +kernel
theorem dc_T_searchOutline_57 : decode bc_T_searchOutline 57 = .ok (.iload 6, 2) := by decide +kernel
theorem dc_T_searchOutline_59 : decode bc_T_searchOutline 59 = .ok (.ishr, 1) := by decide +kernel
theorem dc_T_searchOutline_60 : decode bc_T_searchOutline 60 = .ok (.iconst 1, 1) := by decide +kernel
theorem dc_T_searchOutline_61 : decode bc_T_searchOutline 61 = .ok (.iand, 1) := by decide +kernel
theorem dc_T_searchOutline_62 : decode bc_T_searchOutline 62 = .ok (.iconst 1, 1) := by decide +kernel
theorem dc_T_searchOutline_63 : decode bc_T_searchOutline 63 = .ok (.if_icmp .ne 24, 3) := by decide +kernel
theorem dc_T_searchOutline_66 : decode bc_T_searchOutline 66 = .ok (.aload_n 0, 1) := by decide +kernel
theorem dc_T_searchOutline_67 : decode bc_T_searchOutline 67 = .ok (.iload_n 1, 1) := by decide +kernel
theorem dc_T_searchOutline_68 : decode bc_T_searchOutline 68 = .ok (.iload 4, 2) := by decide +kernel
theorem dc_T_searchOutline_70 : decode bc_T_searchOutline 70 = .ok (.iload 6, 2) := by decide +kernel
theorem dc_T_searchOutline_72 : decode bc_T_searchOutline 72 = .ok (.iload 4, 2) := by decide +kernel
theorem dc_T_searchOutline_74 : decode bc_T_searchOutline 74 = .ok (.isub, 1) := by decide +kernel
theorem dc_T_searchOutline_75 : decode bc_T_searchOutline 75 = .ok (.iconst 1, 1) := by decide +kernel
theorem dc_T_searchOutline_76 : decode bc_T_searchOutline 76 = .ok (.iadd, 1) := by decide +kernel
theorem dc_T_searchOutline_77 : decode bc_T_searchOutline 77 = .ok (.aload_n 0, 1) := by decide +kernel
theorem dc_T_searchOutline_78 : decode bc_T_searchOutline 78 = .ok (.getfield 21, 3) := by decide +kernel
theorem dc_T_searchOutline_81 : decode bc_T_searchOutline 81 = .ok (.getfield 84, 3) := by decide +kernel
theorem dc_T_searchOutline_84 : decode bc_T_searchOutline 84 = .ok (.invokevirtual 205, 3) := by decide +kernel
theorem dc_T_searchOutline_87 : decode bc_T_searchOutline 87 = .ok (.iinc 6 1, 3) := by decide +kernel
theorem dc_T_searchOutline_90 : decode bc_T_searchOutline 90 = .ok (.goto (-44), 3) := by decide +kernel
theorem dc_T_searchOutline_93 : decode bc_T_searchOutline 93 = .ok (.iinc 4 1, 3) := by decide +kernel
theorem dc_T_searchOutline_96 : decode bc_T_searchOutline 96 = .ok (.goto (-83), 3) := by decide +kernel
theorem dc_T_searchOutline_99 : decode bc_T_searchOutline 99 = .ok (.return_, 1) := by decide +kernel
theorem dc_T_outlineEnds_0 : decode bc_T_outlineEnds 0 = .ok (.aload_n 1, 1) := by decide +kernel
theorem dc_T_outlineEnds_1 : decode bc_T_outlineEnds 1 = .ok (.getfield 219, 3) := by decide +kernel
theorem dc_T_outlineEnds_4 : decode bc_T_outlineEnds 4 = .ok (.iload_n 2, 1) := by decide +kernel
theorem dc_T_outlineEnds_5 : decode bc_T_outlineEnds 5 = .ok (.iaload, 1) := by decide +kernel
theorem dc_T_outlineEnds_6 : decode bc_T_outlineEnds 6 = .ok (.aload_n 0, 1) := by decide +kernel
theorem dc_T_outlineEnds_7 : decode bc_T_outlineEnds 7 = .ok (.getfield 21, 3) := by decide +kernel
theorem dc_T_outlineEnds_10 : decode bc_T_outlineEnds 10 = .ok (.getfield 219, 3) := by decide +kernel
theorem dc_T_outlineEnds_13 : decode bc_T_outlineEnds 13 = .ok (.iconst 0, 1) := by decide +kernel
theorem dc_T_outlineEnds_14 : decode bc_T_outlineEnds 14 = .ok (.iaload, 1) := by decide +kernel
theorem dc_T_outlineEnds_15 : decode bc_T_outlineEnds 15 = .ok (.isub, 1) := by decide +kernel
theorem dc_T_outlineEnds_16 : decode bc_T_outlineEnds 16 = .ok (.istore 4, 2) := by decide +kernel
theorem dc_T_outlineEnds_18 : decode bc_T_outlineEnds 18 = .ok (.iconst 1, 1) := by decide +kernel
theorem dc_T_outlineEnds_19 : decode bc_T_outlineEnds 19 = .ok (.iload_n 2, 1) := by decide +kernel
theorem dc_T_outlineEnds_20 : decode bc_T_outlineEnds 20 = .ok (.ishl, 1) := by decide +kernel
theorem dc_T_outlineEnds_21 : decode bc_T_outlineEnds 21 = .ok (.istore 5, 2) := by decide +kernel
theorem dc_T_outlineEnds_23 : decode bc_T_outlineEnds 23 = .ok (.iconst 1, 1) := by decide +kernel
theorem dc_T_outlineEnds_24 : decode bc_T_outlineEnds 24 = .ok (.istore 6, 2) := by decide +kernel
theorem dc_T_outlineEnds_26 : decode bc_T_outlineEnds 26 = .ok (.iload 6, 2) := by decide +kernel
theorem dc_T_outlineEnds_28 : decode bc_T_outlineEnds 28 = .ok (.aload_n 0, 1) := by decide +kernel
theorem dc_T_outlineEnds_29 : decode bc_T_outlineEnds 29 = .ok (.getfield 21, 3) := by decide +kernel
theorem dc_T_outlineEnds_32 : decode bc_T_outlineEnds 32 = .ok (.getfield 84, 3) := by decide +kernel
theorem dc_T_outlineEnds_35 : decode bc_T_outlineEnds 35 = .ok (.if_icmp .ge 61, 3) := by decide +kernel
theorem dc_T_outlineEnds_38 : decode bc_T_outlineEnds 38 = .ok (.iconst 0, 1) := by decide +kernel
theorem dc_T_outlineEnds_39 : decode bc_T_outlineEnds 39 = .ok (.istore 7, 2) := by decide +kernel
theorem dc_T_outlineEnds_41 : decode bc_T_outlineEnds 41 = .ok (.iconst 1, 1) := by decide +kernel
theorem dc_T_outlineEnds_42 : decode bc_T_outlineEnds 42 = .ok (.istore 8, 2) := by decide +kernel
theorem dc_T_outlineEnds_44 : decode bc_T_outlineEnds 44 = .ok (.iload 8, 2) := by decide +kernel
theorem dc_T_outlineEnds_46 : decode bc_T_outlineEnds 46 = .ok (.iload_n 3, 1) := by decide +kernel
theorem dc_T_outlineEnds_47 : decode bc_T_outlineEnds 47 = .ok (.iconst 1, 1) := by decide +kernel
theorem dc_T_outlineEnds_48 : decode bc_T_outlineEnds 48 = .ok (.iadd, 1) := by decide +kernel
theorem dc_T_outlineEnds_49 : decode bc_T_outlineEnds 49 = .ok (.if_icmp .gt 19, 3) := by decide +kernel
theorem dc_T_outlineEnds_52 : decode bc_T_outlineEnds 52 = .ok (.iload 7, 2) := by decide +kernel
theorem dc_T_outlineEnds_54 : decode bc_T_outlineEnds 54 = .ok (.iload 5, 2) := by decide +kernel
theorem dc_T_outlineEnds_56 : decode bc_T_outlineEnds 56 = .ok (.iload 8, 2) := by decide +kernel
theorem dc_T_outlineEnds_58 : decode bc_T_outlineEnds 58 = .ok (.ishl, 1) := by decide +kernel
theorem dc_T_outlineEnds_59 : decode bc_T_outlineEnds 59 = .ok (.ior, 1) := by decide +kernel
theorem dc_T_outlineEnds_60 : decode bc_T_outlineEnds 60 = .ok (.istore 7, 2) := by decide +kernel
theorem dc_T_outlineEnds_62 : decode bc_T_outlineEnds 62 = .ok (.iinc 8 1, 3) := by decide +kernel
theorem dc_T_outlineEnds_65 : decode bc_T_outlineEnds 65 = .ok (.goto (-21), 3) := by decide +kernel
theorem dc_T_outlineEnds_68 : decode bc_T_outlineEnds 68 = .ok (.iload 7, 2) := by decide +kernel
theorem dc_T_outlineEnds_70 : decode bc_T_outlineEnds 70 = .ok (.aload_n 1, 1) := by decide +kernel
theorem dc_T_outlineEnds_71 : decode bc_T_outlineEnds 71 = .ok (.aload_n 0, 1) := by decide +kernel
theorem dc_T_outlineEnds_72 : decode bc_T_outlineEnds 72 = .ok (.getfield 21, 3) := by decide +kernel
theorem dc_T_outlineEnds_75 : decode bc_T_outlineEnds 75 = .ok (.getfield 219, 3) := by decide +kernel
theorem dc_T_outlineEnds_78 : decode bc_T_outlineEnds 78 = .ok (.iload 6, 2) := by decide +kernel
theorem dc_T_outlineEnds_80 : decode bc_T_outlineEnds 80 = .ok (.iaload, 1) := by decide +kernel
theorem dc_T_outlineEnds_81 : decode bc_T_outlineEnds 81 = .ok (.iload 4, 2) := by decide +kernel
theorem dc_T_outlineEnds_83 : decode bc_T_outlineEnds 83 = .ok (.iadd, 1) := by decide +kernel
theorem dc_T_outlineEnds_84 : decode bc_T_outlineEnds 84 = .ok (.invokevirtual 222, 3) := by decide +kernel
theorem dc_T_outlineEnds_87 : decode bc_T_outlineEnds 87 = .ok (.iand, 1) := by decide +kernel
theorem dc_T_outlineEnds_88 : decode bc_T_outlineEnds 88 = .ok (.istore 5, 2) := by decide +kernel
theorem dc_T_outlineEnds_90 : decode bc_T_outlineEnds 90 = .ok (.iinc 6 1, 3) := by decide +kernel
theorem dc_T_outlineEnds_93 : decode bc_T_outlineEnds 93 = .ok (.goto (-67), 3) := by decide +kernel
theorem dc_T_outlineEnds_96 : decode bc_T_outlineEnds 96 = .ok (.iload 5, 2) := by decide +kernel
theorem dc_T_outlineEnds_98 : decode bc_T_outlineEnds 98 = .ok (.ireturn, 1) := by decide +kernel
theorem dc_T_offer_0 : decode bc_T_offer 0 = .ok (.aload_n 0, 1) := by decide +kernel
theorem dc_T_offer_1 : decode bc_T_offer 1 = .ok (.getfield 11, 3) := by decide +kernel
theorem dc_T_offer_4 : decode bc_T_offer 4 = .ok (.iload_n 1, 1) := by decide +kernel
theorem dc_T_offer_5 : decode bc_T_offer 5 = .ok (.aaload, 1) := by decide +kernel
theorem dc_T_offer_6 : decode bc_T_offer 6 = .ok (.getfield 81, 3) := by decide +kernel
theorem dc_T_offer_9 : decode bc_T_offer 9 = .ok (.getfield 219, 3) := by decide +kernel
theorem dc_T_offer_12 : decode bc_T_offer 12 = .ok (.iload_n 2, 1) := by decide +kernel
theorem dc_T_offer_13 : decode bc_T_offer 13 = .ok (.iaload, 1) := by decide +kernel
theorem dc_T_offer_14 : decode bc_T_offer 14 = .ok (.aload_n 0, 1) := by decide +kernel
theorem dc_T_offer_15 : decode bc_T_offer 15 = .ok (.getfield 21, 3) := by decide +kernel
theorem dc_T_offer_18 : decode bc_T_offer 18 = .ok (.getfield 219, 3) := by decide +kernel
theorem dc_T_offer_21 : decode bc_T_offer 21 = .ok (.iconst 0, 1) := by decide +kernel
theorem dc_T_offer_22 : decode bc_T_offer 22 = .ok (.iaload, 1) := by decide +kernel
theorem dc_T_offer_23 : decode bc_T_offer 23 = .ok (.isub, 1) := by decide +kernel
theorem dc_T_offer_24 : decode bc_T_offer 24 = .ok (.istore 5, 2) := by decide +kernel
theorem dc_T_offer_26 : decode bc_T_offer 26 = .ok (.aload_n 0, 1) := by decide +kernel
theorem dc_T_offer_27 : decode bc_T_offer 27 = .ok (.getfield 28, 3) := by decide +kernel
theorem dc_T_offer_30 : decode bc_T_offer 30 = .ok (.iload_n 1, 1) := by decide +kernel
theorem dc_T_offer_31 : decode bc_T_offer 31 = .ok (.iload_n 2, 1) := by decide +kernel
theorem dc_T_offer_32 : decode bc_T_offer 32 = .ok (.iload_n 3, 1) := by decide +kernel
theorem dc_T_offer_33 : decode bc_T_offer 33 = .ok (.iload 5, 2) := by decide +kernel
theorem dc_T_offer_35 : decode bc_T_offer 35 = .ok (.iload 4, 2) := by decide +kernel
theorem dc_T_offer_37 : decode bc_T_offer 37 = .ok (.invokevirtual 241, 3) := by decide +kernel
theorem dc_T_offer_40 : decode bc_T_offer 40 = .ok (.return_, 1) := by decide +kernel
theorem dc_T_searchNear_0 : decode bc_T_searchNear 0 = .ok (.aload_n 0, 1) := by decide +kernel
theorem dc_T_searchNear_1 : decode bc_T_searchNear 1 = .ok (.getfield 11, 3) := by decide +kernel
theorem dc_T_searchNear_4 : decode bc_T_searchNear 4 = .ok (.iload_n 1, 1) := by decide +kernel
theorem dc_T_searchNear_5 : decode bc_T_searchNear 5 = .ok (.aaload, 1) := by decide +kernel
theorem dc_T_searchNear_6 : decode bc_T_searchNear 6 = .ok (.getfield 81, 3) := by decide +kernel
theorem dc_T_searchNear_9 : decode bc_T_searchNear 9 = .ok (.astore_n 3, 1) := by decide +kernel
theorem dc_T_searchNear_10 : decode bc_T_searchNear 10 = .ok (.aload_n 0, 1) := by decide +kernel
theorem dc_T_searchNear_11 : decode bc_T_searchNear 11 = .ok (.getfield 35, 3) := by decide +kernel
theorem dc_T_searchNear_14 : decode bc_T_searchNear 14 = .ok (.aload_n 0, 1) := by decide +kernel
theorem dc_T_searchNear_15 : decode bc_T_searchNear 15 = .ok (.getfield 21, 3) := by decide +kernel
theorem dc_T_searchNear_18 : decode bc_T_searchNear 18 = .ok (.aload_n 3, 1) := by decide +kernel
theorem dc_T_searchNear_19 : decode bc_T_searchNear 19 = .ok (.iload_n 2, 1) := by decide +kernel
theorem dc_T_searchNear_20 : decode bc_T_searchNear 20 = .ok (.invokevirtual 225, 3) := by decide +kernel
theorem dc_T_searchNear_23 : decode bc_T_searchNear 23 = .ok (.iconst 0, 1) := by decide +kernel
theorem dc_T_searchNear_24 : decode bc_T_searchNear 24 = .ok (.istore 4, 2) := by decide +kernel
theorem dc_T_searchNear_26 : decode bc_T_searchNear 26 = .ok (.iload 4, 2) := by decide +kernel
theorem dc_T_searchNear_28 : decode bc_T_searchNear 28 = .ok (.iconst 2, 1) := by decide +kernel
theorem dc_T_searchNear_29 : decode bc_T_searchNear 29 = .ok (.iadd, 1) := by decide +kernel
theorem dc_T_searchNear_30 : decode bc_T_searchNear 30 = .ok (.aload_n 3, 1) := by decide +kernel
theorem dc_T_searchNear_31 : decode bc_T_searchNear 31 = .ok (.getfield 84, 3) := by decide +kernel
theorem dc_T_searchNear_34 : decode bc_T_searchNear 34 = .ok (.if_icmp .gt 88, 3) := by decide +kernel
theorem dc_T_searchNear_37 : decode bc_T_searchNear 37 = .ok (.aload_n 0, 1) := by decide +kernel
theorem dc_T_searchNear_38 : decode bc_T_searchNear 38 = .ok (.getfield 35, 3) := by decide +kernel
theorem dc_T_searchNear_41 : decode bc_T_searchNear 41 = .ok (.aload_n 0, 1) := by decide +kernel
theorem dc_T_searchNear_42 : decode bc_T_searchNear 42 = .ok (.getfield 21, 3) := by decide +kernel
theorem dc_T_searchNear_45 : decode bc_T_searchNear 45 = .ok (.aload_n 3, 1) := by decide +kernel
theorem dc_T_searchNear_46 : decode bc_T_searchNear 46 = .ok (.iload 4, 2) := by decide +kernel
theorem dc_T_searchNear_48 : decode bc_T_searchNear 48 = .ok (.invokevirtual 228, 3) := by decide +kernel
theorem dc_T_searchNear_51 : decode bc_T_searchNear 51 = .ok (.iconst 2, 1) := by decide +kernel
theorem dc_T_searchNear_52 : decode bc_T_searchNear 52 = .ok (.istore 5, 2) := by decide +kernel
theorem dc_T_searchNear_54 : decode bc_T_searchNear 54 = .ok (.iload 5, 2) := by decide +kernel
theorem dc_T_searchNear_56 : decode bc_T_searchNear 56 = .ok (.aload_n 0, 1) := by decide +kernel
theorem dc_T_searchNear_57 : decode bc_T_searchNear 57 = .ok (.getfield 35, 3) := by decide +kernel
theorem dc_T_searchNear_60 : decode bc_T_searchNear 60 = .ok (.getfield 231, 3) := by decide +kernel
theorem dc_T_searchNear_63 : decode bc_T_searchNear 63 = .ok (.if_icmp .gt 53, 3) := by decide +kernel
theorem dc_T_searchNear_66 : decode bc_T_searchNear 66 = .ok (.iload 4, 2) := by decide +kernel
theorem dc_T_searchNear_68 : decode bc_T_searchNear 68 = .ok (.iload 5, 2) := by decide +kernel
theorem dc_T_searchNear_70 : decode bc_T_searchNear 70 = .ok (.iadd, 1) := by decide +kernel
theorem dc_T_searchNear_71 : decode bc_T_searchNear 71 = .ok (.aload_n 3, 1) := by decide +kernel
theorem dc_T_searchNear_72 : decode bc_T_searchNear 72 = .ok (.getfield 84, 3) := by decide +kernel
theorem dc_T_searchNear_75 : decode bc_T_searchNear 75 = .ok (.if_icmp .gt 41, 3) := by decide +kernel
theorem dc_T_searchNear_78 : decode bc_T_searchNear 78 = .ok (.aload_n 0, 1) := by decide +kernel
theorem dc_T_searchNear_79 : decode bc_T_searchNear 79 = .ok (.getfield 35, 3) := by decide +kernel
theorem dc_T_searchNear_82 : decode bc_T_searchNear 82 = .ok (.iload 5, 2) := by decide +kernel
theorem dc_T_searchNear_84 : decode bc_T_searchNear 84 = .ok (.invokevirtual 234, 3) := by decide +kernel
theorem dc_T_searchNear_87 : decode bc_T_searchNear 87 = .ok (.ifCond .eq 23, 3) := by decide +kernel
theorem dc_T_searchNear_90 : decode bc_T_searchNear 90 = .ok (.aload_n 0, 1) := by decide +kernel
theorem dc_T_searchNear_91 : decode bc_T_searchNear 91 = .ok (.iload_n 1, 1) := by decide +kernel
theorem dc_T_searchNear_92 : decode bc_T_searchNear 92 = .ok (.iload 4, 2) := by decide +kernel
theorem dc_T_searchNear_94 : decode bc_T_searchNear 94 = .ok (.iload 5, 2) := by decide +kernel
theorem dc_T_searchNear_96 : decode bc_T_searchNear 96 = .ok (.aload_n 0, 1) := by decide +kernel
theorem dc_T_searchNear_97 : decode bc_T_searchNear 97 = .ok (.getfield 35, 3) := by decide +kernel
theorem dc_T_searchNear_100 : decode bc_T_searchNear 100 = .ok (.iload 5, 2) := by decide +kernel
theorem dc_T_searchNear_102 : decode bc_T_searchNear 102 = .ok (.invokevirtual 238, 3) := by decide +kernel
theorem dc_T_searchNear_105 : decode bc_T_searchNear 105 = .ok (.iconst 1, 1) := by decide +kernel
theorem dc_T_searchNear_106 : decode bc_T_searchNear 106 = .ok (.iadd, 1) := by decide +kernel
theorem dc_T_searchNear_107 : decode bc_T_searchNear 107 = .ok (.invokevirtual 205, 3) := by decide +kernel
theorem dc_T_searchNear_110 : decode bc_T_searchNear 110 = .ok (.iinc 5 1, 3) := by decide +kernel
theorem dc_T_searchNear_113 : decode bc_T_searchNear 113 = .ok (.goto (-59), 3) := by decide +kernel
theorem dc_T_searchNear_116 : decode bc_T_searchNear 116 = .ok (.iinc 4 1, 3) := by decide +kernel
theorem dc_T_searchNear_119 : decode bc_T_searchNear 119 = .ok (.goto (-93), 3) := by decide +kernel
theorem dc_T_searchNear_122 : decode bc_T_searchNear 122 = .ok (.return_, 1) := by decide +kernel
theorem dc_T_searchNoteByNote_0 : decode bc_T_searchNoteByNote 0 = .ok (.aload_n 0, 1) := by decide +kernel
theorem dc_T_searchNoteByNote_1 : decode bc_T_searchNoteByNote 1 = .ok (.getfield 11, 3) := by decide +kernel
theorem dc_T_searchNoteByNote_4 : decode bc_T_searchNoteByNote 4 = .ok (.iload_n 1, 1) := by decide +kernel
theorem dc_T_searchNoteByNote_5 : decode bc_T_searchNoteByNote 5 = .ok (.aaload, 1) := by decide +kernel
theorem dc_T_searchNoteByNote_6 : decode bc_T_searchNoteByNote 6 = .ok (.getfield 81, 3) := by decide +kernel
theorem dc_T_searchNoteByNote_9 : decode bc_T_searchNoteByNote 9 = .ok (.astore_n 3, 1) := by decide +kernel
theorem dc_T_searchNoteByNote_10 : decode bc_T_searchNoteByNote 10 = .ok (.iconst 0, 1) := by decide +kernel
theorem dc_T_searchNoteByNote_11 : decode bc_T_searchNoteByNote 11 = .ok (.istore 4, 2) := by decide +kernel
theorem dc_T_searchNoteByNote_13 : decode bc_T_searchNoteByNote 13 = .ok (.iload 4, 2) := by decide +kernel
theorem dc_T_searchNoteByNote_15 : decode bc_T_searchNoteByNote 15 = .ok (.aload_n 0, 1) := by decide +kernel
theorem dc_T_searchNoteByNote_16 : decode bc_T_searchNoteByNote 16 = .ok (.getfield 21, 3) := by decide +kernel
theorem dc_T_searchNoteByNote_19 : decode bc_T_searchNoteByNote 19 = .ok (.getfield 84, 3) := by decide +kernel
theorem dc_T_searchNoteByNote_22 : decode bc_T_searchNoteByNote 22 = .ok (.iadd, 1) := by decide +kernel
theorem dc_T_searchNoteByNote_23 : decode bc_T_searchNoteByNote 23 = .ok (.aload_n 3, 1) := by decide +kernel
theorem dc_T_searchNoteByNote_24 : decode bc_T_searchNoteByNote 24 = .ok (.getfield 84, 3) := by decide +kernel
theorem dc_T_searchNoteByNote_27 : decode bc_T_searchNoteByNote 27 = .ok (.if_icmp .gt 41, 3) := by decide +kernel
theorem dc_T_searchNoteByNote_30 : decode bc_T_searchNoteByNote 30 = .ok (.aload_n 0, 1) := by decide +kernel
theorem dc_T_searchNoteByNote_31 : decode bc_T_searchNoteByNote 31 = .ok (.iload_n 2, 1) := by decide +kernel
theorem dc_T_searchNoteByNote_32 : decode bc_T_searchNoteByNote 32 = .ok (.aload_n 3, 1) := by decide +kernel
theorem dc_T_searchNoteByNote_33 : decode bc_T_searchNoteByNote 33 = .ok (.iload 4, 2) := by decide +kernel
theorem dc_T_searchNoteByNote_35 : decode bc_T_searchNoteByNote 35 = .ok (.invokevirtual 201, 3) := by decide +kernel
theorem dc_T_searchNoteByNote_38 : decode bc_T_searchNoteByNote 38 = .ok (.ifCond .eq 24, 3) := by decide +kernel
theorem dc_T_searchNoteByNote_41 : decode bc_T_searchNoteByNote 41 = .ok (.aload_n 0, 1) := by decide +kernel
theorem dc_T_searchNoteByNote_42 : decode bc_T_searchNoteByNote 42 = .ok (.iload_n 1, 1) := by decide +kernel
theorem dc_T_searchNoteByNote_43 : decode bc_T_searchNoteByNote 43 = .ok (.iload 4, 2) := by decide +kernel
theorem dc_T_searchNoteByNote_45 : decode bc_T_searchNoteByNote 45 = .ok (.aload_n 0, 1) := by decide +kernel
theorem dc_T_searchNoteByNote_46 : decode bc_T_searchNoteByNote 46 = .ok (.getfield 21, 3) := by decide +kernel
theorem dc_T_searchNoteByNote_49 : decode bc_T_searchNoteByNote 49 = .ok (.getfield 84, 3) := by decide +kernel
theorem dc_T_searchNoteByNote_52 : decode bc_T_searchNoteByNote 52 = .ok (.aload_n 0, 1) := by decide +kernel
theorem dc_T_searchNoteByNote_53 : decode bc_T_searchNoteByNote 53 = .ok (.getfield 21, 3) := by decide +kernel
theorem dc_T_searchNoteByNote_56 : decode bc_T_searchNoteByNote 56 = .ok (.getfield 84, 3) := by decide +kernel
theorem dc_T_searchNoteByNote_59 : decode bc_T_searchNoteByNote 59 = .ok (.invokevirtual 205, 3) := by decide +kernel
theorem dc_T_searchNoteByNote_62 : decode bc_T_searchNoteByNote 62 = .ok (.iinc 4 1, 3) := by decide +kernel
theorem dc_T_searchNoteByNote_65 : decode bc_T_searchNoteByNote 65 = .ok (.goto (-52), 3) := by decide +kernel
theorem dc_T_searchNoteByNote_68 : decode bc_T_searchNoteByNote 68 = .ok (.return_, 1) := by decide +kernel
theorem dc_T_fits_0 : decode bc_T_fits 0 = .ok (.iload_n 1, 1) := by decide +kernel
theorem dc_T_fits_1 : decode bc_T_fits 1 = .ok (.tableswitch 91 0 2 #[27, 64, 81], 27) := by decide +kernel
theorem dc_T_fits_28 : decode bc_T_fits 28 = .ok (.aload_n 0, 1) := by decide +kernel
theorem dc_T_fits_29 : decode bc_T_fits 29 = .ok (.getfield 21, 3) := by decide +kernel
theorem dc_T_fits_32 : decode bc_T_fits 32 = .ok (.aload_n 0, 1) := by decide +kernel
theorem dc_T_fits_33 : decode bc_T_fits 33 = .ok (.getfield 21, 3) := by decide +kernel
theorem dc_T_fits_36 : decode bc_T_fits 36 = .ok (.getfield 84, 3) := by decide +kernel
theorem dc_T_fits_39 : decode bc_T_fits 39 = .ok (.aload_n 2, 1) := by decide +kernel
theorem dc_T_fits_40 : decode bc_T_fits 40 = .ok (.iload_n 3, 1) := by decide +kernel
theorem dc_T_fits_41 : decode bc_T_fits 41 = .ok (.invokestatic 181, 3) := by decide +kernel
theorem dc_T_fits_44 : decode bc_T_fits 44 = .ok (.ifCond .eq 19, 3) := by decide +kernel
theorem dc_T_fits_47 : decode bc_T_fits 47 = .ok (.aload_n 0, 1) := by decide +kernel
theorem dc_T_fits_48 : decode bc_T_fits 48 = .ok (.getfield 21, 3) := by decide +kernel
theorem dc_T_fits_51 : decode bc_T_fits 51 = .ok (.aload_n 2, 1) := by decide +kernel
theorem dc_T_fits_52 : decode bc_T_fits 52 = .ok (.iload_n 3, 1) := by decide +kernel
theorem dc_T_fits_53 : decode bc_T_fits 53 = .ok (.invokestatic 209, 3) := by decide +kernel
theorem dc_T_fits_56 : decode bc_T_fits 56 = .ok (.ifCond .eq 7, 3) := by decide +kernel
theorem dc_T_fits_59 : decode bc_T_fits 59 = .ok (.iconst 1, 1) := by decide +kernel
theorem dc_T_fits_60 : decode bc_T_fits 60 = .ok (.goto 4, 3) := by decide +kernel
theorem dc_T_fits_63 : decode bc_T_fits 63 = .ok (.iconst 0, 1) := by decide +kernel
theorem dc_T_fits_64 : decode bc_T_fits 64 = .ok (.ireturn, 1) := by decide +kernel
theorem dc_T_fits_65 : decode bc_T_fits 65 = .ok (.aload_n 0, 1) := by decide +kernel
theorem dc_T_fits_66 : decode bc_T_fits 66 = .ok (.getfield 21, 3) := by decide +kernel
theorem dc_T_fits_69 : decode bc_T_fits 69 = .ok (.aload_n 0, 1) := by decide +kernel
theorem dc_T_fits_70 : decode bc_T_fits 70 = .ok (.getfield 21, 3) := by decide +kernel
theorem dc_T_fits_73 : decode bc_T_fits 73 = .ok (.getfield 84, 3) := by decide +kernel
theorem dc_T_fits_76 : decode bc_T_fits 76 = .ok (.aload_n 2, 1) := by decide +kernel
theorem dc_T_fits_77 : decode bc_T_fits 77 = .ok (.iload_n 3, 1) := by decide +kernel
theorem dc_T_fits_78 : decode bc_T_fits 78 = .ok (.invokestatic 181, 3) := by decide +kernel
theorem dc_T_fits_81 : decode bc_T_fits 81 = .ok (.ireturn, 1) := by decide +kernel
theorem dc_T_fits_82 : decode bc_T_fits 82 = .ok (.aload_n 0, 1) := by decide +kernel
theorem dc_T_fits_83 : decode bc_T_fits 83 = .ok (.getfield 21, 3) := by decide +kernel
theorem dc_T_fits_86 : decode bc_T_fits 86 = .ok (.aload_n 2, 1) := by decide +kernel
theorem dc_T_fits_87 : decode bc_T_fits 87 = .ok (.iload_n 3, 1) := by decide +kernel
theorem dc_T_fits_88 : decode bc_T_fits 88 = .ok (.invokestatic 213, 3) := by decide +kernel
theorem dc_T_fits_91 : decode bc_T_fits 91 = .ok (.ireturn, 1) := by decide +kernel
theorem dc_T_fits_92 : decode bc_T_fits 92 = .ok (.aload_n 0, 1) := by decide +kernel
theorem dc_T_fits_93 : decode bc_T_fits 93 = .ok (.getfield 21, 3) := by decide +kernel
theorem dc_T_fits_96 : decode bc_T_fits 96 = .ok (.aload_n 2, 1) := by decide +kernel
theorem dc_T_fits_97 : decode bc_T_fits 97 = .ok (.iload_n 3, 1) := by decide +kernel
theorem dc_T_fits_98 : decode bc_T_fits 98 = .ok (.invokestatic 209, 3) := by decide +kernel
theorem dc_T_fits_101 : decode bc_T_fits 101 = .ok (.ireturn, 1) := by decide +kernel
theorem dc_T_sameSteps_0 : decode bc_T_sameSteps 0 = .ok (.iconst 0, 1) := by decide +kernel
theorem dc_T_sameSteps_1 : decode bc_T_sameSteps 1 = .ok (.istore 4, 2) := by decide +kernel
theorem dc_T_sameSteps_3 : decode bc_T_sameSteps 3 = .ok (.iload 4, 2) := by decide +kernel
theorem dc_T_sameSteps_5 : decode bc_T_sameSteps 5 = .ok (.iconst 1, 1) := by decide +kernel
theorem dc_T_sameSteps_6 : decode bc_T_sameSteps 6 = .ok (.iadd, 1) := by decide +kernel
theorem dc_T_sameSteps_7 : decode bc_T_sameSteps 7 = .ok (.iload_n 1, 1) := by decide +kernel
theorem dc_T_sameSteps_8 : decode bc_T_sameSteps 8 = .ok (.if_icmp .ge 28, 3) := by decide +kernel
theorem dc_T_sameSteps_11 : decode bc_T_sameSteps 11 = .ok (.aload_n 0, 1) := by decide +kernel
theorem dc_T_sameSteps_12 : decode bc_T_sameSteps 12 = .ok (.iload 4, 2) := by decide +kernel
theorem dc_T_sameSteps_14 : decode bc_T_sameSteps 14 = .ok (.invokevirtual 121, 3) := by decide +kernel
theorem dc_T_sameSteps_17 : decode bc_T_sameSteps 17 = .ok (.aload_n 2, 1) := by decide +kernel
theorem dc_T_sameSteps_18 : decode bc_T_sameSteps 18 = .ok (.iload_n 3, 1) := by decide +kernel
theorem dc_T_sameSteps_19 : decode bc_T_sameSteps 19 = .ok (.iload 4, 2) := by decide +kernel
theorem dc_T_sameSteps_21 : decode bc_T_sameSteps 21 = .ok (.iadd, 1) := by decide +kernel
theorem dc_T_sameSteps_22 : decode bc_T_sameSteps 22 = .ok (.invokevirtual 121, 3) := by decide +kernel
theorem dc_T_sameSteps_25 : decode bc_T_sameSteps 25 = .ok (.if_icmp .eq 5, 3) := by decide +kernel
theorem dc_T_sameSteps_28 : decode bc_T_sameSteps 28 = .ok (.iconst 0, 1) := by decide +kernel
theorem dc_T_sameSteps_29 : decode bc_T_sameSteps 29 = .ok (.ireturn, 1) := by decide +kernel
theorem dc_T_sameSteps_30 : decode bc_T_sameSteps 30 = .ok (.iinc 4 1, 3) := by decide +kernel
theorem dc_T_sameSteps_33 : decode bc_T_sameSteps 33 = .ok (.goto (-30), 3) := by decide +kernel
theorem dc_T_sameSteps_36 : decode bc_T_sameSteps 36 = .ok (.iconst 1, 1) := by decide +kernel
theorem dc_T_sameSteps_37 : decode bc_T_sameSteps 37 = .ok (.ireturn, 1) := by decide +kernel
theorem dc_T_sameRatio_0 : decode bc_T_sameRatio 0 = .ok (.iconst 1, 1) := by decide +kernel
theorem dc_T_sameRatio_1 : decode bc_T_sameRatio 1 = .ok (.istore_n 3, 1) := by decide +kernel
theorem dc_T_sameRatio_2 : decode bc_T_sameRatio 2 = .ok (.iload_n 3, 1) := by decide +kernel
theorem dc_T_sameRatio_3 : decode bc_T_sameRatio 3 = .ok (.aload_n 0, 1) := by decide +kernel
theorem dc_T_sameRatio_4 : decode bc_T_sameRatio 4 = .ok (.getfield 84, 3) := by decide +kernel
theorem dc_T_sameRatio_7 : decode bc_T_sameRatio 7 = .ok (.if_icmp .ge 42, 3) := by decide +kernel
theorem dc_T_sameRatio_10 : decode bc_T_sameRatio 10 = .ok (.aload_n 0, 1) := by decide +kernel
theorem dc_T_sameRatio_11 : decode bc_T_sameRatio 11 = .ok (.getfield 250, 3) := by decide +kernel
theorem dc_T_sameRatio_14 : decode bc_T_sameRatio 14 = .ok (.iload_n 3, 1) := by decide +kernel
theorem dc_T_sameRatio_15 : decode bc_T_sameRatio 15 = .ok (.iaload, 1) := by decide +kernel
theorem dc_T_sameRatio_16 : decode bc_T_sameRatio 16 = .ok (.aload_n 1, 1) := by decide +kernel
theorem dc_T_sameRatio_17 : decode bc_T_sameRatio 17 = .ok (.getfield 250, 3) := by decide +kernel
theorem dc_T_sameRatio_20 : decode bc_T_sameRatio 20 = .ok (.iload_n 2, 1) := by decide +kernel
theorem dc_T_sameRatio_21 : decode bc_T_sameRatio 21 = .ok (.iaload, 1) := by decide +kernel
theorem dc_T_sameRatio_22 : decode bc_T_sameRatio 22 = .ok (.imul, 1) := by decide +kernel
theorem dc_T_sameRatio_23 : decode bc_T_sameRatio 23 = .ok (.aload_n 1, 1) := by decide +kernel
theorem dc_T_sameRatio_24 : decode bc_T_sameRatio 24 = .ok (.getfield 250, 3) := by decide +kernel
theorem dc_T_sameRatio_27 : decode bc_T_sameRatio 27 = .ok (.iload_n 2, 1) := by decide +kernel
theorem dc_T_sameRatio_28 : decode bc_T_sameRatio 28 = .ok (.iload_n 3, 1) := by decide +kernel
theorem dc_T_sameRatio_29 : decode bc_T_sameRatio 29 = .ok (.iadd, 1) := by decide +kernel
theorem dc_T_sameRatio_30 : decode bc_T_sameRatio 30 = .ok (.iaload, 1) := by decide +kernel
theorem dc_T_sameRatio_31 : decode bc_T_sameRatio 31 = .ok (.aload_n 0, 1) := by decide +kernel
theorem dc_T_sameRatio_32 : decode bc_T_sameRatio 32 = .ok (.getfield 250, 3) := by decide +kernel
theorem dc_T_sameRatio_35 : decode bc_T_sameRatio 35 = .ok (.iconst 0, 1) := by decide +kernel
theorem dc_T_sameRatio_36 : decode bc_T_sameRatio 36 = .ok (.iaload, 1) := by decide +kernel
theorem dc_T_sameRatio_37 : decode bc_T_sameRatio 37 = .ok (.imul, 1) := by decide +kernel
theorem dc_T_sameRatio_38 : decode bc_T_sameRatio 38 = .ok (.if_icmp .eq 5, 3) := by decide +kernel
theorem dc_T_sameRatio_41 : decode bc_T_sameRatio 41 = .ok (.iconst 0, 1) := by decide +kernel
theorem dc_T_sameRatio_42 : decode bc_T_sameRatio 42 = .ok (.ireturn, 1) := by decide +kernel
theorem dc_T_sameRatio_43 : decode bc_T_sameRatio 43 = .ok (.iinc 3 1, 3) := by decide +kernel
theorem dc_T_sameRatio_46 : decode bc_T_sameRatio 46 = .ok (.goto (-44), 3) := by decide +kernel
theorem dc_T_sameRatio_49 : decode bc_T_sameRatio 49 = .ok (.iconst 1, 1) := by decide +kernel
theorem dc_T_sameRatio_50 : decode bc_T_sameRatio 50 = .ok (.ireturn, 1) := by decide +kernel
theorem dc_T_sameContour_0 : decode bc_T_sameContour 0 = .ok (.iconst 0, 1) := by decide +kernel
theorem dc_T_sameContour_1 : decode bc_T_sameContour 1 = .ok (.istore_n 3, 1) := by decide +kernel
theorem dc_T_sameContour_2 : decode bc_T_sameContour 2 = .ok (.iload_n 3, 1) := by decide +kernel
theorem dc_T_sameContour_3 : decode bc_T_sameContour 3 = .ok (.aload_n 0, 1) := by decide +kernel
theorem dc_T_sameContour_4 : decode bc_T_sameContour 4 = .ok (.invokevirtual 117, 3) := by decide +kernel
theorem dc_T_sameContour_7 : decode bc_T_sameContour 7 = .ok (.if_icmp .ge 32, 3) := by decide +kernel
theorem dc_T_sameContour_10 : decode bc_T_sameContour 10 = .ok (.aload_n 0, 1) := by decide +kernel
theorem dc_T_sameContour_11 : decode bc_T_sameContour 11 = .ok (.iload_n 3, 1) := by decide +kernel
theorem dc_T_sameContour_12 : decode bc_T_sameContour 12 = .ok (.invokevirtual 121, 3) := by decide +kernel
theorem dc_T_sameContour_15 : decode bc_T_sameContour 15 = .ok (.invokestatic 245, 3) := by decide +kernel
theorem dc_T_sameContour_18 : decode bc_T_sameContour 18 = .ok (.aload_n 1, 1) := by decide +kernel
theorem dc_T_sameContour_19 : decode bc_T_sameContour 19 = .ok (.iload_n 2, 1) := by decide +kernel
theorem dc_T_sameContour_20 : decode bc_T_sameContour 20 = .ok (.iload_n 3, 1) := by decide +kernel
theorem dc_T_sameContour_21 : decode bc_T_sameContour 21 = .ok (.iadd, 1) := by decide +kernel
theorem dc_T_sameContour_22 : decode bc_T_sameContour 22 = .ok (.invokevirtual 121, 3) := by decide +kernel
theorem dc_T_sameContour_25 : decode bc_T_sameContour 25 = .ok (.invokestatic 245, 3) := by decide +kernel
theorem dc_T_sameContour_28 : decode bc_T_sameContour 28 = .ok (.if_icmp .eq 5, 3) := by decide +kernel
theorem dc_T_sameContour_31 : decode bc_T_sameContour 31 = .ok (.iconst 0, 1) := by decide +kernel
theorem dc_T_sameContour_32 : decode bc_T_sameContour 32 = .ok (.ireturn, 1) := by decide +kernel
theorem dc_T_sameContour_33 : decode bc_T_sameContour 33 = .ok (.iinc 3 1, 3) := by decide +kernel
theorem dc_T_sameContour_36 : decode bc_T_sameContour 36 = .ok (.goto (-34), 3) := by decide +kernel
theorem dc_T_sameContour_39 : decode bc_T_sameContour 39 = .ok (.iconst 1, 1) := by decide +kernel
theorem dc_T_sameContour_40 : decode bc_T_sameContour 40 = .ok (.ireturn, 1) := by decide +kernel
theorem dc_T_match_0 : decode bc_T_match 0 = .ok (.iload_n 1, 1) := by decide +kernel
theorem dc_T_match_1 : decode bc_T_match 1 = .ok (.ifCond .lt 14, 3) := by decide +kernel
theorem dc_T_match_4 : decode bc_T_match 4 = .ok (.iload_n 1, 1) := by decide +kernel
theorem dc_T_match_5 : decode bc_T_match 5 = .ok (.aload_n 0, 1) := by decide +kernel
theorem dc_T_match_6 : decode bc_T_match 6 = .ok (.getfield 28, 3) := by decide +kernel
theorem dc_T_match_9 : decode bc_T_match 9 = .ok (.getfield 137, 3) := by decide +kernel
theorem dc_T_match_12 : decode bc_T_match 12 = .ok (.if_icmp .lt 11, 3) := by decide +kernel
theorem dc_T_match_15 : decode bc_T_match 15 = .ok (.new 50, 3) := by decide +kernel
theorem dc_T_match_18 : decode bc_T_match 18 = .ok (.dup, 1) := by decide +kernel
theorem dc_T_match_19 : decode bc_T_match 19 = .ok (.invokespecial 52, 3) := by decide +kernel
theorem dc_T_match_22 : decode bc_T_match 22 = .ok (.athrow, 1) := by decide +kernel
theorem dc_T_match_23 : decode bc_T_match 23 = .ok (.aload_n 0, 1) := by decide +kernel
theorem dc_T_match_24 : decode bc_T_match 24 = .ok (.getfield 28, 3) := by decide +kernel
theorem dc_T_match_27 : decode bc_T_match 27 = .ok (.getfield 140, 3) := by decide +kernel
theorem dc_T_match_30 : decode bc_T_match 30 = .ok (.iload_n 1, 1) := by decide +kernel
theorem dc_T_match_31 : decode bc_T_match 31 = .ok (.aaload, 1) := by decide +kernel
theorem dc_T_match_32 : decode bc_T_match 32 = .ok (.astore_n 3, 1) := by decide +kernel
theorem dc_T_match_33 : decode bc_T_match 33 = .ok (.iload_n 2, 1) := by decide +kernel
theorem dc_T_match_34 : decode bc_T_match 34 = .ok (.tableswitch 76 0 5 #[38, 43, 48, 53, 58, 67], 38) := by decide +kernel
theorem dc_T_match_72 : decode bc_T_match 72 = .ok (.aload_n 3, 1) := by decide +kernel
theorem dc_T_match_73 : decode bc_T_match 73 = .ok (.getfield 144, 3) := by decide +kernel
theorem dc_T_match_76 : decode bc_T_match 76 = .ok (.ireturn, 1) := by decide +kernel
theorem dc_T_match_77 : decode bc_T_match 77 = .ok (.aload_n 3, 1) := by decide +kernel
theorem dc_T_match_78 : decode bc_T_match 78 = .ok (.getfield 149, 3) := by decide +kernel
theorem dc_T_match_81 : decode bc_T_match 81 = .ok (.ireturn, 1) := by decide +kernel
theorem dc_T_match_82 : decode bc_T_match 82 = .ok (.aload_n 3, 1) := by decide +kernel
theorem dc_T_match_83 : decode bc_T_match 83 = .ok (.getfield 152, 3) := by decide +kernel
theorem dc_T_match_86 : decode bc_T_match 86 = .ok (.ireturn, 1) := by decide +kernel
theorem dc_T_match_87 : decode bc_T_match 87 = .ok (.aload_n 3, 1) := by decide +kernel
theorem dc_T_match_88 : decode bc_T_match 88 = .ok (.getfield 155, 3) := by decide +kernel
theorem dc_T_match_91 : decode bc_T_match 91 = .ok (.ireturn, 1) := by decide +kernel
theorem dc_T_match_92 : decode bc_T_match 92 = .ok (.aload_n 0, 1) := by decide +kernel
theorem dc_T_match_93 : decode bc_T_match 93 = .ok (.getfield 28, 3) := by decide +kernel
theorem dc_T_match_96 : decode bc_T_match 96 = .ok (.aload_n 3, 1) := by decide +kernel
theorem dc_T_match_97 : decode bc_T_match 97 = .ok (.invokevirtual 158, 3) := by decide +kernel
theorem dc_T_match_100 : decode bc_T_match 100 = .ok (.ireturn, 1) := by decide +kernel
theorem dc_T_match_101 : decode bc_T_match 101 = .ok (.aload_n 0, 1) := by decide +kernel
theorem dc_T_match_102 : decode bc_T_match 102 = .ok (.getfield 28, 3) := by decide +kernel
theorem dc_T_match_105 : decode bc_T_match 105 = .ok (.aload_n 3, 1) := by decide +kernel
theorem dc_T_match_106 : decode bc_T_match 106 = .ok (.invokevirtual 162, 3) := by decide +kernel
theorem dc_T_match_109 : decode bc_T_match 109 = .ok (.ireturn, 1) := by decide +kernel
theorem dc_T_match_110 : decode bc_T_match 110 = .ok (.new 114, 3) := by decide +kernel
theorem dc_T_match_113 : decode bc_T_match 113 = .ok (.dup, 1) := by decide +kernel
theorem dc_T_match_114 : decode bc_T_match 114 = .ok (.invokespecial 116, 3) := by decide +kernel
theorem dc_T_match_117 : decode bc_T_match 117 = .ok (.athrow, 1) := by decide +kernel
theorem dc_T_repeats_0 : decode bc_T_repeats 0 = .ok (.aload_n 0, 1) := by decide +kernel
theorem dc_T_repeats_1 : decode bc_T_repeats 1 = .ok (.iload_n 1, 1) := by decide +kernel
theorem dc_T_repeats_2 : decode bc_T_repeats 2 = .ok (.invokevirtual 63, 3) := by decide +kernel
theorem dc_T_repeats_5 : decode bc_T_repeats 5 = .ok (.astore_n 3, 1) := by decide +kernel
theorem dc_T_repeats_6 : decode bc_T_repeats 6 = .ok (.iload_n 2, 1) := by decide +kernel
theorem dc_T_repeats_7 : decode bc_T_repeats 7 = .ok (.invokestatic 165, 3) := by decide +kernel
theorem dc_T_repeats_10 : decode bc_T_repeats 10 = .ok (.aload_n 0, 1) := by decide +kernel
theorem dc_T_repeats_11 : decode bc_T_repeats 11 = .ok (.getfield 42, 3) := by decide +kernel
theorem dc_T_repeats_14 : decode bc_T_repeats 14 = .ok (.aload_n 3, 1) := by decide +kernel
theorem dc_T_repeats_15 : decode bc_T_repeats 15 = .ok (.getfield 81, 3) := by decide +kernel
theorem dc_T_repeats_18 : decode bc_T_repeats 18 = .ok (.iload_n 2, 1) := by decide +kernel
theorem dc_T_repeats_19 : decode bc_T_repeats 19 = .ok (.iconst (-1), 1) := by decide +kernel
theorem dc_T_repeats_20 : decode bc_T_repeats 20 = .ok (.invokevirtual 168, 3) := by decide +kernel
theorem dc_T_repeats_23 : decode bc_T_repeats 23 = .ok (.ireturn, 1) := by decide +kernel
theorem dc_T_refuseUnlessLeast_0 : decode bc_T_refuseUnlessLeast 0 = .ok (.iload_n 0, 1) := by decide +kernel
theorem dc_T_refuseUnlessLeast_1 : decode bc_T_refuseUnlessLeast 1 = .ok (.iconst 1, 1) := by decide +kernel
theorem dc_T_refuseUnlessLeast_2 : decode bc_T_refuseUnlessLeast 2 = .ok (.if_icmp .lt 9, 3) := by decide +kernel
theorem dc_T_refuseUnlessLeast_5 : decode bc_T_refuseUnlessLeast 5 = .ok (.iload_n 0, 1) := by decide +kernel
theorem dc_T_refuseUnlessLeast_6 : decode bc_T_refuseUnlessLeast 6 = .ok (.bipush 19, 2) := by decide +kernel
theorem dc_T_refuseUnlessLeast_8 : decode bc_T_refuseUnlessLeast 8 = .ok (.if_icmp .le 11, 3) := by decide +kernel
theorem dc_T_refuseUnlessLeast_11 : decode bc_T_refuseUnlessLeast 11 = .ok (.new 114, 3) := by decide +kernel
theorem dc_T_refuseUnlessLeast_14 : decode bc_T_refuseUnlessLeast 14 = .ok (.dup, 1) := by decide +kernel
theorem dc_T_refuseUnlessLeast_15 : decode bc_T_refuseUnlessLeast 15 = .ok (.invokespecial 116, 3) := by decide +kernel
theorem dc_T_refuseUnlessLeast_18 : decode bc_T_refuseUnlessLeast 18 = .ok (.athrow, 1) := by decide +kernel
theorem dc_T_refuseUnlessLeast_19 : decode bc_T_refuseUnlessLeast 19 = .ok (.return_, 1) := by decide +kernel
theorem dc_T_repeat_0 : decode bc_T_repeat 0 = .ok (.aload_n 0, 1) := by decide +kernel
theorem dc_T_repeat_1 : decode bc_T_repeat 1 = .ok (.iload_n 1, 1) := by decide +kernel
theorem dc_T_repeat_2 : decode bc_T_repeat 2 = .ok (.invokevirtual 63, 3) := by decide +kernel
theorem dc_T_repeat_5 : decode bc_T_repeat 5 = .ok (.astore 5, 2) := by decide +kernel
theorem dc_T_repeat_7 : decode bc_T_repeat 7 = .ok (.iload_n 2, 1) := by decide +kernel
theorem dc_T_repeat_8 : decode bc_T_repeat 8 = .ok (.invokestatic 165, 3) := by decide +kernel
theorem dc_T_repeat_11 : decode bc_T_repeat 11 = .ok (.iload 4, 2) := by decide +kernel
theorem dc_T_repeat_13 : decode bc_T_repeat 13 = .ok (.ifCond .lt 9, 3) := by decide +kernel
theorem dc_T_repeat_16 : decode bc_T_repeat 16 = .ok (.iload 4, 2) := by decide +kernel
theorem dc_T_repeat_18 : decode bc_T_repeat 18 = .ok (.iconst 2, 1) := by decide +kernel
theorem dc_T_repeat_19 : decode bc_T_repeat 19 = .ok (.if_icmp .le 11, 3) := by decide +kernel
theorem dc_T_repeat_22 : decode bc_T_repeat 22 = .ok (.new 114, 3) := by decide +kernel
theorem dc_T_repeat_25 : decode bc_T_repeat 25 = .ok (.dup, 1) := by decide +kernel
theorem dc_T_repeat_26 : decode bc_T_repeat 26 = .ok (.invokespecial 116, 3) := by decide +kernel
theorem dc_T_repeat_29 : decode bc_T_repeat 29 = .ok (.athrow, 1) := by decide +kernel
theorem dc_T_repeat_30 : decode bc_T_repeat 30 = .ok (.iload_n 3, 1) := by decide +kernel
theorem dc_T_repeat_31 : decode bc_T_repeat 31 = .ok (.ifCond .lt 21, 3) := by decide +kernel
theorem dc_T_repeat_34 : decode bc_T_repeat 34 = .ok (.aload_n 0, 1) := by decide +kernel
theorem dc_T_repeat_35 : decode bc_T_repeat 35 = .ok (.getfield 42, 3) := by decide +kernel
theorem dc_T_repeat_38 : decode bc_T_repeat 38 = .ok (.aload 5, 2) := by decide +kernel
theorem dc_T_repeat_40 : decode bc_T_repeat 40 = .ok (.getfield 81, 3) := by decide +kernel
theorem dc_T_repeat_43 : decode bc_T_repeat 43 = .ok (.iload_n 2, 1) := by decide +kernel
theorem dc_T_repeat_44 : decode bc_T_repeat 44 = .ok (.iload_n 3, 1) := by decide +kernel
theorem dc_T_repeat_45 : decode bc_T_repeat 45 = .ok (.invokevirtual 168, 3) := by decide +kernel
theorem dc_T_repeat_48 : decode bc_T_repeat 48 = .ok (.iload_n 3, 1) := by decide +kernel
theorem dc_T_repeat_49 : decode bc_T_repeat 49 = .ok (.if_icmp .gt 5, 3) := by decide +kernel
theorem dc_T_repeat_52 : decode bc_T_repeat 52 = .ok (.iconst (-1), 1) := by decide +kernel
theorem dc_T_repeat_53 : decode bc_T_repeat 53 = .ok (.ireturn, 1) := by decide +kernel
theorem dc_T_repeat_54 : decode bc_T_repeat 54 = .ok (.iload 4, 2) := by decide +kernel
theorem dc_T_repeat_56 : decode bc_T_repeat 56 = .ok (.lookupswitch 44 #[(0, 28), (1, 36)], 28) := by decide +kernel
theorem dc_T_repeat_84 : decode bc_T_repeat 84 = .ok (.aload_n 0, 1) := by decide +kernel
theorem dc_T_repeat_85 : decode bc_T_repeat 85 = .ok (.getfield 42, 3) := by decide +kernel
theorem dc_T_repeat_88 : decode bc_T_repeat 88 = .ok (.getfield 172, 3) := by decide +kernel
theorem dc_T_repeat_91 : decode bc_T_repeat 91 = .ok (.ireturn, 1) := by decide +kernel
theorem dc_T_repeat_92 : decode bc_T_repeat 92 = .ok (.aload_n 0, 1) := by decide +kernel
theorem dc_T_repeat_93 : decode bc_T_repeat 93 = .ok (.getfield 42, 3) := by decide +kernel
theorem dc_T_repeat_96 : decode bc_T_repeat 96 = .ok (.getfield 175, 3) := by decide +kernel
theorem dc_T_repeat_99 : decode bc_T_repeat 99 = .ok (.ireturn, 1) := by decide +kernel
theorem dc_T_repeat_100 : decode bc_T_repeat 100 = .ok (.aload_n 0, 1) := by decide +kernel
theorem dc_T_repeat_101 : decode bc_T_repeat 101 = .ok (.getfield 42, 3) := by decide +kernel
theorem dc_T_repeat_104 : decode bc_T_repeat 104 = .ok (.getfield 178, 3) := by decide +kernel
theorem dc_T_repeat_107 : decode bc_T_repeat 107 = .ok (.ireturn, 1) := by decide +kernel
theorem dc_T_canon_0 : decode bc_T_canon 0 = .ok (.aload_n 0, 1) := by decide +kernel
theorem dc_T_canon_1 : decode bc_T_canon 1 = .ok (.iload_n 1, 1) := by decide +kernel
theorem dc_T_canon_2 : decode bc_T_canon 2 = .ok (.invokevirtual 63, 3) := by decide +kernel
theorem dc_T_canon_5 : decode bc_T_canon 5 = .ok (.getfield 81, 3) := by decide +kernel
theorem dc_T_canon_8 : decode bc_T_canon 8 = .ok (.astore 4, 2) := by decide +kernel
theorem dc_T_canon_10 : decode bc_T_canon 10 = .ok (.aload_n 0, 1) := by decide +kernel
theorem dc_T_canon_11 : decode bc_T_canon 11 = .ok (.iload_n 2, 1) := by decide +kernel
theorem dc_T_canon_12 : decode bc_T_canon 12 = .ok (.invokevirtual 63, 3) := by decide +kernel
theorem dc_T_canon_15 : decode bc_T_canon 15 = .ok (.getfield 81, 3) := by decide +kernel
theorem dc_T_canon_18 : decode bc_T_canon 18 = .ok (.astore 5, 2) := by decide +kernel
theorem dc_T_canon_20 : decode bc_T_canon 20 = .ok (.iload_n 3, 1) := by decide +kernel
theorem dc_T_canon_21 : decode bc_T_canon 21 = .ok (.iconst 2, 1) := by decide +kernel
theorem dc_T_canon_22 : decode bc_T_canon 22 = .ok (.if_icmp .lt 9, 3) := by decide +kernel
theorem dc_T_canon_25 : decode bc_T_canon 25 = .ok (.iload_n 3, 1) := by decide +kernel
theorem dc_T_canon_26 : decode bc_T_canon 26 = .ok (.bipush 20, 2) := by decide +kernel
theorem dc_T_canon_28 : decode bc_T_canon 28 = .ok (.if_icmp .le 11, 3) := by decide +kernel
theorem dc_T_canon_31 : decode bc_T_canon 31 = .ok (.new 114, 3) := by decide +kernel
theorem dc_T_canon_34 : decode bc_T_canon 34 = .ok (.dup, 1) := by decide +kernel
theorem dc_T_canon_35 : decode bc_T_canon 35 = .ok (.invokespecial 116, 3) := by decide +kernel
theorem dc_T_canon_38 : decode bc_T_canon 38 = .ok (.athrow, 1) := by decide +kernel
theorem dc_T_canon_39 : decode bc_T_canon 39 = .ok (.aload 5, 2) := by decide +kernel
theorem dc_T_canon_41 : decode bc_T_canon 41 = .ok (.getfield 84, 3) := by decide +kernel
theorem dc_T_canon_44 : decode bc_T_canon 44 = .ok (.iload_n 3, 1) := by decide +kernel
theorem dc_T_canon_45 : decode bc_T_canon 45 = .ok (.if_icmp .ge 5, 3) := by decide +kernel
theorem dc_T_canon_48 : decode bc_T_canon 48 = .ok (.iconst (-1), 1) := by decide +kernel
theorem dc_T_canon_49 : decode bc_T_canon 49 = .ok (.ireturn, 1) := by decide +kernel
theorem dc_T_canon_50 : decode bc_T_canon 50 = .ok (.iload_n 1, 1) := by decide +kernel
theorem dc_T_canon_51 : decode bc_T_canon 51 = .ok (.iload_n 2, 1) := by decide +kernel
theorem dc_T_canon_52 : decode bc_T_canon 52 = .ok (.if_icmp .ne 7, 3) := by decide +kernel
theorem dc_T_canon_55 : decode bc_T_canon 55 = .ok (.iconst 1, 1) := by decide +kernel
theorem dc_T_canon_56 : decode bc_T_canon 56 = .ok (.goto 4, 3) := by decide +kernel
theorem dc_T_canon_59 : decode bc_T_canon 59 = .ok (.iconst 0, 1) := by decide +kernel
theorem dc_T_canon_60 : decode bc_T_canon 60 = .ok (.istore 6, 2) := by decide +kernel
theorem dc_T_canon_62 : decode bc_T_canon 62 = .ok (.iload 6, 2) := by decide +kernel
theorem dc_T_canon_64 : decode bc_T_canon 64 = .ok (.iload_n 3, 1) := by decide +kernel
theorem dc_T_canon_65 : decode bc_T_canon 65 = .ok (.iadd, 1) := by decide +kernel
theorem dc_T_canon_66 : decode bc_T_canon 66 = .ok (.aload 4, 2) := by decide +kernel
theorem dc_T_canon_68 : decode bc_T_canon 68 = .ok (.getfield 84, 3) := by decide +kernel
theorem dc_T_canon_71 : decode bc_T_canon 71 = .ok (.if_icmp .gt 38, 3) := by decide +kernel
theorem dc_T_canon_74 : decode bc_T_canon 74 = .ok (.aload 5, 2) := by decide +kernel
theorem dc_T_canon_76 : decode bc_T_canon 76 = .ok (.iload_n 3, 1) := by decide +kernel
theorem dc_T_canon_77 : decode bc_T_canon 77 = .ok (.aload 4, 2) := by decide +kernel
theorem dc_T_canon_79 : decode bc_T_canon 79 = .ok (.iload 6, 2) := by decide +kernel
theorem dc_T_canon_81 : decode bc_T_canon 81 = .ok (.invokestatic 181, 3) := by decide +kernel
theorem dc_T_canon_84 : decode bc_T_canon 84 = .ok (.ifCond .eq 19, 3) := by decide +kernel
theorem dc_T_canon_87 : decode bc_T_canon 87 = .ok (.aload 5, 2) := by decide +kernel
theorem dc_T_canon_89 : decode bc_T_canon 89 = .ok (.iload_n 3, 1) := by decide +kernel
theorem dc_T_canon_90 : decode bc_T_canon 90 = .ok (.aload 4, 2) := by decide +kernel
theorem dc_T_canon_92 : decode bc_T_canon 92 = .ok (.iload 6, 2) := by decide +kernel
theorem dc_T_canon_94 : decode bc_T_canon 94 = .ok (.invokestatic 185, 3) := by decide +kernel
theorem dc_T_canon_97 : decode bc_T_canon 97 = .ok (.ifCond .eq 6, 3) := by decide +kernel
theorem dc_T_canon_100 : decode bc_T_canon 100 = .ok (.iload 6, 2) := by decide +kernel
theorem dc_T_canon_102 : decode bc_T_canon 102 = .ok (.ireturn, 1) := by decide +kernel
theorem dc_T_canon_103 : decode bc_T_canon 103 = .ok (.iinc 6 1, 3) := by decide +kernel
theorem dc_T_canon_106 : decode bc_T_canon 106 = .ok (.goto (-44), 3) := by decide +kernel
theorem dc_T_canon_109 : decode bc_T_canon 109 = .ok (.iconst (-1), 1) := by decide +kernel
theorem dc_T_canon_110 : decode bc_T_canon 110 = .ok (.ireturn, 1) := by decide +kernel
theorem dc_T_sameLengths_0 : decode bc_T_sameLengths 0 = .ok (.iconst 0, 1) := by decide +kernel
theorem dc_T_sameLengths_1 : decode bc_T_sameLengths 1 = .ok (.istore 4, 2) := by decide +kernel
theorem dc_T_sameLengths_3 : decode bc_T_sameLengths 3 = .ok (.iload 4, 2) := by decide +kernel
theorem dc_T_sameLengths_5 : decode bc_T_sameLengths 5 = .ok (.iload_n 1, 1) := by decide +kernel
theorem dc_T_sameLengths_6 : decode bc_T_sameLengths 6 = .ok (.if_icmp .ge 30, 3) := by decide +kernel
theorem dc_T_sameLengths_9 : decode bc_T_sameLengths 9 = .ok (.aload_n 0, 1) := by decide +kernel
theorem dc_T_sameLengths_10 : decode bc_T_sameLengths 10 = .ok (.getfield 250, 3) := by decide +kernel
theorem dc_T_sameLengths_13 : decode bc_T_sameLengths 13 = .ok (.iload 4, 2) := by decide +kernel
theorem dc_T_sameLengths_15 : decode bc_T_sameLengths 15 = .ok (.iaload, 1) := by decide +kernel
theorem dc_T_sameLengths_16 : decode bc_T_sameLengths 16 = .ok (.aload_n 2, 1) := by decide +kernel
theorem dc_T_sameLengths_17 : decode bc_T_sameLengths 17 = .ok (.getfield 250, 3) := by decide +kernel
theorem dc_T_sameLengths_20 : decode bc_T_sameLengths 20 = .ok (.iload_n 3, 1) := by decide +kernel
theorem dc_T_sameLengths_21 : decode bc_T_sameLengths 21 = .ok (.iload 4, 2) := by decide +kernel
theorem dc_T_sameLengths_23 : decode bc_T_sameLengths 23 = .ok (.iadd, 1) := by decide +kernel
theorem dc_T_sameLengths_24 : decode bc_T_sameLengths 24 = .ok (.iaload, 1) := by decide +kernel
theorem dc_T_sameLengths_25 : decode bc_T_sameLengths 25 = .ok (.if_icmp .eq 5, 3) := by decide +kernel
theorem dc_T_sameLengths_28 : decode bc_T_sameLengths 28 = .ok (.iconst 0, 1) := by decide +kernel
theorem dc_T_sameLengths_29 : decode bc_T_sameLengths 29 = .ok (.ireturn, 1) := by decide +kernel
theorem dc_T_sameLengths_30 : decode bc_T_sameLengths 30 = .ok (.iinc 4 1, 3) := by decide +kernel
theorem dc_T_sameLengths_33 : decode bc_T_sameLengths 33 = .ok (.goto (-30), 3) := by decide +kernel
theorem dc_T_sameLengths_36 : decode bc_T_sameLengths 36 = .ok (.iconst 1, 1) := by decide +kernel
theorem dc_T_sameLengths_37 : decode bc_T_sameLengths 37 = .ok (.ireturn, 1) := by decide +kernel
theorem dc_T_opening_0 : decode bc_T_opening 0 = .ok (.aload_n 0, 1) := by decide +kernel
theorem dc_T_opening_1 : decode bc_T_opening 1 = .ok (.iload_n 1, 1) := by decide +kernel
theorem dc_T_opening_2 : decode bc_T_opening 2 = .ok (.invokevirtual 63, 3) := by decide +kernel
theorem dc_T_opening_5 : decode bc_T_opening 5 = .ok (.astore_n 3, 1) := by decide +kernel
theorem dc_T_opening_6 : decode bc_T_opening 6 = .ok (.iconst 0, 1) := by decide +kernel
theorem dc_T_opening_7 : decode bc_T_opening 7 = .ok (.istore 4, 2) := by decide +kernel
theorem dc_T_opening_9 : decode bc_T_opening 9 = .ok (.iload 4, 2) := by decide +kernel
theorem dc_T_opening_11 : decode bc_T_opening 11 = .ok (.bipush 8, 2) := by decide +kernel
theorem dc_T_opening_13 : decode bc_T_opening 13 = .ok (.if_icmp .ge 68, 3) := by decide +kernel
theorem dc_T_opening_16 : decode bc_T_opening 16 = .ok (.iload 4, 2) := by decide +kernel
theorem dc_T_opening_18 : decode bc_T_opening 18 = .ok (.iload_n 1, 1) := by decide +kernel
theorem dc_T_opening_19 : decode bc_T_opening 19 = .ok (.if_icmp .eq 20, 3) := by decide +kernel
theorem dc_T_opening_22 : decode bc_T_opening 22 = .ok (.aload_n 0, 1) := by decide +kernel
theorem dc_T_opening_23 : decode bc_T_opening 23 = .ok (.getfield 11, 3) := by decide +kernel
theorem dc_T_opening_26 : decode bc_T_opening 26 = .ok (.iload 4, 2) := by decide +kernel
theorem dc_T_opening_28 : decode bc_T_opening 28 = .ok (.aaload, 1) := by decide +kernel
theorem dc_T_opening_29 : decode bc_T_opening 29 = .ok (.getfield 74, 3) := by decide +kernel
theorem dc_T_opening_32 : decode bc_T_opening 32 = .ok (.ifCond .eq 7, 3) := by decide +kernel
theorem dc_T_opening_35 : decode bc_T_opening 35 = .ok (.iconst 1, 1) := by decide +kernel
theorem dc_T_opening_36 : decode bc_T_opening 36 = .ok (.goto 4, 3) := by decide +kernel
theorem dc_T_opening_39 : decode bc_T_opening 39 = .ok (.iconst 0, 1) := by decide +kernel
theorem dc_T_opening_40 : decode bc_T_opening 40 = .ok (.istore 5, 2) := by decide +kernel
theorem dc_T_opening_42 : decode bc_T_opening 42 = .ok (.aload_n 0, 1) := by decide +kernel
theorem dc_T_opening_43 : decode bc_T_opening 43 = .ok (.getfield 46, 3) := by decide +kernel
theorem dc_T_opening_46 : decode bc_T_opening 46 = .ok (.iload 4, 2) := by decide +kernel
theorem dc_T_opening_48 : decode bc_T_opening 48 = .ok (.iload 5, 2) := by decide +kernel
theorem dc_T_opening_50 : decode bc_T_opening 50 = .ok (.ifCond .eq 23, 3) := by decide +kernel
theorem dc_T_opening_53 : decode bc_T_opening 53 = .ok (.aload_n 3, 1) := by decide +kernel
theorem dc_T_opening_54 : decode bc_T_opening 54 = .ok (.getfield 81, 3) := by decide +kernel
theorem dc_T_opening_57 : decode bc_T_opening 57 = .ok (.aload_n 0, 1) := by decide +kernel
theorem dc_T_opening_58 : decode bc_T_opening 58 = .ok (.getfield 11, 3) := by decide +kernel
theorem dc_T_opening_61 : decode bc_T_opening 61 = .ok (.iload 4, 2) := by decide +kernel
theorem dc_T_opening_63 : decode bc_T_opening 63 = .ok (.aaload, 1) := by decide +kernel
theorem dc_T_opening_64 : decode bc_T_opening 64 = .ok (.getfield 81, 3) := by decide +kernel
theorem dc_T_opening_67 : decode bc_T_opening 67 = .ok (.invokestatic 188, 3) := by decide +kernel
theorem dc_T_opening_70 : decode bc_T_opening 70 = .ok (.goto 4, 3) := by decide +kernel
theorem dc_T_opening_73 : decode bc_T_opening 73 = .ok (.iconst (-1), 1) := by decide +kernel
theorem dc_T_opening_74 : decode bc_T_opening 74 = .ok (.iastore, 1) := by decide +kernel
theorem dc_T_opening_75 : decode bc_T_opening 75 = .ok (.iinc 4 1, 3) := by decide +kernel
theorem dc_T_opening_78 : decode bc_T_opening 78 = .ok (.goto (-69), 3) := by decide +kernel
theorem dc_T_opening_81 : decode bc_T_opening 81 = .ok (.iconst 0, 1) := by decide +kernel
theorem dc_T_opening_82 : decode bc_T_opening 82 = .ok (.istore 4, 2) := by decide +kernel
theorem dc_T_opening_84 : decode bc_T_opening 84 = .ok (.bipush 19, 2) := by decide +kernel
theorem dc_T_opening_86 : decode bc_T_opening 86 = .ok (.istore 5, 2) := by decide +kernel
theorem dc_T_opening_88 : decode bc_T_opening 88 = .ok (.iload 5, 2) := by decide +kernel
theorem dc_T_opening_90 : decode bc_T_opening 90 = .ok (.ifCond .lt 49, 3) := by decide +kernel
theorem dc_T_opening_93 : decode bc_T_opening 93 = .ok (.iconst 0, 1) := by decide +kernel
theorem dc_T_opening_94 : decode bc_T_opening 94 = .ok (.istore 6, 2) := by decide +kernel
theorem dc_T_opening_96 : decode bc_T_opening 96 = .ok (.iload 6, 2) := by decide +kernel
theorem dc_T_opening_98 : decode bc_T_opening 98 = .ok (.bipush 8, 2) := by decide +kernel
theorem dc_T_opening_100 : decode bc_T_opening 100 = .ok (.if_icmp .ge 33, 3) := by decide +kernel
theorem dc_T_opening_103 : decode bc_T_opening 103 = .ok (.aload_n 0, 1) := by decide +kernel
theorem dc_T_opening_104 : decode bc_T_opening 104 = .ok (.getfield 46, 3) := by decide +kernel
theorem dc_T_opening_107 : decode bc_T_opening 107 = .ok (.iload 6, 2) := by decide +kernel
theorem dc_T_opening_109 : decode bc_T_opening 109 = .ok (.iaload, 1) := by decide +kernel
theorem dc_T_opening_110 : decode bc_T_opening 110 = .ok (.iload 5, 2) := by decide +kernel
theorem dc_T_opening_112 : decode bc_T_opening 112 = .ok (.if_icmp .ne 15, 3) := by decide +kernel
theorem dc_T_opening_115 : decode bc_T_opening 115 = .ok (.iload 4, 2) := by decide +kernel
theorem dc_T_opening_117 : decode bc_T_opening 117 = .ok (.iload_n 2, 1) := by decide +kernel
theorem dc_T_opening_118 : decode bc_T_opening 118 = .ok (.if_icmp .ne 6, 3) := by decide +kernel
theorem dc_T_opening_121 : decode bc_T_opening 121 = .ok (.iload 6, 2) := by decide +kernel
theorem dc_T_opening_123 : decode bc_T_opening 123 = .ok (.ireturn, 1) := by decide +kernel
theorem dc_T_opening_124 : decode bc_T_opening 124 = .ok (.iinc 4 1, 3) := by decide +kernel
theorem dc_T_opening_127 : decode bc_T_opening 127 = .ok (.iinc 6 1, 3) := by decide +kernel
theorem dc_T_opening_130 : decode bc_T_opening 130 = .ok (.goto (-34), 3) := by decide +kernel
theorem dc_T_opening_133 : decode bc_T_opening 133 = .ok (.iinc 5 (-1), 3) := by decide +kernel
theorem dc_T_opening_136 : decode bc_T_opening 136 = .ok (.goto (-48), 3) := by decide +kernel
theorem dc_T_opening_139 : decode bc_T_opening 139 = .ok (.iconst (-1), 1) := by decide +kernel
theorem dc_T_opening_140 : decode bc_T_opening 140 = .ok (.ireturn, 1) := by decide +kernel
theorem dc_T_stepsSharedAtFirst_0 : decode bc_T_stepsSharedAtFirst 0 = .ok (.aload_n 0, 1) := by decide +kernel
theorem dc_T_stepsSharedAtFirst_1 : decode bc_T_stepsSharedAtFirst 1 = .ok (.invokevirtual 117, 3) := by decide +kernel
theorem dc_T_stepsSharedAtFirst_4 : decode bc_T_stepsSharedAtFirst 4 = .ok (.aload_n 1, 1) := by decide +kernel
theorem dc_T_stepsSharedAtFirst_5 : decode bc_T_stepsSharedAtFirst 5 = .ok (.invokevirtual 117, 3) := by decide +kernel
theorem dc_T_stepsSharedAtFirst_8 : decode bc_T_stepsSharedAtFirst 8 = .ok (.invokestatic 253, 3) := by decide +kernel
theorem dc_T_stepsSharedAtFirst_11 : decode bc_T_stepsSharedAtFirst 11 = .ok (.istore_n 2, 1) := by decide +kernel
theorem dc_T_stepsSharedAtFirst_12 : decode bc_T_stepsSharedAtFirst 12 = .ok (.iconst 0, 1) := by decide +kernel
theorem dc_T_stepsSharedAtFirst_13 : decode bc_T_stepsSharedAtFirst 13 = .ok (.istore_n 3, 1) := by decide +kernel
theorem dc_T_stepsSharedAtFirst_14 : decode bc_T_stepsSharedAtFirst 14 = .ok (.iload_n 3, 1) := by decide +kernel
theorem dc_T_stepsSharedAtFirst_15 : decode bc_T_stepsSharedAtFirst 15 = .ok (.iload_n 2, 1) := by decide +kernel
theorem dc_T_stepsSharedAtFirst_16 : decode bc_T_stepsSharedAtFirst 16 = .ok (.if_icmp .ge 24, 3) := by decide +kernel
theorem dc_T_stepsSharedAtFirst_19 : decode bc_T_stepsSharedAtFirst 19 = .ok (.aload_n 0, 1) := by decide +kernel
theorem dc_T_stepsSharedAtFirst_20 : decode bc_T_stepsSharedAtFirst 20 = .ok (.iload_n 3, 1) := by decide +kernel
theorem dc_T_stepsSharedAtFirst_21 : decode bc_T_stepsSharedAtFirst 21 = .ok (.invokevirtual 121, 3) := by decide +kernel
theorem dc_T_stepsSharedAtFirst_24 : decode bc_T_stepsSharedAtFirst 24 = .ok (.aload_n 1, 1) := by decide +kernel
theorem dc_T_stepsSharedAtFirst_25 : decode bc_T_stepsSharedAtFirst 25 = .ok (.iload_n 3, 1) := by decide +kernel
theorem dc_T_stepsSharedAtFirst_26 : decode bc_T_stepsSharedAtFirst 26 = .ok (.invokevirtual 121, 3) := by decide +kernel
theorem dc_T_stepsSharedAtFirst_29 : decode bc_T_stepsSharedAtFirst 29 = .ok (.if_icmp .eq 5, 3) := by decide +kernel
theorem dc_T_stepsSharedAtFirst_32 : decode bc_T_stepsSharedAtFirst 32 = .ok (.iload_n 3, 1) := by decide +kernel
theorem dc_T_stepsSharedAtFirst_33 : decode bc_T_stepsSharedAtFirst 33 = .ok (.ireturn, 1) := by decide +kernel
theorem dc_T_stepsSharedAtFirst_34 : decode bc_T_stepsSharedAtFirst 34 = .ok (.iinc 3 1, 3) := by decide +kernel
theorem dc_T_stepsSharedAtFirst_37 : decode bc_T_stepsSharedAtFirst 37 = .ok (.goto (-23), 3) := by decide +kernel
theorem dc_T_stepsSharedAtFirst_40 : decode bc_T_stepsSharedAtFirst 40 = .ok (.iload_n 2, 1) := by decide +kernel
theorem dc_T_stepsSharedAtFirst_41 : decode bc_T_stepsSharedAtFirst 41 = .ok (.ireturn, 1) := by decide +kernel
