theorem dc_L_tune_0 : decode bc_L_tune 0 = .ok (.aload_n 0, 1) := by decide +kernel
theorem dc_L_tune_1 : decode bc_L_tune 1 = .ok (.iload_n 1, 1) := by decide +kernel
theorem dc_L_tune_2 : decode bc_L_tune 2 = .ok (.invokevirtual 7, 3) := by decide +kernel
theorem dc_L_tune_5 : decode bc_L_tune 5 = .ok (.goto 9, 3) := by decide +kernel
theorem dc_L_tune_8 : decode bc_L_tune 8 = .ok (.astore_n 2, 1) := by decide +kernel
theorem dc_L_tune_9 : decode bc_L_tune 9 = .ok (.iconst 1, 1) := by decide +kernel
theorem dc_L_tune_10 : decode bc_L_tune 10 = .ok (.ireturn, 1) := by decide +kernel
theorem dc_L_tune_11 : decode bc_L_tune 11 = .ok (.astore_n 2, 1) := by decide +kernel
theorem dc_L_tune_12 : decode bc_L_tune 12 = .ok (.iconst 2, 1) := by decide +kernel
theorem dc_L_tune_13 : decode bc_L_tune 13 = .ok (.ireturn, 1) := by decide +kernel
theorem dc_L_tune_14 : decode bc_L_tune 14 = .ok (.iconst 0, 1) := by decide +kernel
theorem dc_L_tune_15 : decode bc_L_tune 15 = .ok (.ireturn, 1) := by decide +kernel
theorem dc_L_drop_0 : decode bc_L_drop 0 = .ok (.aload_n 0, 1) := by decide +kernel
theorem dc_L_drop_1 : decode bc_L_drop 1 = .ok (.iload_n 1, 1) := by decide +kernel
theorem dc_L_drop_2 : decode bc_L_drop 2 = .ok (.invokevirtual 17, 3) := by decide +kernel
theorem dc_L_drop_5 : decode bc_L_drop 5 = .ok (.goto 6, 3) := by decide +kernel
theorem dc_L_drop_8 : decode bc_L_drop 8 = .ok (.astore_n 2, 1) := by decide +kernel
theorem dc_L_drop_9 : decode bc_L_drop 9 = .ok (.iconst 1, 1) := by decide +kernel
theorem dc_L_drop_10 : decode bc_L_drop 10 = .ok (.ireturn, 1) := by decide +kernel
theorem dc_L_drop_11 : decode bc_L_drop 11 = .ok (.iconst 0, 1) := by decide +kernel
theorem dc_L_drop_12 : decode bc_L_drop 12 = .ok (.ireturn, 1) := by decide +kernel
theorem dc_L_note_0 : decode bc_L_note 0 = .ok (.aload 4, 2) := by decide +kernel
theorem dc_L_note_2 : decode bc_L_note 2 = .ok (.iconst 0, 1) := by decide +kernel
theorem dc_L_note_3 : decode bc_L_note 3 = .ok (.aload_n 0, 1) := by decide +kernel
theorem dc_L_note_4 : decode bc_L_note 4 = .ok (.iload_n 1, 1) := by decide +kernel
theorem dc_L_note_5 : decode bc_L_note 5 = .ok (.iload_n 2, 1) := by decide +kernel
theorem dc_L_note_6 : decode bc_L_note 6 = .ok (.iload_n 3, 1) := by decide +kernel
theorem dc_L_note_7 : decode bc_L_note 7 = .ok (.invokevirtual 20, 3) := by decide +kernel
theorem dc_L_note_10 : decode bc_L_note 10 = .ok (.i2l, 1) := by decide +kernel
theorem dc_L_note_11 : decode bc_L_note 11 = .ok (.lastore, 1) := by decide +kernel
theorem dc_L_note_12 : decode bc_L_note 12 = .ok (.goto 15, 3) := by decide +kernel
theorem dc_L_note_15 : decode bc_L_note 15 = .ok (.astore 5, 2) := by decide +kernel
theorem dc_L_note_17 : decode bc_L_note 17 = .ok (.iconst 1, 1) := by decide +kernel
theorem dc_L_note_18 : decode bc_L_note 18 = .ok (.ireturn, 1) := by decide +kernel
theorem dc_L_note_19 : decode bc_L_note 19 = .ok (.astore 5, 2) := by decide +kernel
theorem dc_L_note_21 : decode bc_L_note 21 = .ok (.iconst 2, 1) := by decide +kernel
theorem dc_L_note_22 : decode bc_L_note 22 = .ok (.ireturn, 1) := by decide +kernel
theorem dc_L_note_23 : decode bc_L_note 23 = .ok (.astore 5, 2) := by decide +kernel
theorem dc_L_note_25 : decode bc_L_note 25 = .ok (.iconst 3, 1) := by decide +kernel
theorem dc_L_note_26 : decode bc_L_note 26 = .ok (.ireturn, 1) := by decide +kernel
theorem dc_L_note_27 : decode bc_L_note 27 = .ok (.iconst 0, 1) := by decide +kernel
theorem dc_L_note_28 : decode bc_L_note 28 = .ok (.ireturn, 1) := by decide +kernel
theorem dc_L_show_0 : decode bc_L_show 0 = .ok (.aload_n 0, 1) := by decide +kernel
theorem dc_L_show_1 : decode bc_L_show 1 = .ok (.iload_n 1, 1) := by decide +kernel
theorem dc_L_show_2 : decode bc_L_show 2 = .ok (.iload_n 2, 1) := by decide +kernel
theorem dc_L_show_3 : decode bc_L_show 3 = .ok (.invokevirtual 26, 3) := by decide +kernel
theorem dc_L_show_6 : decode bc_L_show 6 = .ok (.goto 9, 3) := by decide +kernel
theorem dc_L_show_9 : decode bc_L_show 9 = .ok (.astore_n 3, 1) := by decide +kernel
theorem dc_L_show_10 : decode bc_L_show 10 = .ok (.iconst 1, 1) := by decide +kernel
theorem dc_L_show_11 : decode bc_L_show 11 = .ok (.ireturn, 1) := by decide +kernel
theorem dc_L_show_12 : decode bc_L_show 12 = .ok (.astore_n 3, 1) := by decide +kernel
theorem dc_L_show_13 : decode bc_L_show 13 = .ok (.iconst 2, 1) := by decide +kernel
theorem dc_L_show_14 : decode bc_L_show 14 = .ok (.ireturn, 1) := by decide +kernel
theorem dc_L_show_15 : decode bc_L_show 15 = .ok (.iconst 0, 1) := by decide +kernel
theorem dc_L_show_16 : decode bc_L_show 16 = .ok (.ireturn, 1) := by decide +kernel
theorem dc_L_correct_0 : decode bc_L_correct 0 = .ok (.aload 5, 2) := by decide +kernel
theorem dc_L_correct_2 : decode bc_L_correct 2 = .ok (.iconst 0, 1) := by decide +kernel
theorem dc_L_correct_3 : decode bc_L_correct 3 = .ok (.aload_n 0, 1) := by decide +kernel
theorem dc_L_correct_4 : decode bc_L_correct 4 = .ok (.iload_n 1, 1) := by decide +kernel
theorem dc_L_correct_5 : decode bc_L_correct 5 = .ok (.iload_n 2, 1) := by decide +kernel
theorem dc_L_correct_6 : decode bc_L_correct 6 = .ok (.iload_n 3, 1) := by decide +kernel
theorem dc_L_correct_7 : decode bc_L_correct 7 = .ok (.iload 4, 2) := by decide +kernel
theorem dc_L_correct_9 : decode bc_L_correct 9 = .ok (.invokevirtual 30, 3) := by decide +kernel
theorem dc_L_correct_12 : decode bc_L_correct 12 = .ok (.i2l, 1) := by decide +kernel
theorem dc_L_correct_13 : decode bc_L_correct 13 = .ok (.lastore, 1) := by decide +kernel
theorem dc_L_correct_14 : decode bc_L_correct 14 = .ok (.goto 15, 3) := by decide +kernel
theorem dc_L_correct_17 : decode bc_L_correct 17 = .ok (.astore 6, 2) := by decide +kernel
theorem dc_L_correct_19 : decode bc_L_correct 19 = .ok (.iconst 1, 1) := by decide +kernel
theorem dc_L_correct_20 : decode bc_L_correct 20 = .ok (.ireturn, 1) := by decide +kernel
theorem dc_L_correct_21 : decode bc_L_correct 21 = .ok (.astore 6, 2) := by decide +kernel
theorem dc_L_correct_23 : decode bc_L_correct 23 = .ok (.iconst 2, 1) := by decide +kernel
theorem dc_L_correct_24 : decode bc_L_correct 24 = .ok (.ireturn, 1) := by decide +kernel
theorem dc_L_correct_25 : decode bc_L_correct 25 = .ok (.astore 6, 2) := by decide +kernel
theorem dc_L_correct_27 : decode bc_L_correct 27 = .ok (.iconst 3, 1) := by decide +kernel
theorem dc_L_correct_28 : decode bc_L_correct 28 = .ok (.ireturn, 1) := by decide +kernel
theorem dc_L_correct_29 : decode bc_L_correct 29 = .ok (.iconst 0, 1) := by decide +kernel
theorem dc_L_correct_30 : decode bc_L_correct 30 = .ok (.ireturn, 1) := by decide +kernel
theorem dc_L_restore_0 : decode bc_L_restore 0 = .ok (.aload_n 0, 1) := by decide +kernel
theorem dc_L_restore_1 : decode bc_L_restore 1 = .ok (.iload_n 1, 1) := by decide +kernel
theorem dc_L_restore_2 : decode bc_L_restore 2 = .ok (.iload_n 2, 1) := by decide +kernel
theorem dc_L_restore_3 : decode bc_L_restore 3 = .ok (.invokevirtual 34, 3) := by decide +kernel
theorem dc_L_restore_6 : decode bc_L_restore 6 = .ok (.goto 6, 3) := by decide +kernel
theorem dc_L_restore_9 : decode bc_L_restore 9 = .ok (.astore_n 3, 1) := by decide +kernel
theorem dc_L_restore_10 : decode bc_L_restore 10 = .ok (.iconst 1, 1) := by decide +kernel
theorem dc_L_restore_11 : decode bc_L_restore 11 = .ok (.ireturn, 1) := by decide +kernel
theorem dc_L_restore_12 : decode bc_L_restore 12 = .ok (.iconst 0, 1) := by decide +kernel
theorem dc_L_restore_13 : decode bc_L_restore 13 = .ok (.ireturn, 1) := by decide +kernel
theorem dc_L_at_0 : decode bc_L_at 0 = .ok (.aload 5, 2) := by decide +kernel
theorem dc_L_at_2 : decode bc_L_at 2 = .ok (.iconst 0, 1) := by decide +kernel
theorem dc_L_at_3 : decode bc_L_at 3 = .ok (.aload_n 0, 1) := by decide +kernel
theorem dc_L_at_4 : decode bc_L_at 4 = .ok (.iload_n 1, 1) := by decide +kernel
theorem dc_L_at_5 : decode bc_L_at 5 = .ok (.iload_n 2, 1) := by decide +kernel
theorem dc_L_at_6 : decode bc_L_at 6 = .ok (.iload_n 3, 1) := by decide +kernel
theorem dc_L_at_7 : decode bc_L_at 7 = .ok (.iload 4, 2) := by decide +kernel
theorem dc_L_at_9 : decode bc_L_at 9 = .ok (.invokevirtual 38, 3) := by decide +kernel
theorem dc_L_at_12 : decode bc_L_at 12 = .ok (.i2l, 1) := by decide +kernel
theorem dc_L_at_13 : decode bc_L_at 13 = .ok (.lastore, 1) := by decide +kernel
theorem dc_L_at_14 : decode bc_L_at 14 = .ok (.goto 11, 3) := by decide +kernel
theorem dc_L_at_17 : decode bc_L_at 17 = .ok (.astore 6, 2) := by decide +kernel
theorem dc_L_at_19 : decode bc_L_at 19 = .ok (.iconst 1, 1) := by decide +kernel
theorem dc_L_at_20 : decode bc_L_at 20 = .ok (.ireturn, 1) := by decide +kernel
theorem dc_L_at_21 : decode bc_L_at 21 = .ok (.astore 6, 2) := by decide +kernel
theorem dc_L_at_23 : decode bc_L_at 23 = .ok (.iconst 2, 1) := by decide +kernel
theorem dc_L_at_24 : decode bc_L_at 24 = .ok (.ireturn, 1) := by decide +kernel
theorem dc_L_at_25 : decode bc_L_at 25 = .ok (.iconst 0, 1) := by decide +kernel
theorem dc_L_at_26 : decode bc_L_at 26 = .ok (.ireturn, 1) := by decide +kernel
theorem dc_L_about_0 : decode bc_L_about 0 = .ok (.aload_n 3, 1) := by decide +kernel
theorem dc_L_about_1 : decode bc_L_about 1 = .ok (.iconst 0, 1) := by decide +kernel
theorem dc_L_about_2 : decode bc_L_about 2 = .ok (.aload_n 0, 1) := by decide +kernel
theorem dc_L_about_3 : decode bc_L_about 3 = .ok (.iload_n 1, 1) := by decide +kernel
theorem dc_L_about_4 : decode bc_L_about 4 = .ok (.iload_n 2, 1) := by decide +kernel
theorem dc_L_about_5 : decode bc_L_about 5 = .ok (.invokevirtual 41, 3) := by decide +kernel
theorem dc_L_about_8 : decode bc_L_about 8 = .ok (.i2l, 1) := by decide +kernel
theorem dc_L_about_9 : decode bc_L_about 9 = .ok (.lastore, 1) := by decide +kernel
theorem dc_L_about_10 : decode bc_L_about 10 = .ok (.goto 11, 3) := by decide +kernel
theorem dc_L_about_13 : decode bc_L_about 13 = .ok (.astore 4, 2) := by decide +kernel
theorem dc_L_about_15 : decode bc_L_about 15 = .ok (.iconst 1, 1) := by decide +kernel
theorem dc_L_about_16 : decode bc_L_about 16 = .ok (.ireturn, 1) := by decide +kernel
theorem dc_L_about_17 : decode bc_L_about 17 = .ok (.astore 4, 2) := by decide +kernel
theorem dc_L_about_19 : decode bc_L_about 19 = .ok (.iconst 2, 1) := by decide +kernel
theorem dc_L_about_20 : decode bc_L_about 20 = .ok (.ireturn, 1) := by decide +kernel
theorem dc_L_about_21 : decode bc_L_about 21 = .ok (.iconst 0, 1) := by decide +kernel
theorem dc_L_about_22 : decode bc_L_about 22 = .ok (.ireturn, 1) := by decide +kernel
theorem dc_L_contour_0 : decode bc_L_contour 0 = .ok (.aload_n 3, 1) := by decide +kernel
theorem dc_L_contour_1 : decode bc_L_contour 1 = .ok (.iconst 0, 1) := by decide +kernel
theorem dc_L_contour_2 : decode bc_L_contour 2 = .ok (.aload_n 0, 1) := by decide +kernel
theorem dc_L_contour_3 : decode bc_L_contour 3 = .ok (.iload_n 1, 1) := by decide +kernel
theorem dc_L_contour_4 : decode bc_L_contour 4 = .ok (.iload_n 2, 1) := by decide +kernel
theorem dc_L_contour_5 : decode bc_L_contour 5 = .ok (.invokevirtual 45, 3) := by decide +kernel
theorem dc_L_contour_8 : decode bc_L_contour 8 = .ok (.i2l, 1) := by decide +kernel
theorem dc_L_contour_9 : decode bc_L_contour 9 = .ok (.lastore, 1) := by decide +kernel
theorem dc_L_contour_10 : decode bc_L_contour 10 = .ok (.goto 7, 3) := by decide +kernel
theorem dc_L_contour_13 : decode bc_L_contour 13 = .ok (.astore 4, 2) := by decide +kernel
theorem dc_L_contour_15 : decode bc_L_contour 15 = .ok (.iconst 1, 1) := by decide +kernel
theorem dc_L_contour_16 : decode bc_L_contour 16 = .ok (.ireturn, 1) := by decide +kernel
theorem dc_L_contour_17 : decode bc_L_contour 17 = .ok (.iconst 0, 1) := by decide +kernel
theorem dc_L_contour_18 : decode bc_L_contour 18 = .ok (.ireturn, 1) := by decide +kernel
theorem dc_L_ask_0 : decode bc_L_ask 0 = .ok (.aload_n 3, 1) := by decide +kernel
theorem dc_L_ask_1 : decode bc_L_ask 1 = .ok (.iconst 0, 1) := by decide +kernel
theorem dc_L_ask_2 : decode bc_L_ask 2 = .ok (.aload_n 0, 1) := by decide +kernel
theorem dc_L_ask_3 : decode bc_L_ask 3 = .ok (.iload_n 1, 1) := by decide +kernel
theorem dc_L_ask_4 : decode bc_L_ask 4 = .ok (.iload_n 2, 1) := by decide +kernel
theorem dc_L_ask_5 : decode bc_L_ask 5 = .ok (.invokevirtual 48, 3) := by decide +kernel
theorem dc_L_ask_8 : decode bc_L_ask 8 = .ok (.i2l, 1) := by decide +kernel
theorem dc_L_ask_9 : decode bc_L_ask 9 = .ok (.lastore, 1) := by decide +kernel
theorem dc_L_ask_10 : decode bc_L_ask 10 = .ok (.goto 11, 3) := by decide +kernel
theorem dc_L_ask_13 : decode bc_L_ask 13 = .ok (.astore 4, 2) := by decide +kernel
theorem dc_L_ask_15 : decode bc_L_ask 15 = .ok (.iconst 1, 1) := by decide +kernel
theorem dc_L_ask_16 : decode bc_L_ask 16 = .ok (.ireturn, 1) := by decide +kernel
theorem dc_L_ask_17 : decode bc_L_ask 17 = .ok (.astore 4, 2) := by decide +kernel
theorem dc_L_ask_19 : decode bc_L_ask 19 = .ok (.iconst 2, 1) := by decide +kernel
theorem dc_L_ask_20 : decode bc_L_ask 20 = .ok (.ireturn, 1) := by decide +kernel
theorem dc_L_ask_21 : decode bc_L_ask 21 = .ok (.iconst 0, 1) := by decide +kernel
theorem dc_L_ask_22 : decode bc_L_ask 22 = .ok (.ireturn, 1) := by decide +kernel
theorem dc_L_search_0 : decode bc_L_search 0 = .ok (.aload_n 3, 1) := by decide +kernel
theorem dc_L_search_1 : decode bc_L_search 1 = .ok (.iconst 0, 1) := by decide +kernel
theorem dc_L_search_2 : decode bc_L_search 2 = .ok (.aload_n 0, 1) := by decide +kernel
theorem dc_L_search_3 : decode bc_L_search 3 = .ok (.iload_n 1, 1) := by decide +kernel
theorem dc_L_search_4 : decode bc_L_search 4 = .ok (.iload_n 2, 1) := by decide +kernel
theorem dc_L_search_5 : decode bc_L_search 5 = .ok (.invokevirtual 51, 3) := by decide +kernel
theorem dc_L_search_8 : decode bc_L_search 8 = .ok (.i2l, 1) := by decide +kernel
theorem dc_L_search_9 : decode bc_L_search 9 = .ok (.lastore, 1) := by decide +kernel
theorem dc_L_search_10 : decode bc_L_search 10 = .ok (.goto 11, 3) := by decide +kernel
theorem dc_L_search_13 : decode bc_L_search 13 = .ok (.astore 4, 2) := by decide +kernel
theorem dc_L_search_15 : decode bc_L_search 15 = .ok (.iconst 1, 1) := by decide +kernel
theorem dc_L_search_16 : decode bc_L_search 16 = .ok (.ireturn, 1) := by decide +kernel
theorem dc_L_search_17 : decode bc_L_search 17 = .ok (.astore 4, 2) := by decide +kernel
theorem dc_L_search_19 : decode bc_L_search 19 = .ok (.iconst 2, 1) := by decide +kernel
theorem dc_L_search_20 : decode bc_L_search 20 = .ok (.ireturn, 1) := by decide +kernel
theorem dc_L_search_21 : decode bc_L_search 21 = .ok (.iconst 0, 1) := by decide +kernel
theorem dc_L_search_22 : decode bc_L_search 22 = .ok (.ireturn, 1) := by decide +kernel
theorem dc_L_match_0 : decode bc_L_match 0 = .ok (.aload_n 3, 1) := by decide +kernel
theorem dc_L_match_1 : decode bc_L_match 1 = .ok (.iconst 0, 1) := by decide +kernel
theorem dc_L_match_2 : decode bc_L_match 2 = .ok (.aload_n 0, 1) := by decide +kernel
theorem dc_L_match_3 : decode bc_L_match 3 = .ok (.iload_n 1, 1) := by decide +kernel
theorem dc_L_match_4 : decode bc_L_match 4 = .ok (.iload_n 2, 1) := by decide +kernel
theorem dc_L_match_5 : decode bc_L_match 5 = .ok (.invokevirtual 54, 3) := by decide +kernel
theorem dc_L_match_8 : decode bc_L_match 8 = .ok (.i2l, 1) := by decide +kernel
theorem dc_L_match_9 : decode bc_L_match 9 = .ok (.lastore, 1) := by decide +kernel
theorem dc_L_match_10 : decode bc_L_match 10 = .ok (.goto 11, 3) := by decide +kernel
theorem dc_L_match_13 : decode bc_L_match 13 = .ok (.astore 4, 2) := by decide +kernel
theorem dc_L_match_15 : decode bc_L_match 15 = .ok (.iconst 1, 1) := by decide +kernel
theorem dc_L_match_16 : decode bc_L_match 16 = .ok (.ireturn, 1) := by decide +kernel
theorem dc_L_match_17 : decode bc_L_match 17 = .ok (.astore 4, 2) := by decide +kernel
theorem dc_L_match_19 : decode bc_L_match 19 = .ok (.iconst 2, 1) := by decide +kernel
theorem dc_L_match_20 : decode bc_L_match 20 = .ok (.ireturn, 1) := by decide +kernel
theorem dc_L_match_21 : decode bc_L_match 21 = .ok (.iconst 0, 1) := by decide +kernel
theorem dc_L_match_22 : decode bc_L_match 22 = .ok (.ireturn, 1) := by decide +kernel
theorem dc_L_repeats_0 : decode bc_L_repeats 0 = .ok (.aload_n 3, 1) := by decide +kernel
theorem dc_L_repeats_1 : decode bc_L_repeats 1 = .ok (.iconst 0, 1) := by decide +kernel
theorem dc_L_repeats_2 : decode bc_L_repeats 2 = .ok (.aload_n 0, 1) := by decide +kernel
theorem dc_L_repeats_3 : decode bc_L_repeats 3 = .ok (.iload_n 1, 1) := by decide +kernel
theorem dc_L_repeats_4 : decode bc_L_repeats 4 = .ok (.iload_n 2, 1) := by decide +kernel
theorem dc_L_repeats_5 : decode bc_L_repeats 5 = .ok (.invokevirtual 57, 3) := by decide +kernel
theorem dc_L_repeats_8 : decode bc_L_repeats 8 = .ok (.i2l, 1) := by decide +kernel
theorem dc_L_repeats_9 : decode bc_L_repeats 9 = .ok (.lastore, 1) := by decide +kernel
theorem dc_L_repeats_10 : decode bc_L_repeats 10 = .ok (.goto 11, 3) := by decide +kernel
theorem dc_L_repeats_13 : decode bc_L_repeats 13 = .ok (.astore 4, 2) := by decide +kernel
theorem dc_L_repeats_15 : decode bc_L_repeats 15 = .ok (.iconst 1, 1) := by decide +kernel
theorem dc_L_repeats_16 : decode bc_L_repeats 16 = .ok (.ireturn, 1) := by decide +kernel
theorem dc_L_repeats_17 : decode bc_L_repeats 17 = .ok (.astore 4, 2) := by decide +kernel
theorem dc_L_repeats_19 : decode bc_L_repeats 19 = .ok (.iconst 2, 1) := by decide +kernel
theorem dc_L_repeats_20 : decode bc_L_repeats 20 = .ok (.ireturn, 1) := by decide +kernel
theorem dc_L_repeats_21 : decode bc_L_repeats 21 = .ok (.iconst 0, 1) := by decide +kernel
theorem dc_L_repeats_22 : decode bc_L_repeats 22 = .ok (.ireturn, 1) := by decide +kernel
theorem dc_L_repeat_0 : decode bc_L_repeat 0 = .ok (.aload 5, 2) := by decide +kernel
theorem dc_L_repeat_2 : decode bc_L_repeat 2 = .ok (.iconst 0, 1) := by decide +kernel
theorem dc_L_repeat_3 : decode bc_L_repeat 3 = .ok (.aload_n 0, 1) := by decide +kernel
theorem dc_L_repeat_4 : decode bc_L_repeat 4 = .ok (.iload_n 1, 1) := by decide +kernel
theorem dc_L_repeat_5 : decode bc_L_repeat 5 = .ok (.iload_n 2, 1) := by decide +kernel
theorem dc_L_repeat_6 : decode bc_L_repeat 6 = .ok (.iload_n 3, 1) := by decide +kernel
theorem dc_L_repeat_7 : decode bc_L_repeat 7 = .ok (.iload 4, 2) := by decide +kernel
theorem dc_L_repeat_9 : decode bc_L_repeat 9 = .ok (.invokevirtual 60, 3) := by decide +kernel
theorem dc_L_repeat_12 : decode bc_L_repeat 12 = .ok (.i2l, 1) := by decide +kernel
theorem dc_L_repeat_13 : decode bc_L_repeat 13 = .ok (.lastore, 1) := by decide +kernel
theorem dc_L_repeat_14 : decode bc_L_repeat 14 = .ok (.goto 11, 3) := by decide +kernel
theorem dc_L_repeat_17 : decode bc_L_repeat 17 = .ok (.astore 6, 2) := by decide +kernel
theorem dc_L_repeat_19 : decode bc_L_repeat 19 = .ok (.iconst 1, 1) := by decide +kernel
theorem dc_L_repeat_20 : decode bc_L_repeat 20 = .ok (.ireturn, 1) := by decide +kernel
theorem dc_L_repeat_21 : decode bc_L_repeat 21 = .ok (.astore 6, 2) := by decide +kernel
theorem dc_L_repeat_23 : decode bc_L_repeat 23 = .ok (.iconst 2, 1) := by decide +kernel
theorem dc_L_repeat_24 : decode bc_L_repeat 24 = .ok (.ireturn, 1) := by decide +kernel
theorem dc_L_repeat_25 : decode bc_L_repeat 25 = .ok (.iconst 0, 1) := by decide +kernel
theorem dc_L_repeat_26 : decode bc_L_repeat 26 = .ok (.ireturn, 1) := by decide +kernel
theorem dc_L_canon_0 : decode bc_L_canon 0 = .ok (.aload 4, 2) := by decide +kernel
theorem dc_L_canon_2 : decode bc_L_canon 2 = .ok (.iconst 0, 1) := by decide +kernel
theorem dc_L_canon_3 : decode bc_L_canon 3 = .ok (.aload_n 0, 1) := by decide +kernel
theorem dc_L_canon_4 : decode bc_L_canon 4 = .ok (.iload_n 1, 1) := by decide +kernel
theorem dc_L_canon_5 : decode bc_L_canon 5 = .ok (.iload_n 2, 1) := by decide +kernel
theorem dc_L_canon_6 : decode bc_L_canon 6 = .ok (.iload_n 3, 1) := by decide +kernel
theorem dc_L_canon_7 : decode bc_L_canon 7 = .ok (.invokevirtual 63, 3) := by decide +kernel
theorem dc_L_canon_10 : decode bc_L_canon 10 = .ok (.i2l, 1) := by decide +kernel
theorem dc_L_canon_11 : decode bc_L_canon 11 = .ok (.lastore, 1) := by decide +kernel
theorem dc_L_canon_12 : decode bc_L_canon 12 = .ok (.goto 11, 3) := by decide +kernel
theorem dc_L_canon_15 : decode bc_L_canon 15 = .ok (.astore 5, 2) := by decide +kernel
theorem dc_L_canon_17 : decode bc_L_canon 17 = .ok (.iconst 1, 1) := by decide +kernel
theorem dc_L_canon_18 : decode bc_L_canon 18 = .ok (.ireturn, 1) := by decide +kernel
theorem dc_L_canon_19 : decode bc_L_canon 19 = .ok (.astore 5, 2) := by decide +kernel
theorem dc_L_canon_21 : decode bc_L_canon 21 = .ok (.iconst 2, 1) := by decide +kernel
theorem dc_L_canon_22 : decode bc_L_canon 22 = .ok (.ireturn, 1) := by decide +kernel
theorem dc_L_canon_23 : decode bc_L_canon 23 = .ok (.iconst 0, 1) := by decide +kernel
theorem dc_L_canon_24 : decode bc_L_canon 24 = .ok (.ireturn, 1) := by decide +kernel
theorem dc_L_opening_0 : decode bc_L_opening 0 = .ok (.aload_n 3, 1) := by decide +kernel
theorem dc_L_opening_1 : decode bc_L_opening 1 = .ok (.iconst 0, 1) := by decide +kernel
theorem dc_L_opening_2 : decode bc_L_opening 2 = .ok (.aload_n 0, 1) := by decide +kernel
theorem dc_L_opening_3 : decode bc_L_opening 3 = .ok (.iload_n 1, 1) := by decide +kernel
theorem dc_L_opening_4 : decode bc_L_opening 4 = .ok (.iload_n 2, 1) := by decide +kernel
theorem dc_L_opening_5 : decode bc_L_opening 5 = .ok (.invokevirtual 66, 3) := by decide +kernel
theorem dc_L_opening_8 : decode bc_L_opening 8 = .ok (.i2l, 1) := by decide +kernel
theorem dc_L_opening_9 : decode bc_L_opening 9 = .ok (.lastore, 1) := by decide +kernel
theorem dc_L_opening_10 : decode bc_L_opening 10 = .ok (.goto 7, 3) := by decide +kernel
theorem dc_L_opening_13 : decode bc_L_opening 13 = .ok (.astore 4, 2) := by decide +kernel
theorem dc_L_opening_15 : decode bc_L_opening 15 = .ok (.iconst 1, 1) := by decide +kernel
theorem dc_L_opening_16 : decode bc_L_opening 16 = .ok (.ireturn, 1) := by decide +kernel
theorem dc_L_opening_17 : decode bc_L_opening 17 = .ok (.iconst 0, 1) := by decide +kernel
theorem dc_L_opening_18 : decode bc_L_opening 18 = .ok (.ireturn, 1) := by decide +kernel
theorem dc_L_law_0 : decode code 0 = .ok (.new 8, 3) := by decide +kernel
theorem dc_L_law_3 : decode code 3 = .ok (.dup, 1) := by decide +kernel
theorem dc_L_law_4 : decode code 4 = .ok (.invokespecial 69, 3) := by decide +kernel
theorem dc_L_law_7 : decode code 7 = .ok (.astore_n 1, 1) := by decide +kernel
theorem dc_L_law_8 : decode code 8 = .ok (.new 70, 3) := by decide +kernel
theorem dc_L_law_11 : decode code 11 = .ok (.dup, 1) := by decide +kernel
theorem dc_L_law_12 : decode code 12 = .ok (.invokespecial 72, 3) := by decide +kernel
theorem dc_L_law_15 : decode code 15 = .ok (.astore_n 2, 1) := by decide +kernel
theorem dc_L_law_16 : decode code 16 = .ok (.iconst 1, 1) := by decide +kernel
theorem dc_L_law_17 : decode code 17 = .ok (.newarray .long, 2) := by decide +kernel
theorem dc_L_law_19 : decode code 19 = .ok (.astore_n 3, 1) := by decide +kernel
theorem dc_L_law_20 : decode code 20 = .ok (.iconst 0, 1) := by decide +kernel
theorem dc_L_law_21 : decode code 21 = .ok (.istore 4, 2) := by decide +kernel
theorem dc_L_law_23 : decode code 23 = .ok (.iload 4, 2) := by decide +kernel
theorem dc_L_law_25 : decode code 25 = .ok (.aload_n 0, 1) := by decide +kernel
theorem dc_L_law_26 : decode code 26 = .ok (.arraylength, 1) := by decide +kernel
theorem dc_L_law_27 : decode code 27 = .ok (.iconst 5, 1) := by decide +kernel
theorem dc_L_law_28 : decode code 28 = .ok (.isub, 1) := by decide +kernel
theorem dc_L_law_29 : decode code 29 = .ok (.if_icmp .gt 1204, 3) := by decide +kernel
theorem dc_L_law_32 : decode code 32 = .ok (.aload_n 0, 1) := by decide +kernel
theorem dc_L_law_33 : decode code 33 = .ok (.iload 4, 2) := by decide +kernel
theorem dc_L_law_35 : decode code 35 = .ok (.iaload, 1) := by decide +kernel
theorem dc_L_law_36 : decode code 36 = .ok (.bipush 31, 2) := by decide +kernel
theorem dc_L_law_38 : decode code 38 = .ok (.iand, 1) := by decide +kernel
theorem dc_L_law_39 : decode code 39 = .ok (.tableswitch 1188 0 16 #[81, 117, 153, 233, 297, 389, 437, 529, 597, 665, 733, 744, 812, 880, 948, 1040, 1120], 81) := by decide +kernel
theorem dc_L_law_120 : decode code 120 = .ok (.aload_n 1, 1) := by decide +kernel
theorem dc_L_law_121 : decode code 121 = .ok (.aload_n 0, 1) := by decide +kernel
theorem dc_L_law_122 : decode code 122 = .ok (.iload 4, 2) := by decide +kernel
theorem dc_L_law_124 : decode code 124 = .ok (.iconst 1, 1) := by decide +kernel
theorem dc_L_law_125 : decode code 125 = .ok (.iadd, 1) := by decide +kernel
theorem dc_L_law_126 : decode code 126 = .ok (.iaload, 1) := by decide +kernel
theorem dc_L_law_127 : decode code 127 = .ok (.invokestatic 73, 3) := by decide +kernel
theorem dc_L_law_130 : decode code 130 = .ok (.istore 5, 2) := by decide +kernel
theorem dc_L_law_132 : decode code 132 = .ok (.aload_n 2, 1) := by decide +kernel
theorem dc_L_law_133 : decode code 133 = .ok (.aload_n 0, 1) := by decide +kernel
theorem dc_L_law_134 : decode code 134 = .ok (.iload 4, 2) := by decide +kernel
theorem dc_L_law_136 : decode code 136 = .ok (.iconst 1, 1) := by decide +kernel
theorem dc_L_law_137 : decode code 137 = .ok (.iadd, 1) := by decide +kernel
theorem dc_L_law_138 : decode code 138 = .ok (.iaload, 1) := by decide +kernel
theorem dc_L_law_139 : decode code 139 = .ok (.invokevirtual 78, 3) := by decide +kernel
theorem dc_L_law_142 : decode code 142 = .ok (.aload_n 2, 1) := by decide +kernel
theorem dc_L_law_143 : decode code 143 = .ok (.invokevirtual 79, 3) := by decide +kernel
theorem dc_L_law_146 : decode code 146 = .ok (.iload 5, 2) := by decide +kernel
theorem dc_L_law_148 : decode code 148 = .ok (.if_icmp .eq 5, 3) := by decide +kernel
theorem dc_L_law_151 : decode code 151 = .ok (.iconst 0, 1) := by decide +kernel
theorem dc_L_law_152 : decode code 152 = .ok (.ireturn, 1) := by decide +kernel
theorem dc_L_law_153 : decode code 153 = .ok (.goto 1074, 3) := by decide +kernel
theorem dc_L_law_156 : decode code 156 = .ok (.aload_n 1, 1) := by decide +kernel
theorem dc_L_law_157 : decode code 157 = .ok (.aload_n 0, 1) := by decide +kernel
theorem dc_L_law_158 : decode code 158 = .ok (.iload 4, 2) := by decide +kernel
theorem dc_L_law_160 : decode code 160 = .ok (.iconst 1, 1) := by decide +kernel
theorem dc_L_law_161 : decode code 161 = .ok (.iadd, 1) := by decide +kernel
theorem dc_L_law_162 : decode code 162 = .ok (.iaload, 1) := by decide +kernel
theorem dc_L_law_163 : decode code 163 = .ok (.invokestatic 83, 3) := by decide +kernel
theorem dc_L_law_166 : decode code 166 = .ok (.istore 5, 2) := by decide +kernel
theorem dc_L_law_168 : decode code 168 = .ok (.aload_n 2, 1) := by decide +kernel
theorem dc_L_law_169 : decode code 169 = .ok (.aload_n 0, 1) := by decide +kernel
theorem dc_L_law_170 : decode code 170 = .ok (.iload 4, 2) := by decide +kernel
theorem dc_L_law_172 : decode code 172 = .ok (.iconst 1, 1) := by decide +kernel
theorem dc_L_law_173 : decode code 173 = .ok (.iadd, 1) := by decide +kernel
theorem dc_L_law_174 : decode code 174 = .ok (.iaload, 1) := by decide +kernel
theorem dc_L_law_175 : decode code 175 = .ok (.invokevirtual 85, 3) := by decide +kernel
theorem dc_L_law_178 : decode code 178 = .ok (.aload_n 2, 1) := by decide +kernel
theorem dc_L_law_179 : decode code 179 = .ok (.invokevirtual 79, 3) := by decide +kernel
theorem dc_L_law_182 : decode code 182 = .ok (.iload 5, 2) := by decide +kernel
theorem dc_L_law_184 : decode code 184 = .ok (.if_icmp .eq 5, 3) := by decide +kernel
theorem dc_L_law_187 : decode code 187 = .ok (.iconst 0, 1) := by decide +kernel
theorem dc_L_law_188 : decode code 188 = .ok (.ireturn, 1) := by decide +kernel
theorem dc_L_law_189 : decode code 189 = .ok (.goto 1038, 3) := by decide +kernel
theorem dc_L_law_192 : decode code 192 = .ok (.aload_n 1, 1) := by decide +kernel
theorem dc_L_law_193 : decode code 193 = .ok (.aload_n 0, 1) := by decide +kernel
theorem dc_L_law_194 : decode code 194 = .ok (.iload 4, 2) := by decide +kernel
theorem dc_L_law_196 : decode code 196 = .ok (.iconst 1, 1) := by decide +kernel
theorem dc_L_law_197 : decode code 197 = .ok (.iadd, 1) := by decide +kernel
theorem dc_L_law_198 : decode code 198 = .ok (.iaload, 1) := by decide +kernel
theorem dc_L_law_199 : decode code 199 = .ok (.aload_n 0, 1) := by decide +kernel
theorem dc_L_law_200 : decode code 200 = .ok (.iload 4, 2) := by decide +kernel
theorem dc_L_law_202 : decode code 202 = .ok (.iconst 2, 1) := by decide +kernel
theorem dc_L_law_203 : decode code 203 = .ok (.iadd, 1) := by decide +kernel
theorem dc_L_law_204 : decode code 204 = .ok (.iaload, 1) := by decide +kernel
theorem dc_L_law_205 : decode code 205 = .ok (.aload_n 0, 1) := by decide +kernel
theorem dc_L_law_206 : decode code 206 = .ok (.iload 4, 2) := by decide +kernel
theorem dc_L_law_208 : decode code 208 = .ok (.iconst 3, 1) := by decide +kernel
theorem dc_L_law_209 : decode code 209 = .ok (.iadd, 1) := by decide +kernel
theorem dc_L_law_210 : decode code 210 = .ok (.iaload, 1) := by decide +kernel
theorem dc_L_law_211 : decode code 211 = .ok (.aload_n 3, 1) := by decide +kernel
theorem dc_L_law_212 : decode code 212 = .ok (.invokestatic 86, 3) := by decide +kernel
theorem dc_L_law_215 : decode code 215 = .ok (.istore 5, 2) := by decide +kernel
theorem dc_L_law_217 : decode code 217 = .ok (.aload_n 2, 1) := by decide +kernel
theorem dc_L_law_218 : decode code 218 = .ok (.aload_n 0, 1) := by decide +kernel
theorem dc_L_law_219 : decode code 219 = .ok (.iload 4, 2) := by decide +kernel
theorem dc_L_law_221 : decode code 221 = .ok (.iconst 1, 1) := by decide +kernel
theorem dc_L_law_222 : decode code 222 = .ok (.iadd, 1) := by decide +kernel
theorem dc_L_law_223 : decode code 223 = .ok (.iaload, 1) := by decide +kernel
theorem dc_L_law_224 : decode code 224 = .ok (.aload_n 0, 1) := by decide +kernel
theorem dc_L_law_225 : decode code 225 = .ok (.iload 4, 2) := by decide +kernel
theorem dc_L_law_227 : decode code 227 = .ok (.iconst 2, 1) := by decide +kernel
theorem dc_L_law_228 : decode code 228 = .ok (.iadd, 1) := by decide +kernel
theorem dc_L_law_229 : decode code 229 = .ok (.iaload, 1) := by decide +kernel
theorem dc_L_law_230 : decode code 230 = .ok (.aload_n 0, 1) := by decide +kernel
theorem dc_L_law_231 : decode code 231 = .ok (.iload 4, 2) := by decide +kernel
theorem dc_L_law_233 : decode code 233 = .ok (.iconst 3, 1) := by decide +kernel
theorem dc_L_law_234 : decode code 234 = .ok (.iadd, 1) := by decide +kernel
theorem dc_L_law_235 : decode code 235 = .ok (.iaload, 1) := by decide +kernel
theorem dc_L_law_236 : decode code 236 = .ok (.invokevirtual 89, 3) := by decide +kernel
theorem dc_L_law_239 : decode code 239 = .ok (.istore 6, 2) := by decide +kernel
theorem dc_L_law_241 : decode code 241 = .ok (.aload_n 2, 1) := by decide +kernel
theorem dc_L_law_242 : decode code 242 = .ok (.invokevirtual 79, 3) := by decide +kernel
theorem dc_L_law_245 : decode code 245 = .ok (.iload 5, 2) := by decide +kernel
theorem dc_L_law_247 : decode code 247 = .ok (.if_icmp .eq 5, 3) := by decide +kernel
theorem dc_L_law_250 : decode code 250 = .ok (.iconst 0, 1) := by decide +kernel
theorem dc_L_law_251 : decode code 251 = .ok (.ireturn, 1) := by decide +kernel
theorem dc_L_law_252 : decode code 252 = .ok (.iload 5, 2) := by decide +kernel
theorem dc_L_law_254 : decode code 254 = .ok (.ifCond .ne 15, 3) := by decide +kernel
theorem dc_L_law_257 : decode code 257 = .ok (.aload_n 3, 1) := by decide +kernel
theorem dc_L_law_258 : decode code 258 = .ok (.iconst 0, 1) := by decide +kernel
theorem dc_L_law_259 : decode code 259 = .ok (.laload, 1) := by decide +kernel
theorem dc_L_law_260 : decode code 260 = .ok (.iload 6, 2) := by decide +kernel
theorem dc_L_law_262 : decode code 262 = .ok (.i2l, 1) := by decide +kernel
theorem dc_L_law_263 : decode code 263 = .ok (.lcmp, 1) := by decide +kernel
theorem dc_L_law_264 : decode code 264 = .ok (.ifCond .eq 5, 3) := by decide +kernel
theorem dc_L_law_267 : decode code 267 = .ok (.iconst 0, 1) := by decide +kernel
theorem dc_L_law_268 : decode code 268 = .ok (.ireturn, 1) := by decide +kernel
theorem dc_L_law_269 : decode code 269 = .ok (.goto 958, 3) := by decide +kernel
theorem dc_L_law_272 : decode code 272 = .ok (.aload_n 1, 1) := by decide +kernel
theorem dc_L_law_273 : decode code 273 = .ok (.aload_n 0, 1) := by decide +kernel
theorem dc_L_law_274 : decode code 274 = .ok (.iload 4, 2) := by decide +kernel
theorem dc_L_law_276 : decode code 276 = .ok (.iconst 1, 1) := by decide +kernel
theorem dc_L_law_277 : decode code 277 = .ok (.iadd, 1) := by decide +kernel
theorem dc_L_law_278 : decode code 278 = .ok (.iaload, 1) := by decide +kernel
theorem dc_L_law_279 : decode code 279 = .ok (.aload_n 0, 1) := by decide +kernel
theorem dc_L_law_280 : decode code 280 = .ok (.iload 4, 2) := by decide +kernel
theorem dc_L_law_282 : decode code 282 = .ok (.iconst 2, 1) := by decide +kernel
theorem dc_L_law_283 : decode code 283 = .ok (.iadd, 1) := by decide +kernel
theorem dc_L_law_284 : decode code 284 = .ok (.iaload, 1) := by decide +kernel
theorem dc_L_law_285 : decode code 285 = .ok (.ifCond .eq 7, 3) := by decide +kernel
theorem dc_L_law_288 : decode code 288 = .ok (.iconst 1, 1) := by decide +kernel
theorem dc_L_law_289 : decode code 289 = .ok (.goto 4, 3) := by decide +kernel
theorem dc_L_law_292 : decode code 292 = .ok (.iconst 0, 1) := by decide +kernel
theorem dc_L_law_293 : decode code 293 = .ok (.invokestatic 90, 3) := by decide +kernel
theorem dc_L_law_296 : decode code 296 = .ok (.istore 5, 2) := by decide +kernel
theorem dc_L_law_298 : decode code 298 = .ok (.aload_n 2, 1) := by decide +kernel
theorem dc_L_law_299 : decode code 299 = .ok (.aload_n 0, 1) := by decide +kernel
theorem dc_L_law_300 : decode code 300 = .ok (.iload 4, 2) := by decide +kernel
theorem dc_L_law_302 : decode code 302 = .ok (.iconst 1, 1) := by decide +kernel
theorem dc_L_law_303 : decode code 303 = .ok (.iadd, 1) := by decide +kernel
theorem dc_L_law_304 : decode code 304 = .ok (.iaload, 1) := by decide +kernel
theorem dc_L_law_305 : decode code 305 = .ok (.aload_n 0, 1) := by decide +kernel
theorem dc_L_law_306 : decode code 306 = .ok (.iload 4, 2) := by decide +kernel
theorem dc_L_law_308 : decode code 308 = .ok (.iconst 2, 1) := by decide +kernel
theorem dc_L_law_309 : decode code 309 = .ok (.iadd, 1) := by decide +kernel
theorem dc_L_law_310 : decode code 310 = .ok (.iaload, 1) := by decide +kernel
theorem dc_L_law_311 : decode code 311 = .ok (.ifCond .eq 7, 3) := by decide +kernel
theorem dc_L_law_314 : decode code 314 = .ok (.iconst 1, 1) := by decide +kernel
theorem dc_L_law_315 : decode code 315 = .ok (.goto 4, 3) := by decide +kernel
theorem dc_L_law_318 : decode code 318 = .ok (.iconst 0, 1) := by decide +kernel
theorem dc_L_law_319 : decode code 319 = .ok (.invokevirtual 93, 3) := by decide +kernel
theorem dc_L_law_322 : decode code 322 = .ok (.aload_n 2, 1) := by decide +kernel
theorem dc_L_law_323 : decode code 323 = .ok (.invokevirtual 79, 3) := by decide +kernel
theorem dc_L_law_326 : decode code 326 = .ok (.iload 5, 2) := by decide +kernel
theorem dc_L_law_328 : decode code 328 = .ok (.if_icmp .eq 5, 3) := by decide +kernel
theorem dc_L_law_331 : decode code 331 = .ok (.iconst 0, 1) := by decide +kernel
theorem dc_L_law_332 : decode code 332 = .ok (.ireturn, 1) := by decide +kernel
theorem dc_L_law_333 : decode code 333 = .ok (.goto 894, 3) := by decide +kernel
theorem dc_L_law_336 : decode code 336 = .ok (.aload_n 1, 1) := by decide +kernel
theorem dc_L_law_337 : decode code 337 = .ok (.aload_n 0, 1) := by decide +kernel
theorem dc_L_law_338 : decode code 338 = .ok (.iload 4, 2) := by decide +kernel
theorem dc_L_law_340 : decode code 340 = .ok (.iconst 1, 1) := by decide +kernel
theorem dc_L_law_341 : decode code 341 = .ok (.iadd, 1) := by decide +kernel
theorem dc_L_law_342 : decode code 342 = .ok (.iaload, 1) := by decide +kernel
theorem dc_L_law_343 : decode code 343 = .ok (.aload_n 0, 1) := by decide +kernel
theorem dc_L_law_344 : decode code 344 = .ok (.iload 4, 2) := by decide +kernel
theorem dc_L_law_346 : decode code 346 = .ok (.iconst 2, 1) := by decide +kernel
theorem dc_L_law_347 : decode code 347 = .ok (.iadd, 1) := by decide +kernel
theorem dc_L_law_348 : decode code 348 = .ok (.iaload, 1) := by decide +kernel
theorem dc_L_law_349 : decode code 349 = .ok (.aload_n 0, 1) := by decide +kernel
theorem dc_L_law_350 : decode code 350 = .ok (.iload 4, 2) := by decide +kernel
theorem dc_L_law_352 : decode code 352 = .ok (.iconst 3, 1) := by decide +kernel
theorem dc_L_law_353 : decode code 353 = .ok (.iadd, 1) := by decide +kernel
theorem dc_L_law_354 : decode code 354 = .ok (.iaload, 1) := by decide +kernel
theorem dc_L_law_355 : decode code 355 = .ok (.aload_n 0, 1) := by decide +kernel
theorem dc_L_law_356 : decode code 356 = .ok (.iload 4, 2) := by decide +kernel
theorem dc_L_law_358 : decode code 358 = .ok (.iconst 4, 1) := by decide +kernel
theorem dc_L_law_359 : decode code 359 = .ok (.iadd, 1) := by decide +kernel
theorem dc_L_law_360 : decode code 360 = .ok (.iaload, 1) := by decide +kernel
theorem dc_L_law_361 : decode code 361 = .ok (.aload_n 3, 1) := by decide +kernel
theorem dc_L_law_362 : decode code 362 = .ok (.invokestatic 94, 3) := by decide +kernel
theorem dc_L_law_365 : decode code 365 = .ok (.istore 5, 2) := by decide +kernel
theorem dc_L_law_367 : decode code 367 = .ok (.aload_n 2, 1) := by decide +kernel
theorem dc_L_law_368 : decode code 368 = .ok (.aload_n 0, 1) := by decide +kernel
theorem dc_L_law_369 : decode code 369 = .ok (.iload 4, 2) := by decide +kernel
theorem dc_L_law_371 : decode code 371 = .ok (.iconst 1, 1) := by decide +kernel
theorem dc_L_law_372 : decode code 372 = .ok (.iadd, 1) := by decide +kernel
theorem dc_L_law_373 : decode code 373 = .ok (.iaload, 1) := by decide +kernel
theorem dc_L_law_374 : decode code 374 = .ok (.aload_n 0, 1) := by decide +kernel
theorem dc_L_law_375 : decode code 375 = .ok (.iload 4, 2) := by decide +kernel
theorem dc_L_law_377 : decode code 377 = .ok (.iconst 2, 1) := by decide +kernel
theorem dc_L_law_378 : decode code 378 = .ok (.iadd, 1) := by decide +kernel
theorem dc_L_law_379 : decode code 379 = .ok (.iaload, 1) := by decide +kernel
theorem dc_L_law_380 : decode code 380 = .ok (.aload_n 0, 1) := by decide +kernel
theorem dc_L_law_381 : decode code 381 = .ok (.iload 4, 2) := by decide +kernel
theorem dc_L_law_383 : decode code 383 = .ok (.iconst 3, 1) := by decide +kernel
theorem dc_L_law_384 : decode code 384 = .ok (.iadd, 1) := by decide +kernel
theorem dc_L_law_385 : decode code 385 = .ok (.iaload, 1) := by decide +kernel
theorem dc_L_law_386 : decode code 386 = .ok (.aload_n 0, 1) := by decide +kernel
theorem dc_L_law_387 : decode code 387 = .ok (.iload 4, 2) := by decide +kernel
theorem dc_L_law_389 : decode code 389 = .ok (.iconst 4, 1) := by decide +kernel
theorem dc_L_law_390 : decode code 390 = .ok (.iadd, 1) := by decide +kernel
theorem dc_L_law_391 : decode code 391 = .ok (.iaload, 1) := by decide +kernel
theorem dc_L_law_392 : decode code 392 = .ok (.invokevirtual 97, 3) := by decide +kernel
theorem dc_L_law_395 : decode code 395 = .ok (.istore 6, 2) := by decide +kernel
theorem dc_L_law_397 : decode code 397 = .ok (.aload_n 2, 1) := by decide +kernel
theorem dc_L_law_398 : decode code 398 = .ok (.invokevirtual 79, 3) := by decide +kernel
theorem dc_L_law_401 : decode code 401 = .ok (.iload 5, 2) := by decide +kernel
theorem dc_L_law_403 : decode code 403 = .ok (.if_icmp .eq 5, 3) := by decide +kernel
theorem dc_L_law_406 : decode code 406 = .ok (.iconst 0, 1) := by decide +kernel
theorem dc_L_law_407 : decode code 407 = .ok (.ireturn, 1) := by decide +kernel
theorem dc_L_law_408 : decode code 408 = .ok (.iload 5, 2) := by decide +kernel
theorem dc_L_law_410 : decode code 410 = .ok (.ifCond .ne 15, 3) := by decide +kernel
theorem dc_L_law_413 : decode code 413 = .ok (.aload_n 3, 1) := by decide +kernel
theorem dc_L_law_414 : decode code 414 = .ok (.iconst 0, 1) := by decide +kernel
theorem dc_L_law_415 : decode code 415 = .ok (.laload, 1) := by decide +kernel
theorem dc_L_law_416 : decode code 416 = .ok (.iload 6, 2) := by decide +kernel
theorem dc_L_law_418 : decode code 418 = .ok (.i2l, 1) := by decide +kernel
theorem dc_L_law_419 : decode code 419 = .ok (.lcmp, 1) := by decide +kernel
theorem dc_L_law_420 : decode code 420 = .ok (.ifCond .eq 5, 3) := by decide +kernel
theorem dc_L_law_423 : decode code 423 = .ok (.iconst 0, 1) := by decide +kernel
theorem dc_L_law_424 : decode code 424 = .ok (.ireturn, 1) := by decide +kernel
theorem dc_L_law_425 : decode code 425 = .ok (.goto 802, 3) := by decide +kernel
theorem dc_L_law_428 : decode code 428 = .ok (.aload_n 1, 1) := by decide +kernel
theorem dc_L_law_429 : decode code 429 = .ok (.aload_n 0, 1) := by decide +kernel
theorem dc_L_law_430 : decode code 430 = .ok (.iload 4, 2) := by decide +kernel
theorem dc_L_law_432 : decode code 432 = .ok (.iconst 1, 1) := by decide +kernel
theorem dc_L_law_433 : decode code 433 = .ok (.iadd, 1) := by decide +kernel
theorem dc_L_law_434 : decode code 434 = .ok (.iaload, 1) := by decide +kernel
theorem dc_L_law_435 : decode code 435 = .ok (.aload_n 0, 1) := by decide +kernel
theorem dc_L_law_436 : decode code 436 = .ok (.iload 4, 2) := by decide +kernel
theorem dc_L_law_438 : decode code 438 = .ok (.iconst 2, 1) := by decide +kernel
theorem dc_L_law_439 : decode code 439 = .ok (.iadd, 1) := by decide +kernel
theorem dc_L_law_440 : decode code 440 = .ok (.iaload, 1) := by decide +kernel
theorem dc_L_law_441 : decode code 441 = .ok (.invokestatic 98, 3) := by decide +kernel
theorem dc_L_law_444 : decode code 444 = .ok (.istore 5, 2) := by decide +kernel
theorem dc_L_law_446 : decode code 446 = .ok (.aload_n 2, 1) := by decide +kernel
theorem dc_L_law_447 : decode code 447 = .ok (.aload_n 0, 1) := by decide +kernel
theorem dc_L_law_448 : decode code 448 = .ok (.iload 4, 2) := by decide +kernel
theorem dc_L_law_450 : decode code 450 = .ok (.iconst 1, 1) := by decide +kernel
theorem dc_L_law_451 : decode code 451 = .ok (.iadd, 1) := by decide +kernel
theorem dc_L_law_452 : decode code 452 = .ok (.iaload, 1) := by decide +kernel
theorem dc_L_law_453 : decode code 453 = .ok (.aload_n 0, 1) := by decide +kernel
theorem dc_L_law_454 : decode code 454 = .ok (.iload 4, 2) := by decide +kernel
theorem dc_L_law_456 : decode code 456 = .ok (.iconst 2, 1) := by decide +kernel
theorem dc_L_law_457 : decode code 457 = .ok (.iadd, 1) := by decide +kernel
theorem dc_L_law_458 : decode code 458 = .ok (.iaload, 1) := by decide +kernel
theorem dc_L_law_459 : decode code 459 = .ok (.invokevirtual 101, 3) := by decide +kernel
theorem dc_L_law_462 : decode code 462 = .ok (.aload_n 2, 1) := by decide +kernel
theorem dc_L_law_463 : decode code 463 = .ok (.invokevirtual 79, 3) := by decide +kernel
theorem dc_L_law_466 : decode code 466 = .ok (.iload 5, 2) := by decide +kernel
theorem dc_L_law_468 : decode code 468 = .ok (.if_icmp .eq 5, 3) := by decide +kernel
theorem dc_L_law_471 : decode code 471 = .ok (.iconst 0, 1) := by decide +kernel
theorem dc_L_law_472 : decode code 472 = .ok (.ireturn, 1) := by decide +kernel
theorem dc_L_law_473 : decode code 473 = .ok (.goto 754, 3) := by decide +kernel
theorem dc_L_law_476 : decode code 476 = .ok (.aload_n 1, 1) := by decide +kernel
theorem dc_L_law_477 : decode code 477 = .ok (.aload_n 0, 1) := by decide +kernel
theorem dc_L_law_478 : decode code 478 = .ok (.iload 4, 2) := by decide +kernel
theorem dc_L_law_480 : decode code 480 = .ok (.iconst 1, 1) := by decide +kernel
theorem dc_L_law_481 : decode code 481 = .ok (.iadd, 1) := by decide +kernel
theorem dc_L_law_482 : decode code 482 = .ok (.iaload, 1) := by decide +kernel
theorem dc_L_law_483 : decode code 483 = .ok (.aload_n 0, 1) := by decide +kernel
theorem dc_L_law_484 : decode code 484 = .ok (.iload 4, 2) := by decide +kernel
theorem dc_L_law_486 : decode code 486 = .ok (.iconst 2, 1) := by decide +kernel
theorem dc_L_law_487 : decode code 487 = .ok (.iadd, 1) := by decide +kernel
theorem dc_L_law_488 : decode code 488 = .ok (.iaload, 1) := by decide +kernel
theorem dc_L_law_489 : decode code 489 = .ok (.aload_n 0, 1) := by decide +kernel
theorem dc_L_law_490 : decode code 490 = .ok (.iload 4, 2) := by decide +kernel
theorem dc_L_law_492 : decode code 492 = .ok (.iconst 3, 1) := by decide +kernel
theorem dc_L_law_493 : decode code 493 = .ok (.iadd, 1) := by decide +kernel
theorem dc_L_law_494 : decode code 494 = .ok (.iaload, 1) := by decide +kernel
theorem dc_L_law_495 : decode code 495 = .ok (.aload_n 0, 1) := by decide +kernel
theorem dc_L_law_496 : decode code 496 = .ok (.iload 4, 2) := by decide +kernel
theorem dc_L_law_498 : decode code 498 = .ok (.iconst 4, 1) := by decide +kernel
theorem dc_L_law_499 : decode code 499 = .ok (.iadd, 1) := by decide +kernel
theorem dc_L_law_500 : decode code 500 = .ok (.iaload, 1) := by decide +kernel
theorem dc_L_law_501 : decode code 501 = .ok (.aload_n 3, 1) := by decide +kernel
theorem dc_L_law_502 : decode code 502 = .ok (.invokestatic 102, 3) := by decide +kernel
theorem dc_L_law_505 : decode code 505 = .ok (.istore 5, 2) := by decide +kernel
theorem dc_L_law_507 : decode code 507 = .ok (.aload_n 2, 1) := by decide +kernel
theorem dc_L_law_508 : decode code 508 = .ok (.aload_n 0, 1) := by decide +kernel
theorem dc_L_law_509 : decode code 509 = .ok (.iload 4, 2) := by decide +kernel
theorem dc_L_law_511 : decode code 511 = .ok (.iconst 1, 1) := by decide +kernel
theorem dc_L_law_512 : decode code 512 = .ok (.iadd, 1) := by decide +kernel
theorem dc_L_law_513 : decode code 513 = .ok (.iaload, 1) := by decide +kernel
theorem dc_L_law_514 : decode code 514 = .ok (.aload_n 0, 1) := by decide +kernel
theorem dc_L_law_515 : decode code 515 = .ok (.iload 4, 2) := by decide +kernel
theorem dc_L_law_517 : decode code 517 = .ok (.iconst 2, 1) := by decide +kernel
theorem dc_L_law_518 : decode code 518 = .ok (.iadd, 1) := by decide +kernel
theorem dc_L_law_519 : decode code 519 = .ok (.iaload, 1) := by decide +kernel
theorem dc_L_law_520 : decode code 520 = .ok (.aload_n 0, 1) := by decide +kernel
theorem dc_L_law_521 : decode code 521 = .ok (.iload 4, 2) := by decide +kernel
theorem dc_L_law_523 : decode code 523 = .ok (.iconst 3, 1) := by decide +kernel
theorem dc_L_law_524 : decode code 524 = .ok (.iadd, 1) := by decide +kernel
theorem dc_L_law_525 : decode code 525 = .ok (.iaload, 1) := by decide +kernel
theorem dc_L_law_526 : decode code 526 = .ok (.aload_n 0, 1) := by decide +kernel
theorem dc_L_law_527 : decode code 527 = .ok (.iload 4, 2) := by decide +kernel
theorem dc_L_law_529 : decode code 529 = .ok (.iconst 4, 1) := by decide +kernel
theorem dc_L_law_530 : decode code 530 = .ok (.iadd, 1) := by decide +kernel
theorem dc_L_law_531 : decode code 531 = .ok (.iaload, 1) := by decide +kernel
theorem dc_L_law_532 : decode code 532 = .ok (.invokevirtual 104, 3) := by decide +kernel
theorem dc_L_law_535 : decode code 535 = .ok (.istore 6, 2) := by decide +kernel
theorem dc_L_law_537 : decode code 537 = .ok (.aload_n 2, 1) := by decide +kernel
theorem dc_L_law_538 : decode code 538 = .ok (.invokevirtual 79, 3) := by decide +kernel
theorem dc_L_law_541 : decode code 541 = .ok (.iload 5, 2) := by decide +kernel
theorem dc_L_law_543 : decode code 543 = .ok (.if_icmp .eq 5, 3) := by decide +kernel
theorem dc_L_law_546 : decode code 546 = .ok (.iconst 0, 1) := by decide +kernel
theorem dc_L_law_547 : decode code 547 = .ok (.ireturn, 1) := by decide +kernel
theorem dc_L_law_548 : decode code 548 = .ok (.iload 5, 2) := by decide +kernel
theorem dc_L_law_550 : decode code 550 = .ok (.ifCond .ne 15, 3) := by decide +kernel
theorem dc_L_law_553 : decode code 553 = .ok (.aload_n 3, 1) := by decide +kernel
theorem dc_L_law_554 : decode code 554 = .ok (.iconst 0, 1) := by decide +kernel
theorem dc_L_law_555 : decode code 555 = .ok (.laload, 1) := by decide +kernel
theorem dc_L_law_556 : decode code 556 = .ok (.iload 6, 2) := by decide +kernel
theorem dc_L_law_558 : decode code 558 = .ok (.i2l, 1) := by decide +kernel
theorem dc_L_law_559 : decode code 559 = .ok (.lcmp, 1) := by decide +kernel
theorem dc_L_law_560 : decode code 560 = .ok (.ifCond .eq 5, 3) := by decide +kernel
theorem dc_L_law_563 : decode code 563 = .ok (.iconst 0, 1) := by decide +kernel
theorem dc_L_law_564 : decode code 564 = .ok (.ireturn, 1) := by decide +kernel
theorem dc_L_law_565 : decode code 565 = .ok (.goto 662, 3) := by decide +kernel
theorem dc_L_law_568 : decode code 568 = .ok (.aload_n 1, 1) := by decide +kernel
theorem dc_L_law_569 : decode code 569 = .ok (.aload_n 0, 1) := by decide +kernel
theorem dc_L_law_570 : decode code 570 = .ok (.iload 4, 2) := by decide +kernel
theorem dc_L_law_572 : decode code 572 = .ok (.iconst 1, 1) := by decide +kernel
theorem dc_L_law_573 : decode code 573 = .ok (.iadd, 1) := by decide +kernel
theorem dc_L_law_574 : decode code 574 = .ok (.iaload, 1) := by decide +kernel
theorem dc_L_law_575 : decode code 575 = .ok (.aload_n 0, 1) := by decide +kernel
theorem dc_L_law_576 : decode code 576 = .ok (.iload 4, 2) := by decide +kernel
theorem dc_L_law_578 : decode code 578 = .ok (.iconst 2, 1) := by decide +kernel
theorem dc_L_law_579 : decode code 579 = .ok (.iadd, 1) := by decide +kernel
theorem dc_L_law_580 : decode code 580 = .ok (.iaload, 1) := by decide +kernel
theorem dc_L_law_581 : decode code 581 = .ok (.aload_n 3, 1) := by decide +kernel
theorem dc_L_law_582 : decode code 582 = .ok (.invokestatic 105, 3) := by decide +kernel
theorem dc_L_law_585 : decode code 585 = .ok (.istore 5, 2) := by decide +kernel
theorem dc_L_law_587 : decode code 587 = .ok (.aload_n 2, 1) := by decide +kernel
theorem dc_L_law_588 : decode code 588 = .ok (.aload_n 0, 1) := by decide +kernel
theorem dc_L_law_589 : decode code 589 = .ok (.iload 4, 2) := by decide +kernel
theorem dc_L_law_591 : decode code 591 = .ok (.iconst 1, 1) := by decide +kernel
theorem dc_L_law_592 : decode code 592 = .ok (.iadd, 1) := by decide +kernel
theorem dc_L_law_593 : decode code 593 = .ok (.iaload, 1) := by decide +kernel
theorem dc_L_law_594 : decode code 594 = .ok (.aload_n 0, 1) := by decide +kernel
theorem dc_L_law_595 : decode code 595 = .ok (.iload 4, 2) := by decide +kernel
theorem dc_L_law_597 : decode code 597 = .ok (.iconst 2, 1) := by decide +kernel
theorem dc_L_law_598 : decode code 598 = .ok (.iadd, 1) := by decide +kernel
theorem dc_L_law_599 : decode code 599 = .ok (.iaload, 1) := by decide +kernel
theorem dc_L_law_600 : decode code 600 = .ok (.invokevirtual 108, 3) := by decide +kernel
theorem dc_L_law_603 : decode code 603 = .ok (.istore 6, 2) := by decide +kernel
theorem dc_L_law_605 : decode code 605 = .ok (.aload_n 2, 1) := by decide +kernel
theorem dc_L_law_606 : decode code 606 = .ok (.invokevirtual 79, 3) := by decide +kernel
theorem dc_L_law_609 : decode code 609 = .ok (.iload 5, 2) := by decide +kernel
theorem dc_L_law_611 : decode code 611 = .ok (.if_icmp .eq 5, 3) := by decide +kernel
theorem dc_L_law_614 : decode code 614 = .ok (.iconst 0, 1) := by decide +kernel
theorem dc_L_law_615 : decode code 615 = .ok (.ireturn, 1) := by decide +kernel
theorem dc_L_law_616 : decode code 616 = .ok (.iload 5, 2) := by decide +kernel
theorem dc_L_law_618 : decode code 618 = .ok (.ifCond .ne 15, 3) := by decide +kernel
theorem dc_L_law_621 : decode code 621 = .ok (.aload_n 3, 1) := by decide +kernel
theorem dc_L_law_622 : decode code 622 = .ok (.iconst 0, 1) := by decide +kernel
theorem dc_L_law_623 : decode code 623 = .ok (.laload, 1) := by decide +kernel
theorem dc_L_law_624 : decode code 624 = .ok (.iload 6, 2) := by decide +kernel
theorem dc_L_law_626 : decode code 626 = .ok (.i2l, 1) := by decide +kernel
theorem dc_L_law_627 : decode code 627 = .ok (.lcmp, 1) := by decide +kernel
theorem dc_L_law_628 : decode code 628 = .ok (.ifCond .eq 5, 3) := by decide +kernel
theorem dc_L_law_631 : decode code 631 = .ok (.iconst 0, 1) := by decide +kernel
theorem dc_L_law_632 : decode code 632 = .ok (.ireturn, 1) := by decide +kernel
theorem dc_L_law_633 : decode code 633 = .ok (.goto 594, 3) := by decide +kernel
theorem dc_L_law_636 : decode code 636 = .ok (.aload_n 1, 1) := by decide +kernel
theorem dc_L_law_637 : decode code 637 = .ok (.aload_n 0, 1) := by decide +kernel
theorem dc_L_law_638 : decode code 638 = .ok (.iload 4, 2) := by decide +kernel
theorem dc_L_law_640 : decode code 640 = .ok (.iconst 1, 1) := by decide +kernel
theorem dc_L_law_641 : decode code 641 = .ok (.iadd, 1) := by decide +kernel
theorem dc_L_law_642 : decode code 642 = .ok (.iaload, 1) := by decide +kernel
theorem dc_L_law_643 : decode code 643 = .ok (.aload_n 0, 1) := by decide +kernel
theorem dc_L_law_644 : decode code 644 = .ok (.iload 4, 2) := by decide +kernel
theorem dc_L_law_646 : decode code 646 = .ok (.iconst 2, 1) := by decide +kernel
theorem dc_L_law_647 : decode code 647 = .ok (.iadd, 1) := by decide +kernel
theorem dc_L_law_648 : decode code 648 = .ok (.iaload, 1) := by decide +kernel
theorem dc_L_law_649 : decode code 649 = .ok (.aload_n 3, 1) := by decide +kernel
theorem dc_L_law_650 : decode code 650 = .ok (.invokestatic 109, 3) := by decide +kernel
theorem dc_L_law_653 : decode code 653 = .ok (.istore 5, 2) := by decide +kernel
theorem dc_L_law_655 : decode code 655 = .ok (.aload_n 2, 1) := by decide +kernel
theorem dc_L_law_656 : decode code 656 = .ok (.aload_n 0, 1) := by decide +kernel
theorem dc_L_law_657 : decode code 657 = .ok (.iload 4, 2) := by decide +kernel
theorem dc_L_law_659 : decode code 659 = .ok (.iconst 1, 1) := by decide +kernel
theorem dc_L_law_660 : decode code 660 = .ok (.iadd, 1) := by decide +kernel
theorem dc_L_law_661 : decode code 661 = .ok (.iaload, 1) := by decide +kernel
theorem dc_L_law_662 : decode code 662 = .ok (.aload_n 0, 1) := by decide +kernel
theorem dc_L_law_663 : decode code 663 = .ok (.iload 4, 2) := by decide +kernel
theorem dc_L_law_665 : decode code 665 = .ok (.iconst 2, 1) := by decide +kernel
theorem dc_L_law_666 : decode code 666 = .ok (.iadd, 1) := by decide +kernel
theorem dc_L_law_667 : decode code 667 = .ok (.iaload, 1) := by decide +kernel
theorem dc_L_law_668 : decode code 668 = .ok (.invokevirtual 111, 3) := by decide +kernel
theorem dc_L_law_671 : decode code 671 = .ok (.istore 6, 2) := by decide +kernel
theorem dc_L_law_673 : decode code 673 = .ok (.aload_n 2, 1) := by decide +kernel
theorem dc_L_law_674 : decode code 674 = .ok (.invokevirtual 79, 3) := by decide +kernel
theorem dc_L_law_677 : decode code 677 = .ok (.iload 5, 2) := by decide +kernel
theorem dc_L_law_679 : decode code 679 = .ok (.if_icmp .eq 5, 3) := by decide +kernel
theorem dc_L_law_682 : decode code 682 = .ok (.iconst 0, 1) := by decide +kernel
theorem dc_L_law_683 : decode code 683 = .ok (.ireturn, 1) := by decide +kernel
theorem dc_L_law_684 : decode code 684 = .ok (.iload 5, 2) := by decide +kernel
theorem dc_L_law_686 : decode code 686 = .ok (.ifCond .ne 15, 3) := by decide +kernel
theorem dc_L_law_689 : decode code 689 = .ok (.aload_n 3, 1) := by decide +kernel
theorem dc_L_law_690 : decode code 690 = .ok (.iconst 0, 1) := by decide +kernel
theorem dc_L_law_691 : decode code 691 = .ok (.laload, 1) := by decide +kernel
theorem dc_L_law_692 : decode code 692 = .ok (.iload 6, 2) := by decide +kernel
theorem dc_L_law_694 : decode code 694 = .ok (.i2l, 1) := by decide +kernel
theorem dc_L_law_695 : decode code 695 = .ok (.lcmp, 1) := by decide +kernel
theorem dc_L_law_696 : decode code 696 = .ok (.ifCond .eq 5, 3) := by decide +kernel
theorem dc_L_law_699 : decode code 699 = .ok (.iconst 0, 1) := by decide +kernel
theorem dc_L_law_700 : decode code 700 = .ok (.ireturn, 1) := by decide +kernel
theorem dc_L_law_701 : decode code 701 = .ok (.goto 526, 3) := by decide +kernel
theorem dc_L_law_704 : decode code 704 = .ok (.aload_n 1, 1) := by decide +kernel
theorem dc_L_law_705 : decode code 705 = .ok (.aload_n 0, 1) := by decide +kernel
theorem dc_L_law_706 : decode code 706 = .ok (.iload 4, 2) := by decide +kernel
theorem dc_L_law_708 : decode code 708 = .ok (.iconst 1, 1) := by decide +kernel
theorem dc_L_law_709 : decode code 709 = .ok (.iadd, 1) := by decide +kernel
theorem dc_L_law_710 : decode code 710 = .ok (.iaload, 1) := by decide +kernel
theorem dc_L_law_711 : decode code 711 = .ok (.aload_n 0, 1) := by decide +kernel
theorem dc_L_law_712 : decode code 712 = .ok (.iload 4, 2) := by decide +kernel
theorem dc_L_law_714 : decode code 714 = .ok (.iconst 2, 1) := by decide +kernel
theorem dc_L_law_715 : decode code 715 = .ok (.iadd, 1) := by decide +kernel
theorem dc_L_law_716 : decode code 716 = .ok (.iaload, 1) := by decide +kernel
theorem dc_L_law_717 : decode code 717 = .ok (.aload_n 3, 1) := by decide +kernel
theorem dc_L_law_718 : decode code 718 = .ok (.invokestatic 112, 3) := by decide +kernel
theorem dc_L_law_721 : decode code 721 = .ok (.istore 5, 2) := by decide +kernel
theorem dc_L_law_723 : decode code 723 = .ok (.aload_n 2, 1) := by decide +kernel
theorem dc_L_law_724 : decode code 724 = .ok (.aload_n 0, 1) := by decide +kernel
theorem dc_L_law_725 : decode code 725 = .ok (.iload 4, 2) := by decide +kernel
theorem dc_L_law_727 : decode code 727 = .ok (.iconst 1, 1) := by decide +kernel
theorem dc_L_law_728 : decode code 728 = .ok (.iadd, 1) := by decide +kernel
theorem dc_L_law_729 : decode code 729 = .ok (.iaload, 1) := by decide +kernel
theorem dc_L_law_730 : decode code 730 = .ok (.aload_n 0, 1) := by decide +kernel
theorem dc_L_law_731 : decode code 731 = .ok (.iload 4, 2) := by decide +kernel
theorem dc_L_law_733 : decode code 733 = .ok (.iconst 2, 1) := by decide +kernel
theorem dc_L_law_734 : decode code 734 = .ok (.iadd, 1) := by decide +kernel
theorem dc_L_law_735 : decode code 735 = .ok (.iaload, 1) := by decide +kernel
theorem dc_L_law_736 : decode code 736 = .ok (.invokevirtual 114, 3) := by decide +kernel
theorem dc_L_law_739 : decode code 739 = .ok (.istore 6, 2) := by decide +kernel
theorem dc_L_law_741 : decode code 741 = .ok (.aload_n 2, 1) := by decide +kernel
theorem dc_L_law_742 : decode code 742 = .ok (.invokevirtual 79, 3) := by decide +kernel
theorem dc_L_law_745 : decode code 745 = .ok (.iload 5, 2) := by decide +kernel
theorem dc_L_law_747 : decode code 747 = .ok (.if_icmp .eq 5, 3) := by decide +kernel
theorem dc_L_law_750 : decode code 750 = .ok (.iconst 0, 1) := by decide +kernel
theorem dc_L_law_751 : decode code 751 = .ok (.ireturn, 1) := by decide +kernel
theorem dc_L_law_752 : decode code 752 = .ok (.iload 5, 2) := by decide +kernel
theorem dc_L_law_754 : decode code 754 = .ok (.ifCond .ne 15, 3) := by decide +kernel
theorem dc_L_law_757 : decode code 757 = .ok (.aload_n 3, 1) := by decide +kernel
theorem dc_L_law_758 : decode code 758 = .ok (.iconst 0, 1) := by decide +kernel
theorem dc_L_law_759 : decode code 759 = .ok (.laload, 1) := by decide +kernel
theorem dc_L_law_760 : decode code 760 = .ok (.iload 6, 2) := by decide +kernel
theorem dc_L_law_762 : decode code 762 = .ok (.i2l, 1) := by decide +kernel
theorem dc_L_law_763 : decode code 763 = .ok (.lcmp, 1) := by decide +kernel
theorem dc_L_law_764 : decode code 764 = .ok (.ifCond .eq 5, 3) := by decide +kernel
theorem dc_L_law_767 : decode code 767 = .ok (.iconst 0, 1) := by decide +kernel
theorem dc_L_law_768 : decode code 768 = .ok (.ireturn, 1) := by decide +kernel
theorem dc_L_law_769 : decode code 769 = .ok (.goto 458, 3) := by decide +kernel
theorem dc_L_law_772 : decode code 772 = .ok (.aload_n 1, 1) := by decide +kernel
theorem dc_L_law_773 : decode code 773 = .ok (.invokevirtual 115, 3) := by decide +kernel
theorem dc_L_law_776 : decode code 776 = .ok (.aload_n 2, 1) := by decide +kernel
theorem dc_L_law_777 : decode code 777 = .ok (.invokevirtual 118, 3) := by decide +kernel
theorem dc_L_law_780 : decode code 780 = .ok (.goto 447, 3) := by decide +kernel
theorem dc_L_law_783 : decode code 783 = .ok (.aload_n 1, 1) := by decide +kernel
theorem dc_L_law_784 : decode code 784 = .ok (.aload_n 0, 1) := by decide +kernel
theorem dc_L_law_785 : decode code 785 = .ok (.iload 4, 2) := by decide +kernel
theorem dc_L_law_787 : decode code 787 = .ok (.iconst 1, 1) := by decide +kernel
theorem dc_L_law_788 : decode code 788 = .ok (.iadd, 1) := by decide +kernel
theorem dc_L_law_789 : decode code 789 = .ok (.iaload, 1) := by decide +kernel
theorem dc_L_law_790 : decode code 790 = .ok (.aload_n 0, 1) := by decide +kernel
theorem dc_L_law_791 : decode code 791 = .ok (.iload 4, 2) := by decide +kernel
theorem dc_L_law_793 : decode code 793 = .ok (.iconst 2, 1) := by decide +kernel
theorem dc_L_law_794 : decode code 794 = .ok (.iadd, 1) := by decide +kernel
theorem dc_L_law_795 : decode code 795 = .ok (.iaload, 1) := by decide +kernel
theorem dc_L_law_796 : decode code 796 = .ok (.aload_n 3, 1) := by decide +kernel
theorem dc_L_law_797 : decode code 797 = .ok (.invokestatic 119, 3) := by decide +kernel
theorem dc_L_law_800 : decode code 800 = .ok (.istore 5, 2) := by decide +kernel
theorem dc_L_law_802 : decode code 802 = .ok (.aload_n 2, 1) := by decide +kernel
theorem dc_L_law_803 : decode code 803 = .ok (.aload_n 0, 1) := by decide +kernel
theorem dc_L_law_804 : decode code 804 = .ok (.iload 4, 2) := by decide +kernel
theorem dc_L_law_806 : decode code 806 = .ok (.iconst 1, 1) := by decide +kernel
theorem dc_L_law_807 : decode code 807 = .ok (.iadd, 1) := by decide +kernel
theorem dc_L_law_808 : decode code 808 = .ok (.iaload, 1) := by decide +kernel
theorem dc_L_law_809 : decode code 809 = .ok (.aload_n 0, 1) := by decide +kernel
theorem dc_L_law_810 : decode code 810 = .ok (.iload 4, 2) := by decide +kernel
theorem dc_L_law_812 : decode code 812 = .ok (.iconst 2, 1) := by decide +kernel
theorem dc_L_law_813 : decode code 813 = .ok (.iadd, 1) := by decide +kernel
theorem dc_L_law_814 : decode code 814 = .ok (.iaload, 1) := by decide +kernel
theorem dc_L_law_815 : decode code 815 = .ok (.invokevirtual 121, 3) := by decide +kernel
theorem dc_L_law_818 : decode code 818 = .ok (.istore 6, 2) := by decide +kernel
theorem dc_L_law_820 : decode code 820 = .ok (.aload_n 2, 1) := by decide +kernel
theorem dc_L_law_821 : decode code 821 = .ok (.invokevirtual 79, 3) := by decide +kernel
theorem dc_L_law_824 : decode code 824 = .ok (.iload 5, 2) := by decide +kernel
theorem dc_L_law_826 : decode code 826 = .ok (.if_icmp .eq 5, 3) := by decide +kernel
theorem dc_L_law_829 : decode code 829 = .ok (.iconst 0, 1) := by decide +kernel
theorem dc_L_law_830 : decode code 830 = .ok (.ireturn, 1) := by decide +kernel
theorem dc_L_law_831 : decode code 831 = .ok (.iload 5, 2) := by decide +kernel
theorem dc_L_law_833 : decode code 833 = .ok (.ifCond .ne 15, 3) := by decide +kernel
theorem dc_L_law_836 : decode code 836 = .ok (.aload_n 3, 1) := by decide +kernel
theorem dc_L_law_837 : decode code 837 = .ok (.iconst 0, 1) := by decide +kernel
theorem dc_L_law_838 : decode code 838 = .ok (.laload, 1) := by decide +kernel
theorem dc_L_law_839 : decode code 839 = .ok (.iload 6, 2) := by decide +kernel
theorem dc_L_law_841 : decode code 841 = .ok (.i2l, 1) := by decide +kernel
theorem dc_L_law_842 : decode code 842 = .ok (.lcmp, 1) := by decide +kernel
theorem dc_L_law_843 : decode code 843 = .ok (.ifCond .eq 5, 3) := by decide +kernel
theorem dc_L_law_846 : decode code 846 = .ok (.iconst 0, 1) := by decide +kernel
theorem dc_L_law_847 : decode code 847 = .ok (.ireturn, 1) := by decide +kernel
theorem dc_L_law_848 : decode code 848 = .ok (.goto 379, 3) := by decide +kernel
theorem dc_L_law_851 : decode code 851 = .ok (.aload_n 1, 1) := by decide +kernel
theorem dc_L_law_852 : decode code 852 = .ok (.aload_n 0, 1) := by decide +kernel
theorem dc_L_law_853 : decode code 853 = .ok (.iload 4, 2) := by decide +kernel
theorem dc_L_law_855 : decode code 855 = .ok (.iconst 1, 1) := by decide +kernel
theorem dc_L_law_856 : decode code 856 = .ok (.iadd, 1) := by decide +kernel
theorem dc_L_law_857 : decode code 857 = .ok (.iaload, 1) := by decide +kernel
theorem dc_L_law_858 : decode code 858 = .ok (.aload_n 0, 1) := by decide +kernel
theorem dc_L_law_859 : decode code 859 = .ok (.iload 4, 2) := by decide +kernel
theorem dc_L_law_861 : decode code 861 = .ok (.iconst 2, 1) := by decide +kernel
theorem dc_L_law_862 : decode code 862 = .ok (.iadd, 1) := by decide +kernel
theorem dc_L_law_863 : decode code 863 = .ok (.iaload, 1) := by decide +kernel
theorem dc_L_law_864 : decode code 864 = .ok (.aload_n 3, 1) := by decide +kernel
theorem dc_L_law_865 : decode code 865 = .ok (.invokestatic 122, 3) := by decide +kernel
theorem dc_L_law_868 : decode code 868 = .ok (.istore 5, 2) := by decide +kernel
theorem dc_L_law_870 : decode code 870 = .ok (.aload_n 2, 1) := by decide +kernel
theorem dc_L_law_871 : decode code 871 = .ok (.aload_n 0, 1) := by decide +kernel
theorem dc_L_law_872 : decode code 872 = .ok (.iload 4, 2) := by decide +kernel
theorem dc_L_law_874 : decode code 874 = .ok (.iconst 1, 1) := by decide +kernel
theorem dc_L_law_875 : decode code 875 = .ok (.iadd, 1) := by decide +kernel
theorem dc_L_law_876 : decode code 876 = .ok (.iaload, 1) := by decide +kernel
theorem dc_L_law_877 : decode code 877 = .ok (.aload_n 0, 1) := by decide +kernel
theorem dc_L_law_878 : decode code 878 = .ok (.iload 4, 2) := by decide +kernel
theorem dc_L_law_880 : decode code 880 = .ok (.iconst 2, 1) := by decide +kernel
theorem dc_L_law_881 : decode code 881 = .ok (.iadd, 1) := by decide +kernel
theorem dc_L_law_882 : decode code 882 = .ok (.iaload, 1) := by decide +kernel
theorem dc_L_law_883 : decode code 883 = .ok (.invokevirtual 124, 3) := by decide +kernel
theorem dc_L_law_886 : decode code 886 = .ok (.istore 6, 2) := by decide +kernel
theorem dc_L_law_888 : decode code 888 = .ok (.aload_n 2, 1) := by decide +kernel
theorem dc_L_law_889 : decode code 889 = .ok (.invokevirtual 79, 3) := by decide +kernel
theorem dc_L_law_892 : decode code 892 = .ok (.iload 5, 2) := by decide +kernel
theorem dc_L_law_894 : decode code 894 = .ok (.if_icmp .eq 5, 3) := by decide +kernel
theorem dc_L_law_897 : decode code 897 = .ok (.iconst 0, 1) := by decide +kernel
theorem dc_L_law_898 : decode code 898 = .ok (.ireturn, 1) := by decide +kernel
theorem dc_L_law_899 : decode code 899 = .ok (.iload 5, 2) := by decide +kernel
theorem dc_L_law_901 : decode code 901 = .ok (.ifCond .ne 15, 3) := by decide +kernel
theorem dc_L_law_904 : decode code 904 = .ok (.aload_n 3, 1) := by decide +kernel
theorem dc_L_law_905 : decode code 905 = .ok (.iconst 0, 1) := by decide +kernel
theorem dc_L_law_906 : decode code 906 = .ok (.laload, 1) := by decide +kernel
theorem dc_L_law_907 : decode code 907 = .ok (.iload 6, 2) := by decide +kernel
theorem dc_L_law_909 : decode code 909 = .ok (.i2l, 1) := by decide +kernel
theorem dc_L_law_910 : decode code 910 = .ok (.lcmp, 1) := by decide +kernel
theorem dc_L_law_911 : decode code 911 = .ok (.ifCond .eq 5, 3) := by decide +kernel
theorem dc_L_law_914 : decode code 914 = .ok (.iconst 0, 1) := by decide +kernel
theorem dc_L_law_915 : decode code 915 = .ok (.ireturn, 1) := by decide +kernel
theorem dc_L_law_916 : decode code 916 = .ok (.goto 311, 3) := by decide +kernel
theorem dc_L_law_919 : decode code 919 = .ok (.aload_n 1, 1) := by decide +kernel
theorem dc_L_law_920 : decode code 920 = .ok (.aload_n 0, 1) := by decide +kernel
theorem dc_L_law_921 : decode code 921 = .ok (.iload 4, 2) := by decide +kernel
theorem dc_L_law_923 : decode code 923 = .ok (.iconst 1, 1) := by decide +kernel
theorem dc_L_law_924 : decode code 924 = .ok (.iadd, 1) := by decide +kernel
theorem dc_L_law_925 : decode code 925 = .ok (.iaload, 1) := by decide +kernel
theorem dc_L_law_926 : decode code 926 = .ok (.aload_n 0, 1) := by decide +kernel
theorem dc_L_law_927 : decode code 927 = .ok (.iload 4, 2) := by decide +kernel
theorem dc_L_law_929 : decode code 929 = .ok (.iconst 2, 1) := by decide +kernel
theorem dc_L_law_930 : decode code 930 = .ok (.iadd, 1) := by decide +kernel
theorem dc_L_law_931 : decode code 931 = .ok (.iaload, 1) := by decide +kernel
theorem dc_L_law_932 : decode code 932 = .ok (.aload_n 3, 1) := by decide +kernel
theorem dc_L_law_933 : decode code 933 = .ok (.invokestatic 125, 3) := by decide +kernel
theorem dc_L_law_936 : decode code 936 = .ok (.istore 5, 2) := by decide +kernel
theorem dc_L_law_938 : decode code 938 = .ok (.aload_n 2, 1) := by decide +kernel
theorem dc_L_law_939 : decode code 939 = .ok (.aload_n 0, 1) := by decide +kernel
theorem dc_L_law_940 : decode code 940 = .ok (.iload 4, 2) := by decide +kernel
theorem dc_L_law_942 : decode code 942 = .ok (.iconst 1, 1) := by decide +kernel
theorem dc_L_law_943 : decode code 943 = .ok (.iadd, 1) := by decide +kernel
theorem dc_L_law_944 : decode code 944 = .ok (.iaload, 1) := by decide +kernel
theorem dc_L_law_945 : decode code 945 = .ok (.aload_n 0, 1) := by decide +kernel
theorem dc_L_law_946 : decode code 946 = .ok (.iload 4, 2) := by decide +kernel
theorem dc_L_law_948 : decode code 948 = .ok (.iconst 2, 1) := by decide +kernel
theorem dc_L_law_949 : decode code 949 = .ok (.iadd, 1) := by decide +kernel
theorem dc_L_law_950 : decode code 950 = .ok (.iaload, 1) := by decide +kernel
theorem dc_L_law_951 : decode code 951 = .ok (.invokevirtual 127, 3) := by decide +kernel
theorem dc_L_law_954 : decode code 954 = .ok (.istore 6, 2) := by decide +kernel
theorem dc_L_law_956 : decode code 956 = .ok (.aload_n 2, 1) := by decide +kernel
theorem dc_L_law_957 : decode code 957 = .ok (.invokevirtual 79, 3) := by decide +kernel
theorem dc_L_law_960 : decode code 960 = .ok (.iload 5, 2) := by decide +kernel
theorem dc_L_law_962 : decode code 962 = .ok (.if_icmp .eq 5, 3) := by decide +kernel
theorem dc_L_law_965 : decode code 965 = .ok (.iconst 0, 1) := by decide +kernel
theorem dc_L_law_966 : decode code 966 = .ok (.ireturn, 1) := by decide +kernel
theorem dc_L_law_967 : decode code 967 = .ok (.iload 5, 2) := by decide +kernel
theorem dc_L_law_969 : decode code 969 = .ok (.ifCond .ne 15, 3) := by decide +kernel
theorem dc_L_law_972 : decode code 972 = .ok (.aload_n 3, 1) := by decide +kernel
theorem dc_L_law_973 : decode code 973 = .ok (.iconst 0, 1) := by decide +kernel
theorem dc_L_law_974 : decode code 974 = .ok (.laload, 1) := by decide +kernel
theorem dc_L_law_975 : decode code 975 = .ok (.iload 6, 2) := by decide +kernel
theorem dc_L_law_977 : decode code 977 = .ok (.i2l, 1) := by decide +kernel
theorem dc_L_law_978 : decode code 978 = .ok (.lcmp, 1) := by decide +kernel
theorem dc_L_law_979 : decode code 979 = .ok (.ifCond .eq 5, 3) := by decide +kernel
theorem dc_L_law_982 : decode code 982 = .ok (.iconst 0, 1) := by decide +kernel
theorem dc_L_law_983 : decode code 983 = .ok (.ireturn, 1) := by decide +kernel
theorem dc_L_law_984 : decode code 984 = .ok (.goto 243, 3) := by decide +kernel
theorem dc_L_law_987 : decode code 987 = .ok (.aload_n 1, 1) := by decide +kernel
theorem dc_L_law_988 : decode code 988 = .ok (.aload_n 0, 1) := by decide +kernel
theorem dc_L_law_989 : decode code 989 = .ok (.iload 4, 2) := by decide +kernel
theorem dc_L_law_991 : decode code 991 = .ok (.iconst 1, 1) := by decide +kernel
theorem dc_L_law_992 : decode code 992 = .ok (.iadd, 1) := by decide +kernel
theorem dc_L_law_993 : decode code 993 = .ok (.iaload, 1) := by decide +kernel
theorem dc_L_law_994 : decode code 994 = .ok (.aload_n 0, 1) := by decide +kernel
theorem dc_L_law_995 : decode code 995 = .ok (.iload 4, 2) := by decide +kernel
theorem dc_L_law_997 : decode code 997 = .ok (.iconst 2, 1) := by decide +kernel
theorem dc_L_law_998 : decode code 998 = .ok (.iadd, 1) := by decide +kernel
theorem dc_L_law_999 : decode code 999 = .ok (.iaload, 1) := by decide +kernel
theorem dc_L_law_1000 : decode code 1000 = .ok (.aload_n 0, 1) := by decide +kernel
theorem dc_L_law_1001 : decode code 1001 = .ok (.iload 4, 2) := by decide +kernel
theorem dc_L_law_1003 : decode code 1003 = .ok (.iconst 3, 1) := by decide +kernel
theorem dc_L_law_1004 : decode code 1004 = .ok (.iadd, 1) := by decide +kernel
theorem dc_L_law_1005 : decode code 1005 = .ok (.iaload, 1) := by decide +kernel
theorem dc_L_law_1006 : decode code 1006 = .ok (.aload_n 0, 1) := by decide +kernel
theorem dc_L_law_1007 : decode code 1007 = .ok (.iload 4, 2) := by decide +kernel
theorem dc_L_law_1009 : decode code 1009 = .ok (.iconst 4, 1) := by decide +kernel
theorem dc_L_law_1010 : decode code 1010 = .ok (.iadd, 1) := by decide +kernel
theorem dc_L_law_1011 : decode code 1011 = .ok (.iaload, 1) := by decide +kernel
theorem dc_L_law_1012 : decode code 1012 = .ok (.aload_n 3, 1) := by decide +kernel
theorem dc_L_law_1013 : decode code 1013 = .ok (.invokestatic 128, 3) := by decide +kernel
theorem dc_L_law_1016 : decode code 1016 = .ok (.istore 5, 2) := by decide +kernel
theorem dc_L_law_1018 : decode code 1018 = .ok (.aload_n 2, 1) := by decide +kernel
theorem dc_L_law_1019 : decode code 1019 = .ok (.aload_n 0, 1) := by decide +kernel
theorem dc_L_law_1020 : decode code 1020 = .ok (.iload 4, 2) := by decide +kernel
theorem dc_L_law_1022 : decode code 1022 = .ok (.iconst 1, 1) := by decide +kernel
theorem dc_L_law_1023 : decode code 1023 = .ok (.iadd, 1) := by decide +kernel
theorem dc_L_law_1024 : decode code 1024 = .ok (.iaload, 1) := by decide +kernel
theorem dc_L_law_1025 : decode code 1025 = .ok (.aload_n 0, 1) := by decide +kernel
theorem dc_L_law_1026 : decode code 1026 = .ok (.iload 4, 2) := by decide +kernel
theorem dc_L_law_1028 : decode code 1028 = .ok (.iconst 2, 1) := by decide +kernel
theorem dc_L_law_1029 : decode code 1029 = .ok (.iadd, 1) := by decide +kernel
theorem dc_L_law_1030 : decode code 1030 = .ok (.iaload, 1) := by decide +kernel
theorem dc_L_law_1031 : decode code 1031 = .ok (.aload_n 0, 1) := by decide +kernel
theorem dc_L_law_1032 : decode code 1032 = .ok (.iload 4, 2) := by decide +kernel
theorem dc_L_law_1034 : decode code 1034 = .ok (.iconst 3, 1) := by decide +kernel
theorem dc_L_law_1035 : decode code 1035 = .ok (.iadd, 1) := by decide +kernel
theorem dc_L_law_1036 : decode code 1036 = .ok (.iaload, 1) := by decide +kernel
theorem dc_L_law_1037 : decode code 1037 = .ok (.aload_n 0, 1) := by decide +kernel
theorem dc_L_law_1038 : decode code 1038 = .ok (.iload 4, 2) := by decide +kernel
theorem dc_L_law_1040 : decode code 1040 = .ok (.iconst 4, 1) := by decide +kernel
theorem dc_L_law_1041 : decode code 1041 = .ok (.iadd, 1) := by decide +kernel
theorem dc_L_law_1042 : decode code 1042 = .ok (.iaload, 1) := by decide +kernel
theorem dc_L_law_1043 : decode code 1043 = .ok (.invokevirtual 130, 3) := by decide +kernel
theorem dc_L_law_1046 : decode code 1046 = .ok (.istore 6, 2) := by decide +kernel
theorem dc_L_law_1048 : decode code 1048 = .ok (.aload_n 2, 1) := by decide +kernel
theorem dc_L_law_1049 : decode code 1049 = .ok (.invokevirtual 79, 3) := by decide +kernel
theorem dc_L_law_1052 : decode code 1052 = .ok (.iload 5, 2) := by decide +kernel
theorem dc_L_law_1054 : decode code 1054 = .ok (.if_icmp .eq 5, 3) := by decide +kernel
theorem dc_L_law_1057 : decode code 1057 = .ok (.iconst 0, 1) := by decide +kernel
theorem dc_L_law_1058 : decode code 1058 = .ok (.ireturn, 1) := by decide +kernel
theorem dc_L_law_1059 : decode code 1059 = .ok (.iload 5, 2) := by decide +kernel
theorem dc_L_law_1061 : decode code 1061 = .ok (.ifCond .ne 15, 3) := by decide +kernel
theorem dc_L_law_1064 : decode code 1064 = .ok (.aload_n 3, 1) := by decide +kernel
theorem dc_L_law_1065 : decode code 1065 = .ok (.iconst 0, 1) := by decide +kernel
theorem dc_L_law_1066 : decode code 1066 = .ok (.laload, 1) := by decide +kernel
theorem dc_L_law_1067 : decode code 1067 = .ok (.iload 6, 2) := by decide +kernel
theorem dc_L_law_1069 : decode code 1069 = .ok (.i2l, 1) := by decide +kernel
theorem dc_L_law_1070 : decode code 1070 = .ok (.lcmp, 1) := by decide +kernel
theorem dc_L_law_1071 : decode code 1071 = .ok (.ifCond .eq 5, 3) := by decide +kernel
theorem dc_L_law_1074 : decode code 1074 = .ok (.iconst 0, 1) := by decide +kernel
theorem dc_L_law_1075 : decode code 1075 = .ok (.ireturn, 1) := by decide +kernel
theorem dc_L_law_1076 : decode code 1076 = .ok (.goto 151, 3) := by decide +kernel
theorem dc_L_law_1079 : decode code 1079 = .ok (.aload_n 1, 1) := by decide +kernel
theorem dc_L_law_1080 : decode code 1080 = .ok (.aload_n 0, 1) := by decide +kernel
theorem dc_L_law_1081 : decode code 1081 = .ok (.iload 4, 2) := by decide +kernel
theorem dc_L_law_1083 : decode code 1083 = .ok (.iconst 1, 1) := by decide +kernel
theorem dc_L_law_1084 : decode code 1084 = .ok (.iadd, 1) := by decide +kernel
theorem dc_L_law_1085 : decode code 1085 = .ok (.iaload, 1) := by decide +kernel
theorem dc_L_law_1086 : decode code 1086 = .ok (.aload_n 0, 1) := by decide +kernel
theorem dc_L_law_1087 : decode code 1087 = .ok (.iload 4, 2) := by decide +kernel
theorem dc_L_law_1089 : decode code 1089 = .ok (.iconst 2, 1) := by decide +kernel
theorem dc_L_law_1090 : decode code 1090 = .ok (.iadd, 1) := by decide +kernel
theorem dc_L_law_1091 : decode code 1091 = .ok (.iaload, 1) := by decide +kernel
theorem dc_L_law_1092 : decode code 1092 = .ok (.aload_n 0, 1) := by decide +kernel
theorem dc_L_law_1093 : decode code 1093 = .ok (.iload 4, 2) := by decide +kernel
theorem dc_L_law_1095 : decode code 1095 = .ok (.iconst 3, 1) := by decide +kernel
theorem dc_L_law_1096 : decode code 1096 = .ok (.iadd, 1) := by decide +kernel
theorem dc_L_law_1097 : decode code 1097 = .ok (.iaload, 1) := by decide +kernel
theorem dc_L_law_1098 : decode code 1098 = .ok (.aload_n 3, 1) := by decide +kernel
theorem dc_L_law_1099 : decode code 1099 = .ok (.invokestatic 131, 3) := by decide +kernel
theorem dc_L_law_1102 : decode code 1102 = .ok (.istore 5, 2) := by decide +kernel
theorem dc_L_law_1104 : decode code 1104 = .ok (.aload_n 2, 1) := by decide +kernel
theorem dc_L_law_1105 : decode code 1105 = .ok (.aload_n 0, 1) := by decide +kernel
theorem dc_L_law_1106 : decode code 1106 = .ok (.iload 4, 2) := by decide +kernel
theorem dc_L_law_1108 : decode code 1108 = .ok (.iconst 1, 1) := by decide +kernel
theorem dc_L_law_1109 : decode code 1109 = .ok (.iadd, 1) := by decide +kernel
theorem dc_L_law_1110 : decode code 1110 = .ok (.iaload, 1) := by decide +kernel
theorem dc_L_law_1111 : decode code 1111 = .ok (.aload_n 0, 1) := by decide +kernel
theorem dc_L_law_1112 : decode code 1112 = .ok (.iload 4, 2) := by decide +kernel
theorem dc_L_law_1114 : decode code 1114 = .ok (.iconst 2, 1) := by decide +kernel
theorem dc_L_law_1115 : decode code 1115 = .ok (.iadd, 1) := by decide +kernel
theorem dc_L_law_1116 : decode code 1116 = .ok (.iaload, 1) := by decide +kernel
theorem dc_L_law_1117 : decode code 1117 = .ok (.aload_n 0, 1) := by decide +kernel
theorem dc_L_law_1118 : decode code 1118 = .ok (.iload 4, 2) := by decide +kernel
theorem dc_L_law_1120 : decode code 1120 = .ok (.iconst 3, 1) := by decide +kernel
theorem dc_L_law_1121 : decode code 1121 = .ok (.iadd, 1) := by decide +kernel
theorem dc_L_law_1122 : decode code 1122 = .ok (.iaload, 1) := by decide +kernel
theorem dc_L_law_1123 : decode code 1123 = .ok (.invokevirtual 133, 3) := by decide +kernel
theorem dc_L_law_1126 : decode code 1126 = .ok (.istore 6, 2) := by decide +kernel
theorem dc_L_law_1128 : decode code 1128 = .ok (.aload_n 2, 1) := by decide +kernel
theorem dc_L_law_1129 : decode code 1129 = .ok (.invokevirtual 79, 3) := by decide +kernel
theorem dc_L_law_1132 : decode code 1132 = .ok (.iload 5, 2) := by decide +kernel
theorem dc_L_law_1134 : decode code 1134 = .ok (.if_icmp .eq 5, 3) := by decide +kernel
theorem dc_L_law_1137 : decode code 1137 = .ok (.iconst 0, 1) := by decide +kernel
theorem dc_L_law_1138 : decode code 1138 = .ok (.ireturn, 1) := by decide +kernel
theorem dc_L_law_1139 : decode code 1139 = .ok (.iload 5, 2) := by decide +kernel
theorem dc_L_law_1141 : decode code 1141 = .ok (.ifCond .ne 15, 3) := by decide +kernel
theorem dc_L_law_1144 : decode code 1144 = .ok (.aload_n 3, 1) := by decide +kernel
theorem dc_L_law_1145 : decode code 1145 = .ok (.iconst 0, 1) := by decide +kernel
theorem dc_L_law_1146 : decode code 1146 = .ok (.laload, 1) := by decide +kernel
theorem dc_L_law_1147 : decode code 1147 = .ok (.iload 6, 2) := by decide +kernel
theorem dc_L_law_1149 : decode code 1149 = .ok (.i2l, 1) := by decide +kernel
theorem dc_L_law_1150 : decode code 1150 = .ok (.lcmp, 1) := by decide +kernel
theorem dc_L_law_1151 : decode code 1151 = .ok (.ifCond .eq 5, 3) := by decide +kernel
theorem dc_L_law_1154 : decode code 1154 = .ok (.iconst 0, 1) := by decide +kernel
theorem dc_L_law_1155 : decode code 1155 = .ok (.ireturn, 1) := by decide +kernel
theorem dc_L_law_1156 : decode code 1156 = .ok (.goto 71, 3) := by decide +kernel
theorem dc_L_law_1159 : decode code 1159 = .ok (.aload_n 1, 1) := by decide +kernel
theorem dc_L_law_1160 : decode code 1160 = .ok (.aload_n 0, 1) := by decide +kernel
theorem dc_L_law_1161 : decode code 1161 = .ok (.iload 4, 2) := by decide +kernel
theorem dc_L_law_1163 : decode code 1163 = .ok (.iconst 1, 1) := by decide +kernel
theorem dc_L_law_1164 : decode code 1164 = .ok (.iadd, 1) := by decide +kernel
theorem dc_L_law_1165 : decode code 1165 = .ok (.iaload, 1) := by decide +kernel
theorem dc_L_law_1166 : decode code 1166 = .ok (.aload_n 0, 1) := by decide +kernel
theorem dc_L_law_1167 : decode code 1167 = .ok (.iload 4, 2) := by decide +kernel
theorem dc_L_law_1169 : decode code 1169 = .ok (.iconst 2, 1) := by decide +kernel
theorem dc_L_law_1170 : decode code 1170 = .ok (.iadd, 1) := by decide +kernel
theorem dc_L_law_1171 : decode code 1171 = .ok (.iaload, 1) := by decide +kernel
theorem dc_L_law_1172 : decode code 1172 = .ok (.aload_n 3, 1) := by decide +kernel
theorem dc_L_law_1173 : decode code 1173 = .ok (.invokestatic 134, 3) := by decide +kernel
theorem dc_L_law_1176 : decode code 1176 = .ok (.istore 5, 2) := by decide +kernel
theorem dc_L_law_1178 : decode code 1178 = .ok (.aload_n 2, 1) := by decide +kernel
theorem dc_L_law_1179 : decode code 1179 = .ok (.aload_n 0, 1) := by decide +kernel
theorem dc_L_law_1180 : decode code 1180 = .ok (.iload 4, 2) := by decide +kernel
theorem dc_L_law_1182 : decode code 1182 = .ok (.iconst 1, 1) := by decide +kernel
theorem dc_L_law_1183 : decode code 1183 = .ok (.iadd, 1) := by decide +kernel
theorem dc_L_law_1184 : decode code 1184 = .ok (.iaload, 1) := by decide +kernel
theorem dc_L_law_1185 : decode code 1185 = .ok (.aload_n 0, 1) := by decide +kernel
theorem dc_L_law_1186 : decode code 1186 = .ok (.iload 4, 2) := by decide +kernel
theorem dc_L_law_1188 : decode code 1188 = .ok (.iconst 2, 1) := by decide +kernel
theorem dc_L_law_1189 : decode code 1189 = .ok (.iadd, 1) := by decide +kernel
theorem dc_L_law_1190 : decode code 1190 = .ok (.iaload, 1) := by decide +kernel
theorem dc_L_law_1191 : decode code 1191 = .ok (.invokevirtual 136, 3) := by decide +kernel
theorem dc_L_law_1194 : decode code 1194 = .ok (.istore 6, 2) := by decide +kernel
theorem dc_L_law_1196 : decode code 1196 = .ok (.aload_n 2, 1) := by decide +kernel
theorem dc_L_law_1197 : decode code 1197 = .ok (.invokevirtual 79, 3) := by decide +kernel
theorem dc_L_law_1200 : decode code 1200 = .ok (.iload 5, 2) := by decide +kernel
theorem dc_L_law_1202 : decode code 1202 = .ok (.if_icmp .eq 5, 3) := by decide +kernel
theorem dc_L_law_1205 : decode code 1205 = .ok (.iconst 0, 1) := by decide +kernel
theorem dc_L_law_1206 : decode code 1206 = .ok (.ireturn, 1) := by decide +kernel
theorem dc_L_law_1207 : decode code 1207 = .ok (.iload 5, 2) := by decide +kernel
theorem dc_L_law_1209 : decode code 1209 = .ok (.ifCond .ne 15, 3) := by decide +kernel
theorem dc_L_law_1212 : decode code 1212 = .ok (.aload_n 3, 1) := by decide +kernel
theorem dc_L_law_1213 : decode code 1213 = .ok (.iconst 0, 1) := by decide +kernel
theorem dc_L_law_1214 : decode code 1214 = .ok (.laload, 1) := by decide +kernel
theorem dc_L_law_1215 : decode code 1215 = .ok (.iload 6, 2) := by decide +kernel
theorem dc_L_law_1217 : decode code 1217 = .ok (.i2l, 1) := by decide +kernel
theorem dc_L_law_1218 : decode code 1218 = .ok (.lcmp, 1) := by decide +kernel
theorem dc_L_law_1219 : decode code 1219 = .ok (.ifCond .eq 5, 3) := by decide +kernel
theorem dc_L_law_1222 : decode code 1222 = .ok (.iconst 0, 1) := by decide +kernel
theorem dc_L_law_1223 : decode code 1223 = .ok (.ireturn, 1) := by decide +kernel
theorem dc_L_law_1224 : decode code 1224 = .ok (.goto 3, 3) := by decide +kernel
theorem dc_L_law_1227 : decode code 1227 = .ok (.iinc 4 5, 3) := by decide +kernel
theorem dc_L_law_1230 : decode code 1230 = .ok (.goto (-1207), 3) := by decide +kernel
theorem dc_L_law_1233 : decode code 1233 = .ok (.iconst 1, 1) := by decide +kernel
theorem dc_L_law_1234 : decode code 1234 = .ok (.ireturn, 1) := by decide +kernel
