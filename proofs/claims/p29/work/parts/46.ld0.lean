theorem dL_lot_0 : decode cL_lot 0 = .ok (.iload_n 1, 1) := by decide +kernel
theorem dL_lot_1 : decode cL_lot 1 = .ok (.aload_n 0, 1) := by decide +kernel
theorem dL_lot_2 : decode cL_lot 2 = .ok (.arraylength, 1) := by decide +kernel
theorem dL_lot_3 : decode cL_lot 3 = .ok (.if_icmp .ge 9, 3) := by decide +kernel
theorem dL_lot_6 : decode cL_lot 6 = .ok (.aload_n 0, 1) := by decide +kernel
theorem dL_lot_7 : decode cL_lot 7 = .ok (.iload_n 1, 1) := by decide +kernel
theorem dL_lot_8 : decode cL_lot 8 = .ok (.iaload, 1) := by decide +kernel
theorem dL_lot_9 : decode cL_lot 9 = .ok (.goto 15, 3) := by decide +kernel
theorem dL_lot_12 : decode cL_lot 12 = .ok (.ldc 7, 2) := by decide +kernel
theorem dL_lot_14 : decode cL_lot 14 = .ok (.iload_n 1, 1) := by decide +kernel
theorem dL_lot_15 : decode cL_lot 15 = .ok (.sipush 3911, 3) := by decide +kernel
theorem dL_lot_18 : decode cL_lot 18 = .ok (.iadd, 1) := by decide +kernel
theorem dL_lot_19 : decode cL_lot 19 = .ok (.imul, 1) := by decide +kernel
theorem dL_lot_20 : decode cL_lot 20 = .ok (.sipush 3677, 3) := by decide +kernel
theorem dL_lot_23 : decode cL_lot 23 = .ok (.iadd, 1) := by decide +kernel
theorem dL_lot_24 : decode cL_lot 24 = .ok (.ireturn, 1) := by decide +kernel
theorem dL_low_0 : decode cL_low 0 = .ok (.iload_n 0, 1) := by decide +kernel
theorem dL_low_1 : decode cL_low 1 = .ok (.ldc 8, 2) := by decide +kernel
theorem dL_low_3 : decode cL_low 3 = .ok (.iand, 1) := by decide +kernel
theorem dL_low_4 : decode cL_low 4 = .ok (.iload_n 1, 1) := by decide +kernel
theorem dL_low_5 : decode cL_low 5 = .ok (.irem, 1) := by decide +kernel
theorem dL_low_6 : decode cL_low 6 = .ok (.ireturn, 1) := by decide +kernel
theorem dL_house_0 : decode cL_house 0 = .ok (.aload_n 0, 1) := by decide +kernel
theorem dL_house_1 : decode cL_house 1 = .ok (.invokevirtual 9, 3) := by decide +kernel
theorem dL_house_4 : decode cL_house 4 = .ok (.ireturn, 1) := by decide +kernel
theorem dL_house_5 : decode cL_house 5 = .ok (.astore_n 1, 1) := by decide +kernel
theorem dL_house_6 : decode cL_house 6 = .ok (.bipush (-103), 2) := by decide +kernel
theorem dL_house_8 : decode cL_house 8 = .ok (.ireturn, 1) := by decide +kernel
theorem dL_bottles_0 : decode cL_bottles 0 = .ok (.aload_n 0, 1) := by decide +kernel
theorem dL_bottles_1 : decode cL_bottles 1 = .ok (.iload_n 1, 1) := by decide +kernel
theorem dL_bottles_2 : decode cL_bottles 2 = .ok (.iload_n 2, 1) := by decide +kernel
theorem dL_bottles_3 : decode cL_bottles 3 = .ok (.invokevirtual 17, 3) := by decide +kernel
theorem dL_bottles_6 : decode cL_bottles 6 = .ok (.ireturn, 1) := by decide +kernel
theorem dL_bottles_7 : decode cL_bottles 7 = .ok (.astore_n 3, 1) := by decide +kernel
theorem dL_bottles_8 : decode cL_bottles 8 = .ok (.bipush (-101), 2) := by decide +kernel
theorem dL_bottles_10 : decode cL_bottles 10 = .ok (.ireturn, 1) := by decide +kernel
theorem dL_bottles_11 : decode cL_bottles 11 = .ok (.astore_n 3, 1) := by decide +kernel
theorem dL_bottles_12 : decode cL_bottles 12 = .ok (.bipush (-102), 2) := by decide +kernel
theorem dL_bottles_14 : decode cL_bottles 14 = .ok (.ireturn, 1) := by decide +kernel
theorem dL_bottles_15 : decode cL_bottles 15 = .ok (.astore_n 3, 1) := by decide +kernel
theorem dL_bottles_16 : decode cL_bottles 16 = .ok (.bipush (-103), 2) := by decide +kernel
theorem dL_bottles_18 : decode cL_bottles 18 = .ok (.ireturn, 1) := by decide +kernel
theorem dL_lend_0 : decode cL_lend 0 = .ok (.aload_n 0, 1) := by decide +kernel
theorem dL_lend_1 : decode cL_lend 1 = .ok (.iload_n 1, 1) := by decide +kernel
theorem dL_lend_2 : decode cL_lend 2 = .ok (.iload_n 2, 1) := by decide +kernel
theorem dL_lend_3 : decode cL_lend 3 = .ok (.invokevirtual 25, 3) := by decide +kernel
theorem dL_lend_6 : decode cL_lend 6 = .ok (.ireturn, 1) := by decide +kernel
theorem dL_lend_7 : decode cL_lend 7 = .ok (.astore_n 3, 1) := by decide +kernel
theorem dL_lend_8 : decode cL_lend 8 = .ok (.bipush (-101), 2) := by decide +kernel
theorem dL_lend_10 : decode cL_lend 10 = .ok (.ireturn, 1) := by decide +kernel
theorem dL_lend_11 : decode cL_lend 11 = .ok (.astore_n 3, 1) := by decide +kernel
theorem dL_lend_12 : decode cL_lend 12 = .ok (.bipush (-103), 2) := by decide +kernel
theorem dL_lend_14 : decode cL_lend 14 = .ok (.ireturn, 1) := by decide +kernel
theorem dL_ask_0 : decode cL_ask 0 = .ok (.aload_n 0, 1) := by decide +kernel
theorem dL_ask_1 : decode cL_ask 1 = .ok (.iload_n 1, 1) := by decide +kernel
theorem dL_ask_2 : decode cL_ask 2 = .ok (.iload_n 2, 1) := by decide +kernel
theorem dL_ask_3 : decode cL_ask 3 = .ok (.invokevirtual 28, 3) := by decide +kernel
theorem dL_ask_6 : decode cL_ask 6 = .ok (.ireturn, 1) := by decide +kernel
theorem dL_ask_7 : decode cL_ask 7 = .ok (.astore_n 3, 1) := by decide +kernel
theorem dL_ask_8 : decode cL_ask 8 = .ok (.bipush (-101), 2) := by decide +kernel
theorem dL_ask_10 : decode cL_ask 10 = .ok (.ireturn, 1) := by decide +kernel
theorem dL_ask_11 : decode cL_ask 11 = .ok (.astore_n 3, 1) := by decide +kernel
theorem dL_ask_12 : decode cL_ask 12 = .ok (.bipush (-103), 2) := by decide +kernel
theorem dL_ask_14 : decode cL_ask 14 = .ok (.ireturn, 1) := by decide +kernel
theorem dL_want_0 : decode cL_want 0 = .ok (.aload_n 0, 1) := by decide +kernel
theorem dL_want_1 : decode cL_want 1 = .ok (.iload_n 1, 1) := by decide +kernel
theorem dL_want_2 : decode cL_want 2 = .ok (.iload_n 2, 1) := by decide +kernel
theorem dL_want_3 : decode cL_want 3 = .ok (.invokevirtual 31, 3) := by decide +kernel
theorem dL_want_6 : decode cL_want 6 = .ok (.ireturn, 1) := by decide +kernel
theorem dL_want_7 : decode cL_want 7 = .ok (.astore_n 3, 1) := by decide +kernel
theorem dL_want_8 : decode cL_want 8 = .ok (.bipush (-101), 2) := by decide +kernel
theorem dL_want_10 : decode cL_want 10 = .ok (.ireturn, 1) := by decide +kernel
theorem dL_want_11 : decode cL_want 11 = .ok (.astore_n 3, 1) := by decide +kernel
theorem dL_want_12 : decode cL_want 12 = .ok (.bipush (-103), 2) := by decide +kernel
theorem dL_want_14 : decode cL_want 14 = .ok (.ireturn, 1) := by decide +kernel
theorem dL_drink_0 : decode cL_drink 0 = .ok (.aload_n 0, 1) := by decide +kernel
theorem dL_drink_1 : decode cL_drink 1 = .ok (.iload_n 1, 1) := by decide +kernel
theorem dL_drink_2 : decode cL_drink 2 = .ok (.invokevirtual 34, 3) := by decide +kernel
theorem dL_drink_5 : decode cL_drink 5 = .ok (.ireturn, 1) := by decide +kernel
theorem dL_drink_6 : decode cL_drink 6 = .ok (.astore_n 2, 1) := by decide +kernel
theorem dL_drink_7 : decode cL_drink 7 = .ok (.bipush (-101), 2) := by decide +kernel
theorem dL_drink_9 : decode cL_drink 9 = .ok (.ireturn, 1) := by decide +kernel
theorem dL_drink_10 : decode cL_drink 10 = .ok (.astore_n 2, 1) := by decide +kernel
theorem dL_drink_11 : decode cL_drink 11 = .ok (.bipush (-103), 2) := by decide +kernel
theorem dL_drink_13 : decode cL_drink 13 = .ok (.ireturn, 1) := by decide +kernel
theorem dL_pass_0 : decode cL_pass 0 = .ok (.aload_n 0, 1) := by decide +kernel
theorem dL_pass_1 : decode cL_pass 1 = .ok (.iload_n 1, 1) := by decide +kernel
theorem dL_pass_2 : decode cL_pass 2 = .ok (.invokevirtual 38, 3) := by decide +kernel
theorem dL_pass_5 : decode cL_pass 5 = .ok (.ireturn, 1) := by decide +kernel
theorem dL_pass_6 : decode cL_pass 6 = .ok (.astore_n 2, 1) := by decide +kernel
theorem dL_pass_7 : decode cL_pass 7 = .ok (.bipush (-102), 2) := by decide +kernel
theorem dL_pass_9 : decode cL_pass 9 = .ok (.ireturn, 1) := by decide +kernel
theorem dL_pass_10 : decode cL_pass 10 = .ok (.astore_n 2, 1) := by decide +kernel
theorem dL_pass_11 : decode cL_pass 11 = .ok (.bipush (-103), 2) := by decide +kernel
theorem dL_pass_13 : decode cL_pass 13 = .ok (.ireturn, 1) := by decide +kernel
theorem dL_set_0 : decode cL_set 0 = .ok (.aload_n 0, 1) := by decide +kernel
theorem dL_set_1 : decode cL_set 1 = .ok (.iload_n 1, 1) := by decide +kernel
theorem dL_set_2 : decode cL_set 2 = .ok (.iload_n 2, 1) := by decide +kernel
theorem dL_set_3 : decode cL_set 3 = .ok (.invokevirtual 41, 3) := by decide +kernel
theorem dL_set_6 : decode cL_set 6 = .ok (.ireturn, 1) := by decide +kernel
theorem dL_set_7 : decode cL_set 7 = .ok (.astore_n 3, 1) := by decide +kernel
theorem dL_set_8 : decode cL_set 8 = .ok (.bipush (-101), 2) := by decide +kernel
theorem dL_set_10 : decode cL_set 10 = .ok (.ireturn, 1) := by decide +kernel
theorem dL_set_11 : decode cL_set 11 = .ok (.astore_n 3, 1) := by decide +kernel
theorem dL_set_12 : decode cL_set 12 = .ok (.bipush (-102), 2) := by decide +kernel
theorem dL_set_14 : decode cL_set 14 = .ok (.ireturn, 1) := by decide +kernel
theorem dL_append_0 : decode cL_append 0 = .ok (.aload_n 0, 1) := by decide +kernel
theorem dL_append_1 : decode cL_append 1 = .ok (.iload_n 1, 1) := by decide +kernel
theorem dL_append_2 : decode cL_append 2 = .ok (.invokevirtual 44, 3) := by decide +kernel
theorem dL_append_5 : decode cL_append 5 = .ok (.ireturn, 1) := by decide +kernel
theorem dL_append_6 : decode cL_append 6 = .ok (.astore_n 2, 1) := by decide +kernel
theorem dL_append_7 : decode cL_append 7 = .ok (.bipush (-102), 2) := by decide +kernel
theorem dL_append_9 : decode cL_append 9 = .ok (.ireturn, 1) := by decide +kernel
theorem dL_append_10 : decode cL_append 10 = .ok (.astore_n 2, 1) := by decide +kernel
theorem dL_append_11 : decode cL_append 11 = .ok (.bipush (-103), 2) := by decide +kernel
theorem dL_append_13 : decode cL_append 13 = .ok (.ireturn, 1) := by decide +kernel
theorem dL_run_0 : decode cL_run 0 = .ok (.aload_n 0, 1) := by decide +kernel
theorem dL_run_1 : decode cL_run 1 = .ok (.invokevirtual 47, 3) := by decide +kernel
theorem dL_run_4 : decode cL_run 4 = .ok (.ireturn, 1) := by decide +kernel
theorem dL_run_5 : decode cL_run 5 = .ok (.astore_n 1, 1) := by decide +kernel
theorem dL_run_6 : decode cL_run 6 = .ok (.bipush (-102), 2) := by decide +kernel
theorem dL_run_8 : decode cL_run 8 = .ok (.ireturn, 1) := by decide +kernel
theorem dL_keep_0 : decode cL_keep 0 = .ok (.aload_n 0, 1) := by decide +kernel
theorem dL_keep_1 : decode cL_keep 1 = .ok (.iload_n 1, 1) := by decide +kernel
theorem dL_keep_2 : decode cL_keep 2 = .ok (.invokevirtual 50, 3) := by decide +kernel
theorem dL_keep_5 : decode cL_keep 5 = .ok (.ireturn, 1) := by decide +kernel
theorem dL_keep_6 : decode cL_keep 6 = .ok (.astore_n 2, 1) := by decide +kernel
theorem dL_keep_7 : decode cL_keep 7 = .ok (.bipush (-102), 2) := by decide +kernel
theorem dL_keep_9 : decode cL_keep 9 = .ok (.ireturn, 1) := by decide +kernel
theorem dL_goBack_0 : decode cL_goBack 0 = .ok (.aload_n 0, 1) := by decide +kernel
theorem dL_goBack_1 : decode cL_goBack 1 = .ok (.iload_n 1, 1) := by decide +kernel
theorem dL_goBack_2 : decode cL_goBack 2 = .ok (.invokevirtual 53, 3) := by decide +kernel
theorem dL_goBack_5 : decode cL_goBack 5 = .ok (.ireturn, 1) := by decide +kernel
theorem dL_goBack_6 : decode cL_goBack 6 = .ok (.astore_n 2, 1) := by decide +kernel
theorem dL_goBack_7 : decode cL_goBack 7 = .ok (.bipush (-102), 2) := by decide +kernel
theorem dL_goBack_9 : decode cL_goBack 9 = .ok (.ireturn, 1) := by decide +kernel
theorem dL_goBack_10 : decode cL_goBack 10 = .ok (.astore_n 2, 1) := by decide +kernel
theorem dL_goBack_11 : decode cL_goBack 11 = .ok (.bipush (-103), 2) := by decide +kernel
theorem dL_goBack_13 : decode cL_goBack 13 = .ok (.ireturn, 1) := by decide +kernel
theorem dL_undo_0 : decode cL_undo 0 = .ok (.aload_n 0, 1) := by decide +kernel
theorem dL_undo_1 : decode cL_undo 1 = .ok (.invokevirtual 56, 3) := by decide +kernel
theorem dL_undo_4 : decode cL_undo 4 = .ok (.ireturn, 1) := by decide +kernel
theorem dL_undo_5 : decode cL_undo 5 = .ok (.astore_n 1, 1) := by decide +kernel
theorem dL_undo_6 : decode cL_undo 6 = .ok (.bipush (-103), 2) := by decide +kernel
theorem dL_undo_8 : decode cL_undo 8 = .ok (.ireturn, 1) := by decide +kernel
theorem dL_kind_0 : decode cL_kind 0 = .ok (.aload_n 0, 1) := by decide +kernel
theorem dL_kind_1 : decode cL_kind 1 = .ok (.iload_n 1, 1) := by decide +kernel
theorem dL_kind_2 : decode cL_kind 2 = .ok (.iload_n 2, 1) := by decide +kernel
theorem dL_kind_3 : decode cL_kind 3 = .ok (.invokevirtual 59, 3) := by decide +kernel
theorem dL_kind_6 : decode cL_kind 6 = .ok (.ireturn, 1) := by decide +kernel
theorem dL_kind_7 : decode cL_kind 7 = .ok (.astore_n 3, 1) := by decide +kernel
theorem dL_kind_8 : decode cL_kind 8 = .ok (.bipush (-101), 2) := by decide +kernel
theorem dL_kind_10 : decode cL_kind 10 = .ok (.ireturn, 1) := by decide +kernel
theorem dL_kind_11 : decode cL_kind 11 = .ok (.astore_n 3, 1) := by decide +kernel
theorem dL_kind_12 : decode cL_kind 12 = .ok (.bipush (-102), 2) := by decide +kernel
theorem dL_kind_14 : decode cL_kind 14 = .ok (.ireturn, 1) := by decide +kernel
theorem dL_houseOf_0 : decode cL_houseOf 0 = .ok (.aload_n 0, 1) := by decide +kernel
theorem dL_houseOf_1 : decode cL_houseOf 1 = .ok (.iload_n 1, 1) := by decide +kernel
theorem dL_houseOf_2 : decode cL_houseOf 2 = .ok (.iload_n 2, 1) := by decide +kernel
theorem dL_houseOf_3 : decode cL_houseOf 3 = .ok (.iload_n 3, 1) := by decide +kernel
theorem dL_houseOf_4 : decode cL_houseOf 4 = .ok (.invokevirtual 62, 3) := by decide +kernel
theorem dL_houseOf_7 : decode cL_houseOf 7 = .ok (.ireturn, 1) := by decide +kernel
theorem dL_houseOf_8 : decode cL_houseOf 8 = .ok (.astore 4, 2) := by decide +kernel
theorem dL_houseOf_10 : decode cL_houseOf 10 = .ok (.bipush (-101), 2) := by decide +kernel
theorem dL_houseOf_12 : decode cL_houseOf 12 = .ok (.ireturn, 1) := by decide +kernel
theorem dL_houseOf_13 : decode cL_houseOf 13 = .ok (.astore 4, 2) := by decide +kernel
theorem dL_houseOf_15 : decode cL_houseOf 15 = .ok (.bipush (-102), 2) := by decide +kernel
theorem dL_houseOf_17 : decode cL_houseOf 17 = .ok (.ireturn, 1) := by decide +kernel
theorem dL_letter_0 : decode cL_letter 0 = .ok (.aload_n 0, 1) := by decide +kernel
theorem dL_letter_1 : decode cL_letter 1 = .ok (.iload_n 1, 1) := by decide +kernel
theorem dL_letter_2 : decode cL_letter 2 = .ok (.iload_n 2, 1) := by decide +kernel
theorem dL_letter_3 : decode cL_letter 3 = .ok (.invokevirtual 66, 3) := by decide +kernel
theorem dL_letter_6 : decode cL_letter 6 = .ok (.ireturn, 1) := by decide +kernel
theorem dL_letter_7 : decode cL_letter 7 = .ok (.astore_n 3, 1) := by decide +kernel
theorem dL_letter_8 : decode cL_letter 8 = .ok (.bipush (-102), 2) := by decide +kernel
theorem dL_letter_10 : decode cL_letter 10 = .ok (.ireturn, 1) := by decide +kernel
theorem dL_ifPassed_0 : decode cL_ifPassed 0 = .ok (.aload_n 0, 1) := by decide +kernel
theorem dL_ifPassed_1 : decode cL_ifPassed 1 = .ok (.iload_n 1, 1) := by decide +kernel
theorem dL_ifPassed_2 : decode cL_ifPassed 2 = .ok (.iload_n 2, 1) := by decide +kernel
theorem dL_ifPassed_3 : decode cL_ifPassed 3 = .ok (.invokevirtual 69, 3) := by decide +kernel
theorem dL_ifPassed_6 : decode cL_ifPassed 6 = .ok (.ireturn, 1) := by decide +kernel
theorem dL_ifPassed_7 : decode cL_ifPassed 7 = .ok (.astore_n 3, 1) := by decide +kernel
theorem dL_ifPassed_8 : decode cL_ifPassed 8 = .ok (.bipush (-102), 2) := by decide +kernel
theorem dL_ifPassed_10 : decode cL_ifPassed 10 = .ok (.ireturn, 1) := by decide +kernel
theorem dL_look_0 : decode cL_look 0 = .ok (.ldc2_w 72, 3) := by decide +kernel
theorem dL_look_3 : decode cL_look 3 = .ok (.lstore_n 1, 1) := by decide +kernel
theorem dL_look_4 : decode cL_look 4 = .ok (.iconst 0, 1) := by decide +kernel
theorem dL_look_5 : decode cL_look 5 = .ok (.istore_n 3, 1) := by decide +kernel
theorem dL_look_6 : decode cL_look 6 = .ok (.iload_n 3, 1) := by decide +kernel
theorem dL_look_7 : decode cL_look 7 = .ok (.bipush 11, 2) := by decide +kernel
theorem dL_look_9 : decode cL_look 9 = .ok (.if_icmp .ge 22, 3) := by decide +kernel
theorem dL_look_12 : decode cL_look 12 = .ok (.ldc2_w 74, 3) := by decide +kernel
theorem dL_look_15 : decode cL_look 15 = .ok (.lload_n 1, 1) := by decide +kernel
theorem dL_look_16 : decode cL_look 16 = .ok (.lmul, 1) := by decide +kernel
theorem dL_look_17 : decode cL_look 17 = .ok (.aload_n 0, 1) := by decide +kernel
theorem dL_look_18 : decode cL_look 18 = .ok (.iload_n 3, 1) := by decide +kernel
theorem dL_look_19 : decode cL_look 19 = .ok (.invokevirtual 76, 3) := by decide +kernel
theorem dL_look_22 : decode cL_look 22 = .ok (.i2l, 1) := by decide +kernel
theorem dL_look_23 : decode cL_look 23 = .ok (.ladd, 1) := by decide +kernel
theorem dL_look_24 : decode cL_look 24 = .ok (.lstore_n 1, 1) := by decide +kernel
theorem dL_look_25 : decode cL_look 25 = .ok (.iinc 3 1, 3) := by decide +kernel
theorem dL_look_28 : decode cL_look 28 = .ok (.goto (-22), 3) := by decide +kernel
theorem dL_look_31 : decode cL_look 31 = .ok (.iconst 0, 1) := by decide +kernel
theorem dL_look_32 : decode cL_look 32 = .ok (.istore_n 3, 1) := by decide +kernel
theorem dL_look_33 : decode cL_look 33 = .ok (.iload_n 3, 1) := by decide +kernel
theorem dL_look_34 : decode cL_look 34 = .ok (.bipush 21, 2) := by decide +kernel
theorem dL_look_36 : decode cL_look 36 = .ok (.if_icmp .ge 29, 3) := by decide +kernel
theorem dL_look_39 : decode cL_look 39 = .ok (.ldc2_w 74, 3) := by decide +kernel
theorem dL_look_42 : decode cL_look 42 = .ok (.lload_n 1, 1) := by decide +kernel
theorem dL_look_43 : decode cL_look 43 = .ok (.lmul, 1) := by decide +kernel
theorem dL_look_44 : decode cL_look 44 = .ok (.aload_n 0, 1) := by decide +kernel
theorem dL_look_45 : decode cL_look 45 = .ok (.iload_n 3, 1) := by decide +kernel
theorem dL_look_46 : decode cL_look 46 = .ok (.bipush 7, 2) := by decide +kernel
theorem dL_look_48 : decode cL_look 48 = .ok (.idiv, 1) := by decide +kernel
theorem dL_look_49 : decode cL_look 49 = .ok (.iload_n 3, 1) := by decide +kernel
theorem dL_look_50 : decode cL_look 50 = .ok (.bipush 7, 2) := by decide +kernel
theorem dL_look_52 : decode cL_look 52 = .ok (.irem, 1) := by decide +kernel
theorem dL_look_53 : decode cL_look 53 = .ok (.invokestatic 79, 3) := by decide +kernel
theorem dL_look_56 : decode cL_look 56 = .ok (.i2l, 1) := by decide +kernel
theorem dL_look_57 : decode cL_look 57 = .ok (.ladd, 1) := by decide +kernel
theorem dL_look_58 : decode cL_look 58 = .ok (.lstore_n 1, 1) := by decide +kernel
theorem dL_look_59 : decode cL_look 59 = .ok (.iinc 3 1, 3) := by decide +kernel
theorem dL_look_62 : decode cL_look 62 = .ok (.goto (-29), 3) := by decide +kernel
theorem dL_look_65 : decode cL_look 65 = .ok (.iconst 0, 1) := by decide +kernel
theorem dL_look_66 : decode cL_look 66 = .ok (.istore_n 3, 1) := by decide +kernel
theorem dL_look_67 : decode cL_look 67 = .ok (.iload_n 3, 1) := by decide +kernel
theorem dL_look_68 : decode cL_look 68 = .ok (.bipush 30, 2) := by decide +kernel
theorem dL_look_70 : decode cL_look 70 = .ok (.aload_n 0, 1) := by decide +kernel
theorem dL_look_71 : decode cL_look 71 = .ok (.iconst 1, 1) := by decide +kernel
theorem dL_look_72 : decode cL_look 72 = .ok (.invokevirtual 76, 3) := by decide +kernel
theorem dL_look_75 : decode cL_look 75 = .ok (.imul, 1) := by decide +kernel
theorem dL_look_76 : decode cL_look 76 = .ok (.if_icmp .ge 35, 3) := by decide +kernel
theorem dL_look_79 : decode cL_look 79 = .ok (.ldc2_w 74, 3) := by decide +kernel
theorem dL_look_82 : decode cL_look 82 = .ok (.lload_n 1, 1) := by decide +kernel
theorem dL_look_83 : decode cL_look 83 = .ok (.lmul, 1) := by decide +kernel
theorem dL_look_84 : decode cL_look 84 = .ok (.aload_n 0, 1) := by decide +kernel
theorem dL_look_85 : decode cL_look 85 = .ok (.iload_n 3, 1) := by decide +kernel
theorem dL_look_86 : decode cL_look 86 = .ok (.bipush 30, 2) := by decide +kernel
theorem dL_look_88 : decode cL_look 88 = .ok (.idiv, 1) := by decide +kernel
theorem dL_look_89 : decode cL_look 89 = .ok (.iload_n 3, 1) := by decide +kernel
theorem dL_look_90 : decode cL_look 90 = .ok (.bipush 10, 2) := by decide +kernel
theorem dL_look_92 : decode cL_look 92 = .ok (.idiv, 1) := by decide +kernel
theorem dL_look_93 : decode cL_look 93 = .ok (.iconst 3, 1) := by decide +kernel
theorem dL_look_94 : decode cL_look 94 = .ok (.irem, 1) := by decide +kernel
theorem dL_look_95 : decode cL_look 95 = .ok (.iload_n 3, 1) := by decide +kernel
theorem dL_look_96 : decode cL_look 96 = .ok (.bipush 10, 2) := by decide +kernel
theorem dL_look_98 : decode cL_look 98 = .ok (.irem, 1) := by decide +kernel
theorem dL_look_99 : decode cL_look 99 = .ok (.invokestatic 84, 3) := by decide +kernel
theorem dL_look_102 : decode cL_look 102 = .ok (.i2l, 1) := by decide +kernel
theorem dL_look_103 : decode cL_look 103 = .ok (.ladd, 1) := by decide +kernel
theorem dL_look_104 : decode cL_look 104 = .ok (.lstore_n 1, 1) := by decide +kernel
theorem dL_look_105 : decode cL_look 105 = .ok (.iinc 3 1, 3) := by decide +kernel
theorem dL_look_108 : decode cL_look 108 = .ok (.goto (-41), 3) := by decide +kernel
theorem dL_look_111 : decode cL_look 111 = .ok (.iconst 0, 1) := by decide +kernel
theorem dL_look_112 : decode cL_look 112 = .ok (.istore_n 3, 1) := by decide +kernel
theorem dL_look_113 : decode cL_look 113 = .ok (.iload_n 3, 1) := by decide +kernel
theorem dL_look_114 : decode cL_look 114 = .ok (.aload_n 0, 1) := by decide +kernel
theorem dL_look_115 : decode cL_look 115 = .ok (.iconst 2, 1) := by decide +kernel
theorem dL_look_116 : decode cL_look 116 = .ok (.invokevirtual 76, 3) := by decide +kernel
theorem dL_look_119 : decode cL_look 119 = .ok (.if_icmp .ge 47, 3) := by decide +kernel
theorem dL_look_122 : decode cL_look 122 = .ok (.ldc2_w 74, 3) := by decide +kernel
theorem dL_look_125 : decode cL_look 125 = .ok (.ldc2_w 74, 3) := by decide +kernel
theorem dL_look_128 : decode cL_look 128 = .ok (.ldc2_w 74, 3) := by decide +kernel
theorem dL_look_131 : decode cL_look 131 = .ok (.lload_n 1, 1) := by decide +kernel
theorem dL_look_132 : decode cL_look 132 = .ok (.lmul, 1) := by decide +kernel
theorem dL_look_133 : decode cL_look 133 = .ok (.aload_n 0, 1) := by decide +kernel
theorem dL_look_134 : decode cL_look 134 = .ok (.iload_n 3, 1) := by decide +kernel
theorem dL_look_135 : decode cL_look 135 = .ok (.iconst 0, 1) := by decide +kernel
theorem dL_look_136 : decode cL_look 136 = .ok (.invokestatic 87, 3) := by decide +kernel
theorem dL_look_139 : decode cL_look 139 = .ok (.i2l, 1) := by decide +kernel
theorem dL_look_140 : decode cL_look 140 = .ok (.ladd, 1) := by decide +kernel
theorem dL_look_141 : decode cL_look 141 = .ok (.lmul, 1) := by decide +kernel
theorem dL_look_142 : decode cL_look 142 = .ok (.aload_n 0, 1) := by decide +kernel
theorem dL_look_143 : decode cL_look 143 = .ok (.iload_n 3, 1) := by decide +kernel
theorem dL_look_144 : decode cL_look 144 = .ok (.iconst 3, 1) := by decide +kernel
theorem dL_look_145 : decode cL_look 145 = .ok (.invokestatic 87, 3) := by decide +kernel
theorem dL_look_148 : decode cL_look 148 = .ok (.i2l, 1) := by decide +kernel
theorem dL_look_149 : decode cL_look 149 = .ok (.ladd, 1) := by decide +kernel
theorem dL_look_150 : decode cL_look 150 = .ok (.lmul, 1) := by decide +kernel
theorem dL_look_151 : decode cL_look 151 = .ok (.aload_n 0, 1) := by decide +kernel
theorem dL_look_152 : decode cL_look 152 = .ok (.iload_n 3, 1) := by decide +kernel
theorem dL_look_153 : decode cL_look 153 = .ok (.iconst 4, 1) := by decide +kernel
theorem dL_look_154 : decode cL_look 154 = .ok (.invokestatic 87, 3) := by decide +kernel
theorem dL_look_157 : decode cL_look 157 = .ok (.i2l, 1) := by decide +kernel
theorem dL_look_158 : decode cL_look 158 = .ok (.ladd, 1) := by decide +kernel
theorem dL_look_159 : decode cL_look 159 = .ok (.lstore_n 1, 1) := by decide +kernel
theorem dL_look_160 : decode cL_look 160 = .ok (.iinc 3 1, 3) := by decide +kernel
theorem dL_look_163 : decode cL_look 163 = .ok (.goto (-50), 3) := by decide +kernel
theorem dL_look_166 : decode cL_look 166 = .ok (.ldc2_w 74, 3) := by decide +kernel
theorem dL_look_169 : decode cL_look 169 = .ok (.ldc2_w 74, 3) := by decide +kernel
theorem dL_look_172 : decode cL_look 172 = .ok (.ldc2_w 74, 3) := by decide +kernel
theorem dL_look_175 : decode cL_look 175 = .ok (.lload_n 1, 1) := by decide +kernel
theorem dL_look_176 : decode cL_look 176 = .ok (.lmul, 1) := by decide +kernel
theorem dL_look_177 : decode cL_look 177 = .ok (.aload_n 0, 1) := by decide +kernel
theorem dL_look_178 : decode cL_look 178 = .ok (.iconst 0, 1) := by decide +kernel
theorem dL_look_179 : decode cL_look 179 = .ok (.invokevirtual 89, 3) := by decide +kernel
theorem dL_look_182 : decode cL_look 182 = .ok (.i2l, 1) := by decide +kernel
theorem dL_look_183 : decode cL_look 183 = .ok (.ladd, 1) := by decide +kernel
theorem dL_look_184 : decode cL_look 184 = .ok (.lmul, 1) := by decide +kernel
theorem dL_look_185 : decode cL_look 185 = .ok (.aload_n 0, 1) := by decide +kernel
