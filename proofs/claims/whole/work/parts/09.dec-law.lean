/-! decode rows, by program -/
theorem dL_bay_0 : decode cL_bay 0 = .ok (.aload_n 0, 1) := by decide +kernel
theorem dL_bay_1 : decode cL_bay 1 = .ok (.iload_n 1, 1) := by decide +kernel
theorem dL_bay_2 : decode cL_bay 2 = .ok (.iload_n 2, 1) := by decide +kernel
theorem dL_bay_3 : decode cL_bay 3 = .ok (.iload_n 3, 1) := by decide +kernel
theorem dL_bay_4 : decode cL_bay 4 = .ok (.iload 4, 2) := by decide +kernel
theorem dL_bay_6 : decode cL_bay 6 = .ok (.iload 5, 2) := by decide +kernel
theorem dL_bay_8 : decode cL_bay 8 = .ok (.iload 6, 2) := by decide +kernel
theorem dL_bay_10 : decode cL_bay 10 = .ok (.invokevirtual 7, 3) := by decide +kernel
theorem dL_bay_13 : decode cL_bay 13 = .ok (.goto 7, 3) := by decide +kernel
theorem dL_bay_16 : decode cL_bay 16 = .ok (.astore 7, 2) := by decide +kernel
theorem dL_bay_18 : decode cL_bay 18 = .ok (.iconst 1, 1) := by decide +kernel
theorem dL_bay_19 : decode cL_bay 19 = .ok (.ireturn, 1) := by decide +kernel
theorem dL_bay_20 : decode cL_bay 20 = .ok (.iconst 0, 1) := by decide +kernel
theorem dL_bay_21 : decode cL_bay 21 = .ok (.ireturn, 1) := by decide +kernel
theorem dL_plug_0 : decode cL_plug 0 = .ok (.aload_n 0, 1) := by decide +kernel
theorem dL_plug_1 : decode cL_plug 1 = .ok (.iload_n 1, 1) := by decide +kernel
theorem dL_plug_2 : decode cL_plug 2 = .ok (.iload_n 2, 1) := by decide +kernel
theorem dL_plug_3 : decode cL_plug 3 = .ok (.invokevirtual 15, 3) := by decide +kernel
theorem dL_plug_6 : decode cL_plug 6 = .ok (.goto 6, 3) := by decide +kernel
theorem dL_plug_9 : decode cL_plug 9 = .ok (.astore_n 3, 1) := by decide +kernel
theorem dL_plug_10 : decode cL_plug 10 = .ok (.iconst 1, 1) := by decide +kernel
theorem dL_plug_11 : decode cL_plug 11 = .ok (.ireturn, 1) := by decide +kernel
theorem dL_plug_12 : decode cL_plug 12 = .ok (.iconst 0, 1) := by decide +kernel
theorem dL_plug_13 : decode cL_plug 13 = .ok (.ireturn, 1) := by decide +kernel
theorem dL_box_0 : decode cL_box 0 = .ok (.aload 5, 2) := by decide +kernel
theorem dL_box_2 : decode cL_box 2 = .ok (.iconst 0, 1) := by decide +kernel
theorem dL_box_3 : decode cL_box 3 = .ok (.aload_n 0, 1) := by decide +kernel
theorem dL_box_4 : decode cL_box 4 = .ok (.iload_n 1, 1) := by decide +kernel
theorem dL_box_5 : decode cL_box 5 = .ok (.iload_n 2, 1) := by decide +kernel
theorem dL_box_6 : decode cL_box 6 = .ok (.iload_n 3, 1) := by decide +kernel
theorem dL_box_7 : decode cL_box 7 = .ok (.iload 4, 2) := by decide +kernel
theorem dL_box_9 : decode cL_box 9 = .ok (.invokevirtual 19, 3) := by decide +kernel
theorem dL_box_12 : decode cL_box 12 = .ok (.i2l, 1) := by decide +kernel
theorem dL_box_13 : decode cL_box 13 = .ok (.lastore, 1) := by decide +kernel
theorem dL_box_14 : decode cL_box 14 = .ok (.goto 11, 3) := by decide +kernel
theorem dL_box_17 : decode cL_box 17 = .ok (.astore 6, 2) := by decide +kernel
theorem dL_box_19 : decode cL_box 19 = .ok (.iconst 1, 1) := by decide +kernel
theorem dL_box_20 : decode cL_box 20 = .ok (.ireturn, 1) := by decide +kernel
theorem dL_box_21 : decode cL_box 21 = .ok (.astore 6, 2) := by decide +kernel
theorem dL_box_23 : decode cL_box 23 = .ok (.iconst 2, 1) := by decide +kernel
theorem dL_box_24 : decode cL_box 24 = .ok (.ireturn, 1) := by decide +kernel
theorem dL_box_25 : decode cL_box 25 = .ok (.iconst 0, 1) := by decide +kernel
theorem dL_box_26 : decode cL_box 26 = .ok (.ireturn, 1) := by decide +kernel
theorem dL_roll_0 : decode cL_roll 0 = .ok (.aload_n 0, 1) := by decide +kernel
theorem dL_roll_1 : decode cL_roll 1 = .ok (.iload_n 1, 1) := by decide +kernel
theorem dL_roll_2 : decode cL_roll 2 = .ok (.invokevirtual 25, 3) := by decide +kernel
theorem dL_roll_5 : decode cL_roll 5 = .ok (.goto 6, 3) := by decide +kernel
theorem dL_roll_8 : decode cL_roll 8 = .ok (.astore_n 2, 1) := by decide +kernel
theorem dL_roll_9 : decode cL_roll 9 = .ok (.iconst 1, 1) := by decide +kernel
theorem dL_roll_10 : decode cL_roll 10 = .ok (.ireturn, 1) := by decide +kernel
theorem dL_roll_11 : decode cL_roll 11 = .ok (.iconst 0, 1) := by decide +kernel
theorem dL_roll_12 : decode cL_roll 12 = .ok (.ireturn, 1) := by decide +kernel
theorem dL_move_0 : decode cL_move 0 = .ok (.aload_n 3, 1) := by decide +kernel
theorem dL_move_1 : decode cL_move 1 = .ok (.iconst 0, 1) := by decide +kernel
theorem dL_move_2 : decode cL_move 2 = .ok (.aload_n 0, 1) := by decide +kernel
theorem dL_move_3 : decode cL_move 3 = .ok (.iload_n 1, 1) := by decide +kernel
theorem dL_move_4 : decode cL_move 4 = .ok (.iload_n 2, 1) := by decide +kernel
theorem dL_move_5 : decode cL_move 5 = .ok (.invokevirtual 29, 3) := by decide +kernel
theorem dL_move_8 : decode cL_move 8 = .ok (.i2l, 1) := by decide +kernel
theorem dL_move_9 : decode cL_move 9 = .ok (.lastore, 1) := by decide +kernel
theorem dL_move_10 : decode cL_move 10 = .ok (.goto 11, 3) := by decide +kernel
theorem dL_move_13 : decode cL_move 13 = .ok (.astore 4, 2) := by decide +kernel
theorem dL_move_15 : decode cL_move 15 = .ok (.iconst 1, 1) := by decide +kernel
theorem dL_move_16 : decode cL_move 16 = .ok (.ireturn, 1) := by decide +kernel
theorem dL_move_17 : decode cL_move 17 = .ok (.astore 4, 2) := by decide +kernel
theorem dL_move_19 : decode cL_move 19 = .ok (.iconst 2, 1) := by decide +kernel
theorem dL_move_20 : decode cL_move 20 = .ok (.ireturn, 1) := by decide +kernel
theorem dL_move_21 : decode cL_move 21 = .ok (.iconst 0, 1) := by decide +kernel
theorem dL_move_22 : decode cL_move 22 = .ok (.ireturn, 1) := by decide +kernel
theorem dL_hand_0 : decode cL_hand 0 = .ok (.aload_n 0, 1) := by decide +kernel
theorem dL_hand_1 : decode cL_hand 1 = .ok (.iload_n 1, 1) := by decide +kernel
theorem dL_hand_2 : decode cL_hand 2 = .ok (.iload_n 2, 1) := by decide +kernel
theorem dL_hand_3 : decode cL_hand 3 = .ok (.invokevirtual 35, 3) := by decide +kernel
theorem dL_hand_6 : decode cL_hand 6 = .ok (.goto 9, 3) := by decide +kernel
theorem dL_hand_9 : decode cL_hand 9 = .ok (.astore_n 3, 1) := by decide +kernel
theorem dL_hand_10 : decode cL_hand 10 = .ok (.iconst 1, 1) := by decide +kernel
theorem dL_hand_11 : decode cL_hand 11 = .ok (.ireturn, 1) := by decide +kernel
theorem dL_hand_12 : decode cL_hand 12 = .ok (.astore_n 3, 1) := by decide +kernel
theorem dL_hand_13 : decode cL_hand 13 = .ok (.iconst 2, 1) := by decide +kernel
theorem dL_hand_14 : decode cL_hand 14 = .ok (.ireturn, 1) := by decide +kernel
theorem dL_hand_15 : decode cL_hand 15 = .ok (.iconst 0, 1) := by decide +kernel
theorem dL_hand_16 : decode cL_hand 16 = .ok (.ireturn, 1) := by decide +kernel
theorem dL_replay_0 : decode cL_replay 0 = .ok (.aload_n 2, 1) := by decide +kernel
theorem dL_replay_1 : decode cL_replay 1 = .ok (.iconst 0, 1) := by decide +kernel
theorem dL_replay_2 : decode cL_replay 2 = .ok (.aload_n 0, 1) := by decide +kernel
theorem dL_replay_3 : decode cL_replay 3 = .ok (.iload_n 1, 1) := by decide +kernel
theorem dL_replay_4 : decode cL_replay 4 = .ok (.invokevirtual 39, 3) := by decide +kernel
theorem dL_replay_7 : decode cL_replay 7 = .ok (.i2l, 1) := by decide +kernel
theorem dL_replay_8 : decode cL_replay 8 = .ok (.lastore, 1) := by decide +kernel
theorem dL_replay_9 : decode cL_replay 9 = .ok (.goto 6, 3) := by decide +kernel
theorem dL_replay_12 : decode cL_replay 12 = .ok (.astore_n 3, 1) := by decide +kernel
theorem dL_replay_13 : decode cL_replay 13 = .ok (.iconst 1, 1) := by decide +kernel
theorem dL_replay_14 : decode cL_replay 14 = .ok (.ireturn, 1) := by decide +kernel
theorem dL_replay_15 : decode cL_replay 15 = .ok (.iconst 0, 1) := by decide +kernel
theorem dL_replay_16 : decode cL_replay 16 = .ok (.ireturn, 1) := by decide +kernel
theorem dL_slot_0 : decode cL_slot 0 = .ok (.aload_n 3, 1) := by decide +kernel
theorem dL_slot_1 : decode cL_slot 1 = .ok (.iconst 0, 1) := by decide +kernel
theorem dL_slot_2 : decode cL_slot 2 = .ok (.aload_n 0, 1) := by decide +kernel
theorem dL_slot_3 : decode cL_slot 3 = .ok (.iload_n 1, 1) := by decide +kernel
theorem dL_slot_4 : decode cL_slot 4 = .ok (.iload_n 2, 1) := by decide +kernel
theorem dL_slot_5 : decode cL_slot 5 = .ok (.invokevirtual 43, 3) := by decide +kernel
theorem dL_slot_8 : decode cL_slot 8 = .ok (.i2l, 1) := by decide +kernel
theorem dL_slot_9 : decode cL_slot 9 = .ok (.lastore, 1) := by decide +kernel
theorem dL_slot_10 : decode cL_slot 10 = .ok (.goto 7, 3) := by decide +kernel
theorem dL_slot_13 : decode cL_slot 13 = .ok (.astore 4, 2) := by decide +kernel
theorem dL_slot_15 : decode cL_slot 15 = .ok (.iconst 1, 1) := by decide +kernel
theorem dL_slot_16 : decode cL_slot 16 = .ok (.ireturn, 1) := by decide +kernel
theorem dL_slot_17 : decode cL_slot 17 = .ok (.iconst 0, 1) := by decide +kernel
theorem dL_slot_18 : decode cL_slot 18 = .ok (.ireturn, 1) := by decide +kernel
theorem dL_moment_0 : decode cL_moment 0 = .ok (.aload_n 2, 1) := by decide +kernel
theorem dL_moment_1 : decode cL_moment 1 = .ok (.iconst 0, 1) := by decide +kernel
theorem dL_moment_2 : decode cL_moment 2 = .ok (.aload_n 0, 1) := by decide +kernel
theorem dL_moment_3 : decode cL_moment 3 = .ok (.iload_n 1, 1) := by decide +kernel
theorem dL_moment_4 : decode cL_moment 4 = .ok (.invokevirtual 46, 3) := by decide +kernel
theorem dL_moment_7 : decode cL_moment 7 = .ok (.i2l, 1) := by decide +kernel
theorem dL_moment_8 : decode cL_moment 8 = .ok (.lastore, 1) := by decide +kernel
theorem dL_moment_9 : decode cL_moment 9 = .ok (.goto 6, 3) := by decide +kernel
theorem dL_moment_12 : decode cL_moment 12 = .ok (.astore_n 3, 1) := by decide +kernel
theorem dL_moment_13 : decode cL_moment 13 = .ok (.iconst 1, 1) := by decide +kernel
theorem dL_moment_14 : decode cL_moment 14 = .ok (.ireturn, 1) := by decide +kernel
theorem dL_moment_15 : decode cL_moment 15 = .ok (.iconst 0, 1) := by decide +kernel
theorem dL_moment_16 : decode cL_moment 16 = .ok (.ireturn, 1) := by decide +kernel
theorem dL_verify_0 : decode cL_verify 0 = .ok (.aload_n 1, 1) := by decide +kernel
theorem dL_verify_1 : decode cL_verify 1 = .ok (.iconst 0, 1) := by decide +kernel
theorem dL_verify_2 : decode cL_verify 2 = .ok (.aload_n 0, 1) := by decide +kernel
theorem dL_verify_3 : decode cL_verify 3 = .ok (.invokevirtual 49, 3) := by decide +kernel
theorem dL_verify_6 : decode cL_verify 6 = .ok (.i2l, 1) := by decide +kernel
theorem dL_verify_7 : decode cL_verify 7 = .ok (.lastore, 1) := by decide +kernel
theorem dL_verify_8 : decode cL_verify 8 = .ok (.goto 6, 3) := by decide +kernel
theorem dL_verify_11 : decode cL_verify 11 = .ok (.astore_n 2, 1) := by decide +kernel
theorem dL_verify_12 : decode cL_verify 12 = .ok (.iconst 1, 1) := by decide +kernel
theorem dL_verify_13 : decode cL_verify 13 = .ok (.ireturn, 1) := by decide +kernel
theorem dL_verify_14 : decode cL_verify 14 = .ok (.iconst 0, 1) := by decide +kernel
theorem dL_verify_15 : decode cL_verify 15 = .ok (.ireturn, 1) := by decide +kernel
theorem dL_report_0 : decode cL_report 0 = .ok (.aload_n 3, 1) := by decide +kernel
theorem dL_report_1 : decode cL_report 1 = .ok (.iconst 0, 1) := by decide +kernel
theorem dL_report_2 : decode cL_report 2 = .ok (.aload_n 0, 1) := by decide +kernel
theorem dL_report_3 : decode cL_report 3 = .ok (.iload_n 1, 1) := by decide +kernel
theorem dL_report_4 : decode cL_report 4 = .ok (.iload_n 2, 1) := by decide +kernel
theorem dL_report_5 : decode cL_report 5 = .ok (.invokevirtual 53, 3) := by decide +kernel
theorem dL_report_8 : decode cL_report 8 = .ok (.i2l, 1) := by decide +kernel
theorem dL_report_9 : decode cL_report 9 = .ok (.lastore, 1) := by decide +kernel
theorem dL_report_10 : decode cL_report 10 = .ok (.goto 7, 3) := by decide +kernel
theorem dL_report_13 : decode cL_report 13 = .ok (.astore 4, 2) := by decide +kernel
theorem dL_report_15 : decode cL_report 15 = .ok (.iconst 1, 1) := by decide +kernel
theorem dL_report_16 : decode cL_report 16 = .ok (.ireturn, 1) := by decide +kernel
theorem dL_report_17 : decode cL_report 17 = .ok (.iconst 0, 1) := by decide +kernel
theorem dL_report_18 : decode cL_report 18 = .ok (.ireturn, 1) := by decide +kernel
