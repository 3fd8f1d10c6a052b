theorem dL_addRecord_0 : decode cL_addRecord 0 = .ok (.aload 8, 2) := by decide +kernel
theorem dL_addRecord_2 : decode cL_addRecord 2 = .ok (.iconst 0, 1) := by decide +kernel
theorem dL_addRecord_3 : decode cL_addRecord 3 = .ok (.aload_n 0, 1) := by decide +kernel
theorem dL_addRecord_4 : decode cL_addRecord 4 = .ok (.iload_n 1, 1) := by decide +kernel
theorem dL_addRecord_5 : decode cL_addRecord 5 = .ok (.iload_n 2, 1) := by decide +kernel
theorem dL_addRecord_6 : decode cL_addRecord 6 = .ok (.iload_n 3, 1) := by decide +kernel
theorem dL_addRecord_7 : decode cL_addRecord 7 = .ok (.iload 4, 2) := by decide +kernel
theorem dL_addRecord_9 : decode cL_addRecord 9 = .ok (.iload 5, 2) := by decide +kernel
theorem dL_addRecord_11 : decode cL_addRecord 11 = .ok (.iload 6, 2) := by decide +kernel
theorem dL_addRecord_13 : decode cL_addRecord 13 = .ok (.iload 7, 2) := by decide +kernel
theorem dL_addRecord_15 : decode cL_addRecord 15 = .ok (.invokevirtual 7, 3) := by decide +kernel
theorem dL_addRecord_18 : decode cL_addRecord 18 = .ok (.i2l, 1) := by decide +kernel
theorem dL_addRecord_19 : decode cL_addRecord 19 = .ok (.lastore, 1) := by decide +kernel
theorem dL_addRecord_20 : decode cL_addRecord 20 = .ok (.goto 11, 3) := by decide +kernel
theorem dL_addRecord_23 : decode cL_addRecord 23 = .ok (.astore 9, 2) := by decide +kernel
theorem dL_addRecord_25 : decode cL_addRecord 25 = .ok (.iconst 1, 1) := by decide +kernel
theorem dL_addRecord_26 : decode cL_addRecord 26 = .ok (.ireturn, 1) := by decide +kernel
theorem dL_addRecord_27 : decode cL_addRecord 27 = .ok (.astore 9, 2) := by decide +kernel
theorem dL_addRecord_29 : decode cL_addRecord 29 = .ok (.iconst 2, 1) := by decide +kernel
theorem dL_addRecord_30 : decode cL_addRecord 30 = .ok (.ireturn, 1) := by decide +kernel
theorem dL_addRecord_31 : decode cL_addRecord 31 = .ok (.iconst 0, 1) := by decide +kernel
theorem dL_addRecord_32 : decode cL_addRecord 32 = .ok (.ireturn, 1) := by decide +kernel
theorem dL_correct_0 : decode cL_correct 0 = .ok (.aload_n 3, 1) := by decide +kernel
theorem dL_correct_1 : decode cL_correct 1 = .ok (.iconst 0, 1) := by decide +kernel
theorem dL_correct_2 : decode cL_correct 2 = .ok (.aload_n 0, 1) := by decide +kernel
theorem dL_correct_3 : decode cL_correct 3 = .ok (.iload_n 1, 1) := by decide +kernel
theorem dL_correct_4 : decode cL_correct 4 = .ok (.iload_n 2, 1) := by decide +kernel
theorem dL_correct_5 : decode cL_correct 5 = .ok (.invokevirtual 17, 3) := by decide +kernel
theorem dL_correct_8 : decode cL_correct 8 = .ok (.i2l, 1) := by decide +kernel
theorem dL_correct_9 : decode cL_correct 9 = .ok (.lastore, 1) := by decide +kernel
theorem dL_correct_10 : decode cL_correct 10 = .ok (.goto 15, 3) := by decide +kernel
theorem dL_correct_13 : decode cL_correct 13 = .ok (.astore 4, 2) := by decide +kernel
theorem dL_correct_15 : decode cL_correct 15 = .ok (.iconst 1, 1) := by decide +kernel
theorem dL_correct_16 : decode cL_correct 16 = .ok (.ireturn, 1) := by decide +kernel
theorem dL_correct_17 : decode cL_correct 17 = .ok (.astore 4, 2) := by decide +kernel
theorem dL_correct_19 : decode cL_correct 19 = .ok (.iconst 2, 1) := by decide +kernel
theorem dL_correct_20 : decode cL_correct 20 = .ok (.ireturn, 1) := by decide +kernel
theorem dL_correct_21 : decode cL_correct 21 = .ok (.astore 4, 2) := by decide +kernel
theorem dL_correct_23 : decode cL_correct 23 = .ok (.iconst 3, 1) := by decide +kernel
theorem dL_correct_24 : decode cL_correct 24 = .ok (.ireturn, 1) := by decide +kernel
theorem dL_correct_25 : decode cL_correct 25 = .ok (.iconst 0, 1) := by decide +kernel
theorem dL_correct_26 : decode cL_correct 26 = .ok (.ireturn, 1) := by decide +kernel
theorem dL_apart_0 : decode cL_apart 0 = .ok (.aload_n 3, 1) := by decide +kernel
theorem dL_apart_1 : decode cL_apart 1 = .ok (.iconst 0, 1) := by decide +kernel
theorem dL_apart_2 : decode cL_apart 2 = .ok (.aload_n 0, 1) := by decide +kernel
theorem dL_apart_3 : decode cL_apart 3 = .ok (.iload_n 1, 1) := by decide +kernel
theorem dL_apart_4 : decode cL_apart 4 = .ok (.iload_n 2, 1) := by decide +kernel
theorem dL_apart_5 : decode cL_apart 5 = .ok (.invokevirtual 25, 3) := by decide +kernel
theorem dL_apart_8 : decode cL_apart 8 = .ok (.i2l, 1) := by decide +kernel
theorem dL_apart_9 : decode cL_apart 9 = .ok (.lastore, 1) := by decide +kernel
theorem dL_apart_10 : decode cL_apart 10 = .ok (.goto 7, 3) := by decide +kernel
theorem dL_apart_13 : decode cL_apart 13 = .ok (.astore 4, 2) := by decide +kernel
theorem dL_apart_15 : decode cL_apart 15 = .ok (.iconst 1, 1) := by decide +kernel
theorem dL_apart_16 : decode cL_apart 16 = .ok (.ireturn, 1) := by decide +kernel
theorem dL_apart_17 : decode cL_apart 17 = .ok (.iconst 0, 1) := by decide +kernel
theorem dL_apart_18 : decode cL_apart 18 = .ok (.ireturn, 1) := by decide +kernel
theorem dL_ban_0 : decode cL_ban 0 = .ok (.aload_n 3, 1) := by decide +kernel
theorem dL_ban_1 : decode cL_ban 1 = .ok (.iconst 0, 1) := by decide +kernel
theorem dL_ban_2 : decode cL_ban 2 = .ok (.aload_n 0, 1) := by decide +kernel
theorem dL_ban_3 : decode cL_ban 3 = .ok (.iload_n 1, 1) := by decide +kernel
theorem dL_ban_4 : decode cL_ban 4 = .ok (.iload_n 2, 1) := by decide +kernel
theorem dL_ban_5 : decode cL_ban 5 = .ok (.invokevirtual 28, 3) := by decide +kernel
theorem dL_ban_8 : decode cL_ban 8 = .ok (.ifCond .eq 7, 3) := by decide +kernel
theorem dL_ban_11 : decode cL_ban 11 = .ok (.lconst 1, 1) := by decide +kernel
theorem dL_ban_12 : decode cL_ban 12 = .ok (.goto 4, 3) := by decide +kernel
theorem dL_ban_15 : decode cL_ban 15 = .ok (.lconst 0, 1) := by decide +kernel
theorem dL_ban_16 : decode cL_ban 16 = .ok (.lastore, 1) := by decide +kernel
theorem dL_ban_17 : decode cL_ban 17 = .ok (.goto 7, 3) := by decide +kernel
theorem dL_ban_20 : decode cL_ban 20 = .ok (.astore 4, 2) := by decide +kernel
theorem dL_ban_22 : decode cL_ban 22 = .ok (.iconst 1, 1) := by decide +kernel
theorem dL_ban_23 : decode cL_ban 23 = .ok (.ireturn, 1) := by decide +kernel
theorem dL_ban_24 : decode cL_ban 24 = .ok (.iconst 0, 1) := by decide +kernel
theorem dL_ban_25 : decode cL_ban 25 = .ok (.ireturn, 1) := by decide +kernel
theorem dL_request_0 : decode cL_request 0 = .ok (.aload_n 2, 1) := by decide +kernel
theorem dL_request_1 : decode cL_request 1 = .ok (.iconst 0, 1) := by decide +kernel
theorem dL_request_2 : decode cL_request 2 = .ok (.aload_n 0, 1) := by decide +kernel
theorem dL_request_3 : decode cL_request 3 = .ok (.iload_n 1, 1) := by decide +kernel
theorem dL_request_4 : decode cL_request 4 = .ok (.invokevirtual 32, 3) := by decide +kernel
theorem dL_request_7 : decode cL_request 7 = .ok (.ifCond .eq 7, 3) := by decide +kernel
theorem dL_request_10 : decode cL_request 10 = .ok (.lconst 1, 1) := by decide +kernel
theorem dL_request_11 : decode cL_request 11 = .ok (.goto 4, 3) := by decide +kernel
theorem dL_request_14 : decode cL_request 14 = .ok (.lconst 0, 1) := by decide +kernel
theorem dL_request_15 : decode cL_request 15 = .ok (.lastore, 1) := by decide +kernel
theorem dL_request_16 : decode cL_request 16 = .ok (.goto 6, 3) := by decide +kernel
theorem dL_request_19 : decode cL_request 19 = .ok (.astore_n 3, 1) := by decide +kernel
theorem dL_request_20 : decode cL_request 20 = .ok (.iconst 1, 1) := by decide +kernel
theorem dL_request_21 : decode cL_request 21 = .ok (.ireturn, 1) := by decide +kernel
theorem dL_request_22 : decode cL_request 22 = .ok (.iconst 0, 1) := by decide +kernel
theorem dL_request_23 : decode cL_request 23 = .ok (.ireturn, 1) := by decide +kernel
theorem dL_load_0 : decode cL_load 0 = .ok (.aload_n 3, 1) := by decide +kernel
theorem dL_load_1 : decode cL_load 1 = .ok (.iconst 0, 1) := by decide +kernel
theorem dL_load_2 : decode cL_load 2 = .ok (.aload_n 0, 1) := by decide +kernel
theorem dL_load_3 : decode cL_load 3 = .ok (.iload_n 1, 1) := by decide +kernel
theorem dL_load_4 : decode cL_load 4 = .ok (.iload_n 2, 1) := by decide +kernel
theorem dL_load_5 : decode cL_load 5 = .ok (.invokevirtual 36, 3) := by decide +kernel
theorem dL_load_8 : decode cL_load 8 = .ok (.i2l, 1) := by decide +kernel
theorem dL_load_9 : decode cL_load 9 = .ok (.lastore, 1) := by decide +kernel
theorem dL_load_10 : decode cL_load 10 = .ok (.goto 11, 3) := by decide +kernel
theorem dL_load_13 : decode cL_load 13 = .ok (.astore 4, 2) := by decide +kernel
theorem dL_load_15 : decode cL_load 15 = .ok (.iconst 1, 1) := by decide +kernel
theorem dL_load_16 : decode cL_load 16 = .ok (.ireturn, 1) := by decide +kernel
theorem dL_load_17 : decode cL_load 17 = .ok (.astore 4, 2) := by decide +kernel
theorem dL_load_19 : decode cL_load 19 = .ok (.iconst 2, 1) := by decide +kernel
theorem dL_load_20 : decode cL_load 20 = .ok (.ireturn, 1) := by decide +kernel
theorem dL_load_21 : decode cL_load 21 = .ok (.iconst 0, 1) := by decide +kernel
theorem dL_load_22 : decode cL_load 22 = .ok (.ireturn, 1) := by decide +kernel
theorem dL_play_0 : decode cL_play 0 = .ok (.aload_n 2, 1) := by decide +kernel
theorem dL_play_1 : decode cL_play 1 = .ok (.iconst 0, 1) := by decide +kernel
theorem dL_play_2 : decode cL_play 2 = .ok (.aload_n 0, 1) := by decide +kernel
theorem dL_play_3 : decode cL_play 3 = .ok (.iload_n 1, 1) := by decide +kernel
theorem dL_play_4 : decode cL_play 4 = .ok (.invokevirtual 39, 3) := by decide +kernel
theorem dL_play_7 : decode cL_play 7 = .ok (.ifCond .eq 7, 3) := by decide +kernel
theorem dL_play_10 : decode cL_play 10 = .ok (.lconst 1, 1) := by decide +kernel
theorem dL_play_11 : decode cL_play 11 = .ok (.goto 4, 3) := by decide +kernel
theorem dL_play_14 : decode cL_play 14 = .ok (.lconst 0, 1) := by decide +kernel
theorem dL_play_15 : decode cL_play 15 = .ok (.lastore, 1) := by decide +kernel
theorem dL_play_16 : decode cL_play 16 = .ok (.goto 9, 3) := by decide +kernel
theorem dL_play_19 : decode cL_play 19 = .ok (.astore_n 3, 1) := by decide +kernel
theorem dL_play_20 : decode cL_play 20 = .ok (.iconst 1, 1) := by decide +kernel
theorem dL_play_21 : decode cL_play 21 = .ok (.ireturn, 1) := by decide +kernel
theorem dL_play_22 : decode cL_play 22 = .ok (.astore_n 3, 1) := by decide +kernel
theorem dL_play_23 : decode cL_play 23 = .ok (.iconst 2, 1) := by decide +kernel
theorem dL_play_24 : decode cL_play 24 = .ok (.ireturn, 1) := by decide +kernel
theorem dL_play_25 : decode cL_play 25 = .ok (.iconst 0, 1) := by decide +kernel
theorem dL_play_26 : decode cL_play 26 = .ok (.ireturn, 1) := by decide +kernel
theorem dL_stop_0 : decode cL_stop 0 = .ok (.aload_n 2, 1) := by decide +kernel
theorem dL_stop_1 : decode cL_stop 1 = .ok (.iconst 0, 1) := by decide +kernel
theorem dL_stop_2 : decode cL_stop 2 = .ok (.aload_n 0, 1) := by decide +kernel
theorem dL_stop_3 : decode cL_stop 3 = .ok (.iload_n 1, 1) := by decide +kernel
theorem dL_stop_4 : decode cL_stop 4 = .ok (.invokevirtual 42, 3) := by decide +kernel
theorem dL_stop_7 : decode cL_stop 7 = .ok (.ifCond .eq 7, 3) := by decide +kernel
theorem dL_stop_10 : decode cL_stop 10 = .ok (.lconst 1, 1) := by decide +kernel
theorem dL_stop_11 : decode cL_stop 11 = .ok (.goto 4, 3) := by decide +kernel
theorem dL_stop_14 : decode cL_stop 14 = .ok (.lconst 0, 1) := by decide +kernel
theorem dL_stop_15 : decode cL_stop 15 = .ok (.lastore, 1) := by decide +kernel
theorem dL_stop_16 : decode cL_stop 16 = .ok (.goto 6, 3) := by decide +kernel
theorem dL_stop_19 : decode cL_stop 19 = .ok (.astore_n 3, 1) := by decide +kernel
theorem dL_stop_20 : decode cL_stop 20 = .ok (.iconst 1, 1) := by decide +kernel
theorem dL_stop_21 : decode cL_stop 21 = .ok (.ireturn, 1) := by decide +kernel
theorem dL_stop_22 : decode cL_stop 22 = .ok (.iconst 0, 1) := by decide +kernel
theorem dL_stop_23 : decode cL_stop 23 = .ok (.ireturn, 1) := by decide +kernel
theorem dL_setPitch_0 : decode cL_setPitch 0 = .ok (.aload_n 3, 1) := by decide +kernel
theorem dL_setPitch_1 : decode cL_setPitch 1 = .ok (.iconst 0, 1) := by decide +kernel
theorem dL_setPitch_2 : decode cL_setPitch 2 = .ok (.aload_n 0, 1) := by decide +kernel
theorem dL_setPitch_3 : decode cL_setPitch 3 = .ok (.iload_n 1, 1) := by decide +kernel
theorem dL_setPitch_4 : decode cL_setPitch 4 = .ok (.iload_n 2, 1) := by decide +kernel
theorem dL_setPitch_5 : decode cL_setPitch 5 = .ok (.invokevirtual 45, 3) := by decide +kernel
theorem dL_setPitch_8 : decode cL_setPitch 8 = .ok (.i2l, 1) := by decide +kernel
theorem dL_setPitch_9 : decode cL_setPitch 9 = .ok (.lastore, 1) := by decide +kernel
theorem dL_setPitch_10 : decode cL_setPitch 10 = .ok (.goto 11, 3) := by decide +kernel
theorem dL_setPitch_13 : decode cL_setPitch 13 = .ok (.astore 4, 2) := by decide +kernel
theorem dL_setPitch_15 : decode cL_setPitch 15 = .ok (.iconst 1, 1) := by decide +kernel
theorem dL_setPitch_16 : decode cL_setPitch 16 = .ok (.ireturn, 1) := by decide +kernel
theorem dL_setPitch_17 : decode cL_setPitch 17 = .ok (.astore 4, 2) := by decide +kernel
theorem dL_setPitch_19 : decode cL_setPitch 19 = .ok (.iconst 2, 1) := by decide +kernel
theorem dL_setPitch_20 : decode cL_setPitch 20 = .ok (.ireturn, 1) := by decide +kernel
theorem dL_setPitch_21 : decode cL_setPitch 21 = .ok (.iconst 0, 1) := by decide +kernel
theorem dL_setPitch_22 : decode cL_setPitch 22 = .ok (.ireturn, 1) := by decide +kernel
theorem dL_nudge_0 : decode cL_nudge 0 = .ok (.aload_n 3, 1) := by decide +kernel
theorem dL_nudge_1 : decode cL_nudge 1 = .ok (.iconst 0, 1) := by decide +kernel
theorem dL_nudge_2 : decode cL_nudge 2 = .ok (.aload_n 0, 1) := by decide +kernel
theorem dL_nudge_3 : decode cL_nudge 3 = .ok (.iload_n 1, 1) := by decide +kernel
theorem dL_nudge_4 : decode cL_nudge 4 = .ok (.iload_n 2, 1) := by decide +kernel
theorem dL_nudge_5 : decode cL_nudge 5 = .ok (.invokevirtual 48, 3) := by decide +kernel
theorem dL_nudge_8 : decode cL_nudge 8 = .ok (.i2l, 1) := by decide +kernel
theorem dL_nudge_9 : decode cL_nudge 9 = .ok (.lastore, 1) := by decide +kernel
theorem dL_nudge_10 : decode cL_nudge 10 = .ok (.goto 15, 3) := by decide +kernel
theorem dL_nudge_13 : decode cL_nudge 13 = .ok (.astore 4, 2) := by decide +kernel
theorem dL_nudge_15 : decode cL_nudge 15 = .ok (.iconst 1, 1) := by decide +kernel
theorem dL_nudge_16 : decode cL_nudge 16 = .ok (.ireturn, 1) := by decide +kernel
theorem dL_nudge_17 : decode cL_nudge 17 = .ok (.astore 4, 2) := by decide +kernel
theorem dL_nudge_19 : decode cL_nudge 19 = .ok (.iconst 2, 1) := by decide +kernel
theorem dL_nudge_20 : decode cL_nudge 20 = .ok (.ireturn, 1) := by decide +kernel
theorem dL_nudge_21 : decode cL_nudge 21 = .ok (.astore 4, 2) := by decide +kernel
theorem dL_nudge_23 : decode cL_nudge 23 = .ok (.iconst 3, 1) := by decide +kernel
theorem dL_nudge_24 : decode cL_nudge 24 = .ok (.ireturn, 1) := by decide +kernel
theorem dL_nudge_25 : decode cL_nudge 25 = .ok (.iconst 0, 1) := by decide +kernel
theorem dL_nudge_26 : decode cL_nudge 26 = .ok (.ireturn, 1) := by decide +kernel
theorem dL_brake_0 : decode cL_brake 0 = .ok (.aload_n 2, 1) := by decide +kernel
theorem dL_brake_1 : decode cL_brake 1 = .ok (.iconst 0, 1) := by decide +kernel
theorem dL_brake_2 : decode cL_brake 2 = .ok (.aload_n 0, 1) := by decide +kernel
theorem dL_brake_3 : decode cL_brake 3 = .ok (.iload_n 1, 1) := by decide +kernel
theorem dL_brake_4 : decode cL_brake 4 = .ok (.invokevirtual 51, 3) := by decide +kernel
theorem dL_brake_7 : decode cL_brake 7 = .ok (.ifCond .eq 7, 3) := by decide +kernel
theorem dL_brake_10 : decode cL_brake 10 = .ok (.lconst 1, 1) := by decide +kernel
theorem dL_brake_11 : decode cL_brake 11 = .ok (.goto 4, 3) := by decide +kernel
theorem dL_brake_14 : decode cL_brake 14 = .ok (.lconst 0, 1) := by decide +kernel
theorem dL_brake_15 : decode cL_brake 15 = .ok (.lastore, 1) := by decide +kernel
theorem dL_brake_16 : decode cL_brake 16 = .ok (.goto 9, 3) := by decide +kernel
theorem dL_brake_19 : decode cL_brake 19 = .ok (.astore_n 3, 1) := by decide +kernel
theorem dL_brake_20 : decode cL_brake 20 = .ok (.iconst 1, 1) := by decide +kernel
theorem dL_brake_21 : decode cL_brake 21 = .ok (.ireturn, 1) := by decide +kernel
theorem dL_brake_22 : decode cL_brake 22 = .ok (.astore_n 3, 1) := by decide +kernel
theorem dL_brake_23 : decode cL_brake 23 = .ok (.iconst 2, 1) := by decide +kernel
theorem dL_brake_24 : decode cL_brake 24 = .ok (.ireturn, 1) := by decide +kernel
theorem dL_brake_25 : decode cL_brake 25 = .ok (.iconst 0, 1) := by decide +kernel
theorem dL_brake_26 : decode cL_brake 26 = .ok (.ireturn, 1) := by decide +kernel
theorem dL_jump_0 : decode cL_jump 0 = .ok (.aload_n 3, 1) := by decide +kernel
theorem dL_jump_1 : decode cL_jump 1 = .ok (.iconst 0, 1) := by decide +kernel
theorem dL_jump_2 : decode cL_jump 2 = .ok (.aload_n 0, 1) := by decide +kernel
theorem dL_jump_3 : decode cL_jump 3 = .ok (.iload_n 1, 1) := by decide +kernel
theorem dL_jump_4 : decode cL_jump 4 = .ok (.iload_n 2, 1) := by decide +kernel
theorem dL_jump_5 : decode cL_jump 5 = .ok (.invokevirtual 54, 3) := by decide +kernel
theorem dL_jump_8 : decode cL_jump 8 = .ok (.i2l, 1) := by decide +kernel
theorem dL_jump_9 : decode cL_jump 9 = .ok (.lastore, 1) := by decide +kernel
theorem dL_jump_10 : decode cL_jump 10 = .ok (.goto 15, 3) := by decide +kernel
theorem dL_jump_13 : decode cL_jump 13 = .ok (.astore 4, 2) := by decide +kernel
theorem dL_jump_15 : decode cL_jump 15 = .ok (.iconst 1, 1) := by decide +kernel
theorem dL_jump_16 : decode cL_jump 16 = .ok (.ireturn, 1) := by decide +kernel
theorem dL_jump_17 : decode cL_jump 17 = .ok (.astore 4, 2) := by decide +kernel
theorem dL_jump_19 : decode cL_jump 19 = .ok (.iconst 2, 1) := by decide +kernel
theorem dL_jump_20 : decode cL_jump 20 = .ok (.ireturn, 1) := by decide +kernel
theorem dL_jump_21 : decode cL_jump 21 = .ok (.astore 4, 2) := by decide +kernel
theorem dL_jump_23 : decode cL_jump 23 = .ok (.iconst 3, 1) := by decide +kernel
theorem dL_jump_24 : decode cL_jump 24 = .ok (.ireturn, 1) := by decide +kernel
theorem dL_jump_25 : decode cL_jump 25 = .ok (.iconst 0, 1) := by decide +kernel
theorem dL_jump_26 : decode cL_jump 26 = .ok (.ireturn, 1) := by decide +kernel
theorem dL_setCue_0 : decode cL_setCue 0 = .ok (.aload_n 3, 1) := by decide +kernel
theorem dL_setCue_1 : decode cL_setCue 1 = .ok (.iconst 0, 1) := by decide +kernel
theorem dL_setCue_2 : decode cL_setCue 2 = .ok (.aload_n 0, 1) := by decide +kernel
theorem dL_setCue_3 : decode cL_setCue 3 = .ok (.iload_n 1, 1) := by decide +kernel
theorem dL_setCue_4 : decode cL_setCue 4 = .ok (.iload_n 2, 1) := by decide +kernel
theorem dL_setCue_5 : decode cL_setCue 5 = .ok (.invokevirtual 57, 3) := by decide +kernel
theorem dL_setCue_8 : decode cL_setCue 8 = .ok (.i2l, 1) := by decide +kernel
theorem dL_setCue_9 : decode cL_setCue 9 = .ok (.lastore, 1) := by decide +kernel
theorem dL_setCue_10 : decode cL_setCue 10 = .ok (.goto 15, 3) := by decide +kernel
theorem dL_setCue_13 : decode cL_setCue 13 = .ok (.astore 4, 2) := by decide +kernel
theorem dL_setCue_15 : decode cL_setCue 15 = .ok (.iconst 1, 1) := by decide +kernel
theorem dL_setCue_16 : decode cL_setCue 16 = .ok (.ireturn, 1) := by decide +kernel
theorem dL_setCue_17 : decode cL_setCue 17 = .ok (.astore 4, 2) := by decide +kernel
theorem dL_setCue_19 : decode cL_setCue 19 = .ok (.iconst 2, 1) := by decide +kernel
theorem dL_setCue_20 : decode cL_setCue 20 = .ok (.ireturn, 1) := by decide +kernel
theorem dL_setCue_21 : decode cL_setCue 21 = .ok (.astore 4, 2) := by decide +kernel
theorem dL_setCue_23 : decode cL_setCue 23 = .ok (.iconst 3, 1) := by decide +kernel
theorem dL_setCue_24 : decode cL_setCue 24 = .ok (.ireturn, 1) := by decide +kernel
theorem dL_setCue_25 : decode cL_setCue 25 = .ok (.iconst 0, 1) := by decide +kernel
theorem dL_setCue_26 : decode cL_setCue 26 = .ok (.ireturn, 1) := by decide +kernel
theorem dL_loop_0 : decode cL_loop 0 = .ok (.aload_n 3, 1) := by decide +kernel
theorem dL_loop_1 : decode cL_loop 1 = .ok (.iconst 0, 1) := by decide +kernel
theorem dL_loop_2 : decode cL_loop 2 = .ok (.aload_n 0, 1) := by decide +kernel
theorem dL_loop_3 : decode cL_loop 3 = .ok (.iload_n 1, 1) := by decide +kernel
theorem dL_loop_4 : decode cL_loop 4 = .ok (.iload_n 2, 1) := by decide +kernel
theorem dL_loop_5 : decode cL_loop 5 = .ok (.invokevirtual 60, 3) := by decide +kernel
theorem dL_loop_8 : decode cL_loop 8 = .ok (.i2l, 1) := by decide +kernel
theorem dL_loop_9 : decode cL_loop 9 = .ok (.lastore, 1) := by decide +kernel
theorem dL_loop_10 : decode cL_loop 10 = .ok (.goto 19, 3) := by decide +kernel
theorem dL_loop_13 : decode cL_loop 13 = .ok (.astore 4, 2) := by decide +kernel
theorem dL_loop_15 : decode cL_loop 15 = .ok (.iconst 1, 1) := by decide +kernel
theorem dL_loop_16 : decode cL_loop 16 = .ok (.ireturn, 1) := by decide +kernel
theorem dL_loop_17 : decode cL_loop 17 = .ok (.astore 4, 2) := by decide +kernel
theorem dL_loop_19 : decode cL_loop 19 = .ok (.iconst 2, 1) := by decide +kernel
theorem dL_loop_20 : decode cL_loop 20 = .ok (.ireturn, 1) := by decide +kernel
theorem dL_loop_21 : decode cL_loop 21 = .ok (.astore 4, 2) := by decide +kernel
theorem dL_loop_23 : decode cL_loop 23 = .ok (.iconst 3, 1) := by decide +kernel
theorem dL_loop_24 : decode cL_loop 24 = .ok (.ireturn, 1) := by decide +kernel
theorem dL_loop_25 : decode cL_loop 25 = .ok (.astore 4, 2) := by decide +kernel
theorem dL_loop_27 : decode cL_loop 27 = .ok (.iconst 4, 1) := by decide +kernel
theorem dL_loop_28 : decode cL_loop 28 = .ok (.ireturn, 1) := by decide +kernel
theorem dL_loop_29 : decode cL_loop 29 = .ok (.iconst 0, 1) := by decide +kernel
theorem dL_loop_30 : decode cL_loop 30 = .ok (.ireturn, 1) := by decide +kernel
theorem dL_out_0 : decode cL_out 0 = .ok (.aload_n 2, 1) := by decide +kernel
theorem dL_out_1 : decode cL_out 1 = .ok (.iconst 0, 1) := by decide +kernel
theorem dL_out_2 : decode cL_out 2 = .ok (.aload_n 0, 1) := by decide +kernel
theorem dL_out_3 : decode cL_out 3 = .ok (.iload_n 1, 1) := by decide +kernel
theorem dL_out_4 : decode cL_out 4 = .ok (.invokevirtual 63, 3) := by decide +kernel
theorem dL_out_7 : decode cL_out 7 = .ok (.ifCond .eq 7, 3) := by decide +kernel
theorem dL_out_10 : decode cL_out 10 = .ok (.lconst 1, 1) := by decide +kernel
theorem dL_out_11 : decode cL_out 11 = .ok (.goto 4, 3) := by decide +kernel
theorem dL_out_14 : decode cL_out 14 = .ok (.lconst 0, 1) := by decide +kernel
theorem dL_out_15 : decode cL_out 15 = .ok (.lastore, 1) := by decide +kernel
theorem dL_out_16 : decode cL_out 16 = .ok (.goto 6, 3) := by decide +kernel
theorem dL_out_19 : decode cL_out 19 = .ok (.astore_n 3, 1) := by decide +kernel
theorem dL_out_20 : decode cL_out 20 = .ok (.iconst 1, 1) := by decide +kernel
theorem dL_out_21 : decode cL_out 21 = .ok (.ireturn, 1) := by decide +kernel
theorem dL_out_22 : decode cL_out 22 = .ok (.iconst 0, 1) := by decide +kernel
theorem dL_out_23 : decode cL_out 23 = .ok (.ireturn, 1) := by decide +kernel
theorem dL_slip_0 : decode cL_slip 0 = .ok (.aload_n 3, 1) := by decide +kernel
theorem dL_slip_1 : decode cL_slip 1 = .ok (.iconst 0, 1) := by decide +kernel
theorem dL_slip_2 : decode cL_slip 2 = .ok (.aload_n 0, 1) := by decide +kernel
theorem dL_slip_3 : decode cL_slip 3 = .ok (.iload_n 1, 1) := by decide +kernel
theorem dL_slip_4 : decode cL_slip 4 = .ok (.iload_n 2, 1) := by decide +kernel
theorem dL_slip_5 : decode cL_slip 5 = .ok (.invokevirtual 66, 3) := by decide +kernel
theorem dL_slip_8 : decode cL_slip 8 = .ok (.ifCond .eq 7, 3) := by decide +kernel
theorem dL_slip_11 : decode cL_slip 11 = .ok (.lconst 1, 1) := by decide +kernel
theorem dL_slip_12 : decode cL_slip 12 = .ok (.goto 4, 3) := by decide +kernel
theorem dL_slip_15 : decode cL_slip 15 = .ok (.lconst 0, 1) := by decide +kernel
theorem dL_slip_16 : decode cL_slip 16 = .ok (.lastore, 1) := by decide +kernel
theorem dL_slip_17 : decode cL_slip 17 = .ok (.goto 11, 3) := by decide +kernel
theorem dL_slip_20 : decode cL_slip 20 = .ok (.astore 4, 2) := by decide +kernel
theorem dL_slip_22 : decode cL_slip 22 = .ok (.iconst 1, 1) := by decide +kernel
theorem dL_slip_23 : decode cL_slip 23 = .ok (.ireturn, 1) := by decide +kernel
theorem dL_slip_24 : decode cL_slip 24 = .ok (.astore 4, 2) := by decide +kernel
theorem dL_slip_26 : decode cL_slip 26 = .ok (.iconst 2, 1) := by decide +kernel
theorem dL_slip_27 : decode cL_slip 27 = .ok (.ireturn, 1) := by decide +kernel
theorem dL_slip_28 : decode cL_slip 28 = .ok (.iconst 0, 1) := by decide +kernel
theorem dL_slip_29 : decode cL_slip 29 = .ok (.ireturn, 1) := by decide +kernel
theorem dL_place_0 : decode cL_place 0 = .ok (.aload_n 2, 1) := by decide +kernel
theorem dL_place_1 : decode cL_place 1 = .ok (.iconst 0, 1) := by decide +kernel
theorem dL_place_2 : decode cL_place 2 = .ok (.aload_n 0, 1) := by decide +kernel
theorem dL_place_3 : decode cL_place 3 = .ok (.iload_n 1, 1) := by decide +kernel
theorem dL_place_4 : decode cL_place 4 = .ok (.invokevirtual 69, 3) := by decide +kernel
theorem dL_place_7 : decode cL_place 7 = .ok (.lastore, 1) := by decide +kernel
theorem dL_place_8 : decode cL_place 8 = .ok (.goto 9, 3) := by decide +kernel
theorem dL_place_11 : decode cL_place 11 = .ok (.astore_n 3, 1) := by decide +kernel
theorem dL_place_12 : decode cL_place 12 = .ok (.iconst 1, 1) := by decide +kernel
theorem dL_place_13 : decode cL_place 13 = .ok (.ireturn, 1) := by decide +kernel
theorem dL_place_14 : decode cL_place 14 = .ok (.astore_n 3, 1) := by decide +kernel
theorem dL_place_15 : decode cL_place 15 = .ok (.iconst 2, 1) := by decide +kernel
theorem dL_place_16 : decode cL_place 16 = .ok (.ireturn, 1) := by decide +kernel
theorem dL_place_17 : decode cL_place 17 = .ok (.iconst 0, 1) := by decide +kernel
theorem dL_place_18 : decode cL_place 18 = .ok (.ireturn, 1) := by decide +kernel
theorem dL_tempo_0 : decode cL_tempo 0 = .ok (.aload_n 2, 1) := by decide +kernel
theorem dL_tempo_1 : decode cL_tempo 1 = .ok (.iconst 0, 1) := by decide +kernel
theorem dL_tempo_2 : decode cL_tempo 2 = .ok (.aload_n 0, 1) := by decide +kernel
theorem dL_tempo_3 : decode cL_tempo 3 = .ok (.iload_n 1, 1) := by decide +kernel
theorem dL_tempo_4 : decode cL_tempo 4 = .ok (.invokevirtual 73, 3) := by decide +kernel
theorem dL_tempo_7 : decode cL_tempo 7 = .ok (.i2l, 1) := by decide +kernel
theorem dL_tempo_8 : decode cL_tempo 8 = .ok (.lastore, 1) := by decide +kernel
theorem dL_tempo_9 : decode cL_tempo 9 = .ok (.goto 9, 3) := by decide +kernel
theorem dL_tempo_12 : decode cL_tempo 12 = .ok (.astore_n 3, 1) := by decide +kernel
theorem dL_tempo_13 : decode cL_tempo 13 = .ok (.iconst 1, 1) := by decide +kernel
theorem dL_tempo_14 : decode cL_tempo 14 = .ok (.ireturn, 1) := by decide +kernel
theorem dL_tempo_15 : decode cL_tempo 15 = .ok (.astore_n 3, 1) := by decide +kernel
theorem dL_tempo_16 : decode cL_tempo 16 = .ok (.iconst 2, 1) := by decide +kernel
theorem dL_tempo_17 : decode cL_tempo 17 = .ok (.ireturn, 1) := by decide +kernel
theorem dL_tempo_18 : decode cL_tempo 18 = .ok (.iconst 0, 1) := by decide +kernel
theorem dL_tempo_19 : decode cL_tempo 19 = .ok (.ireturn, 1) := by decide +kernel
theorem dL_plays_0 : decode cL_plays 0 = .ok (.aload_n 2, 1) := by decide +kernel
theorem dL_plays_1 : decode cL_plays 1 = .ok (.iconst 0, 1) := by decide +kernel
theorem dL_plays_2 : decode cL_plays 2 = .ok (.aload_n 0, 1) := by decide +kernel
theorem dL_plays_3 : decode cL_plays 3 = .ok (.iload_n 1, 1) := by decide +kernel
theorem dL_plays_4 : decode cL_plays 4 = .ok (.invokevirtual 77, 3) := by decide +kernel
theorem dL_plays_7 : decode cL_plays 7 = .ok (.ifCond .eq 7, 3) := by decide +kernel
theorem dL_plays_10 : decode cL_plays 10 = .ok (.lconst 1, 1) := by decide +kernel
theorem dL_plays_11 : decode cL_plays 11 = .ok (.goto 4, 3) := by decide +kernel
theorem dL_plays_14 : decode cL_plays 14 = .ok (.lconst 0, 1) := by decide +kernel
theorem dL_plays_15 : decode cL_plays 15 = .ok (.lastore, 1) := by decide +kernel
theorem dL_plays_16 : decode cL_plays 16 = .ok (.goto 6, 3) := by decide +kernel
theorem dL_plays_19 : decode cL_plays 19 = .ok (.astore_n 3, 1) := by decide +kernel
theorem dL_plays_20 : decode cL_plays 20 = .ok (.iconst 1, 1) := by decide +kernel
theorem dL_plays_21 : decode cL_plays 21 = .ok (.ireturn, 1) := by decide +kernel
theorem dL_plays_22 : decode cL_plays 22 = .ok (.iconst 0, 1) := by decide +kernel
theorem dL_plays_23 : decode cL_plays 23 = .ok (.ireturn, 1) := by decide +kernel
theorem dL_on_0 : decode cL_on 0 = .ok (.aload_n 2, 1) := by decide +kernel
theorem dL_on_1 : decode cL_on 1 = .ok (.iconst 0, 1) := by decide +kernel
theorem dL_on_2 : decode cL_on 2 = .ok (.aload_n 0, 1) := by decide +kernel
theorem dL_on_3 : decode cL_on 3 = .ok (.iload_n 1, 1) := by decide +kernel
theorem dL_on_4 : decode cL_on 4 = .ok (.invokevirtual 80, 3) := by decide +kernel
theorem dL_on_7 : decode cL_on 7 = .ok (.i2l, 1) := by decide +kernel
theorem dL_on_8 : decode cL_on 8 = .ok (.lastore, 1) := by decide +kernel
theorem dL_on_9 : decode cL_on 9 = .ok (.goto 9, 3) := by decide +kernel
theorem dL_on_12 : decode cL_on 12 = .ok (.astore_n 3, 1) := by decide +kernel
theorem dL_on_13 : decode cL_on 13 = .ok (.iconst 1, 1) := by decide +kernel
theorem dL_on_14 : decode cL_on 14 = .ok (.ireturn, 1) := by decide +kernel
theorem dL_on_15 : decode cL_on 15 = .ok (.astore_n 3, 1) := by decide +kernel
theorem dL_on_16 : decode cL_on 16 = .ok (.iconst 2, 1) := by decide +kernel
theorem dL_on_17 : decode cL_on 17 = .ok (.ireturn, 1) := by decide +kernel
theorem dL_on_18 : decode cL_on 18 = .ok (.iconst 0, 1) := by decide +kernel
theorem dL_on_19 : decode cL_on 19 = .ok (.ireturn, 1) := by decide +kernel
theorem dL_setFader_0 : decode cL_setFader 0 = .ok (.aload_n 3, 1) := by decide +kernel
theorem dL_setFader_1 : decode cL_setFader 1 = .ok (.iconst 0, 1) := by decide +kernel
theorem dL_setFader_2 : decode cL_setFader 2 = .ok (.aload_n 0, 1) := by decide +kernel
theorem dL_setFader_3 : decode cL_setFader 3 = .ok (.iload_n 1, 1) := by decide +kernel
theorem dL_setFader_4 : decode cL_setFader 4 = .ok (.iload_n 2, 1) := by decide +kernel
theorem dL_setFader_5 : decode cL_setFader 5 = .ok (.invokevirtual 85, 3) := by decide +kernel
theorem dL_setFader_8 : decode cL_setFader 8 = .ok (.i2l, 1) := by decide +kernel
theorem dL_setFader_9 : decode cL_setFader 9 = .ok (.lastore, 1) := by decide +kernel
theorem dL_setFader_10 : decode cL_setFader 10 = .ok (.goto 11, 3) := by decide +kernel
theorem dL_setFader_13 : decode cL_setFader 13 = .ok (.astore 4, 2) := by decide +kernel
theorem dL_setFader_15 : decode cL_setFader 15 = .ok (.iconst 1, 1) := by decide +kernel
theorem dL_setFader_16 : decode cL_setFader 16 = .ok (.ireturn, 1) := by decide +kernel
theorem dL_setFader_17 : decode cL_setFader 17 = .ok (.astore 4, 2) := by decide +kernel
theorem dL_setFader_19 : decode cL_setFader 19 = .ok (.iconst 2, 1) := by decide +kernel
theorem dL_setFader_20 : decode cL_setFader 20 = .ok (.ireturn, 1) := by decide +kernel
theorem dL_setFader_21 : decode cL_setFader 21 = .ok (.iconst 0, 1) := by decide +kernel
theorem dL_setFader_22 : decode cL_setFader 22 = .ok (.ireturn, 1) := by decide +kernel
theorem dL_setBand_0 : decode cL_setBand 0 = .ok (.aload 4, 2) := by decide +kernel
theorem dL_setBand_2 : decode cL_setBand 2 = .ok (.iconst 0, 1) := by decide +kernel
theorem dL_setBand_3 : decode cL_setBand 3 = .ok (.aload_n 0, 1) := by decide +kernel
theorem dL_setBand_4 : decode cL_setBand 4 = .ok (.iload_n 1, 1) := by decide +kernel
theorem dL_setBand_5 : decode cL_setBand 5 = .ok (.iload_n 2, 1) := by decide +kernel
theorem dL_setBand_6 : decode cL_setBand 6 = .ok (.iload_n 3, 1) := by decide +kernel
theorem dL_setBand_7 : decode cL_setBand 7 = .ok (.invokevirtual 88, 3) := by decide +kernel
theorem dL_setBand_10 : decode cL_setBand 10 = .ok (.i2l, 1) := by decide +kernel
theorem dL_setBand_11 : decode cL_setBand 11 = .ok (.lastore, 1) := by decide +kernel
theorem dL_setBand_12 : decode cL_setBand 12 = .ok (.goto 11, 3) := by decide +kernel
theorem dL_setBand_15 : decode cL_setBand 15 = .ok (.astore 5, 2) := by decide +kernel
theorem dL_setBand_17 : decode cL_setBand 17 = .ok (.iconst 1, 1) := by decide +kernel
theorem dL_setBand_18 : decode cL_setBand 18 = .ok (.ireturn, 1) := by decide +kernel
theorem dL_setBand_19 : decode cL_setBand 19 = .ok (.astore 5, 2) := by decide +kernel
theorem dL_setBand_21 : decode cL_setBand 21 = .ok (.iconst 2, 1) := by decide +kernel
theorem dL_setBand_22 : decode cL_setBand 22 = .ok (.ireturn, 1) := by decide +kernel
theorem dL_setBand_23 : decode cL_setBand 23 = .ok (.iconst 0, 1) := by decide +kernel
theorem dL_setBand_24 : decode cL_setBand 24 = .ok (.ireturn, 1) := by decide +kernel
theorem dL_setSide_0 : decode cL_setSide 0 = .ok (.aload_n 3, 1) := by decide +kernel
theorem dL_setSide_1 : decode cL_setSide 1 = .ok (.iconst 0, 1) := by decide +kernel
theorem dL_setSide_2 : decode cL_setSide 2 = .ok (.aload_n 0, 1) := by decide +kernel
theorem dL_setSide_3 : decode cL_setSide 3 = .ok (.iload_n 1, 1) := by decide +kernel
theorem dL_setSide_4 : decode cL_setSide 4 = .ok (.iload_n 2, 1) := by decide +kernel
theorem dL_setSide_5 : decode cL_setSide 5 = .ok (.invokevirtual 92, 3) := by decide +kernel
theorem dL_setSide_8 : decode cL_setSide 8 = .ok (.i2l, 1) := by decide +kernel
theorem dL_setSide_9 : decode cL_setSide 9 = .ok (.lastore, 1) := by decide +kernel
theorem dL_setSide_10 : decode cL_setSide 10 = .ok (.goto 11, 3) := by decide +kernel
theorem dL_setSide_13 : decode cL_setSide 13 = .ok (.astore 4, 2) := by decide +kernel
theorem dL_setSide_15 : decode cL_setSide 15 = .ok (.iconst 1, 1) := by decide +kernel
theorem dL_setSide_16 : decode cL_setSide 16 = .ok (.ireturn, 1) := by decide +kernel
theorem dL_setSide_17 : decode cL_setSide 17 = .ok (.astore 4, 2) := by decide +kernel
theorem dL_setSide_19 : decode cL_setSide 19 = .ok (.iconst 2, 1) := by decide +kernel
theorem dL_setSide_20 : decode cL_setSide 20 = .ok (.ireturn, 1) := by decide +kernel
theorem dL_setSide_21 : decode cL_setSide 21 = .ok (.iconst 0, 1) := by decide +kernel
theorem dL_setSide_22 : decode cL_setSide 22 = .ok (.ireturn, 1) := by decide +kernel
theorem dL_setCross_0 : decode cL_setCross 0 = .ok (.aload_n 2, 1) := by decide +kernel
theorem dL_setCross_1 : decode cL_setCross 1 = .ok (.iconst 0, 1) := by decide +kernel
theorem dL_setCross_2 : decode cL_setCross 2 = .ok (.aload_n 0, 1) := by decide +kernel
theorem dL_setCross_3 : decode cL_setCross 3 = .ok (.iload_n 1, 1) := by decide +kernel
theorem dL_setCross_4 : decode cL_setCross 4 = .ok (.invokevirtual 96, 3) := by decide +kernel
theorem dL_setCross_7 : decode cL_setCross 7 = .ok (.i2l, 1) := by decide +kernel
theorem dL_setCross_8 : decode cL_setCross 8 = .ok (.lastore, 1) := by decide +kernel
theorem dL_setCross_9 : decode cL_setCross 9 = .ok (.goto 6, 3) := by decide +kernel
theorem dL_setCross_12 : decode cL_setCross 12 = .ok (.astore_n 3, 1) := by decide +kernel
theorem dL_setCross_13 : decode cL_setCross 13 = .ok (.iconst 1, 1) := by decide +kernel
theorem dL_setCross_14 : decode cL_setCross 14 = .ok (.ireturn, 1) := by decide +kernel
theorem dL_setCross_15 : decode cL_setCross 15 = .ok (.iconst 0, 1) := by decide +kernel
theorem dL_setCross_16 : decode cL_setCross 16 = .ok (.ireturn, 1) := by decide +kernel
theorem dL_level_0 : decode cL_level 0 = .ok (.aload_n 2, 1) := by decide +kernel
theorem dL_level_1 : decode cL_level 1 = .ok (.iconst 0, 1) := by decide +kernel
theorem dL_level_2 : decode cL_level 2 = .ok (.aload_n 0, 1) := by decide +kernel
theorem dL_level_3 : decode cL_level 3 = .ok (.iload_n 1, 1) := by decide +kernel
theorem dL_level_4 : decode cL_level 4 = .ok (.invokevirtual 99, 3) := by decide +kernel
theorem dL_level_7 : decode cL_level 7 = .ok (.i2l, 1) := by decide +kernel
theorem dL_level_8 : decode cL_level 8 = .ok (.lastore, 1) := by decide +kernel
theorem dL_level_9 : decode cL_level 9 = .ok (.goto 6, 3) := by decide +kernel
theorem dL_level_12 : decode cL_level 12 = .ok (.astore_n 3, 1) := by decide +kernel
theorem dL_level_13 : decode cL_level 13 = .ok (.iconst 1, 1) := by decide +kernel
theorem dL_level_14 : decode cL_level 14 = .ok (.ireturn, 1) := by decide +kernel
theorem dL_level_15 : decode cL_level 15 = .ok (.iconst 0, 1) := by decide +kernel
theorem dL_level_16 : decode cL_level 16 = .ok (.ireturn, 1) := by decide +kernel
theorem dL_addEffect_0 : decode cL_addEffect 0 = .ok (.aload 4, 2) := by decide +kernel
theorem dL_addEffect_2 : decode cL_addEffect 2 = .ok (.iconst 0, 1) := by decide +kernel
theorem dL_addEffect_3 : decode cL_addEffect 3 = .ok (.aload_n 0, 1) := by decide +kernel
theorem dL_addEffect_4 : decode cL_addEffect 4 = .ok (.iload_n 1, 1) := by decide +kernel
theorem dL_addEffect_5 : decode cL_addEffect 5 = .ok (.iload_n 2, 1) := by decide +kernel
theorem dL_addEffect_6 : decode cL_addEffect 6 = .ok (.iload_n 3, 1) := by decide +kernel
theorem dL_addEffect_7 : decode cL_addEffect 7 = .ok (.invokevirtual 102, 3) := by decide +kernel
theorem dL_addEffect_10 : decode cL_addEffect 10 = .ok (.i2l, 1) := by decide +kernel
theorem dL_addEffect_11 : decode cL_addEffect 11 = .ok (.lastore, 1) := by decide +kernel
theorem dL_addEffect_12 : decode cL_addEffect 12 = .ok (.goto 15, 3) := by decide +kernel
theorem dL_addEffect_15 : decode cL_addEffect 15 = .ok (.astore 5, 2) := by decide +kernel
theorem dL_addEffect_17 : decode cL_addEffect 17 = .ok (.iconst 1, 1) := by decide +kernel
theorem dL_addEffect_18 : decode cL_addEffect 18 = .ok (.ireturn, 1) := by decide +kernel
theorem dL_addEffect_19 : decode cL_addEffect 19 = .ok (.astore 5, 2) := by decide +kernel
theorem dL_addEffect_21 : decode cL_addEffect 21 = .ok (.iconst 2, 1) := by decide +kernel
theorem dL_addEffect_22 : decode cL_addEffect 22 = .ok (.ireturn, 1) := by decide +kernel
theorem dL_addEffect_23 : decode cL_addEffect 23 = .ok (.astore 5, 2) := by decide +kernel
theorem dL_addEffect_25 : decode cL_addEffect 25 = .ok (.iconst 3, 1) := by decide +kernel
theorem dL_addEffect_26 : decode cL_addEffect 26 = .ok (.ireturn, 1) := by decide +kernel
theorem dL_addEffect_27 : decode cL_addEffect 27 = .ok (.iconst 0, 1) := by decide +kernel
theorem dL_addEffect_28 : decode cL_addEffect 28 = .ok (.ireturn, 1) := by decide +kernel
theorem dL_dropEffects_0 : decode cL_dropEffects 0 = .ok (.aload_n 2, 1) := by decide +kernel
theorem dL_dropEffects_1 : decode cL_dropEffects 1 = .ok (.iconst 0, 1) := by decide +kernel
theorem dL_dropEffects_2 : decode cL_dropEffects 2 = .ok (.aload_n 0, 1) := by decide +kernel
theorem dL_dropEffects_3 : decode cL_dropEffects 3 = .ok (.iload_n 1, 1) := by decide +kernel
theorem dL_dropEffects_4 : decode cL_dropEffects 4 = .ok (.invokevirtual 106, 3) := by decide +kernel
theorem dL_dropEffects_7 : decode cL_dropEffects 7 = .ok (.i2l, 1) := by decide +kernel
theorem dL_dropEffects_8 : decode cL_dropEffects 8 = .ok (.lastore, 1) := by decide +kernel
theorem dL_dropEffects_9 : decode cL_dropEffects 9 = .ok (.goto 6, 3) := by decide +kernel
theorem dL_dropEffects_12 : decode cL_dropEffects 12 = .ok (.astore_n 3, 1) := by decide +kernel
theorem dL_dropEffects_13 : decode cL_dropEffects 13 = .ok (.iconst 1, 1) := by decide +kernel
theorem dL_dropEffects_14 : decode cL_dropEffects 14 = .ok (.ireturn, 1) := by decide +kernel
theorem dL_dropEffects_15 : decode cL_dropEffects 15 = .ok (.iconst 0, 1) := by decide +kernel
theorem dL_dropEffects_16 : decode cL_dropEffects 16 = .ok (.ireturn, 1) := by decide +kernel
theorem dL_tail_0 : decode cL_tail 0 = .ok (.aload_n 3, 1) := by decide +kernel
theorem dL_tail_1 : decode cL_tail 1 = .ok (.iconst 0, 1) := by decide +kernel
theorem dL_tail_2 : decode cL_tail 2 = .ok (.aload_n 0, 1) := by decide +kernel
theorem dL_tail_3 : decode cL_tail 3 = .ok (.iload_n 1, 1) := by decide +kernel
theorem dL_tail_4 : decode cL_tail 4 = .ok (.iload_n 2, 1) := by decide +kernel
theorem dL_tail_5 : decode cL_tail 5 = .ok (.invokevirtual 109, 3) := by decide +kernel
theorem dL_tail_8 : decode cL_tail 8 = .ok (.i2l, 1) := by decide +kernel
theorem dL_tail_9 : decode cL_tail 9 = .ok (.lastore, 1) := by decide +kernel
theorem dL_tail_10 : decode cL_tail 10 = .ok (.goto 11, 3) := by decide +kernel
theorem dL_tail_13 : decode cL_tail 13 = .ok (.astore 4, 2) := by decide +kernel
theorem dL_tail_15 : decode cL_tail 15 = .ok (.iconst 1, 1) := by decide +kernel
theorem dL_tail_16 : decode cL_tail 16 = .ok (.ireturn, 1) := by decide +kernel
theorem dL_tail_17 : decode cL_tail 17 = .ok (.astore 4, 2) := by decide +kernel
theorem dL_tail_19 : decode cL_tail 19 = .ok (.iconst 2, 1) := by decide +kernel
theorem dL_tail_20 : decode cL_tail 20 = .ok (.ireturn, 1) := by decide +kernel
theorem dL_tail_21 : decode cL_tail 21 = .ok (.iconst 0, 1) := by decide +kernel
theorem dL_tail_22 : decode cL_tail 22 = .ok (.ireturn, 1) := by decide +kernel
theorem dL_go_0 : decode cL_go 0 = .ok (.aload_n 2, 1) := by decide +kernel
theorem dL_go_1 : decode cL_go 1 = .ok (.iconst 0, 1) := by decide +kernel
theorem dL_go_2 : decode cL_go 2 = .ok (.aload_n 0, 1) := by decide +kernel
theorem dL_go_3 : decode cL_go 3 = .ok (.iload_n 1, 1) := by decide +kernel
theorem dL_go_4 : decode cL_go 4 = .ok (.invokevirtual 112, 3) := by decide +kernel
theorem dL_go_7 : decode cL_go 7 = .ok (.i2l, 1) := by decide +kernel
theorem dL_go_8 : decode cL_go 8 = .ok (.lastore, 1) := by decide +kernel
theorem dL_go_9 : decode cL_go 9 = .ok (.goto 6, 3) := by decide +kernel
theorem dL_go_12 : decode cL_go 12 = .ok (.astore_n 3, 1) := by decide +kernel
theorem dL_go_13 : decode cL_go 13 = .ok (.iconst 1, 1) := by decide +kernel
theorem dL_go_14 : decode cL_go 14 = .ok (.ireturn, 1) := by decide +kernel
theorem dL_go_15 : decode cL_go 15 = .ok (.iconst 0, 1) := by decide +kernel
theorem dL_go_16 : decode cL_go 16 = .ok (.ireturn, 1) := by decide +kernel
theorem dL_clashes_0 : decode cL_clashes 0 = .ok (.aload_n 2, 1) := by decide +kernel
theorem dL_clashes_1 : decode cL_clashes 1 = .ok (.iconst 0, 1) := by decide +kernel
theorem dL_clashes_2 : decode cL_clashes 2 = .ok (.aload_n 0, 1) := by decide +kernel
theorem dL_clashes_3 : decode cL_clashes 3 = .ok (.iload_n 1, 1) := by decide +kernel
theorem dL_clashes_4 : decode cL_clashes 4 = .ok (.invokevirtual 115, 3) := by decide +kernel
theorem dL_clashes_7 : decode cL_clashes 7 = .ok (.i2l, 1) := by decide +kernel
theorem dL_clashes_8 : decode cL_clashes 8 = .ok (.lastore, 1) := by decide +kernel
theorem dL_clashes_9 : decode cL_clashes 9 = .ok (.goto 6, 3) := by decide +kernel
theorem dL_clashes_12 : decode cL_clashes 12 = .ok (.astore_n 3, 1) := by decide +kernel
theorem dL_clashes_13 : decode cL_clashes 13 = .ok (.iconst 1, 1) := by decide +kernel
theorem dL_clashes_14 : decode cL_clashes 14 = .ok (.ireturn, 1) := by decide +kernel
theorem dL_clashes_15 : decode cL_clashes 15 = .ok (.iconst 0, 1) := by decide +kernel
theorem dL_clashes_16 : decode cL_clashes 16 = .ok (.ireturn, 1) := by decide +kernel
theorem dL_between_0 : decode cL_between 0 = .ok (.aload_n 3, 1) := by decide +kernel
theorem dL_between_1 : decode cL_between 1 = .ok (.iconst 0, 1) := by decide +kernel
theorem dL_between_2 : decode cL_between 2 = .ok (.aload_n 0, 1) := by decide +kernel
theorem dL_between_3 : decode cL_between 3 = .ok (.iload_n 1, 1) := by decide +kernel
theorem dL_between_4 : decode cL_between 4 = .ok (.iload_n 2, 1) := by decide +kernel
theorem dL_between_5 : decode cL_between 5 = .ok (.invokevirtual 119, 3) := by decide +kernel
theorem dL_between_8 : decode cL_between 8 = .ok (.i2l, 1) := by decide +kernel
theorem dL_between_9 : decode cL_between 9 = .ok (.lastore, 1) := by decide +kernel
theorem dL_between_10 : decode cL_between 10 = .ok (.goto 11, 3) := by decide +kernel
theorem dL_between_13 : decode cL_between 13 = .ok (.astore 4, 2) := by decide +kernel
theorem dL_between_15 : decode cL_between 15 = .ok (.iconst 1, 1) := by decide +kernel
theorem dL_between_16 : decode cL_between 16 = .ok (.ireturn, 1) := by decide +kernel
theorem dL_between_17 : decode cL_between 17 = .ok (.astore 4, 2) := by decide +kernel
theorem dL_between_19 : decode cL_between 19 = .ok (.iconst 2, 1) := by decide +kernel
theorem dL_between_20 : decode cL_between 20 = .ok (.ireturn, 1) := by decide +kernel
theorem dL_between_21 : decode cL_between 21 = .ok (.iconst 0, 1) := by decide +kernel
theorem dL_between_22 : decode cL_between 22 = .ok (.ireturn, 1) := by decide +kernel
theorem dL_sync_0 : decode cL_sync 0 = .ok (.aload_n 3, 1) := by decide +kernel
theorem dL_sync_1 : decode cL_sync 1 = .ok (.iconst 0, 1) := by decide +kernel
theorem dL_sync_2 : decode cL_sync 2 = .ok (.aload_n 0, 1) := by decide +kernel
theorem dL_sync_3 : decode cL_sync 3 = .ok (.iload_n 1, 1) := by decide +kernel
theorem dL_sync_4 : decode cL_sync 4 = .ok (.iload_n 2, 1) := by decide +kernel
theorem dL_sync_5 : decode cL_sync 5 = .ok (.invokevirtual 122, 3) := by decide +kernel
theorem dL_sync_8 : decode cL_sync 8 = .ok (.i2l, 1) := by decide +kernel
theorem dL_sync_9 : decode cL_sync 9 = .ok (.lastore, 1) := by decide +kernel
theorem dL_sync_10 : decode cL_sync 10 = .ok (.goto 11, 3) := by decide +kernel
theorem dL_sync_13 : decode cL_sync 13 = .ok (.astore 4, 2) := by decide +kernel
theorem dL_sync_15 : decode cL_sync 15 = .ok (.iconst 1, 1) := by decide +kernel
theorem dL_sync_16 : decode cL_sync 16 = .ok (.ireturn, 1) := by decide +kernel
theorem dL_sync_17 : decode cL_sync 17 = .ok (.astore 4, 2) := by decide +kernel
theorem dL_sync_19 : decode cL_sync 19 = .ok (.iconst 2, 1) := by decide +kernel
theorem dL_sync_20 : decode cL_sync 20 = .ok (.ireturn, 1) := by decide +kernel
theorem dL_sync_21 : decode cL_sync 21 = .ok (.iconst 0, 1) := by decide +kernel
theorem dL_sync_22 : decode cL_sync 22 = .ok (.ireturn, 1) := by decide +kernel
theorem dL_ear_0 : decode cL_ear 0 = .ok (.aload 4, 2) := by decide +kernel
theorem dL_ear_2 : decode cL_ear 2 = .ok (.iconst 0, 1) := by decide +kernel
theorem dL_ear_3 : decode cL_ear 3 = .ok (.aload_n 0, 1) := by decide +kernel
theorem dL_ear_4 : decode cL_ear 4 = .ok (.iload_n 1, 1) := by decide +kernel
theorem dL_ear_5 : decode cL_ear 5 = .ok (.iload_n 2, 1) := by decide +kernel
theorem dL_ear_6 : decode cL_ear 6 = .ok (.iload_n 3, 1) := by decide +kernel
theorem dL_ear_7 : decode cL_ear 7 = .ok (.invokevirtual 125, 3) := by decide +kernel
theorem dL_ear_10 : decode cL_ear 10 = .ok (.i2l, 1) := by decide +kernel
theorem dL_ear_11 : decode cL_ear 11 = .ok (.lastore, 1) := by decide +kernel
theorem dL_ear_12 : decode cL_ear 12 = .ok (.goto 15, 3) := by decide +kernel
theorem dL_ear_15 : decode cL_ear 15 = .ok (.astore 5, 2) := by decide +kernel
theorem dL_ear_17 : decode cL_ear 17 = .ok (.iconst 1, 1) := by decide +kernel
theorem dL_ear_18 : decode cL_ear 18 = .ok (.ireturn, 1) := by decide +kernel
theorem dL_ear_19 : decode cL_ear 19 = .ok (.astore 5, 2) := by decide +kernel
theorem dL_ear_21 : decode cL_ear 21 = .ok (.iconst 2, 1) := by decide +kernel
theorem dL_ear_22 : decode cL_ear 22 = .ok (.ireturn, 1) := by decide +kernel
theorem dL_ear_23 : decode cL_ear 23 = .ok (.astore 5, 2) := by decide +kernel
theorem dL_ear_25 : decode cL_ear 25 = .ok (.iconst 3, 1) := by decide +kernel
theorem dL_ear_26 : decode cL_ear 26 = .ok (.ireturn, 1) := by decide +kernel
theorem dL_ear_27 : decode cL_ear 27 = .ok (.iconst 0, 1) := by decide +kernel
theorem dL_ear_28 : decode cL_ear 28 = .ok (.ireturn, 1) := by decide +kernel
theorem dL_people_0 : decode cL_people 0 = .ok (.aload_n 2, 1) := by decide +kernel
theorem dL_people_1 : decode cL_people 1 = .ok (.iconst 0, 1) := by decide +kernel
theorem dL_people_2 : decode cL_people 2 = .ok (.aload_n 0, 1) := by decide +kernel
theorem dL_people_3 : decode cL_people 3 = .ok (.iload_n 1, 1) := by decide +kernel
theorem dL_people_4 : decode cL_people 4 = .ok (.invokevirtual 128, 3) := by decide +kernel
theorem dL_people_7 : decode cL_people 7 = .ok (.i2l, 1) := by decide +kernel
theorem dL_people_8 : decode cL_people 8 = .ok (.lastore, 1) := by decide +kernel
theorem dL_people_9 : decode cL_people 9 = .ok (.goto 6, 3) := by decide +kernel
theorem dL_people_12 : decode cL_people 12 = .ok (.astore_n 3, 1) := by decide +kernel
theorem dL_people_13 : decode cL_people 13 = .ok (.iconst 1, 1) := by decide +kernel
theorem dL_people_14 : decode cL_people 14 = .ok (.ireturn, 1) := by decide +kernel
theorem dL_people_15 : decode cL_people 15 = .ok (.iconst 0, 1) := by decide +kernel
theorem dL_people_16 : decode cL_people 16 = .ok (.ireturn, 1) := by decide +kernel
theorem dL_tired_0 : decode cL_tired 0 = .ok (.aload_n 2, 1) := by decide +kernel
theorem dL_tired_1 : decode cL_tired 1 = .ok (.iconst 0, 1) := by decide +kernel
theorem dL_tired_2 : decode cL_tired 2 = .ok (.aload_n 0, 1) := by decide +kernel
theorem dL_tired_3 : decode cL_tired 3 = .ok (.iload_n 1, 1) := by decide +kernel
theorem dL_tired_4 : decode cL_tired 4 = .ok (.invokevirtual 131, 3) := by decide +kernel
theorem dL_tired_7 : decode cL_tired 7 = .ok (.i2l, 1) := by decide +kernel
theorem dL_tired_8 : decode cL_tired 8 = .ok (.lastore, 1) := by decide +kernel
theorem dL_tired_9 : decode cL_tired 9 = .ok (.goto 6, 3) := by decide +kernel
theorem dL_tired_12 : decode cL_tired 12 = .ok (.astore_n 3, 1) := by decide +kernel
theorem dL_tired_13 : decode cL_tired 13 = .ok (.iconst 1, 1) := by decide +kernel
theorem dL_tired_14 : decode cL_tired 14 = .ok (.ireturn, 1) := by decide +kernel
theorem dL_tired_15 : decode cL_tired 15 = .ok (.iconst 0, 1) := by decide +kernel
theorem dL_tired_16 : decode cL_tired 16 = .ok (.ireturn, 1) := by decide +kernel
theorem dL_seconds_0 : decode cL_seconds 0 = .ok (.aload_n 2, 1) := by decide +kernel
theorem dL_seconds_1 : decode cL_seconds 1 = .ok (.iconst 0, 1) := by decide +kernel
theorem dL_seconds_2 : decode cL_seconds 2 = .ok (.aload_n 0, 1) := by decide +kernel
theorem dL_seconds_3 : decode cL_seconds 3 = .ok (.iload_n 1, 1) := by decide +kernel
theorem dL_seconds_4 : decode cL_seconds 4 = .ok (.invokevirtual 134, 3) := by decide +kernel
theorem dL_seconds_7 : decode cL_seconds 7 = .ok (.i2l, 1) := by decide +kernel
theorem dL_seconds_8 : decode cL_seconds 8 = .ok (.lastore, 1) := by decide +kernel
theorem dL_seconds_9 : decode cL_seconds 9 = .ok (.goto 6, 3) := by decide +kernel
theorem dL_seconds_12 : decode cL_seconds 12 = .ok (.astore_n 3, 1) := by decide +kernel
theorem dL_seconds_13 : decode cL_seconds 13 = .ok (.iconst 1, 1) := by decide +kernel
theorem dL_seconds_14 : decode cL_seconds 14 = .ok (.ireturn, 1) := by decide +kernel
theorem dL_seconds_15 : decode cL_seconds 15 = .ok (.iconst 0, 1) := by decide +kernel
theorem dL_seconds_16 : decode cL_seconds 16 = .ok (.ireturn, 1) := by decide +kernel
theorem dL_setLimit_0 : decode cL_setLimit 0 = .ok (.aload_n 3, 1) := by decide +kernel
theorem dL_setLimit_1 : decode cL_setLimit 1 = .ok (.iconst 0, 1) := by decide +kernel
theorem dL_setLimit_2 : decode cL_setLimit 2 = .ok (.aload_n 0, 1) := by decide +kernel
theorem dL_setLimit_3 : decode cL_setLimit 3 = .ok (.iload_n 1, 1) := by decide +kernel
theorem dL_setLimit_4 : decode cL_setLimit 4 = .ok (.iload_n 2, 1) := by decide +kernel
theorem dL_setLimit_5 : decode cL_setLimit 5 = .ok (.invokevirtual 137, 3) := by decide +kernel
theorem dL_setLimit_8 : decode cL_setLimit 8 = .ok (.i2l, 1) := by decide +kernel
theorem dL_setLimit_9 : decode cL_setLimit 9 = .ok (.lastore, 1) := by decide +kernel
theorem dL_setLimit_10 : decode cL_setLimit 10 = .ok (.goto 7, 3) := by decide +kernel
theorem dL_setLimit_13 : decode cL_setLimit 13 = .ok (.astore 4, 2) := by decide +kernel
theorem dL_setLimit_15 : decode cL_setLimit 15 = .ok (.iconst 1, 1) := by decide +kernel
theorem dL_setLimit_16 : decode cL_setLimit 16 = .ok (.ireturn, 1) := by decide +kernel
theorem dL_setLimit_17 : decode cL_setLimit 17 = .ok (.iconst 0, 1) := by decide +kernel
theorem dL_setLimit_18 : decode cL_setLimit 18 = .ok (.ireturn, 1) := by decide +kernel
theorem dL_strobe_0 : decode cL_strobe 0 = .ok (.aload_n 3, 1) := by decide +kernel
theorem dL_strobe_1 : decode cL_strobe 1 = .ok (.iconst 0, 1) := by decide +kernel
theorem dL_strobe_2 : decode cL_strobe 2 = .ok (.aload_n 0, 1) := by decide +kernel
theorem dL_strobe_3 : decode cL_strobe 3 = .ok (.iload_n 1, 1) := by decide +kernel
theorem dL_strobe_4 : decode cL_strobe 4 = .ok (.iload_n 2, 1) := by decide +kernel
theorem dL_strobe_5 : decode cL_strobe 5 = .ok (.invokevirtual 140, 3) := by decide +kernel
theorem dL_strobe_8 : decode cL_strobe 8 = .ok (.i2l, 1) := by decide +kernel
theorem dL_strobe_9 : decode cL_strobe 9 = .ok (.lastore, 1) := by decide +kernel
theorem dL_strobe_10 : decode cL_strobe 10 = .ok (.goto 7, 3) := by decide +kernel
theorem dL_strobe_13 : decode cL_strobe 13 = .ok (.astore 4, 2) := by decide +kernel
theorem dL_strobe_15 : decode cL_strobe 15 = .ok (.iconst 1, 1) := by decide +kernel
theorem dL_strobe_16 : decode cL_strobe 16 = .ok (.ireturn, 1) := by decide +kernel
theorem dL_strobe_17 : decode cL_strobe 17 = .ok (.iconst 0, 1) := by decide +kernel
theorem dL_strobe_18 : decode cL_strobe 18 = .ok (.ireturn, 1) := by decide +kernel
theorem dL_light_0 : decode cL_light 0 = .ok (.aload_n 1, 1) := by decide +kernel
theorem dL_light_1 : decode cL_light 1 = .ok (.iconst 0, 1) := by decide +kernel
theorem dL_light_2 : decode cL_light 2 = .ok (.aload_n 0, 1) := by decide +kernel
theorem dL_light_3 : decode cL_light 3 = .ok (.invokevirtual 143, 3) := by decide +kernel
theorem dL_light_6 : decode cL_light 6 = .ok (.i2l, 1) := by decide +kernel
theorem dL_light_7 : decode cL_light 7 = .ok (.lastore, 1) := by decide +kernel
theorem dL_light_8 : decode cL_light 8 = .ok (.goto 6, 3) := by decide +kernel
theorem dL_light_11 : decode cL_light 11 = .ok (.astore_n 2, 1) := by decide +kernel
theorem dL_light_12 : decode cL_light 12 = .ok (.iconst 1, 1) := by decide +kernel
theorem dL_light_13 : decode cL_light 13 = .ok (.ireturn, 1) := by decide +kernel
theorem dL_light_14 : decode cL_light 14 = .ok (.iconst 0, 1) := by decide +kernel
theorem dL_light_15 : decode cL_light 15 = .ok (.ireturn, 1) := by decide +kernel
theorem dL_next_0 : decode cL_next 0 = .ok (.aload_n 3, 1) := by decide +kernel
theorem dL_next_1 : decode cL_next 1 = .ok (.iconst 0, 1) := by decide +kernel
theorem dL_next_2 : decode cL_next 2 = .ok (.aload_n 0, 1) := by decide +kernel
theorem dL_next_3 : decode cL_next 3 = .ok (.iload_n 1, 1) := by decide +kernel
theorem dL_next_4 : decode cL_next 4 = .ok (.iload_n 2, 1) := by decide +kernel
theorem dL_next_5 : decode cL_next 5 = .ok (.invokevirtual 147, 3) := by decide +kernel
theorem dL_next_8 : decode cL_next 8 = .ok (.i2l, 1) := by decide +kernel
theorem dL_next_9 : decode cL_next 9 = .ok (.lastore, 1) := by decide +kernel
theorem dL_next_10 : decode cL_next 10 = .ok (.goto 19, 3) := by decide +kernel
theorem dL_next_13 : decode cL_next 13 = .ok (.astore 4, 2) := by decide +kernel
theorem dL_next_15 : decode cL_next 15 = .ok (.iconst 1, 1) := by decide +kernel
theorem dL_next_16 : decode cL_next 16 = .ok (.ireturn, 1) := by decide +kernel
theorem dL_next_17 : decode cL_next 17 = .ok (.astore 4, 2) := by decide +kernel
theorem dL_next_19 : decode cL_next 19 = .ok (.iconst 2, 1) := by decide +kernel
theorem dL_next_20 : decode cL_next 20 = .ok (.ireturn, 1) := by decide +kernel
theorem dL_next_21 : decode cL_next 21 = .ok (.astore 4, 2) := by decide +kernel
theorem dL_next_23 : decode cL_next 23 = .ok (.iconst 3, 1) := by decide +kernel
theorem dL_next_24 : decode cL_next 24 = .ok (.ireturn, 1) := by decide +kernel
theorem dL_next_25 : decode cL_next 25 = .ok (.astore 4, 2) := by decide +kernel
theorem dL_next_27 : decode cL_next 27 = .ok (.iconst 4, 1) := by decide +kernel
theorem dL_next_28 : decode cL_next 28 = .ok (.ireturn, 1) := by decide +kernel
theorem dL_next_29 : decode cL_next 29 = .ok (.iconst 0, 1) := by decide +kernel
theorem dL_next_30 : decode cL_next 30 = .ok (.ireturn, 1) := by decide +kernel
theorem dL_cost_0 : decode cL_cost 0 = .ok (.aload_n 3, 1) := by decide +kernel
theorem dL_cost_1 : decode cL_cost 1 = .ok (.iconst 0, 1) := by decide +kernel
theorem dL_cost_2 : decode cL_cost 2 = .ok (.aload_n 0, 1) := by decide +kernel
theorem dL_cost_3 : decode cL_cost 3 = .ok (.iload_n 1, 1) := by decide +kernel
theorem dL_cost_4 : decode cL_cost 4 = .ok (.iload_n 2, 1) := by decide +kernel
theorem dL_cost_5 : decode cL_cost 5 = .ok (.invokevirtual 150, 3) := by decide +kernel
theorem dL_cost_8 : decode cL_cost 8 = .ok (.i2l, 1) := by decide +kernel
theorem dL_cost_9 : decode cL_cost 9 = .ok (.lastore, 1) := by decide +kernel
theorem dL_cost_10 : decode cL_cost 10 = .ok (.goto 19, 3) := by decide +kernel
theorem dL_cost_13 : decode cL_cost 13 = .ok (.astore 4, 2) := by decide +kernel
theorem dL_cost_15 : decode cL_cost 15 = .ok (.iconst 1, 1) := by decide +kernel
theorem dL_cost_16 : decode cL_cost 16 = .ok (.ireturn, 1) := by decide +kernel
theorem dL_cost_17 : decode cL_cost 17 = .ok (.astore 4, 2) := by decide +kernel
theorem dL_cost_19 : decode cL_cost 19 = .ok (.iconst 2, 1) := by decide +kernel
theorem dL_cost_20 : decode cL_cost 20 = .ok (.ireturn, 1) := by decide +kernel
theorem dL_cost_21 : decode cL_cost 21 = .ok (.astore 4, 2) := by decide +kernel
theorem dL_cost_23 : decode cL_cost 23 = .ok (.iconst 3, 1) := by decide +kernel
theorem dL_cost_24 : decode cL_cost 24 = .ok (.ireturn, 1) := by decide +kernel
theorem dL_cost_25 : decode cL_cost 25 = .ok (.astore 4, 2) := by decide +kernel
theorem dL_cost_27 : decode cL_cost 27 = .ok (.iconst 4, 1) := by decide +kernel
theorem dL_cost_28 : decode cL_cost 28 = .ok (.ireturn, 1) := by decide +kernel
theorem dL_cost_29 : decode cL_cost 29 = .ok (.iconst 0, 1) := by decide +kernel
theorem dL_cost_30 : decode cL_cost 30 = .ok (.ireturn, 1) := by decide +kernel
theorem dL_type_0 : decode cL_type 0 = .ok (.aload_n 2, 1) := by decide +kernel
theorem dL_type_1 : decode cL_type 1 = .ok (.iconst 0, 1) := by decide +kernel
theorem dL_type_2 : decode cL_type 2 = .ok (.aload_n 0, 1) := by decide +kernel
theorem dL_type_3 : decode cL_type 3 = .ok (.iload_n 1, 1) := by decide +kernel
theorem dL_type_4 : decode cL_type 4 = .ok (.invokevirtual 153, 3) := by decide +kernel
theorem dL_type_7 : decode cL_type 7 = .ok (.i2l, 1) := by decide +kernel
theorem dL_type_8 : decode cL_type 8 = .ok (.lastore, 1) := by decide +kernel
theorem dL_type_9 : decode cL_type 9 = .ok (.goto 6, 3) := by decide +kernel
theorem dL_type_12 : decode cL_type 12 = .ok (.astore_n 3, 1) := by decide +kernel
theorem dL_type_13 : decode cL_type 13 = .ok (.iconst 1, 1) := by decide +kernel
theorem dL_type_14 : decode cL_type 14 = .ok (.ireturn, 1) := by decide +kernel
theorem dL_type_15 : decode cL_type 15 = .ok (.iconst 0, 1) := by decide +kernel
theorem dL_type_16 : decode cL_type 16 = .ok (.ireturn, 1) := by decide +kernel
theorem dL_perform_0 : decode cL_perform 0 = .ok (.aload_n 1, 1) := by decide +kernel
theorem dL_perform_1 : decode cL_perform 1 = .ok (.iconst 0, 1) := by decide +kernel
theorem dL_perform_2 : decode cL_perform 2 = .ok (.aload_n 0, 1) := by decide +kernel
theorem dL_perform_3 : decode cL_perform 3 = .ok (.invokevirtual 156, 3) := by decide +kernel
theorem dL_perform_6 : decode cL_perform 6 = .ok (.i2l, 1) := by decide +kernel
theorem dL_perform_7 : decode cL_perform 7 = .ok (.lastore, 1) := by decide +kernel
theorem dL_perform_8 : decode cL_perform 8 = .ok (.goto 9, 3) := by decide +kernel
theorem dL_perform_11 : decode cL_perform 11 = .ok (.astore_n 2, 1) := by decide +kernel
theorem dL_perform_12 : decode cL_perform 12 = .ok (.iconst 1, 1) := by decide +kernel
theorem dL_perform_13 : decode cL_perform 13 = .ok (.ireturn, 1) := by decide +kernel
theorem dL_perform_14 : decode cL_perform 14 = .ok (.astore_n 2, 1) := by decide +kernel
theorem dL_perform_15 : decode cL_perform 15 = .ok (.iconst 2, 1) := by decide +kernel
theorem dL_perform_16 : decode cL_perform 16 = .ok (.ireturn, 1) := by decide +kernel
theorem dL_perform_17 : decode cL_perform 17 = .ok (.iconst 0, 1) := by decide +kernel
theorem dL_perform_18 : decode cL_perform 18 = .ok (.ireturn, 1) := by decide +kernel
theorem dL_cause_0 : decode cL_cause 0 = .ok (.aload_n 2, 1) := by decide +kernel
theorem dL_cause_1 : decode cL_cause 1 = .ok (.iconst 0, 1) := by decide +kernel
theorem dL_cause_2 : decode cL_cause 2 = .ok (.aload_n 0, 1) := by decide +kernel
theorem dL_cause_3 : decode cL_cause 3 = .ok (.iload_n 1, 1) := by decide +kernel
theorem dL_cause_4 : decode cL_cause 4 = .ok (.invokevirtual 159, 3) := by decide +kernel
theorem dL_cause_7 : decode cL_cause 7 = .ok (.i2l, 1) := by decide +kernel
theorem dL_cause_8 : decode cL_cause 8 = .ok (.lastore, 1) := by decide +kernel
theorem dL_cause_9 : decode cL_cause 9 = .ok (.goto 6, 3) := by decide +kernel
theorem dL_cause_12 : decode cL_cause 12 = .ok (.astore_n 3, 1) := by decide +kernel
theorem dL_cause_13 : decode cL_cause 13 = .ok (.iconst 1, 1) := by decide +kernel
theorem dL_cause_14 : decode cL_cause 14 = .ok (.ireturn, 1) := by decide +kernel
theorem dL_cause_15 : decode cL_cause 15 = .ok (.iconst 0, 1) := by decide +kernel
theorem dL_cause_16 : decode cL_cause 16 = .ok (.ireturn, 1) := by decide +kernel
theorem dL_causeNumber_0 : decode cL_causeNumber 0 = .ok (.aload_n 2, 1) := by decide +kernel
theorem dL_causeNumber_1 : decode cL_causeNumber 1 = .ok (.iconst 0, 1) := by decide +kernel
theorem dL_causeNumber_2 : decode cL_causeNumber 2 = .ok (.aload_n 0, 1) := by decide +kernel
theorem dL_causeNumber_3 : decode cL_causeNumber 3 = .ok (.iload_n 1, 1) := by decide +kernel
theorem dL_causeNumber_4 : decode cL_causeNumber 4 = .ok (.invokevirtual 163, 3) := by decide +kernel
theorem dL_causeNumber_7 : decode cL_causeNumber 7 = .ok (.i2l, 1) := by decide +kernel
theorem dL_causeNumber_8 : decode cL_causeNumber 8 = .ok (.lastore, 1) := by decide +kernel
theorem dL_causeNumber_9 : decode cL_causeNumber 9 = .ok (.goto 6, 3) := by decide +kernel
theorem dL_causeNumber_12 : decode cL_causeNumber 12 = .ok (.astore_n 3, 1) := by decide +kernel
theorem dL_causeNumber_13 : decode cL_causeNumber 13 = .ok (.iconst 1, 1) := by decide +kernel
theorem dL_causeNumber_14 : decode cL_causeNumber 14 = .ok (.ireturn, 1) := by decide +kernel
theorem dL_causeNumber_15 : decode cL_causeNumber 15 = .ok (.iconst 0, 1) := by decide +kernel
theorem dL_causeNumber_16 : decode cL_causeNumber 16 = .ok (.ireturn, 1) := by decide +kernel
theorem dL_skip_0 : decode cL_skip 0 = .ok (.aload_n 3, 1) := by decide +kernel
theorem dL_skip_1 : decode cL_skip 1 = .ok (.iconst 0, 1) := by decide +kernel
theorem dL_skip_2 : decode cL_skip 2 = .ok (.aload_n 0, 1) := by decide +kernel
theorem dL_skip_3 : decode cL_skip 3 = .ok (.iload_n 1, 1) := by decide +kernel
theorem dL_skip_4 : decode cL_skip 4 = .ok (.iload_n 2, 1) := by decide +kernel
theorem dL_skip_5 : decode cL_skip 5 = .ok (.invokevirtual 166, 3) := by decide +kernel
theorem dL_skip_8 : decode cL_skip 8 = .ok (.lastore, 1) := by decide +kernel
theorem dL_skip_9 : decode cL_skip 9 = .ok (.goto 15, 3) := by decide +kernel
theorem dL_skip_12 : decode cL_skip 12 = .ok (.astore 4, 2) := by decide +kernel
theorem dL_skip_14 : decode cL_skip 14 = .ok (.iconst 1, 1) := by decide +kernel
theorem dL_skip_15 : decode cL_skip 15 = .ok (.ireturn, 1) := by decide +kernel
theorem dL_skip_16 : decode cL_skip 16 = .ok (.astore 4, 2) := by decide +kernel
theorem dL_skip_18 : decode cL_skip 18 = .ok (.iconst 2, 1) := by decide +kernel
theorem dL_skip_19 : decode cL_skip 19 = .ok (.ireturn, 1) := by decide +kernel
theorem dL_skip_20 : decode cL_skip 20 = .ok (.astore 4, 2) := by decide +kernel
theorem dL_skip_22 : decode cL_skip 22 = .ok (.iconst 3, 1) := by decide +kernel
theorem dL_skip_23 : decode cL_skip 23 = .ok (.ireturn, 1) := by decide +kernel
theorem dL_skip_24 : decode cL_skip 24 = .ok (.iconst 0, 1) := by decide +kernel
theorem dL_skip_25 : decode cL_skip 25 = .ok (.ireturn, 1) := by decide +kernel
theorem dL_loseStick_0 : decode cL_loseStick 0 = .ok (.aload_n 2, 1) := by decide +kernel
theorem dL_loseStick_1 : decode cL_loseStick 1 = .ok (.iconst 0, 1) := by decide +kernel
theorem dL_loseStick_2 : decode cL_loseStick 2 = .ok (.aload_n 0, 1) := by decide +kernel
theorem dL_loseStick_3 : decode cL_loseStick 3 = .ok (.iload_n 1, 1) := by decide +kernel
theorem dL_loseStick_4 : decode cL_loseStick 4 = .ok (.invokevirtual 170, 3) := by decide +kernel
theorem dL_loseStick_7 : decode cL_loseStick 7 = .ok (.i2l, 1) := by decide +kernel
theorem dL_loseStick_8 : decode cL_loseStick 8 = .ok (.lastore, 1) := by decide +kernel
theorem dL_loseStick_9 : decode cL_loseStick 9 = .ok (.goto 9, 3) := by decide +kernel
theorem dL_loseStick_12 : decode cL_loseStick 12 = .ok (.astore_n 3, 1) := by decide +kernel
theorem dL_loseStick_13 : decode cL_loseStick 13 = .ok (.iconst 1, 1) := by decide +kernel
theorem dL_loseStick_14 : decode cL_loseStick 14 = .ok (.ireturn, 1) := by decide +kernel
theorem dL_loseStick_15 : decode cL_loseStick 15 = .ok (.astore_n 3, 1) := by decide +kernel
theorem dL_loseStick_16 : decode cL_loseStick 16 = .ok (.iconst 2, 1) := by decide +kernel
theorem dL_loseStick_17 : decode cL_loseStick 17 = .ok (.ireturn, 1) := by decide +kernel
theorem dL_loseStick_18 : decode cL_loseStick 18 = .ok (.iconst 0, 1) := by decide +kernel
theorem dL_loseStick_19 : decode cL_loseStick 19 = .ok (.ireturn, 1) := by decide +kernel
theorem dL_silentShare_0 : decode cL_silentShare 0 = .ok (.aload_n 1, 1) := by decide +kernel
theorem dL_silentShare_1 : decode cL_silentShare 1 = .ok (.iconst 0, 1) := by decide +kernel
theorem dL_silentShare_2 : decode cL_silentShare 2 = .ok (.aload_n 0, 1) := by decide +kernel
theorem dL_silentShare_3 : decode cL_silentShare 3 = .ok (.invokevirtual 173, 3) := by decide +kernel
theorem dL_silentShare_6 : decode cL_silentShare 6 = .ok (.f2d, 1) := by decide +kernel
theorem dL_silentShare_7 : decode cL_silentShare 7 = .ok (.dastore, 1) := by decide +kernel
theorem dL_silentShare_8 : decode cL_silentShare 8 = .ok (.goto 6, 3) := by decide +kernel
theorem dL_silentShare_11 : decode cL_silentShare 11 = .ok (.astore_n 2, 1) := by decide +kernel
theorem dL_silentShare_12 : decode cL_silentShare 12 = .ok (.iconst 1, 1) := by decide +kernel
theorem dL_silentShare_13 : decode cL_silentShare 13 = .ok (.ireturn, 1) := by decide +kernel
theorem dL_silentShare_14 : decode cL_silentShare 14 = .ok (.iconst 0, 1) := by decide +kernel
theorem dL_silentShare_15 : decode cL_silentShare 15 = .ok (.ireturn, 1) := by decide +kernel
theorem dL_meanLoudness_0 : decode cL_meanLoudness 0 = .ok (.aload_n 1, 1) := by decide +kernel
theorem dL_meanLoudness_1 : decode cL_meanLoudness 1 = .ok (.iconst 0, 1) := by decide +kernel
theorem dL_meanLoudness_2 : decode cL_meanLoudness 2 = .ok (.aload_n 0, 1) := by decide +kernel
theorem dL_meanLoudness_3 : decode cL_meanLoudness 3 = .ok (.invokevirtual 179, 3) := by decide +kernel
theorem dL_meanLoudness_6 : decode cL_meanLoudness 6 = .ok (.dastore, 1) := by decide +kernel
theorem dL_meanLoudness_7 : decode cL_meanLoudness 7 = .ok (.goto 6, 3) := by decide +kernel
theorem dL_meanLoudness_10 : decode cL_meanLoudness 10 = .ok (.astore_n 2, 1) := by decide +kernel
theorem dL_meanLoudness_11 : decode cL_meanLoudness 11 = .ok (.iconst 1, 1) := by decide +kernel
theorem dL_meanLoudness_12 : decode cL_meanLoudness 12 = .ok (.ireturn, 1) := by decide +kernel
theorem dL_meanLoudness_13 : decode cL_meanLoudness 13 = .ok (.iconst 0, 1) := by decide +kernel
theorem dL_meanLoudness_14 : decode cL_meanLoudness 14 = .ok (.ireturn, 1) := by decide +kernel
