theorem dL_apart_0 : decode bL_apart 0 = .ok (.aload 4, 2) := by decide +kernel
theorem dL_apart_2 : decode bL_apart 2 = .ok (.iconst 0, 1) := by decide +kernel
theorem dL_apart_3 : decode bL_apart 3 = .ok (.aload_n 0, 1) := by decide +kernel
theorem dL_apart_4 : decode bL_apart 4 = .ok (.iload_n 1, 1) := by decide +kernel
theorem dL_apart_5 : decode bL_apart 5 = .ok (.iload_n 2, 1) := by decide +kernel
theorem dL_apart_6 : decode bL_apart 6 = .ok (.iload_n 3, 1) := by decide +kernel
theorem dL_apart_7 : decode bL_apart 7 = .ok (.invokevirtual 23, 3) := by decide +kernel
theorem dL_apart_10 : decode bL_apart 10 = .ok (.ifCond .eq 7, 3) := by decide +kernel
theorem dL_apart_13 : decode bL_apart 13 = .ok (.lconst 1, 1) := by decide +kernel
theorem dL_apart_14 : decode bL_apart 14 = .ok (.goto 4, 3) := by decide +kernel
theorem dL_apart_17 : decode bL_apart 17 = .ok (.lconst 0, 1) := by decide +kernel
theorem dL_apart_18 : decode bL_apart 18 = .ok (.lastore, 1) := by decide +kernel
theorem dL_apart_19 : decode bL_apart 19 = .ok (.goto 15, 3) := by decide +kernel
theorem dL_apart_22 : decode bL_apart 22 = .ok (.astore 5, 2) := by decide +kernel
theorem dL_apart_24 : decode bL_apart 24 = .ok (.iconst 1, 1) := by decide +kernel
theorem dL_apart_25 : decode bL_apart 25 = .ok (.ireturn, 1) := by decide +kernel
theorem dL_apart_26 : decode bL_apart 26 = .ok (.astore 5, 2) := by decide +kernel
theorem dL_apart_28 : decode bL_apart 28 = .ok (.iconst 2, 1) := by decide +kernel
theorem dL_apart_29 : decode bL_apart 29 = .ok (.ireturn, 1) := by decide +kernel
theorem dL_apart_30 : decode bL_apart 30 = .ok (.astore 5, 2) := by decide +kernel
theorem dL_apart_32 : decode bL_apart 32 = .ok (.iconst 3, 1) := by decide +kernel
theorem dL_apart_33 : decode bL_apart 33 = .ok (.ireturn, 1) := by decide +kernel
theorem dL_apart_34 : decode bL_apart 34 = .ok (.iconst 0, 1) := by decide +kernel
theorem dL_apart_35 : decode bL_apart 35 = .ok (.ireturn, 1) := by decide +kernel
theorem dL_back_0 : decode bL_back 0 = .ok (.aload_n 1, 1) := by decide +kernel
theorem dL_back_1 : decode bL_back 1 = .ok (.iconst 0, 1) := by decide +kernel
theorem dL_back_2 : decode bL_back 2 = .ok (.aload_n 0, 1) := by decide +kernel
theorem dL_back_3 : decode bL_back 3 = .ok (.invokevirtual 53, 3) := by decide +kernel
theorem dL_back_6 : decode bL_back 6 = .ok (.i2l, 1) := by decide +kernel
theorem dL_back_7 : decode bL_back 7 = .ok (.lastore, 1) := by decide +kernel
theorem dL_back_8 : decode bL_back 8 = .ok (.goto 6, 3) := by decide +kernel
theorem dL_back_11 : decode bL_back 11 = .ok (.astore_n 2, 1) := by decide +kernel
theorem dL_back_12 : decode bL_back 12 = .ok (.iconst 1, 1) := by decide +kernel
theorem dL_back_13 : decode bL_back 13 = .ok (.ireturn, 1) := by decide +kernel
theorem dL_back_14 : decode bL_back 14 = .ok (.iconst 0, 1) := by decide +kernel
theorem dL_back_15 : decode bL_back 15 = .ok (.ireturn, 1) := by decide +kernel
theorem dL_cell_0 : decode bL_cell 0 = .ok (.iload_n 1, 1) := by decide +kernel
theorem dL_cell_1 : decode bL_cell 1 = .ok (.aload_n 0, 1) := by decide +kernel
theorem dL_cell_2 : decode bL_cell 2 = .ok (.arraylength, 1) := by decide +kernel
theorem dL_cell_3 : decode bL_cell 3 = .ok (.if_icmp .ge 9, 3) := by decide +kernel
theorem dL_cell_6 : decode bL_cell 6 = .ok (.aload_n 0, 1) := by decide +kernel
theorem dL_cell_7 : decode bL_cell 7 = .ok (.iload_n 1, 1) := by decide +kernel
theorem dL_cell_8 : decode bL_cell 8 = .ok (.iaload, 1) := by decide +kernel
theorem dL_cell_9 : decode bL_cell 9 = .ok (.goto 4, 3) := by decide +kernel
theorem dL_cell_12 : decode bL_cell 12 = .ok (.iconst 0, 1) := by decide +kernel
theorem dL_cell_13 : decode bL_cell 13 = .ok (.ireturn, 1) := by decide +kernel
theorem dL_close_0 : decode bL_close 0 = .ok (.aload_n 1, 1) := by decide +kernel
theorem dL_close_1 : decode bL_close 1 = .ok (.iconst 0, 1) := by decide +kernel
theorem dL_close_2 : decode bL_close 2 = .ok (.aload_n 0, 1) := by decide +kernel
theorem dL_close_3 : decode bL_close 3 = .ok (.invokevirtual 50, 3) := by decide +kernel
theorem dL_close_6 : decode bL_close 6 = .ok (.i2l, 1) := by decide +kernel
theorem dL_close_7 : decode bL_close 7 = .ok (.lastore, 1) := by decide +kernel
theorem dL_close_8 : decode bL_close 8 = .ok (.goto 6, 3) := by decide +kernel
theorem dL_close_11 : decode bL_close 11 = .ok (.astore_n 2, 1) := by decide +kernel
theorem dL_close_12 : decode bL_close 12 = .ok (.iconst 1, 1) := by decide +kernel
theorem dL_close_13 : decode bL_close 13 = .ok (.ireturn, 1) := by decide +kernel
theorem dL_close_14 : decode bL_close 14 = .ok (.iconst 0, 1) := by decide +kernel
theorem dL_close_15 : decode bL_close 15 = .ok (.ireturn, 1) := by decide +kernel
theorem dL_cost_0 : decode bL_cost 0 = .ok (.aload_n 1, 1) := by decide +kernel
theorem dL_cost_1 : decode bL_cost 1 = .ok (.iconst 0, 1) := by decide +kernel
theorem dL_cost_2 : decode bL_cost 2 = .ok (.aload_n 0, 1) := by decide +kernel
theorem dL_cost_3 : decode bL_cost 3 = .ok (.invokevirtual 32, 3) := by decide +kernel
theorem dL_cost_6 : decode bL_cost 6 = .ok (.i2l, 1) := by decide +kernel
theorem dL_cost_7 : decode bL_cost 7 = .ok (.lastore, 1) := by decide +kernel
theorem dL_cost_8 : decode bL_cost 8 = .ok (.goto 6, 3) := by decide +kernel
theorem dL_cost_11 : decode bL_cost 11 = .ok (.astore_n 2, 1) := by decide +kernel
theorem dL_cost_12 : decode bL_cost 12 = .ok (.iconst 1, 1) := by decide +kernel
theorem dL_cost_13 : decode bL_cost 13 = .ok (.ireturn, 1) := by decide +kernel
theorem dL_cost_14 : decode bL_cost 14 = .ok (.iconst 0, 1) := by decide +kernel
theorem dL_cost_15 : decode bL_cost 15 = .ok (.ireturn, 1) := by decide +kernel
theorem dL_enter_0 : decode bL_enter 0 = .ok (.aload_n 1, 1) := by decide +kernel
theorem dL_enter_1 : decode bL_enter 1 = .ok (.iconst 0, 1) := by decide +kernel
theorem dL_enter_2 : decode bL_enter 2 = .ok (.aload_n 0, 1) := by decide +kernel
theorem dL_enter_3 : decode bL_enter 3 = .ok (.invokevirtual 7, 3) := by decide +kernel
theorem dL_enter_6 : decode bL_enter 6 = .ok (.i2l, 1) := by decide +kernel
theorem dL_enter_7 : decode bL_enter 7 = .ok (.lastore, 1) := by decide +kernel
theorem dL_enter_8 : decode bL_enter 8 = .ok (.goto 6, 3) := by decide +kernel
theorem dL_enter_11 : decode bL_enter 11 = .ok (.astore_n 2, 1) := by decide +kernel
theorem dL_enter_12 : decode bL_enter 12 = .ok (.iconst 1, 1) := by decide +kernel
theorem dL_enter_13 : decode bL_enter 13 = .ok (.ireturn, 1) := by decide +kernel
theorem dL_enter_14 : decode bL_enter 14 = .ok (.iconst 0, 1) := by decide +kernel
theorem dL_enter_15 : decode bL_enter 15 = .ok (.ireturn, 1) := by decide +kernel
theorem dL_had_0 : decode bL_had 0 = .ok (.aload_n 3, 1) := by decide +kernel
theorem dL_had_1 : decode bL_had 1 = .ok (.iconst 0, 1) := by decide +kernel
theorem dL_had_2 : decode bL_had 2 = .ok (.aload_n 0, 1) := by decide +kernel
theorem dL_had_3 : decode bL_had 3 = .ok (.iload_n 1, 1) := by decide +kernel
theorem dL_had_4 : decode bL_had 4 = .ok (.iload_n 2, 1) := by decide +kernel
theorem dL_had_5 : decode bL_had 5 = .ok (.invokevirtual 63, 3) := by decide +kernel
theorem dL_had_8 : decode bL_had 8 = .ok (.i2l, 1) := by decide +kernel
theorem dL_had_9 : decode bL_had 9 = .ok (.lastore, 1) := by decide +kernel
theorem dL_had_10 : decode bL_had 10 = .ok (.goto 7, 3) := by decide +kernel
theorem dL_had_13 : decode bL_had 13 = .ok (.astore 4, 2) := by decide +kernel
theorem dL_had_15 : decode bL_had 15 = .ok (.iconst 1, 1) := by decide +kernel
theorem dL_had_16 : decode bL_had 16 = .ok (.ireturn, 1) := by decide +kernel
theorem dL_had_17 : decode bL_had 17 = .ok (.iconst 0, 1) := by decide +kernel
theorem dL_had_18 : decode bL_had 18 = .ok (.ireturn, 1) := by decide +kernel
theorem dL_isWhite_0 : decode bL_isWhite 0 = .ok (.aload_n 2, 1) := by decide +kernel
theorem dL_isWhite_1 : decode bL_isWhite 1 = .ok (.iconst 0, 1) := by decide +kernel
theorem dL_isWhite_2 : decode bL_isWhite 2 = .ok (.aload_n 0, 1) := by decide +kernel
theorem dL_isWhite_3 : decode bL_isWhite 3 = .ok (.iload_n 1, 1) := by decide +kernel
theorem dL_isWhite_4 : decode bL_isWhite 4 = .ok (.invokevirtual 39, 3) := by decide +kernel
theorem dL_isWhite_7 : decode bL_isWhite 7 = .ok (.ifCond .eq 7, 3) := by decide +kernel
theorem dL_isWhite_10 : decode bL_isWhite 10 = .ok (.lconst 1, 1) := by decide +kernel
theorem dL_isWhite_11 : decode bL_isWhite 11 = .ok (.goto 4, 3) := by decide +kernel
theorem dL_isWhite_14 : decode bL_isWhite 14 = .ok (.lconst 0, 1) := by decide +kernel
theorem dL_isWhite_15 : decode bL_isWhite 15 = .ok (.lastore, 1) := by decide +kernel
theorem dL_isWhite_16 : decode bL_isWhite 16 = .ok (.goto 9, 3) := by decide +kernel
theorem dL_isWhite_19 : decode bL_isWhite 19 = .ok (.astore_n 3, 1) := by decide +kernel
theorem dL_isWhite_20 : decode bL_isWhite 20 = .ok (.iconst 1, 1) := by decide +kernel
theorem dL_isWhite_21 : decode bL_isWhite 21 = .ok (.ireturn, 1) := by decide +kernel
theorem dL_isWhite_22 : decode bL_isWhite 22 = .ok (.astore_n 3, 1) := by decide +kernel
theorem dL_isWhite_23 : decode bL_isWhite 23 = .ok (.iconst 2, 1) := by decide +kernel
theorem dL_isWhite_24 : decode bL_isWhite 24 = .ok (.ireturn, 1) := by decide +kernel
theorem dL_isWhite_25 : decode bL_isWhite 25 = .ok (.iconst 0, 1) := by decide +kernel
theorem dL_isWhite_26 : decode bL_isWhite 26 = .ok (.ireturn, 1) := by decide +kernel
theorem dL_leave_0 : decode bL_leave 0 = .ok (.aload_n 0, 1) := by decide +kernel
theorem dL_leave_1 : decode bL_leave 1 = .ok (.iload_n 1, 1) := by decide +kernel
theorem dL_leave_2 : decode bL_leave 2 = .ok (.invokevirtual 15, 3) := by decide +kernel
theorem dL_leave_5 : decode bL_leave 5 = .ok (.goto 12, 3) := by decide +kernel
theorem dL_leave_8 : decode bL_leave 8 = .ok (.astore_n 2, 1) := by decide +kernel
theorem dL_leave_9 : decode bL_leave 9 = .ok (.iconst 1, 1) := by decide +kernel
theorem dL_leave_10 : decode bL_leave 10 = .ok (.ireturn, 1) := by decide +kernel
theorem dL_leave_11 : decode bL_leave 11 = .ok (.astore_n 2, 1) := by decide +kernel
theorem dL_leave_12 : decode bL_leave 12 = .ok (.iconst 2, 1) := by decide +kernel
theorem dL_leave_13 : decode bL_leave 13 = .ok (.ireturn, 1) := by decide +kernel
theorem dL_leave_14 : decode bL_leave 14 = .ok (.astore_n 2, 1) := by decide +kernel
theorem dL_leave_15 : decode bL_leave 15 = .ok (.iconst 3, 1) := by decide +kernel
theorem dL_leave_16 : decode bL_leave 16 = .ok (.ireturn, 1) := by decide +kernel
theorem dL_leave_17 : decode bL_leave 17 = .ok (.iconst 0, 1) := by decide +kernel
theorem dL_leave_18 : decode bL_leave 18 = .ok (.ireturn, 1) := by decide +kernel
theorem dL_missing_0 : decode bL_missing 0 = .ok (.aload_n 1, 1) := by decide +kernel
theorem dL_missing_1 : decode bL_missing 1 = .ok (.iconst 0, 1) := by decide +kernel
theorem dL_missing_2 : decode bL_missing 2 = .ok (.aload_n 0, 1) := by decide +kernel
theorem dL_missing_3 : decode bL_missing 3 = .ok (.invokevirtual 47, 3) := by decide +kernel
theorem dL_missing_6 : decode bL_missing 6 = .ok (.i2l, 1) := by decide +kernel
theorem dL_missing_7 : decode bL_missing 7 = .ok (.lastore, 1) := by decide +kernel
theorem dL_missing_8 : decode bL_missing 8 = .ok (.goto 6, 3) := by decide +kernel
theorem dL_missing_11 : decode bL_missing 11 = .ok (.astore_n 2, 1) := by decide +kernel
theorem dL_missing_12 : decode bL_missing 12 = .ok (.iconst 1, 1) := by decide +kernel
theorem dL_missing_13 : decode bL_missing 13 = .ok (.ireturn, 1) := by decide +kernel
theorem dL_missing_14 : decode bL_missing 14 = .ok (.iconst 0, 1) := by decide +kernel
theorem dL_missing_15 : decode bL_missing 15 = .ok (.ireturn, 1) := by decide +kernel
theorem dL_opponent_0 : decode bL_opponent 0 = .ok (.aload_n 2, 1) := by decide +kernel
theorem dL_opponent_1 : decode bL_opponent 1 = .ok (.iconst 0, 1) := by decide +kernel
theorem dL_opponent_2 : decode bL_opponent 2 = .ok (.aload_n 0, 1) := by decide +kernel
theorem dL_opponent_3 : decode bL_opponent 3 = .ok (.iload_n 1, 1) := by decide +kernel
theorem dL_opponent_4 : decode bL_opponent 4 = .ok (.invokevirtual 35, 3) := by decide +kernel
theorem dL_opponent_7 : decode bL_opponent 7 = .ok (.i2l, 1) := by decide +kernel
theorem dL_opponent_8 : decode bL_opponent 8 = .ok (.lastore, 1) := by decide +kernel
theorem dL_opponent_9 : decode bL_opponent 9 = .ok (.goto 9, 3) := by decide +kernel
theorem dL_opponent_12 : decode bL_opponent 12 = .ok (.astore_n 3, 1) := by decide +kernel
theorem dL_opponent_13 : decode bL_opponent 13 = .ok (.iconst 1, 1) := by decide +kernel
theorem dL_opponent_14 : decode bL_opponent 14 = .ok (.ireturn, 1) := by decide +kernel
theorem dL_opponent_15 : decode bL_opponent 15 = .ok (.astore_n 3, 1) := by decide +kernel
theorem dL_opponent_16 : decode bL_opponent 16 = .ok (.iconst 2, 1) := by decide +kernel
theorem dL_opponent_17 : decode bL_opponent 17 = .ok (.ireturn, 1) := by decide +kernel
theorem dL_opponent_18 : decode bL_opponent 18 = .ok (.iconst 0, 1) := by decide +kernel
theorem dL_opponent_19 : decode bL_opponent 19 = .ok (.ireturn, 1) := by decide +kernel
theorem dL_pair_0 : decode bL_pair 0 = .ok (.aload_n 1, 1) := by decide +kernel
theorem dL_pair_1 : decode bL_pair 1 = .ok (.iconst 0, 1) := by decide +kernel
theorem dL_pair_2 : decode bL_pair 2 = .ok (.aload_n 0, 1) := by decide +kernel
theorem dL_pair_3 : decode bL_pair 3 = .ok (.invokevirtual 29, 3) := by decide +kernel
theorem dL_pair_6 : decode bL_pair 6 = .ok (.i2l, 1) := by decide +kernel
theorem dL_pair_7 : decode bL_pair 7 = .ok (.lastore, 1) := by decide +kernel
theorem dL_pair_8 : decode bL_pair 8 = .ok (.goto 9, 3) := by decide +kernel
theorem dL_pair_11 : decode bL_pair 11 = .ok (.astore_n 2, 1) := by decide +kernel
theorem dL_pair_12 : decode bL_pair 12 = .ok (.iconst 1, 1) := by decide +kernel
theorem dL_pair_13 : decode bL_pair 13 = .ok (.ireturn, 1) := by decide +kernel
theorem dL_pair_14 : decode bL_pair 14 = .ok (.astore_n 2, 1) := by decide +kernel
theorem dL_pair_15 : decode bL_pair 15 = .ok (.iconst 2, 1) := by decide +kernel
theorem dL_pair_16 : decode bL_pair 16 = .ok (.ireturn, 1) := by decide +kernel
theorem dL_pair_17 : decode bL_pair 17 = .ok (.iconst 0, 1) := by decide +kernel
theorem dL_pair_18 : decode bL_pair 18 = .ok (.ireturn, 1) := by decide +kernel
theorem dL_play_0 : decode bL_play 0 = .ok (.aload_n 2, 1) := by decide +kernel
theorem dL_play_1 : decode bL_play 1 = .ok (.iconst 0, 1) := by decide +kernel
theorem dL_play_2 : decode bL_play 2 = .ok (.aload_n 0, 1) := by decide +kernel
theorem dL_play_3 : decode bL_play 3 = .ok (.iload_n 1, 1) := by decide +kernel
theorem dL_play_4 : decode bL_play 4 = .ok (.invokevirtual 56, 3) := by decide +kernel
theorem dL_play_7 : decode bL_play 7 = .ok (.i2l, 1) := by decide +kernel
theorem dL_play_8 : decode bL_play 8 = .ok (.lastore, 1) := by decide +kernel
theorem dL_play_9 : decode bL_play 9 = .ok (.goto 9, 3) := by decide +kernel
theorem dL_play_12 : decode bL_play 12 = .ok (.astore_n 3, 1) := by decide +kernel
theorem dL_play_13 : decode bL_play 13 = .ok (.iconst 1, 1) := by decide +kernel
theorem dL_play_14 : decode bL_play 14 = .ok (.ireturn, 1) := by decide +kernel
theorem dL_play_15 : decode bL_play 15 = .ok (.astore_n 3, 1) := by decide +kernel
theorem dL_play_16 : decode bL_play 16 = .ok (.iconst 2, 1) := by decide +kernel
theorem dL_play_17 : decode bL_play 17 = .ok (.ireturn, 1) := by decide +kernel
theorem dL_play_18 : decode bL_play 18 = .ok (.iconst 0, 1) := by decide +kernel
theorem dL_play_19 : decode bL_play 19 = .ok (.ireturn, 1) := by decide +kernel
theorem dL_report_0 : decode bL_report 0 = .ok (.aload_n 0, 1) := by decide +kernel
theorem dL_report_1 : decode bL_report 1 = .ok (.iload_n 1, 1) := by decide +kernel
theorem dL_report_2 : decode bL_report 2 = .ok (.iload_n 2, 1) := by decide +kernel
theorem dL_report_3 : decode bL_report 3 = .ok (.invokevirtual 43, 3) := by decide +kernel
theorem dL_report_6 : decode bL_report 6 = .ok (.goto 12, 3) := by decide +kernel
theorem dL_report_9 : decode bL_report 9 = .ok (.astore_n 3, 1) := by decide +kernel
theorem dL_report_10 : decode bL_report 10 = .ok (.iconst 1, 1) := by decide +kernel
theorem dL_report_11 : decode bL_report 11 = .ok (.ireturn, 1) := by decide +kernel
theorem dL_report_12 : decode bL_report 12 = .ok (.astore_n 3, 1) := by decide +kernel
theorem dL_report_13 : decode bL_report 13 = .ok (.iconst 2, 1) := by decide +kernel
theorem dL_report_14 : decode bL_report 14 = .ok (.ireturn, 1) := by decide +kernel
theorem dL_report_15 : decode bL_report 15 = .ok (.astore_n 3, 1) := by decide +kernel
theorem dL_report_16 : decode bL_report 16 = .ok (.iconst 3, 1) := by decide +kernel
theorem dL_report_17 : decode bL_report 17 = .ok (.ireturn, 1) := by decide +kernel
theorem dL_report_18 : decode bL_report 18 = .ok (.iconst 0, 1) := by decide +kernel
theorem dL_report_19 : decode bL_report 19 = .ok (.ireturn, 1) := by decide +kernel
theorem dL_table_0 : decode bL_table 0 = .ok (.aload_n 2, 1) := by decide +kernel
theorem dL_table_1 : decode bL_table 1 = .ok (.iconst 0, 1) := by decide +kernel
theorem dL_table_2 : decode bL_table 2 = .ok (.aload_n 0, 1) := by decide +kernel
theorem dL_table_3 : decode bL_table 3 = .ok (.iload_n 1, 1) := by decide +kernel
theorem dL_table_4 : decode bL_table 4 = .ok (.invokevirtual 66, 3) := by decide +kernel
theorem dL_table_7 : decode bL_table 7 = .ok (.i2l, 1) := by decide +kernel
theorem dL_table_8 : decode bL_table 8 = .ok (.lastore, 1) := by decide +kernel
theorem dL_table_9 : decode bL_table 9 = .ok (.goto 6, 3) := by decide +kernel
theorem dL_table_12 : decode bL_table 12 = .ok (.astore_n 3, 1) := by decide +kernel
theorem dL_table_13 : decode bL_table 13 = .ok (.iconst 1, 1) := by decide +kernel
theorem dL_table_14 : decode bL_table 14 = .ok (.ireturn, 1) := by decide +kernel
theorem dL_table_15 : decode bL_table 15 = .ok (.iconst 0, 1) := by decide +kernel
theorem dL_table_16 : decode bL_table 16 = .ok (.ireturn, 1) := by decide +kernel
theorem dL_tell_0 : decode bL_tell 0 = .ok (.aload_n 3, 1) := by decide +kernel
theorem dL_tell_1 : decode bL_tell 1 = .ok (.iconst 0, 1) := by decide +kernel
theorem dL_tell_2 : decode bL_tell 2 = .ok (.aload_n 0, 1) := by decide +kernel
theorem dL_tell_3 : decode bL_tell 3 = .ok (.iload_n 1, 1) := by decide +kernel
theorem dL_tell_4 : decode bL_tell 4 = .ok (.iload_n 2, 1) := by decide +kernel
theorem dL_tell_5 : decode bL_tell 5 = .ok (.invokevirtual 59, 3) := by decide +kernel
theorem dL_tell_8 : decode bL_tell 8 = .ok (.i2l, 1) := by decide +kernel
theorem dL_tell_9 : decode bL_tell 9 = .ok (.lastore, 1) := by decide +kernel
theorem dL_tell_10 : decode bL_tell 10 = .ok (.goto 7, 3) := by decide +kernel
theorem dL_tell_13 : decode bL_tell 13 = .ok (.astore 4, 2) := by decide +kernel
theorem dL_tell_15 : decode bL_tell 15 = .ok (.iconst 1, 1) := by decide +kernel
theorem dL_tell_16 : decode bL_tell 16 = .ok (.ireturn, 1) := by decide +kernel
theorem dL_tell_17 : decode bL_tell 17 = .ok (.iconst 0, 1) := by decide +kernel
theorem dL_tell_18 : decode bL_tell 18 = .ok (.ireturn, 1) := by decide +kernel
