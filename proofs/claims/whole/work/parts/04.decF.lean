theorem dF_apart_0 : decode bF_apart 0 = .ok (.aload_n 0, 1) := by decide +kernel
theorem dF_apart_1 : decode bF_apart 1 = .ok (.iload_n 1, 1) := by decide +kernel
theorem dF_apart_2 : decode bF_apart 2 = .ok (.invokevirtual 59, 3) := by decide +kernel
theorem dF_apart_5 : decode bF_apart 5 = .ok (.aload_n 0, 1) := by decide +kernel
theorem dF_apart_6 : decode bF_apart 6 = .ok (.iload_n 2, 1) := by decide +kernel
theorem dF_apart_7 : decode bF_apart 7 = .ok (.invokevirtual 59, 3) := by decide +kernel
theorem dF_apart_10 : decode bF_apart 10 = .ok (.iload_n 1, 1) := by decide +kernel
theorem dF_apart_11 : decode bF_apart 11 = .ok (.iload_n 2, 1) := by decide +kernel
theorem dF_apart_12 : decode bF_apart 12 = .ok (.if_icmp .ne 13, 3) := by decide +kernel
theorem dF_apart_15 : decode bF_apart 15 = .ok (.new 68, 3) := by decide +kernel
theorem dF_apart_18 : decode bF_apart 18 = .ok (.dup, 1) := by decide +kernel
theorem dF_apart_19 : decode bF_apart 19 = .ok (.ldc 70, 2) := by decide +kernel
theorem dF_apart_21 : decode bF_apart 21 = .ok (.invokespecial 72, 3) := by decide +kernel
theorem dF_apart_24 : decode bF_apart 24 = .ok (.athrow, 1) := by decide +kernel
theorem dF_apart_25 : decode bF_apart 25 = .ok (.aload_n 0, 1) := by decide +kernel
theorem dF_apart_26 : decode bF_apart 26 = .ok (.invokevirtual 49, 3) := by decide +kernel
theorem dF_apart_29 : decode bF_apart 29 = .ok (.aload_n 0, 1) := by decide +kernel
theorem dF_apart_30 : decode bF_apart 30 = .ok (.getfield 18, 3) := by decide +kernel
theorem dF_apart_33 : decode bF_apart 33 = .ok (.iload_n 1, 1) := by decide +kernel
theorem dF_apart_34 : decode bF_apart 34 = .ok (.iaload, 1) := by decide +kernel
theorem dF_apart_35 : decode bF_apart 35 = .ok (.iload_n 2, 1) := by decide +kernel
theorem dF_apart_36 : decode bF_apart 36 = .ok (.ishr, 1) := by decide +kernel
theorem dF_apart_37 : decode bF_apart 37 = .ok (.iconst 1, 1) := by decide +kernel
theorem dF_apart_38 : decode bF_apart 38 = .ok (.iand, 1) := by decide +kernel
theorem dF_apart_39 : decode bF_apart 39 = .ok (.iconst 1, 1) := by decide +kernel
theorem dF_apart_40 : decode bF_apart 40 = .ok (.if_icmp .ne 7, 3) := by decide +kernel
theorem dF_apart_43 : decode bF_apart 43 = .ok (.iconst 1, 1) := by decide +kernel
theorem dF_apart_44 : decode bF_apart 44 = .ok (.goto 4, 3) := by decide +kernel
theorem dF_apart_47 : decode bF_apart 47 = .ok (.iconst 0, 1) := by decide +kernel
theorem dF_apart_48 : decode bF_apart 48 = .ok (.istore 4, 2) := by decide +kernel
theorem dF_apart_50 : decode bF_apart 50 = .ok (.iload 4, 2) := by decide +kernel
theorem dF_apart_52 : decode bF_apart 52 = .ok (.iload_n 3, 1) := by decide +kernel
theorem dF_apart_53 : decode bF_apart 53 = .ok (.if_icmp .ne 5, 3) := by decide +kernel
theorem dF_apart_56 : decode bF_apart 56 = .ok (.iconst 0, 1) := by decide +kernel
theorem dF_apart_57 : decode bF_apart 57 = .ok (.ireturn, 1) := by decide +kernel
theorem dF_apart_58 : decode bF_apart 58 = .ok (.aload_n 0, 1) := by decide +kernel
theorem dF_apart_59 : decode bF_apart 59 = .ok (.getfield 18, 3) := by decide +kernel
theorem dF_apart_62 : decode bF_apart 62 = .ok (.iload_n 1, 1) := by decide +kernel
theorem dF_apart_63 : decode bF_apart 63 = .ok (.dup2, 1) := by decide +kernel
theorem dF_apart_64 : decode bF_apart 64 = .ok (.iaload, 1) := by decide +kernel
theorem dF_apart_65 : decode bF_apart 65 = .ok (.iconst 1, 1) := by decide +kernel
theorem dF_apart_66 : decode bF_apart 66 = .ok (.iload_n 2, 1) := by decide +kernel
theorem dF_apart_67 : decode bF_apart 67 = .ok (.ishl, 1) := by decide +kernel
theorem dF_apart_68 : decode bF_apart 68 = .ok (.ixor, 1) := by decide +kernel
theorem dF_apart_69 : decode bF_apart 69 = .ok (.iastore, 1) := by decide +kernel
theorem dF_apart_70 : decode bF_apart 70 = .ok (.aload_n 0, 1) := by decide +kernel
theorem dF_apart_71 : decode bF_apart 71 = .ok (.getfield 18, 3) := by decide +kernel
theorem dF_apart_74 : decode bF_apart 74 = .ok (.iload_n 2, 1) := by decide +kernel
theorem dF_apart_75 : decode bF_apart 75 = .ok (.dup2, 1) := by decide +kernel
theorem dF_apart_76 : decode bF_apart 76 = .ok (.iaload, 1) := by decide +kernel
theorem dF_apart_77 : decode bF_apart 77 = .ok (.iconst 1, 1) := by decide +kernel
theorem dF_apart_78 : decode bF_apart 78 = .ok (.iload_n 1, 1) := by decide +kernel
theorem dF_apart_79 : decode bF_apart 79 = .ok (.ishl, 1) := by decide +kernel
theorem dF_apart_80 : decode bF_apart 80 = .ok (.ixor, 1) := by decide +kernel
theorem dF_apart_81 : decode bF_apart 81 = .ok (.iastore, 1) := by decide +kernel
theorem dF_apart_82 : decode bF_apart 82 = .ok (.iconst 1, 1) := by decide +kernel
theorem dF_apart_83 : decode bF_apart 83 = .ok (.ireturn, 1) := by decide +kernel
theorem dF_back_0 : decode bF_back 0 = .ok (.aload_n 0, 1) := by decide +kernel
theorem dF_back_1 : decode bF_back 1 = .ok (.getfield 135, 3) := by decide +kernel
theorem dF_back_4 : decode bF_back 4 = .ok (.ifCond .eq 13, 3) := by decide +kernel
theorem dF_back_7 : decode bF_back 7 = .ok (.aload_n 0, 1) := by decide +kernel
theorem dF_back_8 : decode bF_back 8 = .ok (.iconst 0, 1) := by decide +kernel
theorem dF_back_9 : decode bF_back 9 = .ok (.putfield 135, 3) := by decide +kernel
theorem dF_back_12 : decode bF_back 12 = .ok (.aload_n 0, 1) := by decide +kernel
theorem dF_back_13 : decode bF_back 13 = .ok (.getfield 73, 3) := by decide +kernel
theorem dF_back_16 : decode bF_back 16 = .ok (.ireturn, 1) := by decide +kernel
theorem dF_back_17 : decode bF_back 17 = .ok (.aload_n 0, 1) := by decide +kernel
theorem dF_back_18 : decode bF_back 18 = .ok (.getfield 73, 3) := by decide +kernel
theorem dF_back_21 : decode bF_back 21 = .ok (.ifCond .ne 13, 3) := by decide +kernel
theorem dF_back_24 : decode bF_back 24 = .ok (.new 52, 3) := by decide +kernel
theorem dF_back_27 : decode bF_back 27 = .ok (.dup, 1) := by decide +kernel
theorem dF_back_28 : decode bF_back 28 = .ok (.ldc 139, 2) := by decide +kernel
theorem dF_back_30 : decode bF_back 30 = .ok (.invokespecial 56, 3) := by decide +kernel
theorem dF_back_33 : decode bF_back 33 = .ok (.athrow, 1) := by decide +kernel
theorem dF_back_34 : decode bF_back 34 = .ok (.aload_n 0, 1) := by decide +kernel
theorem dF_back_35 : decode bF_back 35 = .ok (.dup, 1) := by decide +kernel
theorem dF_back_36 : decode bF_back 36 = .ok (.getfield 73, 3) := by decide +kernel
theorem dF_back_39 : decode bF_back 39 = .ok (.iconst 1, 1) := by decide +kernel
theorem dF_back_40 : decode bF_back 40 = .ok (.isub, 1) := by decide +kernel
theorem dF_back_41 : decode bF_back 41 = .ok (.putfield 73, 3) := by decide +kernel
theorem dF_back_44 : decode bF_back 44 = .ok (.aload_n 0, 1) := by decide +kernel
theorem dF_back_45 : decode bF_back 45 = .ok (.getfield 25, 3) := by decide +kernel
theorem dF_back_48 : decode bF_back 48 = .ok (.aload_n 0, 1) := by decide +kernel
theorem dF_back_49 : decode bF_back 49 = .ok (.getfield 11, 3) := by decide +kernel
theorem dF_back_52 : decode bF_back 52 = .ok (.aload_n 0, 1) := by decide +kernel
theorem dF_back_53 : decode bF_back 53 = .ok (.getfield 73, 3) := by decide +kernel
theorem dF_back_56 : decode bF_back 56 = .ok (.invokevirtual 141, 3) := by decide +kernel
theorem dF_back_59 : decode bF_back 59 = .ok (.aload_n 0, 1) := by decide +kernel
theorem dF_back_60 : decode bF_back 60 = .ok (.getfield 73, 3) := by decide +kernel
theorem dF_back_63 : decode bF_back 63 = .ok (.ireturn, 1) := by decide +kernel
theorem dF_close_0 : decode bF_close 0 = .ok (.aload_n 0, 1) := by decide +kernel
theorem dF_close_1 : decode bF_close 1 = .ok (.invokevirtual 100, 3) := by decide +kernel
theorem dF_close_4 : decode bF_close 4 = .ok (.aload_n 0, 1) := by decide +kernel
theorem dF_close_5 : decode bF_close 5 = .ok (.invokevirtual 127, 3) := by decide +kernel
theorem dF_close_8 : decode bF_close 8 = .ok (.ifCond .le 13, 3) := by decide +kernel
theorem dF_close_11 : decode bF_close 11 = .ok (.new 52, 3) := by decide +kernel
theorem dF_close_14 : decode bF_close 14 = .ok (.dup, 1) := by decide +kernel
theorem dF_close_15 : decode bF_close 15 = .ok (.ldc 130, 2) := by decide +kernel
theorem dF_close_17 : decode bF_close 17 = .ok (.invokespecial 56, 3) := by decide +kernel
theorem dF_close_20 : decode bF_close 20 = .ok (.athrow, 1) := by decide +kernel
theorem dF_close_21 : decode bF_close 21 = .ok (.aload_n 0, 1) := by decide +kernel
theorem dF_close_22 : decode bF_close 22 = .ok (.invokevirtual 132, 3) := by decide +kernel
theorem dF_close_25 : decode bF_close 25 = .ok (.aload_n 0, 1) := by decide +kernel
theorem dF_close_26 : decode bF_close 26 = .ok (.getfield 73, 3) := by decide +kernel
theorem dF_close_29 : decode bF_close 29 = .ok (.ireturn, 1) := by decide +kernel
theorem dF_closeRound_0 : decode bF_closeRound 0 = .ok (.aload_n 0, 1) := by decide +kernel
theorem dF_closeRound_1 : decode bF_closeRound 1 = .ok (.iconst 0, 1) := by decide +kernel
theorem dF_closeRound_2 : decode bF_closeRound 2 = .ok (.putfield 135, 3) := by decide +kernel
theorem dF_closeRound_5 : decode bF_closeRound 5 = .ok (.aload_n 0, 1) := by decide +kernel
theorem dF_closeRound_6 : decode bF_closeRound 6 = .ok (.dup, 1) := by decide +kernel
theorem dF_closeRound_7 : decode bF_closeRound 7 = .ok (.getfield 73, 3) := by decide +kernel
theorem dF_closeRound_10 : decode bF_closeRound 10 = .ok (.iconst 1, 1) := by decide +kernel
theorem dF_closeRound_11 : decode bF_closeRound 11 = .ok (.iadd, 1) := by decide +kernel
theorem dF_closeRound_12 : decode bF_closeRound 12 = .ok (.putfield 73, 3) := by decide +kernel
theorem dF_closeRound_15 : decode bF_closeRound 15 = .ok (.aload_n 0, 1) := by decide +kernel
theorem dF_closeRound_16 : decode bF_closeRound 16 = .ok (.getfield 25, 3) := by decide +kernel
theorem dF_closeRound_19 : decode bF_closeRound 19 = .ok (.aload_n 0, 1) := by decide +kernel
theorem dF_closeRound_20 : decode bF_closeRound 20 = .ok (.getfield 11, 3) := by decide +kernel
theorem dF_closeRound_23 : decode bF_closeRound 23 = .ok (.aload_n 0, 1) := by decide +kernel
theorem dF_closeRound_24 : decode bF_closeRound 24 = .ok (.getfield 73, 3) := by decide +kernel
theorem dF_closeRound_27 : decode bF_closeRound 27 = .ok (.invokevirtual 141, 3) := by decide +kernel
theorem dF_closeRound_30 : decode bF_closeRound 30 = .ok (.return_, 1) := by decide +kernel
theorem dF_cost_0 : decode bF_cost 0 = .ok (.aload_n 0, 1) := by decide +kernel
theorem dF_cost_1 : decode bF_cost 1 = .ok (.invokevirtual 88, 3) := by decide +kernel
theorem dF_cost_4 : decode bF_cost 4 = .ok (.aload_n 0, 1) := by decide +kernel
theorem dF_cost_5 : decode bF_cost 5 = .ok (.getfield 32, 3) := by decide +kernel
theorem dF_cost_8 : decode bF_cost 8 = .ok (.invokevirtual 91, 3) := by decide +kernel
theorem dF_cost_11 : decode bF_cost 11 = .ok (.ifCond .ne 13, 3) := by decide +kernel
theorem dF_cost_14 : decode bF_cost 14 = .ok (.new 63, 3) := by decide +kernel
theorem dF_cost_17 : decode bF_cost 17 = .ok (.dup, 1) := by decide +kernel
theorem dF_cost_18 : decode bF_cost 18 = .ok (.ldc 82, 2) := by decide +kernel
theorem dF_cost_20 : decode bF_cost 20 = .ok (.invokespecial 67, 3) := by decide +kernel
theorem dF_cost_23 : decode bF_cost 23 = .ok (.athrow, 1) := by decide +kernel
theorem dF_cost_24 : decode bF_cost 24 = .ok (.aload_n 0, 1) := by decide +kernel
theorem dF_cost_25 : decode bF_cost 25 = .ok (.getfield 32, 3) := by decide +kernel
theorem dF_cost_28 : decode bF_cost 28 = .ok (.invokevirtual 94, 3) := by decide +kernel
theorem dF_cost_31 : decode bF_cost 31 = .ok (.ireturn, 1) := by decide +kernel
theorem dF_countUntold_0 : decode bF_countUntold 0 = .ok (.iconst 0, 1) := by decide +kernel
theorem dF_countUntold_1 : decode bF_countUntold 1 = .ok (.istore_n 1, 1) := by decide +kernel
theorem dF_countUntold_2 : decode bF_countUntold 2 = .ok (.iconst 0, 1) := by decide +kernel
theorem dF_countUntold_3 : decode bF_countUntold 3 = .ok (.istore_n 2, 1) := by decide +kernel
theorem dF_countUntold_4 : decode bF_countUntold 4 = .ok (.iload_n 2, 1) := by decide +kernel
theorem dF_countUntold_5 : decode bF_countUntold 5 = .ok (.aload_n 0, 1) := by decide +kernel
theorem dF_countUntold_6 : decode bF_countUntold 6 = .ok (.getfield 45, 3) := by decide +kernel
theorem dF_countUntold_9 : decode bF_countUntold 9 = .ok (.if_icmp .ge 39, 3) := by decide +kernel
theorem dF_countUntold_12 : decode bF_countUntold 12 = .ok (.aload_n 0, 1) := by decide +kernel
theorem dF_countUntold_13 : decode bF_countUntold 13 = .ok (.getfield 11, 3) := by decide +kernel
theorem dF_countUntold_16 : decode bF_countUntold 16 = .ok (.aload_n 0, 1) := by decide +kernel
theorem dF_countUntold_17 : decode bF_countUntold 17 = .ok (.getfield 73, 3) := by decide +kernel
theorem dF_countUntold_20 : decode bF_countUntold 20 = .ok (.aaload, 1) := by decide +kernel
theorem dF_countUntold_21 : decode bF_countUntold 21 = .ok (.iload_n 2, 1) := by decide +kernel
theorem dF_countUntold_22 : decode bF_countUntold 22 = .ok (.iaload, 1) := by decide +kernel
theorem dF_countUntold_23 : decode bF_countUntold 23 = .ok (.istore_n 3, 1) := by decide +kernel
theorem dF_countUntold_24 : decode bF_countUntold 24 = .ok (.iload_n 3, 1) := by decide +kernel
theorem dF_countUntold_25 : decode bF_countUntold 25 = .ok (.invokestatic 118, 3) := by decide +kernel
theorem dF_countUntold_28 : decode bF_countUntold 28 = .ok (.ifCond .eq 14, 3) := by decide +kernel
theorem dF_countUntold_31 : decode bF_countUntold 31 = .ok (.iload_n 3, 1) := by decide +kernel
theorem dF_countUntold_32 : decode bF_countUntold 32 = .ok (.invokestatic 113, 3) := by decide +kernel
theorem dF_countUntold_35 : decode bF_countUntold 35 = .ok (.iconst 1, 1) := by decide +kernel
theorem dF_countUntold_36 : decode bF_countUntold 36 = .ok (.if_icmp .ne 6, 3) := by decide +kernel
theorem dF_countUntold_39 : decode bF_countUntold 39 = .ok (.iinc 1 1, 3) := by decide +kernel
theorem dF_countUntold_42 : decode bF_countUntold 42 = .ok (.iinc 2 1, 3) := by decide +kernel
theorem dF_countUntold_45 : decode bF_countUntold 45 = .ok (.goto (-41), 3) := by decide +kernel
theorem dF_countUntold_48 : decode bF_countUntold 48 = .ok (.iload_n 1, 1) := by decide +kernel
theorem dF_countUntold_49 : decode bF_countUntold 49 = .ok (.ireturn, 1) := by decide +kernel
theorem dF_enter_0 : decode bF_enter 0 = .ok (.aload_n 0, 1) := by decide +kernel
theorem dF_enter_1 : decode bF_enter 1 = .ok (.invokevirtual 49, 3) := by decide +kernel
theorem dF_enter_4 : decode bF_enter 4 = .ok (.aload_n 0, 1) := by decide +kernel
theorem dF_enter_5 : decode bF_enter 5 = .ok (.getfield 45, 3) := by decide +kernel
theorem dF_enter_8 : decode bF_enter 8 = .ok (.bipush 12, 2) := by decide +kernel
theorem dF_enter_10 : decode bF_enter 10 = .ok (.if_icmp .ne 13, 3) := by decide +kernel
theorem dF_enter_13 : decode bF_enter 13 = .ok (.new 52, 3) := by decide +kernel
theorem dF_enter_16 : decode bF_enter 16 = .ok (.dup, 1) := by decide +kernel
theorem dF_enter_17 : decode bF_enter 17 = .ok (.ldc 54, 2) := by decide +kernel
theorem dF_enter_19 : decode bF_enter 19 = .ok (.invokespecial 56, 3) := by decide +kernel
theorem dF_enter_22 : decode bF_enter 22 = .ok (.athrow, 1) := by decide +kernel
theorem dF_enter_23 : decode bF_enter 23 = .ok (.aload_n 0, 1) := by decide +kernel
theorem dF_enter_24 : decode bF_enter 24 = .ok (.getfield 14, 3) := by decide +kernel
theorem dF_enter_27 : decode bF_enter 27 = .ok (.aload_n 0, 1) := by decide +kernel
theorem dF_enter_28 : decode bF_enter 28 = .ok (.getfield 45, 3) := by decide +kernel
theorem dF_enter_31 : decode bF_enter 31 = .ok (.iconst 1, 1) := by decide +kernel
theorem dF_enter_32 : decode bF_enter 32 = .ok (.bastore, 1) := by decide +kernel
theorem dF_enter_33 : decode bF_enter 33 = .ok (.aload_n 0, 1) := by decide +kernel
theorem dF_enter_34 : decode bF_enter 34 = .ok (.dup, 1) := by decide +kernel
theorem dF_enter_35 : decode bF_enter 35 = .ok (.getfield 45, 3) := by decide +kernel
theorem dF_enter_38 : decode bF_enter 38 = .ok (.iconst 1, 1) := by decide +kernel
theorem dF_enter_39 : decode bF_enter 39 = .ok (.iadd, 1) := by decide +kernel
theorem dF_enter_40 : decode bF_enter 40 = .ok (.putfield 45, 3) := by decide +kernel
theorem dF_enter_43 : decode bF_enter 43 = .ok (.aload_n 0, 1) := by decide +kernel
theorem dF_enter_44 : decode bF_enter 44 = .ok (.getfield 45, 3) := by decide +kernel
theorem dF_enter_47 : decode bF_enter 47 = .ok (.iconst 1, 1) := by decide +kernel
theorem dF_enter_48 : decode bF_enter 48 = .ok (.isub, 1) := by decide +kernel
theorem dF_enter_49 : decode bF_enter 49 = .ok (.ireturn, 1) := by decide +kernel
theorem dF_had_0 : decode bF_had 0 = .ok (.aload_n 0, 1) := by decide +kernel
theorem dF_had_1 : decode bF_had 1 = .ok (.iload_n 2, 1) := by decide +kernel
theorem dF_had_2 : decode bF_had 2 = .ok (.invokevirtual 59, 3) := by decide +kernel
theorem dF_had_5 : decode bF_had 5 = .ok (.iload_n 1, 1) := by decide +kernel
theorem dF_had_6 : decode bF_had 6 = .ok (.ifCond .lt 11, 3) := by decide +kernel
theorem dF_had_9 : decode bF_had 9 = .ok (.iload_n 1, 1) := by decide +kernel
theorem dF_had_10 : decode bF_had 10 = .ok (.aload_n 0, 1) := by decide +kernel
theorem dF_had_11 : decode bF_had 11 = .ok (.getfield 73, 3) := by decide +kernel
theorem dF_had_14 : decode bF_had 14 = .ok (.if_icmp .lt 13, 3) := by decide +kernel
theorem dF_had_17 : decode bF_had 17 = .ok (.new 173, 3) := by decide +kernel
theorem dF_had_20 : decode bF_had 20 = .ok (.dup, 1) := by decide +kernel
theorem dF_had_21 : decode bF_had 21 = .ok (.ldc 178, 2) := by decide +kernel
theorem dF_had_23 : decode bF_had 23 = .ok (.invokespecial 177, 3) := by decide +kernel
theorem dF_had_26 : decode bF_had 26 = .ok (.athrow, 1) := by decide +kernel
theorem dF_had_27 : decode bF_had 27 = .ok (.aload_n 0, 1) := by decide +kernel
theorem dF_had_28 : decode bF_had 28 = .ok (.getfield 11, 3) := by decide +kernel
theorem dF_had_31 : decode bF_had 31 = .ok (.iload_n 1, 1) := by decide +kernel
theorem dF_had_32 : decode bF_had 32 = .ok (.aaload, 1) := by decide +kernel
theorem dF_had_33 : decode bF_had 33 = .ok (.iload_n 2, 1) := by decide +kernel
theorem dF_had_34 : decode bF_had 34 = .ok (.iaload, 1) := by decide +kernel
theorem dF_had_35 : decode bF_had 35 = .ok (.ireturn, 1) := by decide +kernel
theorem dF_init_0 : decode bF_init 0 = .ok (.aload_n 0, 1) := by decide +kernel
theorem dF_init_1 : decode bF_init 1 = .ok (.invokespecial 1, 3) := by decide +kernel
theorem dF_init_4 : decode bF_init 4 = .ok (.aload_n 0, 1) := by decide +kernel
theorem dF_init_5 : decode bF_init 5 = .ok (.bipush 16, 2) := by decide +kernel
theorem dF_init_7 : decode bF_init 7 = .ok (.bipush 12, 2) := by decide +kernel
theorem dF_init_9 : decode bF_init 9 = .ok (.multianewarray 9 2, 4) := by decide +kernel
theorem dF_init_13 : decode bF_init 13 = .ok (.putfield 11, 3) := by decide +kernel
theorem dF_init_16 : decode bF_init 16 = .ok (.aload_n 0, 1) := by decide +kernel
theorem dF_init_17 : decode bF_init 17 = .ok (.bipush 12, 2) := by decide +kernel
theorem dF_init_19 : decode bF_init 19 = .ok (.newarray .boolean, 2) := by decide +kernel
theorem dF_init_21 : decode bF_init 21 = .ok (.putfield 14, 3) := by decide +kernel
theorem dF_init_24 : decode bF_init 24 = .ok (.aload_n 0, 1) := by decide +kernel
theorem dF_init_25 : decode bF_init 25 = .ok (.bipush 12, 2) := by decide +kernel
theorem dF_init_27 : decode bF_init 27 = .ok (.newarray .int, 2) := by decide +kernel
theorem dF_init_29 : decode bF_init 29 = .ok (.putfield 18, 3) := by decide +kernel
theorem dF_init_32 : decode bF_init 32 = .ok (.aload_n 0, 1) := by decide +kernel
theorem dF_init_33 : decode bF_init 33 = .ok (.new 22, 3) := by decide +kernel
theorem dF_init_36 : decode bF_init 36 = .ok (.dup, 1) := by decide +kernel
theorem dF_init_37 : decode bF_init 37 = .ok (.invokespecial 24, 3) := by decide +kernel
theorem dF_init_40 : decode bF_init 40 = .ok (.putfield 25, 3) := by decide +kernel
theorem dF_init_43 : decode bF_init 43 = .ok (.aload_n 0, 1) := by decide +kernel
theorem dF_init_44 : decode bF_init 44 = .ok (.new 29, 3) := by decide +kernel
theorem dF_init_47 : decode bF_init 47 = .ok (.dup, 1) := by decide +kernel
theorem dF_init_48 : decode bF_init 48 = .ok (.invokespecial 31, 3) := by decide +kernel
theorem dF_init_51 : decode bF_init 51 = .ok (.putfield 32, 3) := by decide +kernel
theorem dF_init_54 : decode bF_init 54 = .ok (.aload_n 0, 1) := by decide +kernel
theorem dF_init_55 : decode bF_init 55 = .ok (.iconst 2, 1) := by decide +kernel
theorem dF_init_56 : decode bF_init 56 = .ok (.bipush 12, 2) := by decide +kernel
theorem dF_init_58 : decode bF_init 58 = .ok (.iload_n 1, 1) := by decide +kernel
theorem dF_init_59 : decode bF_init 59 = .ok (.invokestatic 36, 3) := by decide +kernel
theorem dF_init_62 : decode bF_init 62 = .ok (.invokestatic 42, 3) := by decide +kernel
theorem dF_init_65 : decode bF_init 65 = .ok (.putfield 45, 3) := by decide +kernel
theorem dF_init_68 : decode bF_init 68 = .ok (.iconst 0, 1) := by decide +kernel
theorem dF_init_69 : decode bF_init 69 = .ok (.istore_n 2, 1) := by decide +kernel
theorem dF_init_70 : decode bF_init 70 = .ok (.iload_n 2, 1) := by decide +kernel
theorem dF_init_71 : decode bF_init 71 = .ok (.aload_n 0, 1) := by decide +kernel
theorem dF_init_72 : decode bF_init 72 = .ok (.getfield 45, 3) := by decide +kernel
theorem dF_init_75 : decode bF_init 75 = .ok (.if_icmp .ge 16, 3) := by decide +kernel
theorem dF_init_78 : decode bF_init 78 = .ok (.aload_n 0, 1) := by decide +kernel
theorem dF_init_79 : decode bF_init 79 = .ok (.getfield 14, 3) := by decide +kernel
theorem dF_init_82 : decode bF_init 82 = .ok (.iload_n 2, 1) := by decide +kernel
theorem dF_init_83 : decode bF_init 83 = .ok (.iconst 1, 1) := by decide +kernel
theorem dF_init_84 : decode bF_init 84 = .ok (.bastore, 1) := by decide +kernel
theorem dF_init_85 : decode bF_init 85 = .ok (.iinc 2 1, 3) := by decide +kernel
theorem dF_init_88 : decode bF_init 88 = .ok (.goto (-18), 3) := by decide +kernel
theorem dF_init_91 : decode bF_init 91 = .ok (.return_, 1) := by decide +kernel
theorem dF_isIn_0 : decode bF_isIn 0 = .ok (.aload_n 0, 1) := by decide +kernel
theorem dF_isIn_1 : decode bF_isIn 1 = .ok (.iload_n 1, 1) := by decide +kernel
theorem dF_isIn_2 : decode bF_isIn 2 = .ok (.invokevirtual 150, 3) := by decide +kernel
theorem dF_isIn_5 : decode bF_isIn 5 = .ok (.ifCond .eq 16, 3) := by decide +kernel
theorem dF_isIn_8 : decode bF_isIn 8 = .ok (.aload_n 0, 1) := by decide +kernel
theorem dF_isIn_9 : decode bF_isIn 9 = .ok (.getfield 14, 3) := by decide +kernel
theorem dF_isIn_12 : decode bF_isIn 12 = .ok (.iload_n 1, 1) := by decide +kernel
theorem dF_isIn_13 : decode bF_isIn 13 = .ok (.baload, 1) := by decide +kernel
theorem dF_isIn_14 : decode bF_isIn 14 = .ok (.ifCond .eq 7, 3) := by decide +kernel
theorem dF_isIn_17 : decode bF_isIn 17 = .ok (.iconst 1, 1) := by decide +kernel
theorem dF_isIn_18 : decode bF_isIn 18 = .ok (.goto 4, 3) := by decide +kernel
theorem dF_isIn_21 : decode bF_isIn 21 = .ok (.iconst 0, 1) := by decide +kernel
theorem dF_isIn_22 : decode bF_isIn 22 = .ok (.ireturn, 1) := by decide +kernel
theorem dF_isPlayer_0 : decode bF_isPlayer 0 = .ok (.iload_n 1, 1) := by decide +kernel
theorem dF_isPlayer_1 : decode bF_isPlayer 1 = .ok (.ifCond .lt 15, 3) := by decide +kernel
theorem dF_isPlayer_4 : decode bF_isPlayer 4 = .ok (.iload_n 1, 1) := by decide +kernel
theorem dF_isPlayer_5 : decode bF_isPlayer 5 = .ok (.aload_n 0, 1) := by decide +kernel
theorem dF_isPlayer_6 : decode bF_isPlayer 6 = .ok (.getfield 45, 3) := by decide +kernel
theorem dF_isPlayer_9 : decode bF_isPlayer 9 = .ok (.if_icmp .ge 7, 3) := by decide +kernel
theorem dF_isPlayer_12 : decode bF_isPlayer 12 = .ok (.iconst 1, 1) := by decide +kernel
theorem dF_isPlayer_13 : decode bF_isPlayer 13 = .ok (.goto 4, 3) := by decide +kernel
theorem dF_isPlayer_16 : decode bF_isPlayer 16 = .ok (.iconst 0, 1) := by decide +kernel
theorem dF_isPlayer_17 : decode bF_isPlayer 17 = .ok (.ireturn, 1) := by decide +kernel
theorem dF_isWhite_0 : decode bF_isWhite 0 = .ok (.aload_n 0, 1) := by decide +kernel
theorem dF_isWhite_1 : decode bF_isWhite 1 = .ok (.iload_n 1, 1) := by decide +kernel
theorem dF_isWhite_2 : decode bF_isWhite 2 = .ok (.invokevirtual 59, 3) := by decide +kernel
theorem dF_isWhite_5 : decode bF_isWhite 5 = .ok (.aload_n 0, 1) := by decide +kernel
theorem dF_isWhite_6 : decode bF_isWhite 6 = .ok (.invokevirtual 100, 3) := by decide +kernel
theorem dF_isWhite_9 : decode bF_isWhite 9 = .ok (.aload_n 0, 1) := by decide +kernel
theorem dF_isWhite_10 : decode bF_isWhite 10 = .ok (.getfield 11, 3) := by decide +kernel
theorem dF_isWhite_13 : decode bF_isWhite 13 = .ok (.aload_n 0, 1) := by decide +kernel
theorem dF_isWhite_14 : decode bF_isWhite 14 = .ok (.getfield 73, 3) := by decide +kernel
theorem dF_isWhite_17 : decode bF_isWhite 17 = .ok (.aaload, 1) := by decide +kernel
theorem dF_isWhite_18 : decode bF_isWhite 18 = .ok (.iload_n 1, 1) := by decide +kernel
theorem dF_isWhite_19 : decode bF_isWhite 19 = .ok (.iaload, 1) := by decide +kernel
theorem dF_isWhite_20 : decode bF_isWhite 20 = .ok (.istore_n 2, 1) := by decide +kernel
theorem dF_isWhite_21 : decode bF_isWhite 21 = .ok (.iload_n 2, 1) := by decide +kernel
theorem dF_isWhite_22 : decode bF_isWhite 22 = .ok (.invokestatic 109, 3) := by decide +kernel
theorem dF_isWhite_25 : decode bF_isWhite 25 = .ok (.ifCond .eq 15, 3) := by decide +kernel
theorem dF_isWhite_28 : decode bF_isWhite 28 = .ok (.iload_n 2, 1) := by decide +kernel
theorem dF_isWhite_29 : decode bF_isWhite 29 = .ok (.invokestatic 113, 3) := by decide +kernel
theorem dF_isWhite_32 : decode bF_isWhite 32 = .ok (.iconst 1, 1) := by decide +kernel
theorem dF_isWhite_33 : decode bF_isWhite 33 = .ok (.if_icmp .ne 7, 3) := by decide +kernel
theorem dF_isWhite_36 : decode bF_isWhite 36 = .ok (.iconst 1, 1) := by decide +kernel
theorem dF_isWhite_37 : decode bF_isWhite 37 = .ok (.goto 4, 3) := by decide +kernel
theorem dF_isWhite_40 : decode bF_isWhite 40 = .ok (.iconst 0, 1) := by decide +kernel
theorem dF_isWhite_41 : decode bF_isWhite 41 = .ok (.ireturn, 1) := by decide +kernel
theorem dF_leave_0 : decode bF_leave 0 = .ok (.aload_n 0, 1) := by decide +kernel
theorem dF_leave_1 : decode bF_leave 1 = .ok (.iload_n 1, 1) := by decide +kernel
theorem dF_leave_2 : decode bF_leave 2 = .ok (.invokevirtual 59, 3) := by decide +kernel
theorem dF_leave_5 : decode bF_leave 5 = .ok (.aload_n 0, 1) := by decide +kernel
theorem dF_leave_6 : decode bF_leave 6 = .ok (.getfield 14, 3) := by decide +kernel
theorem dF_leave_9 : decode bF_leave 9 = .ok (.iload_n 1, 1) := by decide +kernel
theorem dF_leave_10 : decode bF_leave 10 = .ok (.baload, 1) := by decide +kernel
theorem dF_leave_11 : decode bF_leave 11 = .ok (.ifCond .ne 13, 3) := by decide +kernel
theorem dF_leave_14 : decode bF_leave 14 = .ok (.new 63, 3) := by decide +kernel
theorem dF_leave_17 : decode bF_leave 17 = .ok (.dup, 1) := by decide +kernel
theorem dF_leave_18 : decode bF_leave 18 = .ok (.ldc 65, 2) := by decide +kernel
theorem dF_leave_20 : decode bF_leave 20 = .ok (.invokespecial 67, 3) := by decide +kernel
theorem dF_leave_23 : decode bF_leave 23 = .ok (.athrow, 1) := by decide +kernel
theorem dF_leave_24 : decode bF_leave 24 = .ok (.aload_n 0, 1) := by decide +kernel
theorem dF_leave_25 : decode bF_leave 25 = .ok (.invokevirtual 49, 3) := by decide +kernel
theorem dF_leave_28 : decode bF_leave 28 = .ok (.aload_n 0, 1) := by decide +kernel
theorem dF_leave_29 : decode bF_leave 29 = .ok (.getfield 14, 3) := by decide +kernel
theorem dF_leave_32 : decode bF_leave 32 = .ok (.iload_n 1, 1) := by decide +kernel
theorem dF_leave_33 : decode bF_leave 33 = .ok (.iconst 0, 1) := by decide +kernel
theorem dF_leave_34 : decode bF_leave 34 = .ok (.bastore, 1) := by decide +kernel
theorem dF_leave_35 : decode bF_leave 35 = .ok (.return_, 1) := by decide +kernel
theorem dF_missing_0 : decode bF_missing 0 = .ok (.aload_n 0, 1) := by decide +kernel
theorem dF_missing_1 : decode bF_missing 1 = .ok (.invokevirtual 100, 3) := by decide +kernel
theorem dF_missing_4 : decode bF_missing 4 = .ok (.aload_n 0, 1) := by decide +kernel
theorem dF_missing_5 : decode bF_missing 5 = .ok (.invokevirtual 127, 3) := by decide +kernel
theorem dF_missing_8 : decode bF_missing 8 = .ok (.ireturn, 1) := by decide +kernel
theorem dF_noteResult_0 : decode bF_noteResult 0 = .ok (.aload_n 0, 1) := by decide +kernel
theorem dF_noteResult_1 : decode bF_noteResult 1 = .ok (.getfield 11, 3) := by decide +kernel
theorem dF_noteResult_4 : decode bF_noteResult 4 = .ok (.aload_n 0, 1) := by decide +kernel
theorem dF_noteResult_5 : decode bF_noteResult 5 = .ok (.getfield 73, 3) := by decide +kernel
theorem dF_noteResult_8 : decode bF_noteResult 8 = .ok (.aaload, 1) := by decide +kernel
theorem dF_noteResult_9 : decode bF_noteResult 9 = .ok (.astore_n 3, 1) := by decide +kernel
theorem dF_noteResult_10 : decode bF_noteResult 10 = .ok (.aload_n 3, 1) := by decide +kernel
theorem dF_noteResult_11 : decode bF_noteResult 11 = .ok (.iload_n 1, 1) := by decide +kernel
theorem dF_noteResult_12 : decode bF_noteResult 12 = .ok (.iaload, 1) := by decide +kernel
theorem dF_noteResult_13 : decode bF_noteResult 13 = .ok (.invokestatic 103, 3) := by decide +kernel
theorem dF_noteResult_16 : decode bF_noteResult 16 = .ok (.istore 4, 2) := by decide +kernel
theorem dF_noteResult_18 : decode bF_noteResult 18 = .ok (.aload_n 3, 1) := by decide +kernel
theorem dF_noteResult_19 : decode bF_noteResult 19 = .ok (.iload_n 1, 1) := by decide +kernel
theorem dF_noteResult_20 : decode bF_noteResult 20 = .ok (.aload_n 3, 1) := by decide +kernel
theorem dF_noteResult_21 : decode bF_noteResult 21 = .ok (.iload_n 1, 1) := by decide +kernel
theorem dF_noteResult_22 : decode bF_noteResult 22 = .ok (.iaload, 1) := by decide +kernel
theorem dF_noteResult_23 : decode bF_noteResult 23 = .ok (.iload_n 2, 1) := by decide +kernel
theorem dF_noteResult_24 : decode bF_noteResult 24 = .ok (.invokestatic 199, 3) := by decide +kernel
theorem dF_noteResult_27 : decode bF_noteResult 27 = .ok (.iastore, 1) := by decide +kernel
theorem dF_noteResult_28 : decode bF_noteResult 28 = .ok (.aload_n 3, 1) := by decide +kernel
theorem dF_noteResult_29 : decode bF_noteResult 29 = .ok (.iload 4, 2) := by decide +kernel
theorem dF_noteResult_31 : decode bF_noteResult 31 = .ok (.aload_n 3, 1) := by decide +kernel
theorem dF_noteResult_32 : decode bF_noteResult 32 = .ok (.iload 4, 2) := by decide +kernel
theorem dF_noteResult_34 : decode bF_noteResult 34 = .ok (.iaload, 1) := by decide +kernel
theorem dF_noteResult_35 : decode bF_noteResult 35 = .ok (.iconst 2, 1) := by decide +kernel
theorem dF_noteResult_36 : decode bF_noteResult 36 = .ok (.iload_n 2, 1) := by decide +kernel
theorem dF_noteResult_37 : decode bF_noteResult 37 = .ok (.isub, 1) := by decide +kernel
theorem dF_noteResult_38 : decode bF_noteResult 38 = .ok (.invokestatic 199, 3) := by decide +kernel
theorem dF_noteResult_41 : decode bF_noteResult 41 = .ok (.iastore, 1) := by decide +kernel
theorem dF_noteResult_42 : decode bF_noteResult 42 = .ok (.return_, 1) := by decide +kernel
theorem dF_noteResultsByNumber_0 : decode bF_noteResultsByNumber 0 = .ok (.aload_n 0, 1) := by decide +kernel
theorem dF_noteResultsByNumber_1 : decode bF_noteResultsByNumber 1 = .ok (.getfield 11, 3) := by decide +kernel
theorem dF_noteResultsByNumber_4 : decode bF_noteResultsByNumber 4 = .ok (.aload_n 0, 1) := by decide +kernel
theorem dF_noteResultsByNumber_5 : decode bF_noteResultsByNumber 5 = .ok (.getfield 73, 3) := by decide +kernel
theorem dF_noteResultsByNumber_8 : decode bF_noteResultsByNumber 8 = .ok (.aaload, 1) := by decide +kernel
theorem dF_noteResultsByNumber_9 : decode bF_noteResultsByNumber 9 = .ok (.astore_n 1, 1) := by decide +kernel
theorem dF_noteResultsByNumber_10 : decode bF_noteResultsByNumber 10 = .ok (.iconst 0, 1) := by decide +kernel
theorem dF_noteResultsByNumber_11 : decode bF_noteResultsByNumber 11 = .ok (.istore_n 2, 1) := by decide +kernel
theorem dF_noteResultsByNumber_12 : decode bF_noteResultsByNumber 12 = .ok (.iload_n 2, 1) := by decide +kernel
theorem dF_noteResultsByNumber_13 : decode bF_noteResultsByNumber 13 = .ok (.aload_n 0, 1) := by decide +kernel
theorem dF_noteResultsByNumber_14 : decode bF_noteResultsByNumber 14 = .ok (.getfield 45, 3) := by decide +kernel
theorem dF_noteResultsByNumber_17 : decode bF_noteResultsByNumber 17 = .ok (.if_icmp .ge 51, 3) := by decide +kernel
theorem dF_noteResultsByNumber_20 : decode bF_noteResultsByNumber 20 = .ok (.aload_n 1, 1) := by decide +kernel
theorem dF_noteResultsByNumber_21 : decode bF_noteResultsByNumber 21 = .ok (.iload_n 2, 1) := by decide +kernel
theorem dF_noteResultsByNumber_22 : decode bF_noteResultsByNumber 22 = .ok (.iaload, 1) := by decide +kernel
theorem dF_noteResultsByNumber_23 : decode bF_noteResultsByNumber 23 = .ok (.invokestatic 118, 3) := by decide +kernel
theorem dF_noteResultsByNumber_26 : decode bF_noteResultsByNumber 26 = .ok (.ifCond .eq 36, 3) := by decide +kernel
theorem dF_noteResultsByNumber_29 : decode bF_noteResultsByNumber 29 = .ok (.iload_n 2, 1) := by decide +kernel
theorem dF_noteResultsByNumber_30 : decode bF_noteResultsByNumber 30 = .ok (.aload_n 1, 1) := by decide +kernel
theorem dF_noteResultsByNumber_31 : decode bF_noteResultsByNumber 31 = .ok (.iload_n 2, 1) := by decide +kernel
theorem dF_noteResultsByNumber_32 : decode bF_noteResultsByNumber 32 = .ok (.iaload, 1) := by decide +kernel
theorem dF_noteResultsByNumber_33 : decode bF_noteResultsByNumber 33 = .ok (.invokestatic 103, 3) := by decide +kernel
theorem dF_noteResultsByNumber_36 : decode bF_noteResultsByNumber 36 = .ok (.iadd, 1) := by decide +kernel
theorem dF_noteResultsByNumber_37 : decode bF_noteResultsByNumber 37 = .ok (.iconst 3, 1) := by decide +kernel
theorem dF_noteResultsByNumber_38 : decode bF_noteResultsByNumber 38 = .ok (.irem, 1) := by decide +kernel
theorem dF_noteResultsByNumber_39 : decode bF_noteResultsByNumber 39 = .ok (.ifCond .ne 7, 3) := by decide +kernel
theorem dF_noteResultsByNumber_42 : decode bF_noteResultsByNumber 42 = .ok (.iconst 1, 1) := by decide +kernel
theorem dF_noteResultsByNumber_43 : decode bF_noteResultsByNumber 43 = .ok (.goto 4, 3) := by decide +kernel
theorem dF_noteResultsByNumber_46 : decode bF_noteResultsByNumber 46 = .ok (.iconst 0, 1) := by decide +kernel
theorem dF_noteResultsByNumber_47 : decode bF_noteResultsByNumber 47 = .ok (.istore_n 3, 1) := by decide +kernel
theorem dF_noteResultsByNumber_48 : decode bF_noteResultsByNumber 48 = .ok (.aload_n 0, 1) := by decide +kernel
theorem dF_noteResultsByNumber_49 : decode bF_noteResultsByNumber 49 = .ok (.iload_n 2, 1) := by decide +kernel
theorem dF_noteResultsByNumber_50 : decode bF_noteResultsByNumber 50 = .ok (.iload_n 3, 1) := by decide +kernel
theorem dF_noteResultsByNumber_51 : decode bF_noteResultsByNumber 51 = .ok (.ifCond .eq 7, 3) := by decide +kernel
theorem dF_noteResultsByNumber_54 : decode bF_noteResultsByNumber 54 = .ok (.iconst 1, 1) := by decide +kernel
theorem dF_noteResultsByNumber_55 : decode bF_noteResultsByNumber 55 = .ok (.goto 4, 3) := by decide +kernel
theorem dF_noteResultsByNumber_58 : decode bF_noteResultsByNumber 58 = .ok (.iconst 2, 1) := by decide +kernel
theorem dF_noteResultsByNumber_59 : decode bF_noteResultsByNumber 59 = .ok (.invokevirtual 123, 3) := by decide +kernel
theorem dF_noteResultsByNumber_62 : decode bF_noteResultsByNumber 62 = .ok (.iinc 2 1, 3) := by decide +kernel
theorem dF_noteResultsByNumber_65 : decode bF_noteResultsByNumber 65 = .ok (.goto (-53), 3) := by decide +kernel
theorem dF_noteResultsByNumber_68 : decode bF_noteResultsByNumber 68 = .ok (.return_, 1) := by decide +kernel
theorem dF_openNextRound_0 : decode bF_openNextRound 0 = .ok (.aload_n 0, 1) := by decide +kernel
theorem dF_openNextRound_1 : decode bF_openNextRound 1 = .ok (.invokevirtual 88, 3) := by decide +kernel
theorem dF_openNextRound_4 : decode bF_openNextRound 4 = .ok (.aload_n 0, 1) := by decide +kernel
theorem dF_openNextRound_5 : decode bF_openNextRound 5 = .ok (.getfield 32, 3) := by decide +kernel
theorem dF_openNextRound_8 : decode bF_openNextRound 8 = .ok (.invokevirtual 91, 3) := by decide +kernel
theorem dF_openNextRound_11 : decode bF_openNextRound 11 = .ok (.ifCond .ne 5, 3) := by decide +kernel
theorem dF_openNextRound_14 : decode bF_openNextRound 14 = .ok (.iconst 0, 1) := by decide +kernel
theorem dF_openNextRound_15 : decode bF_openNextRound 15 = .ok (.ireturn, 1) := by decide +kernel
theorem dF_openNextRound_16 : decode bF_openNextRound 16 = .ok (.aload_n 0, 1) := by decide +kernel
theorem dF_openNextRound_17 : decode bF_openNextRound 17 = .ok (.getfield 32, 3) := by decide +kernel
theorem dF_openNextRound_20 : decode bF_openNextRound 20 = .ok (.aload_n 0, 1) := by decide +kernel
theorem dF_openNextRound_21 : decode bF_openNextRound 21 = .ok (.getfield 11, 3) := by decide +kernel
theorem dF_openNextRound_24 : decode bF_openNextRound 24 = .ok (.aload_n 0, 1) := by decide +kernel
theorem dF_openNextRound_25 : decode bF_openNextRound 25 = .ok (.getfield 73, 3) := by decide +kernel
theorem dF_openNextRound_28 : decode bF_openNextRound 28 = .ok (.aaload, 1) := by decide +kernel
theorem dF_openNextRound_29 : decode bF_openNextRound 29 = .ok (.aload_n 0, 1) := by decide +kernel
theorem dF_openNextRound_30 : decode bF_openNextRound 30 = .ok (.getfield 25, 3) := by decide +kernel
theorem dF_openNextRound_33 : decode bF_openNextRound 33 = .ok (.aload_n 0, 1) := by decide +kernel
theorem dF_openNextRound_34 : decode bF_openNextRound 34 = .ok (.getfield 73, 3) := by decide +kernel
theorem dF_openNextRound_37 : decode bF_openNextRound 37 = .ok (.invokevirtual 195, 3) := by decide +kernel
theorem dF_openNextRound_40 : decode bF_openNextRound 40 = .ok (.aload_n 0, 1) := by decide +kernel
theorem dF_openNextRound_41 : decode bF_openNextRound 41 = .ok (.iconst 1, 1) := by decide +kernel
theorem dF_openNextRound_42 : decode bF_openNextRound 42 = .ok (.putfield 135, 3) := by decide +kernel
theorem dF_openNextRound_45 : decode bF_openNextRound 45 = .ok (.iconst 1, 1) := by decide +kernel
theorem dF_openNextRound_46 : decode bF_openNextRound 46 = .ok (.ireturn, 1) := by decide +kernel
theorem dF_opponent_0 : decode bF_opponent 0 = .ok (.aload_n 0, 1) := by decide +kernel
theorem dF_opponent_1 : decode bF_opponent 1 = .ok (.iload_n 1, 1) := by decide +kernel
theorem dF_opponent_2 : decode bF_opponent 2 = .ok (.invokevirtual 59, 3) := by decide +kernel
theorem dF_opponent_5 : decode bF_opponent 5 = .ok (.aload_n 0, 1) := by decide +kernel
theorem dF_opponent_6 : decode bF_opponent 6 = .ok (.invokevirtual 100, 3) := by decide +kernel
theorem dF_opponent_9 : decode bF_opponent 9 = .ok (.aload_n 0, 1) := by decide +kernel
theorem dF_opponent_10 : decode bF_opponent 10 = .ok (.getfield 11, 3) := by decide +kernel
theorem dF_opponent_13 : decode bF_opponent 13 = .ok (.aload_n 0, 1) := by decide +kernel
theorem dF_opponent_14 : decode bF_opponent 14 = .ok (.getfield 73, 3) := by decide +kernel
theorem dF_opponent_17 : decode bF_opponent 17 = .ok (.aaload, 1) := by decide +kernel
theorem dF_opponent_18 : decode bF_opponent 18 = .ok (.iload_n 1, 1) := by decide +kernel
theorem dF_opponent_19 : decode bF_opponent 19 = .ok (.iaload, 1) := by decide +kernel
theorem dF_opponent_20 : decode bF_opponent 20 = .ok (.istore_n 2, 1) := by decide +kernel
theorem dF_opponent_21 : decode bF_opponent 21 = .ok (.iload_n 2, 1) := by decide +kernel
theorem dF_opponent_22 : decode bF_opponent 22 = .ok (.iconst (-1), 1) := by decide +kernel
theorem dF_opponent_23 : decode bF_opponent 23 = .ok (.if_icmp .ne 7, 3) := by decide +kernel
theorem dF_opponent_26 : decode bF_opponent 26 = .ok (.iconst (-1), 1) := by decide +kernel
theorem dF_opponent_27 : decode bF_opponent 27 = .ok (.goto 7, 3) := by decide +kernel
theorem dF_opponent_30 : decode bF_opponent 30 = .ok (.iload_n 2, 1) := by decide +kernel
theorem dF_opponent_31 : decode bF_opponent 31 = .ok (.invokestatic 103, 3) := by decide +kernel
theorem dF_opponent_34 : decode bF_opponent 34 = .ok (.ireturn, 1) := by decide +kernel
theorem dF_pair_0 : decode bF_pair 0 = .ok (.aload_n 0, 1) := by decide +kernel
theorem dF_pair_1 : decode bF_pair 1 = .ok (.invokevirtual 49, 3) := by decide +kernel
theorem dF_pair_4 : decode bF_pair 4 = .ok (.aload_n 0, 1) := by decide +kernel
theorem dF_pair_5 : decode bF_pair 5 = .ok (.getfield 73, 3) := by decide +kernel
theorem dF_pair_8 : decode bF_pair 8 = .ok (.bipush 16, 2) := by decide +kernel
theorem dF_pair_10 : decode bF_pair 10 = .ok (.if_icmp .ne 13, 3) := by decide +kernel
theorem dF_pair_13 : decode bF_pair 13 = .ok (.new 52, 3) := by decide +kernel
theorem dF_pair_16 : decode bF_pair 16 = .ok (.dup, 1) := by decide +kernel
theorem dF_pair_17 : decode bF_pair 17 = .ok (.ldc 76, 2) := by decide +kernel
theorem dF_pair_19 : decode bF_pair 19 = .ok (.invokespecial 56, 3) := by decide +kernel
theorem dF_pair_22 : decode bF_pair 22 = .ok (.athrow, 1) := by decide +kernel
theorem dF_pair_23 : decode bF_pair 23 = .ok (.aload_n 0, 1) := by decide +kernel
theorem dF_pair_24 : decode bF_pair 24 = .ok (.invokevirtual 78, 3) := by decide +kernel
theorem dF_pair_27 : decode bF_pair 27 = .ok (.ifCond .ne 13, 3) := by decide +kernel
theorem dF_pair_30 : decode bF_pair 30 = .ok (.new 63, 3) := by decide +kernel
theorem dF_pair_33 : decode bF_pair 33 = .ok (.dup, 1) := by decide +kernel
theorem dF_pair_34 : decode bF_pair 34 = .ok (.ldc 82, 2) := by decide +kernel
theorem dF_pair_36 : decode bF_pair 36 = .ok (.invokespecial 67, 3) := by decide +kernel
theorem dF_pair_39 : decode bF_pair 39 = .ok (.athrow, 1) := by decide +kernel
theorem dF_pair_40 : decode bF_pair 40 = .ok (.aload_n 0, 1) := by decide +kernel
theorem dF_pair_41 : decode bF_pair 41 = .ok (.getfield 32, 3) := by decide +kernel
theorem dF_pair_44 : decode bF_pair 44 = .ok (.invokevirtual 84, 3) := by decide +kernel
theorem dF_pair_47 : decode bF_pair 47 = .ok (.ireturn, 1) := by decide +kernel
theorem dF_play_0 : decode bF_play 0 = .ok (.iload_n 1, 1) := by decide +kernel
theorem dF_play_1 : decode bF_play 1 = .ok (.ifCond .lt 9, 3) := by decide +kernel
theorem dF_play_4 : decode bF_play 4 = .ok (.iload_n 1, 1) := by decide +kernel
theorem dF_play_5 : decode bF_play 5 = .ok (.bipush 16, 2) := by decide +kernel
theorem dF_play_7 : decode bF_play 7 = .ok (.if_icmp .le 13, 3) := by decide +kernel
theorem dF_play_10 : decode bF_play 10 = .ok (.new 68, 3) := by decide +kernel
theorem dF_play_13 : decode bF_play 13 = .ok (.dup, 1) := by decide +kernel
theorem dF_play_14 : decode bF_play 14 = .ok (.ldc 145, 2) := by decide +kernel
theorem dF_play_16 : decode bF_play 16 = .ok (.invokespecial 72, 3) := by decide +kernel
theorem dF_play_19 : decode bF_play 19 = .ok (.athrow, 1) := by decide +kernel
theorem dF_play_20 : decode bF_play 20 = .ok (.aload_n 0, 1) := by decide +kernel
theorem dF_play_21 : decode bF_play 21 = .ok (.invokevirtual 49, 3) := by decide +kernel
theorem dF_play_24 : decode bF_play 24 = .ok (.iconst 0, 1) := by decide +kernel
theorem dF_play_25 : decode bF_play 25 = .ok (.istore_n 2, 1) := by decide +kernel
theorem dF_play_26 : decode bF_play 26 = .ok (.iload_n 2, 1) := by decide +kernel
theorem dF_play_27 : decode bF_play 27 = .ok (.iload_n 1, 1) := by decide +kernel
theorem dF_play_28 : decode bF_play 28 = .ok (.if_icmp .ge 33, 3) := by decide +kernel
theorem dF_play_31 : decode bF_play 31 = .ok (.aload_n 0, 1) := by decide +kernel
theorem dF_play_32 : decode bF_play 32 = .ok (.getfield 73, 3) := by decide +kernel
theorem dF_play_35 : decode bF_play 35 = .ok (.bipush 16, 2) := by decide +kernel
theorem dF_play_37 : decode bF_play 37 = .ok (.if_icmp .ge 24, 3) := by decide +kernel
theorem dF_play_40 : decode bF_play 40 = .ok (.aload_n 0, 1) := by decide +kernel
theorem dF_play_41 : decode bF_play 41 = .ok (.invokevirtual 78, 3) := by decide +kernel
theorem dF_play_44 : decode bF_play 44 = .ok (.ifCond .eq 17, 3) := by decide +kernel
theorem dF_play_47 : decode bF_play 47 = .ok (.aload_n 0, 1) := by decide +kernel
theorem dF_play_48 : decode bF_play 48 = .ok (.invokevirtual 147, 3) := by decide +kernel
theorem dF_play_51 : decode bF_play 51 = .ok (.aload_n 0, 1) := by decide +kernel
theorem dF_play_52 : decode bF_play 52 = .ok (.invokevirtual 132, 3) := by decide +kernel
theorem dF_play_55 : decode bF_play 55 = .ok (.iinc 2 1, 3) := by decide +kernel
theorem dF_play_58 : decode bF_play 58 = .ok (.goto (-32), 3) := by decide +kernel
theorem dF_play_61 : decode bF_play 61 = .ok (.iload_n 2, 1) := by decide +kernel
theorem dF_play_62 : decode bF_play 62 = .ok (.ireturn, 1) := by decide +kernel
theorem dF_players_0 : decode bF_players 0 = .ok (.aload_n 0, 1) := by decide +kernel
theorem dF_players_1 : decode bF_players 1 = .ok (.getfield 45, 3) := by decide +kernel
theorem dF_players_4 : decode bF_players 4 = .ok (.ireturn, 1) := by decide +kernel
theorem dF_refuseNoPlayer_0 : decode bF_refuseNoPlayer 0 = .ok (.aload_n 0, 1) := by decide +kernel
theorem dF_refuseNoPlayer_1 : decode bF_refuseNoPlayer 1 = .ok (.iload_n 1, 1) := by decide +kernel
theorem dF_refuseNoPlayer_2 : decode bF_refuseNoPlayer 2 = .ok (.invokevirtual 150, 3) := by decide +kernel
theorem dF_refuseNoPlayer_5 : decode bF_refuseNoPlayer 5 = .ok (.ifCond .ne 13, 3) := by decide +kernel
theorem dF_refuseNoPlayer_8 : decode bF_refuseNoPlayer 8 = .ok (.new 173, 3) := by decide +kernel
theorem dF_refuseNoPlayer_11 : decode bF_refuseNoPlayer 11 = .ok (.dup, 1) := by decide +kernel
theorem dF_refuseNoPlayer_12 : decode bF_refuseNoPlayer 12 = .ok (.ldc 185, 2) := by decide +kernel
theorem dF_refuseNoPlayer_14 : decode bF_refuseNoPlayer 14 = .ok (.invokespecial 177, 3) := by decide +kernel
theorem dF_refuseNoPlayer_17 : decode bF_refuseNoPlayer 17 = .ok (.athrow, 1) := by decide +kernel
theorem dF_refuseNoPlayer_18 : decode bF_refuseNoPlayer 18 = .ok (.return_, 1) := by decide +kernel
theorem dF_refuseNoRound_0 : decode bF_refuseNoRound 0 = .ok (.aload_n 0, 1) := by decide +kernel
theorem dF_refuseNoRound_1 : decode bF_refuseNoRound 1 = .ok (.getfield 135, 3) := by decide +kernel
theorem dF_refuseNoRound_4 : decode bF_refuseNoRound 4 = .ok (.ifCond .ne 13, 3) := by decide +kernel
theorem dF_refuseNoRound_7 : decode bF_refuseNoRound 7 = .ok (.new 52, 3) := by decide +kernel
theorem dF_refuseNoRound_10 : decode bF_refuseNoRound 10 = .ok (.dup, 1) := by decide +kernel
theorem dF_refuseNoRound_11 : decode bF_refuseNoRound 11 = .ok (.ldc 189, 2) := by decide +kernel
theorem dF_refuseNoRound_13 : decode bF_refuseNoRound 13 = .ok (.invokespecial 56, 3) := by decide +kernel
theorem dF_refuseNoRound_16 : decode bF_refuseNoRound 16 = .ok (.athrow, 1) := by decide +kernel
theorem dF_refuseNoRound_17 : decode bF_refuseNoRound 17 = .ok (.return_, 1) := by decide +kernel
theorem dF_refuseOpenRound_0 : decode bF_refuseOpenRound 0 = .ok (.aload_n 0, 1) := by decide +kernel
theorem dF_refuseOpenRound_1 : decode bF_refuseOpenRound 1 = .ok (.getfield 135, 3) := by decide +kernel
theorem dF_refuseOpenRound_4 : decode bF_refuseOpenRound 4 = .ok (.ifCond .eq 13, 3) := by decide +kernel
theorem dF_refuseOpenRound_7 : decode bF_refuseOpenRound 7 = .ok (.new 52, 3) := by decide +kernel
theorem dF_refuseOpenRound_10 : decode bF_refuseOpenRound 10 = .ok (.dup, 1) := by decide +kernel
theorem dF_refuseOpenRound_11 : decode bF_refuseOpenRound 11 = .ok (.ldc 187, 2) := by decide +kernel
theorem dF_refuseOpenRound_13 : decode bF_refuseOpenRound 13 = .ok (.invokespecial 56, 3) := by decide +kernel
theorem dF_refuseOpenRound_16 : decode bF_refuseOpenRound 16 = .ok (.athrow, 1) := by decide +kernel
theorem dF_refuseOpenRound_17 : decode bF_refuseOpenRound 17 = .ok (.return_, 1) := by decide +kernel
theorem dF_report_0 : decode bF_report 0 = .ok (.aload_n 0, 1) := by decide +kernel
theorem dF_report_1 : decode bF_report 1 = .ok (.iload_n 1, 1) := by decide +kernel
theorem dF_report_2 : decode bF_report 2 = .ok (.invokevirtual 59, 3) := by decide +kernel
theorem dF_report_5 : decode bF_report 5 = .ok (.iload_n 2, 1) := by decide +kernel
theorem dF_report_6 : decode bF_report 6 = .ok (.ifCond .lt 8, 3) := by decide +kernel
theorem dF_report_9 : decode bF_report 9 = .ok (.iload_n 2, 1) := by decide +kernel
theorem dF_report_10 : decode bF_report 10 = .ok (.iconst 2, 1) := by decide +kernel
theorem dF_report_11 : decode bF_report 11 = .ok (.if_icmp .le 13, 3) := by decide +kernel
theorem dF_report_14 : decode bF_report 14 = .ok (.new 68, 3) := by decide +kernel
theorem dF_report_17 : decode bF_report 17 = .ok (.dup, 1) := by decide +kernel
theorem dF_report_18 : decode bF_report 18 = .ok (.ldc 116, 2) := by decide +kernel
theorem dF_report_20 : decode bF_report 20 = .ok (.invokespecial 72, 3) := by decide +kernel
theorem dF_report_23 : decode bF_report 23 = .ok (.athrow, 1) := by decide +kernel
theorem dF_report_24 : decode bF_report 24 = .ok (.aload_n 0, 1) := by decide +kernel
theorem dF_report_25 : decode bF_report 25 = .ok (.invokevirtual 100, 3) := by decide +kernel
theorem dF_report_28 : decode bF_report 28 = .ok (.aload_n 0, 1) := by decide +kernel
theorem dF_report_29 : decode bF_report 29 = .ok (.getfield 11, 3) := by decide +kernel
theorem dF_report_32 : decode bF_report 32 = .ok (.aload_n 0, 1) := by decide +kernel
theorem dF_report_33 : decode bF_report 33 = .ok (.getfield 73, 3) := by decide +kernel
theorem dF_report_36 : decode bF_report 36 = .ok (.aaload, 1) := by decide +kernel
theorem dF_report_37 : decode bF_report 37 = .ok (.iload_n 1, 1) := by decide +kernel
theorem dF_report_38 : decode bF_report 38 = .ok (.iaload, 1) := by decide +kernel
theorem dF_report_39 : decode bF_report 39 = .ok (.invokestatic 118, 3) := by decide +kernel
theorem dF_report_42 : decode bF_report 42 = .ok (.ifCond .ne 13, 3) := by decide +kernel
theorem dF_report_45 : decode bF_report 45 = .ok (.new 52, 3) := by decide +kernel
theorem dF_report_48 : decode bF_report 48 = .ok (.dup, 1) := by decide +kernel
theorem dF_report_49 : decode bF_report 49 = .ok (.ldc 121, 2) := by decide +kernel
theorem dF_report_51 : decode bF_report 51 = .ok (.invokespecial 56, 3) := by decide +kernel
theorem dF_report_54 : decode bF_report 54 = .ok (.athrow, 1) := by decide +kernel
theorem dF_report_55 : decode bF_report 55 = .ok (.aload_n 0, 1) := by decide +kernel
theorem dF_report_56 : decode bF_report 56 = .ok (.iload_n 1, 1) := by decide +kernel
theorem dF_report_57 : decode bF_report 57 = .ok (.iload_n 2, 1) := by decide +kernel
theorem dF_report_58 : decode bF_report 58 = .ok (.invokevirtual 123, 3) := by decide +kernel
theorem dF_report_61 : decode bF_report 61 = .ok (.return_, 1) := by decide +kernel
theorem dF_rounds_0 : decode bF_rounds 0 = .ok (.aload_n 0, 1) := by decide +kernel
theorem dF_rounds_1 : decode bF_rounds 1 = .ok (.getfield 73, 3) := by decide +kernel
theorem dF_rounds_4 : decode bF_rounds 4 = .ok (.ireturn, 1) := by decide +kernel
theorem dF_table_0 : decode bF_table 0 = .ok (.iload_n 1, 1) := by decide +kernel
theorem dF_table_1 : decode bF_table 1 = .ok (.ifCond .lt 11, 3) := by decide +kernel
theorem dF_table_4 : decode bF_table 4 = .ok (.iload_n 1, 1) := by decide +kernel
theorem dF_table_5 : decode bF_table 5 = .ok (.aload_n 0, 1) := by decide +kernel
theorem dF_table_6 : decode bF_table 6 = .ok (.getfield 45, 3) := by decide +kernel
theorem dF_table_9 : decode bF_table 9 = .ok (.if_icmp .lt 13, 3) := by decide +kernel
theorem dF_table_12 : decode bF_table 12 = .ok (.new 173, 3) := by decide +kernel
theorem dF_table_15 : decode bF_table 15 = .ok (.dup, 1) := by decide +kernel
theorem dF_table_16 : decode bF_table 16 = .ok (.ldc 180, 2) := by decide +kernel
theorem dF_table_18 : decode bF_table 18 = .ok (.invokespecial 177, 3) := by decide +kernel
theorem dF_table_21 : decode bF_table 21 = .ok (.athrow, 1) := by decide +kernel
theorem dF_table_22 : decode bF_table 22 = .ok (.aload_n 0, 1) := by decide +kernel
theorem dF_table_23 : decode bF_table 23 = .ok (.getfield 25, 3) := by decide +kernel
theorem dF_table_26 : decode bF_table 26 = .ok (.iload_n 1, 1) := by decide +kernel
theorem dF_table_27 : decode bF_table 27 = .ok (.aload_n 0, 1) := by decide +kernel
theorem dF_table_28 : decode bF_table 28 = .ok (.getfield 45, 3) := by decide +kernel
theorem dF_table_31 : decode bF_table 31 = .ok (.invokevirtual 182, 3) := by decide +kernel
theorem dF_table_34 : decode bF_table 34 = .ok (.ireturn, 1) := by decide +kernel
theorem dF_tell_0 : decode bF_tell 0 = .ok (.aload_n 0, 1) := by decide +kernel
theorem dF_tell_1 : decode bF_tell 1 = .ok (.iload_n 1, 1) := by decide +kernel
theorem dF_tell_2 : decode bF_tell 2 = .ok (.invokevirtual 59, 3) := by decide +kernel
theorem dF_tell_5 : decode bF_tell 5 = .ok (.iload_n 2, 1) := by decide +kernel
theorem dF_tell_6 : decode bF_tell 6 = .ok (.tableswitch 112 0 6 #[42, 52, 62, 72, 82, 92, 102], 42) := by decide +kernel
theorem dF_tell_48 : decode bF_tell 48 = .ok (.aload_n 0, 1) := by decide +kernel
theorem dF_tell_49 : decode bF_tell 49 = .ok (.getfield 25, 3) := by decide +kernel
theorem dF_tell_52 : decode bF_tell 52 = .ok (.getfield 153, 3) := by decide +kernel
theorem dF_tell_55 : decode bF_tell 55 = .ok (.iload_n 1, 1) := by decide +kernel
theorem dF_tell_56 : decode bF_tell 56 = .ok (.iaload, 1) := by decide +kernel
theorem dF_tell_57 : decode bF_tell 57 = .ok (.ireturn, 1) := by decide +kernel
theorem dF_tell_58 : decode bF_tell 58 = .ok (.aload_n 0, 1) := by decide +kernel
theorem dF_tell_59 : decode bF_tell 59 = .ok (.getfield 25, 3) := by decide +kernel
theorem dF_tell_62 : decode bF_tell 62 = .ok (.getfield 156, 3) := by decide +kernel
theorem dF_tell_65 : decode bF_tell 65 = .ok (.iload_n 1, 1) := by decide +kernel
theorem dF_tell_66 : decode bF_tell 66 = .ok (.iaload, 1) := by decide +kernel
theorem dF_tell_67 : decode bF_tell 67 = .ok (.ireturn, 1) := by decide +kernel
theorem dF_tell_68 : decode bF_tell 68 = .ok (.aload_n 0, 1) := by decide +kernel
theorem dF_tell_69 : decode bF_tell 69 = .ok (.getfield 25, 3) := by decide +kernel
theorem dF_tell_72 : decode bF_tell 72 = .ok (.getfield 159, 3) := by decide +kernel
theorem dF_tell_75 : decode bF_tell 75 = .ok (.iload_n 1, 1) := by decide +kernel
theorem dF_tell_76 : decode bF_tell 76 = .ok (.iaload, 1) := by decide +kernel
theorem dF_tell_77 : decode bF_tell 77 = .ok (.ireturn, 1) := by decide +kernel
theorem dF_tell_78 : decode bF_tell 78 = .ok (.aload_n 0, 1) := by decide +kernel
theorem dF_tell_79 : decode bF_tell 79 = .ok (.getfield 25, 3) := by decide +kernel
theorem dF_tell_82 : decode bF_tell 82 = .ok (.getfield 162, 3) := by decide +kernel
theorem dF_tell_85 : decode bF_tell 85 = .ok (.iload_n 1, 1) := by decide +kernel
theorem dF_tell_86 : decode bF_tell 86 = .ok (.iaload, 1) := by decide +kernel
theorem dF_tell_87 : decode bF_tell 87 = .ok (.ireturn, 1) := by decide +kernel
theorem dF_tell_88 : decode bF_tell 88 = .ok (.aload_n 0, 1) := by decide +kernel
theorem dF_tell_89 : decode bF_tell 89 = .ok (.getfield 25, 3) := by decide +kernel
theorem dF_tell_92 : decode bF_tell 92 = .ok (.getfield 165, 3) := by decide +kernel
theorem dF_tell_95 : decode bF_tell 95 = .ok (.iload_n 1, 1) := by decide +kernel
theorem dF_tell_96 : decode bF_tell 96 = .ok (.iaload, 1) := by decide +kernel
theorem dF_tell_97 : decode bF_tell 97 = .ok (.ireturn, 1) := by decide +kernel
theorem dF_tell_98 : decode bF_tell 98 = .ok (.aload_n 0, 1) := by decide +kernel
theorem dF_tell_99 : decode bF_tell 99 = .ok (.getfield 25, 3) := by decide +kernel
theorem dF_tell_102 : decode bF_tell 102 = .ok (.getfield 168, 3) := by decide +kernel
theorem dF_tell_105 : decode bF_tell 105 = .ok (.iload_n 1, 1) := by decide +kernel
theorem dF_tell_106 : decode bF_tell 106 = .ok (.iaload, 1) := by decide +kernel
theorem dF_tell_107 : decode bF_tell 107 = .ok (.ireturn, 1) := by decide +kernel
theorem dF_tell_108 : decode bF_tell 108 = .ok (.aload_n 0, 1) := by decide +kernel
theorem dF_tell_109 : decode bF_tell 109 = .ok (.getfield 25, 3) := by decide +kernel
theorem dF_tell_112 : decode bF_tell 112 = .ok (.getfield 171, 3) := by decide +kernel
theorem dF_tell_115 : decode bF_tell 115 = .ok (.iload_n 1, 1) := by decide +kernel
theorem dF_tell_116 : decode bF_tell 116 = .ok (.iaload, 1) := by decide +kernel
theorem dF_tell_117 : decode bF_tell 117 = .ok (.ireturn, 1) := by decide +kernel
theorem dF_tell_118 : decode bF_tell 118 = .ok (.new 173, 3) := by decide +kernel
theorem dF_tell_121 : decode bF_tell 121 = .ok (.dup, 1) := by decide +kernel
theorem dF_tell_122 : decode bF_tell 122 = .ok (.ldc 175, 2) := by decide +kernel
theorem dF_tell_124 : decode bF_tell 124 = .ok (.invokespecial 177, 3) := by decide +kernel
theorem dF_tell_127 : decode bF_tell 127 = .ok (.athrow, 1) := by decide +kernel
theorem dF_ways_0 : decode bF_ways 0 = .ok (.aload_n 0, 1) := by decide +kernel
theorem dF_ways_1 : decode bF_ways 1 = .ok (.invokevirtual 88, 3) := by decide +kernel
theorem dF_ways_4 : decode bF_ways 4 = .ok (.aload_n 0, 1) := by decide +kernel
theorem dF_ways_5 : decode bF_ways 5 = .ok (.getfield 32, 3) := by decide +kernel
theorem dF_ways_8 : decode bF_ways 8 = .ok (.invokevirtual 97, 3) := by decide +kernel
theorem dF_ways_11 : decode bF_ways 11 = .ok (.ireturn, 1) := by decide +kernel
theorem dF_workOutPairing_0 : decode bF_workOutPairing 0 = .ok (.aload_n 0, 1) := by decide +kernel
theorem dF_workOutPairing_1 : decode bF_workOutPairing 1 = .ok (.getfield 32, 3) := by decide +kernel
theorem dF_workOutPairing_4 : decode bF_workOutPairing 4 = .ok (.aload_n 0, 1) := by decide +kernel
theorem dF_workOutPairing_5 : decode bF_workOutPairing 5 = .ok (.getfield 25, 3) := by decide +kernel
theorem dF_workOutPairing_8 : decode bF_workOutPairing 8 = .ok (.aload_n 0, 1) := by decide +kernel
theorem dF_workOutPairing_9 : decode bF_workOutPairing 9 = .ok (.getfield 14, 3) := by decide +kernel
theorem dF_workOutPairing_12 : decode bF_workOutPairing 12 = .ok (.aload_n 0, 1) := by decide +kernel
theorem dF_workOutPairing_13 : decode bF_workOutPairing 13 = .ok (.getfield 18, 3) := by decide +kernel
theorem dF_workOutPairing_16 : decode bF_workOutPairing 16 = .ok (.aload_n 0, 1) := by decide +kernel
theorem dF_workOutPairing_17 : decode bF_workOutPairing 17 = .ok (.getfield 73, 3) := by decide +kernel
theorem dF_workOutPairing_20 : decode bF_workOutPairing 20 = .ok (.invokevirtual 191, 3) := by decide +kernel
theorem dF_workOutPairing_23 : decode bF_workOutPairing 23 = .ok (.return_, 1) := by decide +kernel
