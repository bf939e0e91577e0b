theorem dS_clashes_0 : decode bS_clashes 0 = .ok (.iconst 0, 1) := by decide +kernel
theorem dS_clashes_1 : decode bS_clashes 1 = .ok (.istore_n 3, 1) := by decide +kernel
theorem dS_clashes_2 : decode bS_clashes 2 = .ok (.aload_n 0, 1) := by decide +kernel
theorem dS_clashes_3 : decode bS_clashes 3 = .ok (.getfield 33, 3) := by decide +kernel
theorem dS_clashes_6 : decode bS_clashes 6 = .ok (.iload_n 1, 1) := by decide +kernel
theorem dS_clashes_7 : decode bS_clashes 7 = .ok (.iaload, 1) := by decide +kernel
theorem dS_clashes_8 : decode bS_clashes 8 = .ok (.iload_n 2, 1) := by decide +kernel
theorem dS_clashes_9 : decode bS_clashes 9 = .ok (.if_icmp .ne 16, 3) := by decide +kernel
theorem dS_clashes_12 : decode bS_clashes 12 = .ok (.aload_n 0, 1) := by decide +kernel
theorem dS_clashes_13 : decode bS_clashes 13 = .ok (.getfield 36, 3) := by decide +kernel
theorem dS_clashes_16 : decode bS_clashes 16 = .ok (.iload_n 1, 1) := by decide +kernel
theorem dS_clashes_17 : decode bS_clashes 17 = .ok (.iaload, 1) := by decide +kernel
theorem dS_clashes_18 : decode bS_clashes 18 = .ok (.iload_n 2, 1) := by decide +kernel
theorem dS_clashes_19 : decode bS_clashes 19 = .ok (.if_icmp .ne 6, 3) := by decide +kernel
theorem dS_clashes_22 : decode bS_clashes 22 = .ok (.iinc 3 1, 3) := by decide +kernel
theorem dS_clashes_25 : decode bS_clashes 25 = .ok (.aload_n 0, 1) := by decide +kernel
theorem dS_clashes_26 : decode bS_clashes 26 = .ok (.getfield 15, 3) := by decide +kernel
theorem dS_clashes_29 : decode bS_clashes 29 = .ok (.iload_n 1, 1) := by decide +kernel
theorem dS_clashes_30 : decode bS_clashes 30 = .ok (.iaload, 1) := by decide +kernel
theorem dS_clashes_31 : decode bS_clashes 31 = .ok (.iload_n 2, 1) := by decide +kernel
theorem dS_clashes_32 : decode bS_clashes 32 = .ok (.iadd, 1) := by decide +kernel
theorem dS_clashes_33 : decode bS_clashes 33 = .ok (.istore 4, 2) := by decide +kernel
theorem dS_clashes_35 : decode bS_clashes 35 = .ok (.iload 4, 2) := by decide +kernel
theorem dS_clashes_37 : decode bS_clashes 37 = .ok (.iconst 3, 1) := by decide +kernel
theorem dS_clashes_38 : decode bS_clashes 38 = .ok (.if_icmp .ge 10, 3) := by decide +kernel
theorem dS_clashes_41 : decode bS_clashes 41 = .ok (.iload 4, 2) := by decide +kernel
theorem dS_clashes_43 : decode bS_clashes 43 = .ok (.bipush (-3), 2) := by decide +kernel
theorem dS_clashes_45 : decode bS_clashes 45 = .ok (.if_icmp .gt 6, 3) := by decide +kernel
theorem dS_clashes_48 : decode bS_clashes 48 = .ok (.iinc 3 1, 3) := by decide +kernel
theorem dS_clashes_51 : decode bS_clashes 51 = .ok (.iload_n 3, 1) := by decide +kernel
theorem dS_clashes_52 : decode bS_clashes 52 = .ok (.ireturn, 1) := by decide +kernel
theorem dS_clear_0 : decode bS_clear 0 = .ok (.aload_n 0, 1) := by decide +kernel
theorem dS_clear_1 : decode bS_clear 1 = .ok (.getfield 9, 3) := by decide +kernel
theorem dS_clear_4 : decode bS_clear 4 = .ok (.iconst 0, 1) := by decide +kernel
theorem dS_clear_5 : decode bS_clear 5 = .ok (.invokestatic 52, 3) := by decide +kernel
theorem dS_clear_8 : decode bS_clear 8 = .ok (.aload_n 0, 1) := by decide +kernel
theorem dS_clear_9 : decode bS_clear 9 = .ok (.getfield 15, 3) := by decide +kernel
theorem dS_clear_12 : decode bS_clear 12 = .ok (.iconst 0, 1) := by decide +kernel
theorem dS_clear_13 : decode bS_clear 13 = .ok (.invokestatic 52, 3) := by decide +kernel
theorem dS_clear_16 : decode bS_clear 16 = .ok (.aload_n 0, 1) := by decide +kernel
theorem dS_clear_17 : decode bS_clear 17 = .ok (.getfield 18, 3) := by decide +kernel
theorem dS_clear_20 : decode bS_clear 20 = .ok (.iconst 0, 1) := by decide +kernel
theorem dS_clear_21 : decode bS_clear 21 = .ok (.invokestatic 52, 3) := by decide +kernel
theorem dS_clear_24 : decode bS_clear 24 = .ok (.aload_n 0, 1) := by decide +kernel
theorem dS_clear_25 : decode bS_clear 25 = .ok (.getfield 21, 3) := by decide +kernel
theorem dS_clear_28 : decode bS_clear 28 = .ok (.iconst 0, 1) := by decide +kernel
theorem dS_clear_29 : decode bS_clear 29 = .ok (.invokestatic 52, 3) := by decide +kernel
theorem dS_clear_32 : decode bS_clear 32 = .ok (.aload_n 0, 1) := by decide +kernel
theorem dS_clear_33 : decode bS_clear 33 = .ok (.getfield 24, 3) := by decide +kernel
theorem dS_clear_36 : decode bS_clear 36 = .ok (.iconst 0, 1) := by decide +kernel
theorem dS_clear_37 : decode bS_clear 37 = .ok (.invokestatic 52, 3) := by decide +kernel
theorem dS_clear_40 : decode bS_clear 40 = .ok (.aload_n 0, 1) := by decide +kernel
theorem dS_clear_41 : decode bS_clear 41 = .ok (.getfield 27, 3) := by decide +kernel
theorem dS_clear_44 : decode bS_clear 44 = .ok (.iconst 0, 1) := by decide +kernel
theorem dS_clear_45 : decode bS_clear 45 = .ok (.invokestatic 52, 3) := by decide +kernel
theorem dS_clear_48 : decode bS_clear 48 = .ok (.aload_n 0, 1) := by decide +kernel
theorem dS_clear_49 : decode bS_clear 49 = .ok (.getfield 30, 3) := by decide +kernel
theorem dS_clear_52 : decode bS_clear 52 = .ok (.iconst 0, 1) := by decide +kernel
theorem dS_clear_53 : decode bS_clear 53 = .ok (.invokestatic 52, 3) := by decide +kernel
theorem dS_clear_56 : decode bS_clear 56 = .ok (.aload_n 0, 1) := by decide +kernel
theorem dS_clear_57 : decode bS_clear 57 = .ok (.getfield 33, 3) := by decide +kernel
theorem dS_clear_60 : decode bS_clear 60 = .ok (.iconst 0, 1) := by decide +kernel
theorem dS_clear_61 : decode bS_clear 61 = .ok (.invokestatic 52, 3) := by decide +kernel
theorem dS_clear_64 : decode bS_clear 64 = .ok (.aload_n 0, 1) := by decide +kernel
theorem dS_clear_65 : decode bS_clear 65 = .ok (.getfield 36, 3) := by decide +kernel
theorem dS_clear_68 : decode bS_clear 68 = .ok (.iconst 0, 1) := by decide +kernel
theorem dS_clear_69 : decode bS_clear 69 = .ok (.invokestatic 52, 3) := by decide +kernel
theorem dS_clear_72 : decode bS_clear 72 = .ok (.aload_n 0, 1) := by decide +kernel
theorem dS_clear_73 : decode bS_clear 73 = .ok (.getfield 39, 3) := by decide +kernel
theorem dS_clear_76 : decode bS_clear 76 = .ok (.iconst 0, 1) := by decide +kernel
theorem dS_clear_77 : decode bS_clear 77 = .ok (.invokestatic 52, 3) := by decide +kernel
theorem dS_clear_80 : decode bS_clear 80 = .ok (.return_, 1) := by decide +kernel
theorem dS_colourOfFirst_0 : decode bS_colourOfFirst 0 = .ok (.aload_n 0, 1) := by decide +kernel
theorem dS_colourOfFirst_1 : decode bS_colourOfFirst 1 = .ok (.getfield 15, 3) := by decide +kernel
theorem dS_colourOfFirst_4 : decode bS_colourOfFirst 4 = .ok (.iload_n 1, 1) := by decide +kernel
theorem dS_colourOfFirst_5 : decode bS_colourOfFirst 5 = .ok (.iaload, 1) := by decide +kernel
theorem dS_colourOfFirst_6 : decode bS_colourOfFirst 6 = .ok (.aload_n 0, 1) := by decide +kernel
theorem dS_colourOfFirst_7 : decode bS_colourOfFirst 7 = .ok (.getfield 15, 3) := by decide +kernel
theorem dS_colourOfFirst_10 : decode bS_colourOfFirst 10 = .ok (.iload_n 2, 1) := by decide +kernel
theorem dS_colourOfFirst_11 : decode bS_colourOfFirst 11 = .ok (.iaload, 1) := by decide +kernel
theorem dS_colourOfFirst_12 : decode bS_colourOfFirst 12 = .ok (.if_icmp .eq 24, 3) := by decide +kernel
theorem dS_colourOfFirst_15 : decode bS_colourOfFirst 15 = .ok (.aload_n 0, 1) := by decide +kernel
theorem dS_colourOfFirst_16 : decode bS_colourOfFirst 16 = .ok (.getfield 15, 3) := by decide +kernel
theorem dS_colourOfFirst_19 : decode bS_colourOfFirst 19 = .ok (.iload_n 1, 1) := by decide +kernel
theorem dS_colourOfFirst_20 : decode bS_colourOfFirst 20 = .ok (.iaload, 1) := by decide +kernel
theorem dS_colourOfFirst_21 : decode bS_colourOfFirst 21 = .ok (.aload_n 0, 1) := by decide +kernel
theorem dS_colourOfFirst_22 : decode bS_colourOfFirst 22 = .ok (.getfield 15, 3) := by decide +kernel
theorem dS_colourOfFirst_25 : decode bS_colourOfFirst 25 = .ok (.iload_n 2, 1) := by decide +kernel
theorem dS_colourOfFirst_26 : decode bS_colourOfFirst 26 = .ok (.iaload, 1) := by decide +kernel
theorem dS_colourOfFirst_27 : decode bS_colourOfFirst 27 = .ok (.if_icmp .ge 7, 3) := by decide +kernel
theorem dS_colourOfFirst_30 : decode bS_colourOfFirst 30 = .ok (.iconst 1, 1) := by decide +kernel
theorem dS_colourOfFirst_31 : decode bS_colourOfFirst 31 = .ok (.goto 4, 3) := by decide +kernel
theorem dS_colourOfFirst_34 : decode bS_colourOfFirst 34 = .ok (.iconst (-1), 1) := by decide +kernel
theorem dS_colourOfFirst_35 : decode bS_colourOfFirst 35 = .ok (.ireturn, 1) := by decide +kernel
theorem dS_colourOfFirst_36 : decode bS_colourOfFirst 36 = .ok (.aload_n 0, 1) := by decide +kernel
theorem dS_colourOfFirst_37 : decode bS_colourOfFirst 37 = .ok (.getfield 33, 3) := by decide +kernel
theorem dS_colourOfFirst_40 : decode bS_colourOfFirst 40 = .ok (.iload_n 1, 1) := by decide +kernel
theorem dS_colourOfFirst_41 : decode bS_colourOfFirst 41 = .ok (.iaload, 1) := by decide +kernel
theorem dS_colourOfFirst_42 : decode bS_colourOfFirst 42 = .ok (.aload_n 0, 1) := by decide +kernel
theorem dS_colourOfFirst_43 : decode bS_colourOfFirst 43 = .ok (.getfield 33, 3) := by decide +kernel
theorem dS_colourOfFirst_46 : decode bS_colourOfFirst 46 = .ok (.iload_n 2, 1) := by decide +kernel
theorem dS_colourOfFirst_47 : decode bS_colourOfFirst 47 = .ok (.iaload, 1) := by decide +kernel
theorem dS_colourOfFirst_48 : decode bS_colourOfFirst 48 = .ok (.ineg, 1) := by decide +kernel
theorem dS_colourOfFirst_49 : decode bS_colourOfFirst 49 = .ok (.if_icmp .ne 20, 3) := by decide +kernel
theorem dS_colourOfFirst_52 : decode bS_colourOfFirst 52 = .ok (.aload_n 0, 1) := by decide +kernel
theorem dS_colourOfFirst_53 : decode bS_colourOfFirst 53 = .ok (.getfield 33, 3) := by decide +kernel
theorem dS_colourOfFirst_56 : decode bS_colourOfFirst 56 = .ok (.iload_n 1, 1) := by decide +kernel
theorem dS_colourOfFirst_57 : decode bS_colourOfFirst 57 = .ok (.iaload, 1) := by decide +kernel
theorem dS_colourOfFirst_58 : decode bS_colourOfFirst 58 = .ok (.ifCond .eq 11, 3) := by decide +kernel
theorem dS_colourOfFirst_61 : decode bS_colourOfFirst 61 = .ok (.aload_n 0, 1) := by decide +kernel
theorem dS_colourOfFirst_62 : decode bS_colourOfFirst 62 = .ok (.getfield 33, 3) := by decide +kernel
theorem dS_colourOfFirst_65 : decode bS_colourOfFirst 65 = .ok (.iload_n 1, 1) := by decide +kernel
theorem dS_colourOfFirst_66 : decode bS_colourOfFirst 66 = .ok (.iaload, 1) := by decide +kernel
theorem dS_colourOfFirst_67 : decode bS_colourOfFirst 67 = .ok (.ineg, 1) := by decide +kernel
theorem dS_colourOfFirst_68 : decode bS_colourOfFirst 68 = .ok (.ireturn, 1) := by decide +kernel
theorem dS_colourOfFirst_69 : decode bS_colourOfFirst 69 = .ok (.iload_n 3, 1) := by decide +kernel
theorem dS_colourOfFirst_70 : decode bS_colourOfFirst 70 = .ok (.iconst 2, 1) := by decide +kernel
theorem dS_colourOfFirst_71 : decode bS_colourOfFirst 71 = .ok (.irem, 1) := by decide +kernel
theorem dS_colourOfFirst_72 : decode bS_colourOfFirst 72 = .ok (.ifCond .ne 7, 3) := by decide +kernel
theorem dS_colourOfFirst_75 : decode bS_colourOfFirst 75 = .ok (.iconst 1, 1) := by decide +kernel
theorem dS_colourOfFirst_76 : decode bS_colourOfFirst 76 = .ok (.goto 4, 3) := by decide +kernel
theorem dS_colourOfFirst_79 : decode bS_colourOfFirst 79 = .ok (.iconst (-1), 1) := by decide +kernel
theorem dS_colourOfFirst_80 : decode bS_colourOfFirst 80 = .ok (.ireturn, 1) := by decide +kernel
theorem dS_costOfGame_0 : decode bS_costOfGame 0 = .ok (.aload_n 0, 1) := by decide +kernel
theorem dS_costOfGame_1 : decode bS_costOfGame 1 = .ok (.getfield 9, 3) := by decide +kernel
theorem dS_costOfGame_4 : decode bS_costOfGame 4 = .ok (.iload_n 1, 1) := by decide +kernel
theorem dS_costOfGame_5 : decode bS_costOfGame 5 = .ok (.iaload, 1) := by decide +kernel
theorem dS_costOfGame_6 : decode bS_costOfGame 6 = .ok (.aload_n 0, 1) := by decide +kernel
theorem dS_costOfGame_7 : decode bS_costOfGame 7 = .ok (.getfield 9, 3) := by decide +kernel
theorem dS_costOfGame_10 : decode bS_costOfGame 10 = .ok (.iload_n 2, 1) := by decide +kernel
theorem dS_costOfGame_11 : decode bS_costOfGame 11 = .ok (.iaload, 1) := by decide +kernel
theorem dS_costOfGame_12 : decode bS_costOfGame 12 = .ok (.isub, 1) := by decide +kernel
theorem dS_costOfGame_13 : decode bS_costOfGame 13 = .ok (.istore 4, 2) := by decide +kernel
theorem dS_costOfGame_15 : decode bS_costOfGame 15 = .ok (.aload_n 0, 1) := by decide +kernel
theorem dS_costOfGame_16 : decode bS_costOfGame 16 = .ok (.iload_n 1, 1) := by decide +kernel
theorem dS_costOfGame_17 : decode bS_costOfGame 17 = .ok (.iload_n 2, 1) := by decide +kernel
theorem dS_costOfGame_18 : decode bS_costOfGame 18 = .ok (.iload_n 3, 1) := by decide +kernel
theorem dS_costOfGame_19 : decode bS_costOfGame 19 = .ok (.invokevirtual 78, 3) := by decide +kernel
theorem dS_costOfGame_22 : decode bS_costOfGame 22 = .ok (.istore 5, 2) := by decide +kernel
theorem dS_costOfGame_24 : decode bS_costOfGame 24 = .ok (.bipush 64, 2) := by decide +kernel
theorem dS_costOfGame_26 : decode bS_costOfGame 26 = .ok (.iload 4, 2) := by decide +kernel
theorem dS_costOfGame_28 : decode bS_costOfGame 28 = .ok (.imul, 1) := by decide +kernel
theorem dS_costOfGame_29 : decode bS_costOfGame 29 = .ok (.iload 4, 2) := by decide +kernel
theorem dS_costOfGame_31 : decode bS_costOfGame 31 = .ok (.imul, 1) := by decide +kernel
theorem dS_costOfGame_32 : decode bS_costOfGame 32 = .ok (.aload_n 0, 1) := by decide +kernel
theorem dS_costOfGame_33 : decode bS_costOfGame 33 = .ok (.iload_n 1, 1) := by decide +kernel
theorem dS_costOfGame_34 : decode bS_costOfGame 34 = .ok (.iload 5, 2) := by decide +kernel
theorem dS_costOfGame_36 : decode bS_costOfGame 36 = .ok (.invokevirtual 82, 3) := by decide +kernel
theorem dS_costOfGame_39 : decode bS_costOfGame 39 = .ok (.iadd, 1) := by decide +kernel
theorem dS_costOfGame_40 : decode bS_costOfGame 40 = .ok (.aload_n 0, 1) := by decide +kernel
theorem dS_costOfGame_41 : decode bS_costOfGame 41 = .ok (.iload_n 2, 1) := by decide +kernel
theorem dS_costOfGame_42 : decode bS_costOfGame 42 = .ok (.iload 5, 2) := by decide +kernel
theorem dS_costOfGame_44 : decode bS_costOfGame 44 = .ok (.ineg, 1) := by decide +kernel
theorem dS_costOfGame_45 : decode bS_costOfGame 45 = .ok (.invokevirtual 82, 3) := by decide +kernel
theorem dS_costOfGame_48 : decode bS_costOfGame 48 = .ok (.iadd, 1) := by decide +kernel
theorem dS_costOfGame_49 : decode bS_costOfGame 49 = .ok (.ireturn, 1) := by decide +kernel
theorem dS_countCell_0 : decode bS_countCell 0 = .ok (.iload_n 2, 1) := by decide +kernel
theorem dS_countCell_1 : decode bS_countCell 1 = .ok (.iconst (-1), 1) := by decide +kernel
theorem dS_countCell_2 : decode bS_countCell 2 = .ok (.if_icmp .ne 4, 3) := by decide +kernel
theorem dS_countCell_5 : decode bS_countCell 5 = .ok (.return_, 1) := by decide +kernel
theorem dS_countCell_6 : decode bS_countCell 6 = .ok (.aload_n 0, 1) := by decide +kernel
theorem dS_countCell_7 : decode bS_countCell 7 = .ok (.getfield 9, 3) := by decide +kernel
theorem dS_countCell_10 : decode bS_countCell 10 = .ok (.iload_n 1, 1) := by decide +kernel
theorem dS_countCell_11 : decode bS_countCell 11 = .ok (.dup2, 1) := by decide +kernel
theorem dS_countCell_12 : decode bS_countCell 12 = .ok (.iaload, 1) := by decide +kernel
theorem dS_countCell_13 : decode bS_countCell 13 = .ok (.iload_n 2, 1) := by decide +kernel
theorem dS_countCell_14 : decode bS_countCell 14 = .ok (.invokestatic 58, 3) := by decide +kernel
theorem dS_countCell_17 : decode bS_countCell 17 = .ok (.iadd, 1) := by decide +kernel
theorem dS_countCell_18 : decode bS_countCell 18 = .ok (.iastore, 1) := by decide +kernel
theorem dS_countCell_19 : decode bS_countCell 19 = .ok (.iload_n 2, 1) := by decide +kernel
theorem dS_countCell_20 : decode bS_countCell 20 = .ok (.invokestatic 64, 3) := by decide +kernel
theorem dS_countCell_23 : decode bS_countCell 23 = .ok (.ifCond .ne 14, 3) := by decide +kernel
theorem dS_countCell_26 : decode bS_countCell 26 = .ok (.aload_n 0, 1) := by decide +kernel
theorem dS_countCell_27 : decode bS_countCell 27 = .ok (.getfield 27, 3) := by decide +kernel
theorem dS_countCell_30 : decode bS_countCell 30 = .ok (.iload_n 1, 1) := by decide +kernel
theorem dS_countCell_31 : decode bS_countCell 31 = .ok (.dup2, 1) := by decide +kernel
theorem dS_countCell_32 : decode bS_countCell 32 = .ok (.iaload, 1) := by decide +kernel
theorem dS_countCell_33 : decode bS_countCell 33 = .ok (.iconst 1, 1) := by decide +kernel
theorem dS_countCell_34 : decode bS_countCell 34 = .ok (.iadd, 1) := by decide +kernel
theorem dS_countCell_35 : decode bS_countCell 35 = .ok (.iastore, 1) := by decide +kernel
theorem dS_countCell_36 : decode bS_countCell 36 = .ok (.return_, 1) := by decide +kernel
theorem dS_countCell_37 : decode bS_countCell 37 = .ok (.aload_n 0, 1) := by decide +kernel
theorem dS_countCell_38 : decode bS_countCell 38 = .ok (.getfield 30, 3) := by decide +kernel
theorem dS_countCell_41 : decode bS_countCell 41 = .ok (.iload_n 1, 1) := by decide +kernel
theorem dS_countCell_42 : decode bS_countCell 42 = .ok (.dup2, 1) := by decide +kernel
theorem dS_countCell_43 : decode bS_countCell 43 = .ok (.iaload, 1) := by decide +kernel
theorem dS_countCell_44 : decode bS_countCell 44 = .ok (.iconst 1, 1) := by decide +kernel
theorem dS_countCell_45 : decode bS_countCell 45 = .ok (.iadd, 1) := by decide +kernel
theorem dS_countCell_46 : decode bS_countCell 46 = .ok (.iastore, 1) := by decide +kernel
theorem dS_countCell_47 : decode bS_countCell 47 = .ok (.iload_n 2, 1) := by decide +kernel
theorem dS_countCell_48 : decode bS_countCell 48 = .ok (.invokestatic 58, 3) := by decide +kernel
theorem dS_countCell_51 : decode bS_countCell 51 = .ok (.iconst 2, 1) := by decide +kernel
theorem dS_countCell_52 : decode bS_countCell 52 = .ok (.if_icmp .ne 13, 3) := by decide +kernel
theorem dS_countCell_55 : decode bS_countCell 55 = .ok (.aload_n 0, 1) := by decide +kernel
theorem dS_countCell_56 : decode bS_countCell 56 = .ok (.getfield 24, 3) := by decide +kernel
theorem dS_countCell_59 : decode bS_countCell 59 = .ok (.iload_n 1, 1) := by decide +kernel
theorem dS_countCell_60 : decode bS_countCell 60 = .ok (.dup2, 1) := by decide +kernel
theorem dS_countCell_61 : decode bS_countCell 61 = .ok (.iaload, 1) := by decide +kernel
theorem dS_countCell_62 : decode bS_countCell 62 = .ok (.iconst 1, 1) := by decide +kernel
theorem dS_countCell_63 : decode bS_countCell 63 = .ok (.iadd, 1) := by decide +kernel
theorem dS_countCell_64 : decode bS_countCell 64 = .ok (.iastore, 1) := by decide +kernel
theorem dS_countCell_65 : decode bS_countCell 65 = .ok (.iload_n 2, 1) := by decide +kernel
theorem dS_countCell_66 : decode bS_countCell 66 = .ok (.invokestatic 68, 3) := by decide +kernel
theorem dS_countCell_69 : decode bS_countCell 69 = .ok (.istore_n 3, 1) := by decide +kernel
theorem dS_countCell_70 : decode bS_countCell 70 = .ok (.aload_n 0, 1) := by decide +kernel
theorem dS_countCell_71 : decode bS_countCell 71 = .ok (.getfield 15, 3) := by decide +kernel
theorem dS_countCell_74 : decode bS_countCell 74 = .ok (.iload_n 1, 1) := by decide +kernel
theorem dS_countCell_75 : decode bS_countCell 75 = .ok (.dup2, 1) := by decide +kernel
theorem dS_countCell_76 : decode bS_countCell 76 = .ok (.iaload, 1) := by decide +kernel
theorem dS_countCell_77 : decode bS_countCell 77 = .ok (.iload_n 3, 1) := by decide +kernel
theorem dS_countCell_78 : decode bS_countCell 78 = .ok (.iadd, 1) := by decide +kernel
theorem dS_countCell_79 : decode bS_countCell 79 = .ok (.iastore, 1) := by decide +kernel
theorem dS_countCell_80 : decode bS_countCell 80 = .ok (.aload_n 0, 1) := by decide +kernel
theorem dS_countCell_81 : decode bS_countCell 81 = .ok (.getfield 36, 3) := by decide +kernel
theorem dS_countCell_84 : decode bS_countCell 84 = .ok (.iload_n 1, 1) := by decide +kernel
theorem dS_countCell_85 : decode bS_countCell 85 = .ok (.aload_n 0, 1) := by decide +kernel
theorem dS_countCell_86 : decode bS_countCell 86 = .ok (.getfield 33, 3) := by decide +kernel
theorem dS_countCell_89 : decode bS_countCell 89 = .ok (.iload_n 1, 1) := by decide +kernel
theorem dS_countCell_90 : decode bS_countCell 90 = .ok (.iaload, 1) := by decide +kernel
theorem dS_countCell_91 : decode bS_countCell 91 = .ok (.iastore, 1) := by decide +kernel
theorem dS_countCell_92 : decode bS_countCell 92 = .ok (.aload_n 0, 1) := by decide +kernel
theorem dS_countCell_93 : decode bS_countCell 93 = .ok (.getfield 33, 3) := by decide +kernel
theorem dS_countCell_96 : decode bS_countCell 96 = .ok (.iload_n 1, 1) := by decide +kernel
theorem dS_countCell_97 : decode bS_countCell 97 = .ok (.iload_n 3, 1) := by decide +kernel
theorem dS_countCell_98 : decode bS_countCell 98 = .ok (.iastore, 1) := by decide +kernel
theorem dS_countCell_99 : decode bS_countCell 99 = .ok (.aload_n 0, 1) := by decide +kernel
theorem dS_countCell_100 : decode bS_countCell 100 = .ok (.getfield 39, 3) := by decide +kernel
theorem dS_countCell_103 : decode bS_countCell 103 = .ok (.iload_n 1, 1) := by decide +kernel
theorem dS_countCell_104 : decode bS_countCell 104 = .ok (.dup2, 1) := by decide +kernel
theorem dS_countCell_105 : decode bS_countCell 105 = .ok (.iaload, 1) := by decide +kernel
theorem dS_countCell_106 : decode bS_countCell 106 = .ok (.iconst 1, 1) := by decide +kernel
theorem dS_countCell_107 : decode bS_countCell 107 = .ok (.iload_n 2, 1) := by decide +kernel
theorem dS_countCell_108 : decode bS_countCell 108 = .ok (.invokestatic 71, 3) := by decide +kernel
theorem dS_countCell_111 : decode bS_countCell 111 = .ok (.ishl, 1) := by decide +kernel
theorem dS_countCell_112 : decode bS_countCell 112 = .ok (.ior, 1) := by decide +kernel
theorem dS_countCell_113 : decode bS_countCell 113 = .ok (.iastore, 1) := by decide +kernel
theorem dS_countCell_114 : decode bS_countCell 114 = .ok (.return_, 1) := by decide +kernel
theorem dS_countOpponent_0 : decode bS_countOpponent 0 = .ok (.iload_n 2, 1) := by decide +kernel
theorem dS_countOpponent_1 : decode bS_countOpponent 1 = .ok (.invokestatic 64, 3) := by decide +kernel
theorem dS_countOpponent_4 : decode bS_countOpponent 4 = .ok (.ifCond .eq 38, 3) := by decide +kernel
theorem dS_countOpponent_7 : decode bS_countOpponent 7 = .ok (.aload_n 0, 1) := by decide +kernel
theorem dS_countOpponent_8 : decode bS_countOpponent 8 = .ok (.getfield 9, 3) := by decide +kernel
theorem dS_countOpponent_11 : decode bS_countOpponent 11 = .ok (.iload_n 2, 1) := by decide +kernel
theorem dS_countOpponent_12 : decode bS_countOpponent 12 = .ok (.invokestatic 71, 3) := by decide +kernel
theorem dS_countOpponent_15 : decode bS_countOpponent 15 = .ok (.iaload, 1) := by decide +kernel
theorem dS_countOpponent_16 : decode bS_countOpponent 16 = .ok (.istore_n 3, 1) := by decide +kernel
theorem dS_countOpponent_17 : decode bS_countOpponent 17 = .ok (.aload_n 0, 1) := by decide +kernel
theorem dS_countOpponent_18 : decode bS_countOpponent 18 = .ok (.getfield 18, 3) := by decide +kernel
theorem dS_countOpponent_21 : decode bS_countOpponent 21 = .ok (.iload_n 1, 1) := by decide +kernel
theorem dS_countOpponent_22 : decode bS_countOpponent 22 = .ok (.dup2, 1) := by decide +kernel
theorem dS_countOpponent_23 : decode bS_countOpponent 23 = .ok (.iaload, 1) := by decide +kernel
theorem dS_countOpponent_24 : decode bS_countOpponent 24 = .ok (.iload_n 3, 1) := by decide +kernel
theorem dS_countOpponent_25 : decode bS_countOpponent 25 = .ok (.iadd, 1) := by decide +kernel
theorem dS_countOpponent_26 : decode bS_countOpponent 26 = .ok (.iastore, 1) := by decide +kernel
theorem dS_countOpponent_27 : decode bS_countOpponent 27 = .ok (.aload_n 0, 1) := by decide +kernel
theorem dS_countOpponent_28 : decode bS_countOpponent 28 = .ok (.getfield 21, 3) := by decide +kernel
theorem dS_countOpponent_31 : decode bS_countOpponent 31 = .ok (.iload_n 1, 1) := by decide +kernel
theorem dS_countOpponent_32 : decode bS_countOpponent 32 = .ok (.dup2, 1) := by decide +kernel
theorem dS_countOpponent_33 : decode bS_countOpponent 33 = .ok (.iaload, 1) := by decide +kernel
theorem dS_countOpponent_34 : decode bS_countOpponent 34 = .ok (.iload_n 2, 1) := by decide +kernel
theorem dS_countOpponent_35 : decode bS_countOpponent 35 = .ok (.invokestatic 58, 3) := by decide +kernel
theorem dS_countOpponent_38 : decode bS_countOpponent 38 = .ok (.iload_n 3, 1) := by decide +kernel
theorem dS_countOpponent_39 : decode bS_countOpponent 39 = .ok (.imul, 1) := by decide +kernel
theorem dS_countOpponent_40 : decode bS_countOpponent 40 = .ok (.iadd, 1) := by decide +kernel
theorem dS_countOpponent_41 : decode bS_countOpponent 41 = .ok (.iastore, 1) := by decide +kernel
theorem dS_countOpponent_42 : decode bS_countOpponent 42 = .ok (.return_, 1) := by decide +kernel
theorem dS_getsByeBefore_0 : decode bS_getsByeBefore 0 = .ok (.aload_n 0, 1) := by decide +kernel
theorem dS_getsByeBefore_1 : decode bS_getsByeBefore 1 = .ok (.getfield 27, 3) := by decide +kernel
theorem dS_getsByeBefore_4 : decode bS_getsByeBefore 4 = .ok (.iload_n 1, 1) := by decide +kernel
theorem dS_getsByeBefore_5 : decode bS_getsByeBefore 5 = .ok (.iaload, 1) := by decide +kernel
theorem dS_getsByeBefore_6 : decode bS_getsByeBefore 6 = .ok (.aload_n 0, 1) := by decide +kernel
theorem dS_getsByeBefore_7 : decode bS_getsByeBefore 7 = .ok (.getfield 27, 3) := by decide +kernel
theorem dS_getsByeBefore_10 : decode bS_getsByeBefore 10 = .ok (.iload_n 2, 1) := by decide +kernel
theorem dS_getsByeBefore_11 : decode bS_getsByeBefore 11 = .ok (.iaload, 1) := by decide +kernel
theorem dS_getsByeBefore_12 : decode bS_getsByeBefore 12 = .ok (.if_icmp .eq 24, 3) := by decide +kernel
theorem dS_getsByeBefore_15 : decode bS_getsByeBefore 15 = .ok (.aload_n 0, 1) := by decide +kernel
theorem dS_getsByeBefore_16 : decode bS_getsByeBefore 16 = .ok (.getfield 27, 3) := by decide +kernel
theorem dS_getsByeBefore_19 : decode bS_getsByeBefore 19 = .ok (.iload_n 1, 1) := by decide +kernel
theorem dS_getsByeBefore_20 : decode bS_getsByeBefore 20 = .ok (.iaload, 1) := by decide +kernel
theorem dS_getsByeBefore_21 : decode bS_getsByeBefore 21 = .ok (.aload_n 0, 1) := by decide +kernel
theorem dS_getsByeBefore_22 : decode bS_getsByeBefore 22 = .ok (.getfield 27, 3) := by decide +kernel
theorem dS_getsByeBefore_25 : decode bS_getsByeBefore 25 = .ok (.iload_n 2, 1) := by decide +kernel
theorem dS_getsByeBefore_26 : decode bS_getsByeBefore 26 = .ok (.iaload, 1) := by decide +kernel
theorem dS_getsByeBefore_27 : decode bS_getsByeBefore 27 = .ok (.if_icmp .ge 7, 3) := by decide +kernel
theorem dS_getsByeBefore_30 : decode bS_getsByeBefore 30 = .ok (.iconst 1, 1) := by decide +kernel
theorem dS_getsByeBefore_31 : decode bS_getsByeBefore 31 = .ok (.goto 4, 3) := by decide +kernel
theorem dS_getsByeBefore_34 : decode bS_getsByeBefore 34 = .ok (.iconst 0, 1) := by decide +kernel
theorem dS_getsByeBefore_35 : decode bS_getsByeBefore 35 = .ok (.ireturn, 1) := by decide +kernel
theorem dS_getsByeBefore_36 : decode bS_getsByeBefore 36 = .ok (.aload_n 0, 1) := by decide +kernel
theorem dS_getsByeBefore_37 : decode bS_getsByeBefore 37 = .ok (.getfield 9, 3) := by decide +kernel
theorem dS_getsByeBefore_40 : decode bS_getsByeBefore 40 = .ok (.iload_n 1, 1) := by decide +kernel
theorem dS_getsByeBefore_41 : decode bS_getsByeBefore 41 = .ok (.iaload, 1) := by decide +kernel
theorem dS_getsByeBefore_42 : decode bS_getsByeBefore 42 = .ok (.aload_n 0, 1) := by decide +kernel
theorem dS_getsByeBefore_43 : decode bS_getsByeBefore 43 = .ok (.getfield 9, 3) := by decide +kernel
theorem dS_getsByeBefore_46 : decode bS_getsByeBefore 46 = .ok (.iload_n 2, 1) := by decide +kernel
theorem dS_getsByeBefore_47 : decode bS_getsByeBefore 47 = .ok (.iaload, 1) := by decide +kernel
theorem dS_getsByeBefore_48 : decode bS_getsByeBefore 48 = .ok (.if_icmp .eq 26, 3) := by decide +kernel
theorem dS_getsByeBefore_51 : decode bS_getsByeBefore 51 = .ok (.aload_n 0, 1) := by decide +kernel
theorem dS_getsByeBefore_52 : decode bS_getsByeBefore 52 = .ok (.getfield 9, 3) := by decide +kernel
theorem dS_getsByeBefore_55 : decode bS_getsByeBefore 55 = .ok (.iload_n 1, 1) := by decide +kernel
theorem dS_getsByeBefore_56 : decode bS_getsByeBefore 56 = .ok (.iaload, 1) := by decide +kernel
theorem dS_getsByeBefore_57 : decode bS_getsByeBefore 57 = .ok (.aload_n 0, 1) := by decide +kernel
theorem dS_getsByeBefore_58 : decode bS_getsByeBefore 58 = .ok (.getfield 9, 3) := by decide +kernel
theorem dS_getsByeBefore_61 : decode bS_getsByeBefore 61 = .ok (.iload_n 2, 1) := by decide +kernel
theorem dS_getsByeBefore_62 : decode bS_getsByeBefore 62 = .ok (.iaload, 1) := by decide +kernel
theorem dS_getsByeBefore_63 : decode bS_getsByeBefore 63 = .ok (.if_icmp .ge 7, 3) := by decide +kernel
theorem dS_getsByeBefore_66 : decode bS_getsByeBefore 66 = .ok (.iconst 1, 1) := by decide +kernel
theorem dS_getsByeBefore_67 : decode bS_getsByeBefore 67 = .ok (.goto 17, 3) := by decide +kernel
theorem dS_getsByeBefore_70 : decode bS_getsByeBefore 70 = .ok (.iconst 0, 1) := by decide +kernel
theorem dS_getsByeBefore_71 : decode bS_getsByeBefore 71 = .ok (.goto 13, 3) := by decide +kernel
theorem dS_getsByeBefore_74 : decode bS_getsByeBefore 74 = .ok (.iload_n 1, 1) := by decide +kernel
theorem dS_getsByeBefore_75 : decode bS_getsByeBefore 75 = .ok (.iload_n 2, 1) := by decide +kernel
theorem dS_getsByeBefore_76 : decode bS_getsByeBefore 76 = .ok (.if_icmp .le 7, 3) := by decide +kernel
theorem dS_getsByeBefore_79 : decode bS_getsByeBefore 79 = .ok (.iconst 1, 1) := by decide +kernel
theorem dS_getsByeBefore_80 : decode bS_getsByeBefore 80 = .ok (.goto 4, 3) := by decide +kernel
theorem dS_getsByeBefore_83 : decode bS_getsByeBefore 83 = .ok (.iconst 0, 1) := by decide +kernel
theorem dS_getsByeBefore_84 : decode bS_getsByeBefore 84 = .ok (.ireturn, 1) := by decide +kernel
theorem dS_init_0 : decode bS_init 0 = .ok (.aload_n 0, 1) := by decide +kernel
theorem dS_init_1 : decode bS_init 1 = .ok (.invokespecial 3, 3) := by decide +kernel
theorem dS_init_4 : decode bS_init 4 = .ok (.aload_n 0, 1) := by decide +kernel
theorem dS_init_5 : decode bS_init 5 = .ok (.bipush 12, 2) := by decide +kernel
theorem dS_init_7 : decode bS_init 7 = .ok (.newarray .int, 2) := by decide +kernel
theorem dS_init_9 : decode bS_init 9 = .ok (.putfield 9, 3) := by decide +kernel
theorem dS_init_12 : decode bS_init 12 = .ok (.aload_n 0, 1) := by decide +kernel
theorem dS_init_13 : decode bS_init 13 = .ok (.bipush 12, 2) := by decide +kernel
theorem dS_init_15 : decode bS_init 15 = .ok (.newarray .int, 2) := by decide +kernel
theorem dS_init_17 : decode bS_init 17 = .ok (.putfield 15, 3) := by decide +kernel
theorem dS_init_20 : decode bS_init 20 = .ok (.aload_n 0, 1) := by decide +kernel
theorem dS_init_21 : decode bS_init 21 = .ok (.bipush 12, 2) := by decide +kernel
theorem dS_init_23 : decode bS_init 23 = .ok (.newarray .int, 2) := by decide +kernel
theorem dS_init_25 : decode bS_init 25 = .ok (.putfield 18, 3) := by decide +kernel
theorem dS_init_28 : decode bS_init 28 = .ok (.aload_n 0, 1) := by decide +kernel
theorem dS_init_29 : decode bS_init 29 = .ok (.bipush 12, 2) := by decide +kernel
theorem dS_init_31 : decode bS_init 31 = .ok (.newarray .int, 2) := by decide +kernel
theorem dS_init_33 : decode bS_init 33 = .ok (.putfield 21, 3) := by decide +kernel
theorem dS_init_36 : decode bS_init 36 = .ok (.aload_n 0, 1) := by decide +kernel
theorem dS_init_37 : decode bS_init 37 = .ok (.bipush 12, 2) := by decide +kernel
theorem dS_init_39 : decode bS_init 39 = .ok (.newarray .int, 2) := by decide +kernel
theorem dS_init_41 : decode bS_init 41 = .ok (.putfield 24, 3) := by decide +kernel
theorem dS_init_44 : decode bS_init 44 = .ok (.aload_n 0, 1) := by decide +kernel
theorem dS_init_45 : decode bS_init 45 = .ok (.bipush 12, 2) := by decide +kernel
theorem dS_init_47 : decode bS_init 47 = .ok (.newarray .int, 2) := by decide +kernel
theorem dS_init_49 : decode bS_init 49 = .ok (.putfield 27, 3) := by decide +kernel
theorem dS_init_52 : decode bS_init 52 = .ok (.aload_n 0, 1) := by decide +kernel
theorem dS_init_53 : decode bS_init 53 = .ok (.bipush 12, 2) := by decide +kernel
theorem dS_init_55 : decode bS_init 55 = .ok (.newarray .int, 2) := by decide +kernel
theorem dS_init_57 : decode bS_init 57 = .ok (.putfield 30, 3) := by decide +kernel
theorem dS_init_60 : decode bS_init 60 = .ok (.aload_n 0, 1) := by decide +kernel
theorem dS_init_61 : decode bS_init 61 = .ok (.bipush 12, 2) := by decide +kernel
theorem dS_init_63 : decode bS_init 63 = .ok (.newarray .int, 2) := by decide +kernel
theorem dS_init_65 : decode bS_init 65 = .ok (.putfield 33, 3) := by decide +kernel
theorem dS_init_68 : decode bS_init 68 = .ok (.aload_n 0, 1) := by decide +kernel
theorem dS_init_69 : decode bS_init 69 = .ok (.bipush 12, 2) := by decide +kernel
theorem dS_init_71 : decode bS_init 71 = .ok (.newarray .int, 2) := by decide +kernel
theorem dS_init_73 : decode bS_init 73 = .ok (.putfield 36, 3) := by decide +kernel
theorem dS_init_76 : decode bS_init 76 = .ok (.aload_n 0, 1) := by decide +kernel
theorem dS_init_77 : decode bS_init 77 = .ok (.bipush 12, 2) := by decide +kernel
theorem dS_init_79 : decode bS_init 79 = .ok (.newarray .int, 2) := by decide +kernel
theorem dS_init_81 : decode bS_init 81 = .ok (.putfield 39, 3) := by decide +kernel
theorem dS_init_84 : decode bS_init 84 = .ok (.return_, 1) := by decide +kernel
theorem dS_isBeforeInOrder_0 : decode bS_isBeforeInOrder 0 = .ok (.aload_n 0, 1) := by decide +kernel
theorem dS_isBeforeInOrder_1 : decode bS_isBeforeInOrder 1 = .ok (.getfield 9, 3) := by decide +kernel
theorem dS_isBeforeInOrder_4 : decode bS_isBeforeInOrder 4 = .ok (.iload_n 1, 1) := by decide +kernel
theorem dS_isBeforeInOrder_5 : decode bS_isBeforeInOrder 5 = .ok (.iaload, 1) := by decide +kernel
theorem dS_isBeforeInOrder_6 : decode bS_isBeforeInOrder 6 = .ok (.aload_n 0, 1) := by decide +kernel
theorem dS_isBeforeInOrder_7 : decode bS_isBeforeInOrder 7 = .ok (.getfield 9, 3) := by decide +kernel
theorem dS_isBeforeInOrder_10 : decode bS_isBeforeInOrder 10 = .ok (.iload_n 2, 1) := by decide +kernel
theorem dS_isBeforeInOrder_11 : decode bS_isBeforeInOrder 11 = .ok (.iaload, 1) := by decide +kernel
theorem dS_isBeforeInOrder_12 : decode bS_isBeforeInOrder 12 = .ok (.if_icmp .eq 26, 3) := by decide +kernel
theorem dS_isBeforeInOrder_15 : decode bS_isBeforeInOrder 15 = .ok (.aload_n 0, 1) := by decide +kernel
theorem dS_isBeforeInOrder_16 : decode bS_isBeforeInOrder 16 = .ok (.getfield 9, 3) := by decide +kernel
theorem dS_isBeforeInOrder_19 : decode bS_isBeforeInOrder 19 = .ok (.iload_n 1, 1) := by decide +kernel
theorem dS_isBeforeInOrder_20 : decode bS_isBeforeInOrder 20 = .ok (.iaload, 1) := by decide +kernel
theorem dS_isBeforeInOrder_21 : decode bS_isBeforeInOrder 21 = .ok (.aload_n 0, 1) := by decide +kernel
theorem dS_isBeforeInOrder_22 : decode bS_isBeforeInOrder 22 = .ok (.getfield 9, 3) := by decide +kernel
theorem dS_isBeforeInOrder_25 : decode bS_isBeforeInOrder 25 = .ok (.iload_n 2, 1) := by decide +kernel
theorem dS_isBeforeInOrder_26 : decode bS_isBeforeInOrder 26 = .ok (.iaload, 1) := by decide +kernel
theorem dS_isBeforeInOrder_27 : decode bS_isBeforeInOrder 27 = .ok (.if_icmp .le 7, 3) := by decide +kernel
theorem dS_isBeforeInOrder_30 : decode bS_isBeforeInOrder 30 = .ok (.iconst 1, 1) := by decide +kernel
theorem dS_isBeforeInOrder_31 : decode bS_isBeforeInOrder 31 = .ok (.goto 17, 3) := by decide +kernel
theorem dS_isBeforeInOrder_34 : decode bS_isBeforeInOrder 34 = .ok (.iconst 0, 1) := by decide +kernel
theorem dS_isBeforeInOrder_35 : decode bS_isBeforeInOrder 35 = .ok (.goto 13, 3) := by decide +kernel
theorem dS_isBeforeInOrder_38 : decode bS_isBeforeInOrder 38 = .ok (.iload_n 1, 1) := by decide +kernel
theorem dS_isBeforeInOrder_39 : decode bS_isBeforeInOrder 39 = .ok (.iload_n 2, 1) := by decide +kernel
theorem dS_isBeforeInOrder_40 : decode bS_isBeforeInOrder 40 = .ok (.if_icmp .ge 7, 3) := by decide +kernel
theorem dS_isBeforeInOrder_43 : decode bS_isBeforeInOrder 43 = .ok (.iconst 1, 1) := by decide +kernel
theorem dS_isBeforeInOrder_44 : decode bS_isBeforeInOrder 44 = .ok (.goto 4, 3) := by decide +kernel
theorem dS_isBeforeInOrder_47 : decode bS_isBeforeInOrder 47 = .ok (.iconst 0, 1) := by decide +kernel
theorem dS_isBeforeInOrder_48 : decode bS_isBeforeInOrder 48 = .ok (.ireturn, 1) := by decide +kernel
theorem dS_isBeforeInTable_0 : decode bS_isBeforeInTable 0 = .ok (.aload_n 0, 1) := by decide +kernel
theorem dS_isBeforeInTable_1 : decode bS_isBeforeInTable 1 = .ok (.getfield 9, 3) := by decide +kernel
theorem dS_isBeforeInTable_4 : decode bS_isBeforeInTable 4 = .ok (.iload_n 1, 1) := by decide +kernel
theorem dS_isBeforeInTable_5 : decode bS_isBeforeInTable 5 = .ok (.iaload, 1) := by decide +kernel
theorem dS_isBeforeInTable_6 : decode bS_isBeforeInTable 6 = .ok (.aload_n 0, 1) := by decide +kernel
theorem dS_isBeforeInTable_7 : decode bS_isBeforeInTable 7 = .ok (.getfield 9, 3) := by decide +kernel
theorem dS_isBeforeInTable_10 : decode bS_isBeforeInTable 10 = .ok (.iload_n 2, 1) := by decide +kernel
theorem dS_isBeforeInTable_11 : decode bS_isBeforeInTable 11 = .ok (.iaload, 1) := by decide +kernel
theorem dS_isBeforeInTable_12 : decode bS_isBeforeInTable 12 = .ok (.if_icmp .eq 24, 3) := by decide +kernel
theorem dS_isBeforeInTable_15 : decode bS_isBeforeInTable 15 = .ok (.aload_n 0, 1) := by decide +kernel
theorem dS_isBeforeInTable_16 : decode bS_isBeforeInTable 16 = .ok (.getfield 9, 3) := by decide +kernel
theorem dS_isBeforeInTable_19 : decode bS_isBeforeInTable 19 = .ok (.iload_n 1, 1) := by decide +kernel
theorem dS_isBeforeInTable_20 : decode bS_isBeforeInTable 20 = .ok (.iaload, 1) := by decide +kernel
theorem dS_isBeforeInTable_21 : decode bS_isBeforeInTable 21 = .ok (.aload_n 0, 1) := by decide +kernel
theorem dS_isBeforeInTable_22 : decode bS_isBeforeInTable 22 = .ok (.getfield 9, 3) := by decide +kernel
theorem dS_isBeforeInTable_25 : decode bS_isBeforeInTable 25 = .ok (.iload_n 2, 1) := by decide +kernel
theorem dS_isBeforeInTable_26 : decode bS_isBeforeInTable 26 = .ok (.iaload, 1) := by decide +kernel
theorem dS_isBeforeInTable_27 : decode bS_isBeforeInTable 27 = .ok (.if_icmp .le 7, 3) := by decide +kernel
theorem dS_isBeforeInTable_30 : decode bS_isBeforeInTable 30 = .ok (.iconst 1, 1) := by decide +kernel
theorem dS_isBeforeInTable_31 : decode bS_isBeforeInTable 31 = .ok (.goto 4, 3) := by decide +kernel
theorem dS_isBeforeInTable_34 : decode bS_isBeforeInTable 34 = .ok (.iconst 0, 1) := by decide +kernel
theorem dS_isBeforeInTable_35 : decode bS_isBeforeInTable 35 = .ok (.ireturn, 1) := by decide +kernel
theorem dS_isBeforeInTable_36 : decode bS_isBeforeInTable 36 = .ok (.aload_n 0, 1) := by decide +kernel
theorem dS_isBeforeInTable_37 : decode bS_isBeforeInTable 37 = .ok (.getfield 18, 3) := by decide +kernel
theorem dS_isBeforeInTable_40 : decode bS_isBeforeInTable 40 = .ok (.iload_n 1, 1) := by decide +kernel
theorem dS_isBeforeInTable_41 : decode bS_isBeforeInTable 41 = .ok (.iaload, 1) := by decide +kernel
theorem dS_isBeforeInTable_42 : decode bS_isBeforeInTable 42 = .ok (.aload_n 0, 1) := by decide +kernel
theorem dS_isBeforeInTable_43 : decode bS_isBeforeInTable 43 = .ok (.getfield 18, 3) := by decide +kernel
theorem dS_isBeforeInTable_46 : decode bS_isBeforeInTable 46 = .ok (.iload_n 2, 1) := by decide +kernel
theorem dS_isBeforeInTable_47 : decode bS_isBeforeInTable 47 = .ok (.iaload, 1) := by decide +kernel
theorem dS_isBeforeInTable_48 : decode bS_isBeforeInTable 48 = .ok (.if_icmp .eq 24, 3) := by decide +kernel
theorem dS_isBeforeInTable_51 : decode bS_isBeforeInTable 51 = .ok (.aload_n 0, 1) := by decide +kernel
theorem dS_isBeforeInTable_52 : decode bS_isBeforeInTable 52 = .ok (.getfield 18, 3) := by decide +kernel
theorem dS_isBeforeInTable_55 : decode bS_isBeforeInTable 55 = .ok (.iload_n 1, 1) := by decide +kernel
theorem dS_isBeforeInTable_56 : decode bS_isBeforeInTable 56 = .ok (.iaload, 1) := by decide +kernel
theorem dS_isBeforeInTable_57 : decode bS_isBeforeInTable 57 = .ok (.aload_n 0, 1) := by decide +kernel
theorem dS_isBeforeInTable_58 : decode bS_isBeforeInTable 58 = .ok (.getfield 18, 3) := by decide +kernel
theorem dS_isBeforeInTable_61 : decode bS_isBeforeInTable 61 = .ok (.iload_n 2, 1) := by decide +kernel
theorem dS_isBeforeInTable_62 : decode bS_isBeforeInTable 62 = .ok (.iaload, 1) := by decide +kernel
theorem dS_isBeforeInTable_63 : decode bS_isBeforeInTable 63 = .ok (.if_icmp .le 7, 3) := by decide +kernel
theorem dS_isBeforeInTable_66 : decode bS_isBeforeInTable 66 = .ok (.iconst 1, 1) := by decide +kernel
theorem dS_isBeforeInTable_67 : decode bS_isBeforeInTable 67 = .ok (.goto 4, 3) := by decide +kernel
theorem dS_isBeforeInTable_70 : decode bS_isBeforeInTable 70 = .ok (.iconst 0, 1) := by decide +kernel
theorem dS_isBeforeInTable_71 : decode bS_isBeforeInTable 71 = .ok (.ireturn, 1) := by decide +kernel
theorem dS_isBeforeInTable_72 : decode bS_isBeforeInTable 72 = .ok (.aload_n 0, 1) := by decide +kernel
theorem dS_isBeforeInTable_73 : decode bS_isBeforeInTable 73 = .ok (.getfield 21, 3) := by decide +kernel
theorem dS_isBeforeInTable_76 : decode bS_isBeforeInTable 76 = .ok (.iload_n 1, 1) := by decide +kernel
theorem dS_isBeforeInTable_77 : decode bS_isBeforeInTable 77 = .ok (.iaload, 1) := by decide +kernel
theorem dS_isBeforeInTable_78 : decode bS_isBeforeInTable 78 = .ok (.aload_n 0, 1) := by decide +kernel
theorem dS_isBeforeInTable_79 : decode bS_isBeforeInTable 79 = .ok (.getfield 21, 3) := by decide +kernel
theorem dS_isBeforeInTable_82 : decode bS_isBeforeInTable 82 = .ok (.iload_n 2, 1) := by decide +kernel
theorem dS_isBeforeInTable_83 : decode bS_isBeforeInTable 83 = .ok (.iaload, 1) := by decide +kernel
theorem dS_isBeforeInTable_84 : decode bS_isBeforeInTable 84 = .ok (.if_icmp .eq 24, 3) := by decide +kernel
theorem dS_isBeforeInTable_87 : decode bS_isBeforeInTable 87 = .ok (.aload_n 0, 1) := by decide +kernel
theorem dS_isBeforeInTable_88 : decode bS_isBeforeInTable 88 = .ok (.getfield 21, 3) := by decide +kernel
theorem dS_isBeforeInTable_91 : decode bS_isBeforeInTable 91 = .ok (.iload_n 1, 1) := by decide +kernel
theorem dS_isBeforeInTable_92 : decode bS_isBeforeInTable 92 = .ok (.iaload, 1) := by decide +kernel
theorem dS_isBeforeInTable_93 : decode bS_isBeforeInTable 93 = .ok (.aload_n 0, 1) := by decide +kernel
theorem dS_isBeforeInTable_94 : decode bS_isBeforeInTable 94 = .ok (.getfield 21, 3) := by decide +kernel
theorem dS_isBeforeInTable_97 : decode bS_isBeforeInTable 97 = .ok (.iload_n 2, 1) := by decide +kernel
theorem dS_isBeforeInTable_98 : decode bS_isBeforeInTable 98 = .ok (.iaload, 1) := by decide +kernel
theorem dS_isBeforeInTable_99 : decode bS_isBeforeInTable 99 = .ok (.if_icmp .le 7, 3) := by decide +kernel
theorem dS_isBeforeInTable_102 : decode bS_isBeforeInTable 102 = .ok (.iconst 1, 1) := by decide +kernel
theorem dS_isBeforeInTable_103 : decode bS_isBeforeInTable 103 = .ok (.goto 4, 3) := by decide +kernel
theorem dS_isBeforeInTable_106 : decode bS_isBeforeInTable 106 = .ok (.iconst 0, 1) := by decide +kernel
theorem dS_isBeforeInTable_107 : decode bS_isBeforeInTable 107 = .ok (.ireturn, 1) := by decide +kernel
theorem dS_isBeforeInTable_108 : decode bS_isBeforeInTable 108 = .ok (.aload_n 0, 1) := by decide +kernel
theorem dS_isBeforeInTable_109 : decode bS_isBeforeInTable 109 = .ok (.getfield 24, 3) := by decide +kernel
theorem dS_isBeforeInTable_112 : decode bS_isBeforeInTable 112 = .ok (.iload_n 1, 1) := by decide +kernel
theorem dS_isBeforeInTable_113 : decode bS_isBeforeInTable 113 = .ok (.iaload, 1) := by decide +kernel
theorem dS_isBeforeInTable_114 : decode bS_isBeforeInTable 114 = .ok (.aload_n 0, 1) := by decide +kernel
theorem dS_isBeforeInTable_115 : decode bS_isBeforeInTable 115 = .ok (.getfield 24, 3) := by decide +kernel
theorem dS_isBeforeInTable_118 : decode bS_isBeforeInTable 118 = .ok (.iload_n 2, 1) := by decide +kernel
theorem dS_isBeforeInTable_119 : decode bS_isBeforeInTable 119 = .ok (.iaload, 1) := by decide +kernel
theorem dS_isBeforeInTable_120 : decode bS_isBeforeInTable 120 = .ok (.if_icmp .eq 26, 3) := by decide +kernel
theorem dS_isBeforeInTable_123 : decode bS_isBeforeInTable 123 = .ok (.aload_n 0, 1) := by decide +kernel
theorem dS_isBeforeInTable_124 : decode bS_isBeforeInTable 124 = .ok (.getfield 24, 3) := by decide +kernel
theorem dS_isBeforeInTable_127 : decode bS_isBeforeInTable 127 = .ok (.iload_n 1, 1) := by decide +kernel
theorem dS_isBeforeInTable_128 : decode bS_isBeforeInTable 128 = .ok (.iaload, 1) := by decide +kernel
theorem dS_isBeforeInTable_129 : decode bS_isBeforeInTable 129 = .ok (.aload_n 0, 1) := by decide +kernel
theorem dS_isBeforeInTable_130 : decode bS_isBeforeInTable 130 = .ok (.getfield 24, 3) := by decide +kernel
theorem dS_isBeforeInTable_133 : decode bS_isBeforeInTable 133 = .ok (.iload_n 2, 1) := by decide +kernel
theorem dS_isBeforeInTable_134 : decode bS_isBeforeInTable 134 = .ok (.iaload, 1) := by decide +kernel
theorem dS_isBeforeInTable_135 : decode bS_isBeforeInTable 135 = .ok (.if_icmp .le 7, 3) := by decide +kernel
theorem dS_isBeforeInTable_138 : decode bS_isBeforeInTable 138 = .ok (.iconst 1, 1) := by decide +kernel
theorem dS_isBeforeInTable_139 : decode bS_isBeforeInTable 139 = .ok (.goto 17, 3) := by decide +kernel
theorem dS_isBeforeInTable_142 : decode bS_isBeforeInTable 142 = .ok (.iconst 0, 1) := by decide +kernel
theorem dS_isBeforeInTable_143 : decode bS_isBeforeInTable 143 = .ok (.goto 13, 3) := by decide +kernel
theorem dS_isBeforeInTable_146 : decode bS_isBeforeInTable 146 = .ok (.iload_n 1, 1) := by decide +kernel
theorem dS_isBeforeInTable_147 : decode bS_isBeforeInTable 147 = .ok (.iload_n 2, 1) := by decide +kernel
theorem dS_isBeforeInTable_148 : decode bS_isBeforeInTable 148 = .ok (.if_icmp .ge 7, 3) := by decide +kernel
theorem dS_isBeforeInTable_151 : decode bS_isBeforeInTable 151 = .ok (.iconst 1, 1) := by decide +kernel
theorem dS_isBeforeInTable_152 : decode bS_isBeforeInTable 152 = .ok (.goto 4, 3) := by decide +kernel
theorem dS_isBeforeInTable_155 : decode bS_isBeforeInTable 155 = .ok (.iconst 0, 1) := by decide +kernel
theorem dS_isBeforeInTable_156 : decode bS_isBeforeInTable 156 = .ok (.ireturn, 1) := by decide +kernel
theorem dS_playerAt_0 : decode bS_playerAt 0 = .ok (.iconst 0, 1) := by decide +kernel
theorem dS_playerAt_1 : decode bS_playerAt 1 = .ok (.istore_n 3, 1) := by decide +kernel
theorem dS_playerAt_2 : decode bS_playerAt 2 = .ok (.iload_n 3, 1) := by decide +kernel
theorem dS_playerAt_3 : decode bS_playerAt 3 = .ok (.iload_n 2, 1) := by decide +kernel
theorem dS_playerAt_4 : decode bS_playerAt 4 = .ok (.if_icmp .ge 48, 3) := by decide +kernel
theorem dS_playerAt_7 : decode bS_playerAt 7 = .ok (.iconst 0, 1) := by decide +kernel
theorem dS_playerAt_8 : decode bS_playerAt 8 = .ok (.istore 4, 2) := by decide +kernel
theorem dS_playerAt_10 : decode bS_playerAt 10 = .ok (.iconst 0, 1) := by decide +kernel
theorem dS_playerAt_11 : decode bS_playerAt 11 = .ok (.istore 5, 2) := by decide +kernel
theorem dS_playerAt_13 : decode bS_playerAt 13 = .ok (.iload 5, 2) := by decide +kernel
theorem dS_playerAt_15 : decode bS_playerAt 15 = .ok (.iload_n 2, 1) := by decide +kernel
theorem dS_playerAt_16 : decode bS_playerAt 16 = .ok (.if_icmp .ge 22, 3) := by decide +kernel
theorem dS_playerAt_19 : decode bS_playerAt 19 = .ok (.aload_n 0, 1) := by decide +kernel
theorem dS_playerAt_20 : decode bS_playerAt 20 = .ok (.iload 5, 2) := by decide +kernel
theorem dS_playerAt_22 : decode bS_playerAt 22 = .ok (.iload_n 3, 1) := by decide +kernel
theorem dS_playerAt_23 : decode bS_playerAt 23 = .ok (.invokevirtual 74, 3) := by decide +kernel
theorem dS_playerAt_26 : decode bS_playerAt 26 = .ok (.ifCond .eq 6, 3) := by decide +kernel
theorem dS_playerAt_29 : decode bS_playerAt 29 = .ok (.iinc 4 1, 3) := by decide +kernel
theorem dS_playerAt_32 : decode bS_playerAt 32 = .ok (.iinc 5 1, 3) := by decide +kernel
theorem dS_playerAt_35 : decode bS_playerAt 35 = .ok (.goto (-22), 3) := by decide +kernel
theorem dS_playerAt_38 : decode bS_playerAt 38 = .ok (.iload 4, 2) := by decide +kernel
theorem dS_playerAt_40 : decode bS_playerAt 40 = .ok (.iload_n 1, 1) := by decide +kernel
theorem dS_playerAt_41 : decode bS_playerAt 41 = .ok (.if_icmp .ne 5, 3) := by decide +kernel
theorem dS_playerAt_44 : decode bS_playerAt 44 = .ok (.iload_n 3, 1) := by decide +kernel
theorem dS_playerAt_45 : decode bS_playerAt 45 = .ok (.ireturn, 1) := by decide +kernel
theorem dS_playerAt_46 : decode bS_playerAt 46 = .ok (.iinc 3 1, 3) := by decide +kernel
theorem dS_playerAt_49 : decode bS_playerAt 49 = .ok (.goto (-47), 3) := by decide +kernel
theorem dS_playerAt_52 : decode bS_playerAt 52 = .ok (.iconst (-1), 1) := by decide +kernel
theorem dS_playerAt_53 : decode bS_playerAt 53 = .ok (.ireturn, 1) := by decide +kernel
theorem dS_recount_0 : decode bS_recount 0 = .ok (.aload_n 0, 1) := by decide +kernel
theorem dS_recount_1 : decode bS_recount 1 = .ok (.invokevirtual 42, 3) := by decide +kernel
theorem dS_recount_4 : decode bS_recount 4 = .ok (.iconst 0, 1) := by decide +kernel
theorem dS_recount_5 : decode bS_recount 5 = .ok (.istore_n 3, 1) := by decide +kernel
theorem dS_recount_6 : decode bS_recount 6 = .ok (.iload_n 3, 1) := by decide +kernel
theorem dS_recount_7 : decode bS_recount 7 = .ok (.iload_n 2, 1) := by decide +kernel
theorem dS_recount_8 : decode bS_recount 8 = .ok (.if_icmp .ge 37, 3) := by decide +kernel
theorem dS_recount_11 : decode bS_recount 11 = .ok (.iconst 0, 1) := by decide +kernel
theorem dS_recount_12 : decode bS_recount 12 = .ok (.istore 4, 2) := by decide +kernel
theorem dS_recount_14 : decode bS_recount 14 = .ok (.iload 4, 2) := by decide +kernel
theorem dS_recount_16 : decode bS_recount 16 = .ok (.bipush 12, 2) := by decide +kernel
theorem dS_recount_18 : decode bS_recount 18 = .ok (.if_icmp .ge 21, 3) := by decide +kernel
theorem dS_recount_21 : decode bS_recount 21 = .ok (.aload_n 0, 1) := by decide +kernel
theorem dS_recount_22 : decode bS_recount 22 = .ok (.iload 4, 2) := by decide +kernel
theorem dS_recount_24 : decode bS_recount 24 = .ok (.aload_n 1, 1) := by decide +kernel
theorem dS_recount_25 : decode bS_recount 25 = .ok (.iload_n 3, 1) := by decide +kernel
theorem dS_recount_26 : decode bS_recount 26 = .ok (.aaload, 1) := by decide +kernel
theorem dS_recount_27 : decode bS_recount 27 = .ok (.iload 4, 2) := by decide +kernel
theorem dS_recount_29 : decode bS_recount 29 = .ok (.iaload, 1) := by decide +kernel
theorem dS_recount_30 : decode bS_recount 30 = .ok (.invokevirtual 45, 3) := by decide +kernel
theorem dS_recount_33 : decode bS_recount 33 = .ok (.iinc 4 1, 3) := by decide +kernel
theorem dS_recount_36 : decode bS_recount 36 = .ok (.goto (-22), 3) := by decide +kernel
theorem dS_recount_39 : decode bS_recount 39 = .ok (.iinc 3 1, 3) := by decide +kernel
theorem dS_recount_42 : decode bS_recount 42 = .ok (.goto (-36), 3) := by decide +kernel
theorem dS_recount_45 : decode bS_recount 45 = .ok (.iconst 0, 1) := by decide +kernel
theorem dS_recount_46 : decode bS_recount 46 = .ok (.istore_n 3, 1) := by decide +kernel
theorem dS_recount_47 : decode bS_recount 47 = .ok (.iload_n 3, 1) := by decide +kernel
theorem dS_recount_48 : decode bS_recount 48 = .ok (.iload_n 2, 1) := by decide +kernel
theorem dS_recount_49 : decode bS_recount 49 = .ok (.if_icmp .ge 37, 3) := by decide +kernel
theorem dS_recount_52 : decode bS_recount 52 = .ok (.iconst 0, 1) := by decide +kernel
theorem dS_recount_53 : decode bS_recount 53 = .ok (.istore 4, 2) := by decide +kernel
theorem dS_recount_55 : decode bS_recount 55 = .ok (.iload 4, 2) := by decide +kernel
theorem dS_recount_57 : decode bS_recount 57 = .ok (.bipush 12, 2) := by decide +kernel
theorem dS_recount_59 : decode bS_recount 59 = .ok (.if_icmp .ge 21, 3) := by decide +kernel
theorem dS_recount_62 : decode bS_recount 62 = .ok (.aload_n 0, 1) := by decide +kernel
theorem dS_recount_63 : decode bS_recount 63 = .ok (.iload 4, 2) := by decide +kernel
theorem dS_recount_65 : decode bS_recount 65 = .ok (.aload_n 1, 1) := by decide +kernel
theorem dS_recount_66 : decode bS_recount 66 = .ok (.iload_n 3, 1) := by decide +kernel
theorem dS_recount_67 : decode bS_recount 67 = .ok (.aaload, 1) := by decide +kernel
theorem dS_recount_68 : decode bS_recount 68 = .ok (.iload 4, 2) := by decide +kernel
theorem dS_recount_70 : decode bS_recount 70 = .ok (.iaload, 1) := by decide +kernel
theorem dS_recount_71 : decode bS_recount 71 = .ok (.invokevirtual 49, 3) := by decide +kernel
theorem dS_recount_74 : decode bS_recount 74 = .ok (.iinc 4 1, 3) := by decide +kernel
theorem dS_recount_77 : decode bS_recount 77 = .ok (.goto (-22), 3) := by decide +kernel
theorem dS_recount_80 : decode bS_recount 80 = .ok (.iinc 3 1, 3) := by decide +kernel
theorem dS_recount_83 : decode bS_recount 83 = .ok (.goto (-36), 3) := by decide +kernel
theorem dS_recount_86 : decode bS_recount 86 = .ok (.return_, 1) := by decide +kernel
