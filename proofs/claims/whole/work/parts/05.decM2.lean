theorem dM_hadGame_4 : decode bM_hadGame 4 = .ok (.bipush 12, 2) := by decide +kernel
theorem dM_hadGame_6 : decode bM_hadGame 6 = .ok (.iload_n 1, 1) := by decide +kernel
theorem dM_hadGame_7 : decode bM_hadGame 7 = .ok (.imul, 1) := by decide +kernel
theorem dM_hadGame_8 : decode bM_hadGame 8 = .ok (.iload_n 2, 1) := by decide +kernel
theorem dM_hadGame_9 : decode bM_hadGame 9 = .ok (.iadd, 1) := by decide +kernel
theorem dM_hadGame_10 : decode bM_hadGame 10 = .ok (.iaload, 1) := by decide +kernel
theorem dM_hadGame_11 : decode bM_hadGame 11 = .ok (.istore_n 3, 1) := by decide +kernel
theorem dM_hadGame_12 : decode bM_hadGame 12 = .ok (.iload_n 3, 1) := by decide +kernel
theorem dM_hadGame_13 : decode bM_hadGame 13 = .ok (.ifCond .lt 13, 3) := by decide +kernel
theorem dM_hadGame_16 : decode bM_hadGame 16 = .ok (.iload_n 3, 1) := by decide +kernel
theorem dM_hadGame_17 : decode bM_hadGame 17 = .ok (.bipush 12, 2) := by decide +kernel
theorem dM_hadGame_19 : decode bM_hadGame 19 = .ok (.if_icmp .ge 7, 3) := by decide +kernel
theorem dM_hadGame_22 : decode bM_hadGame 22 = .ok (.iconst 1, 1) := by decide +kernel
theorem dM_hadGame_23 : decode bM_hadGame 23 = .ok (.goto 4, 3) := by decide +kernel
theorem dM_hadGame_26 : decode bM_hadGame 26 = .ok (.iconst 0, 1) := by decide +kernel
theorem dM_hadGame_27 : decode bM_hadGame 27 = .ok (.ireturn, 1) := by decide +kernel
theorem dM_inMany_0 : decode bM_inMany 0 = .ok (.iconst 0, 1) := by decide +kernel
theorem dM_inMany_1 : decode bM_inMany 1 = .ok (.istore_n 1, 1) := by decide +kernel
theorem dM_inMany_2 : decode bM_inMany 2 = .ok (.iconst 0, 1) := by decide +kernel
theorem dM_inMany_3 : decode bM_inMany 3 = .ok (.istore_n 2, 1) := by decide +kernel
theorem dM_inMany_4 : decode bM_inMany 4 = .ok (.iload_n 2, 1) := by decide +kernel
theorem dM_inMany_5 : decode bM_inMany 5 = .ok (.aload_n 0, 1) := by decide +kernel
theorem dM_inMany_6 : decode bM_inMany 6 = .ok (.getfield 44, 3) := by decide +kernel
theorem dM_inMany_9 : decode bM_inMany 9 = .ok (.if_icmp .ge 26, 3) := by decide +kernel
theorem dM_inMany_12 : decode bM_inMany 12 = .ok (.aload_n 0, 1) := by decide +kernel
theorem dM_inMany_13 : decode bM_inMany 13 = .ok (.getfield 7, 3) := by decide +kernel
theorem dM_inMany_16 : decode bM_inMany 16 = .ok (.iload_n 2, 1) := by decide +kernel
theorem dM_inMany_17 : decode bM_inMany 17 = .ok (.baload, 1) := by decide +kernel
theorem dM_inMany_18 : decode bM_inMany 18 = .ok (.ifCond .eq 9, 3) := by decide +kernel
theorem dM_inMany_21 : decode bM_inMany 21 = .ok (.iload_n 1, 1) := by decide +kernel
theorem dM_inMany_22 : decode bM_inMany 22 = .ok (.iconst 1, 1) := by decide +kernel
theorem dM_inMany_23 : decode bM_inMany 23 = .ok (.iadd, 1) := by decide +kernel
theorem dM_inMany_24 : decode bM_inMany 24 = .ok (.goto 4, 3) := by decide +kernel
theorem dM_inMany_27 : decode bM_inMany 27 = .ok (.iload_n 1, 1) := by decide +kernel
theorem dM_inMany_28 : decode bM_inMany 28 = .ok (.istore_n 1, 1) := by decide +kernel
theorem dM_inMany_29 : decode bM_inMany 29 = .ok (.iinc 2 1, 3) := by decide +kernel
theorem dM_inMany_32 : decode bM_inMany 32 = .ok (.goto (-28), 3) := by decide +kernel
theorem dM_inMany_35 : decode bM_inMany 35 = .ok (.iload_n 1, 1) := by decide +kernel
theorem dM_inMany_36 : decode bM_inMany 36 = .ok (.ireturn, 1) := by decide +kernel
theorem dM_init_0 : decode bM_init 0 = .ok (.aload_n 0, 1) := by decide +kernel
theorem dM_init_1 : decode bM_init 1 = .ok (.invokespecial 1, 3) := by decide +kernel
theorem dM_init_4 : decode bM_init 4 = .ok (.aload_n 0, 1) := by decide +kernel
theorem dM_init_5 : decode bM_init 5 = .ok (.bipush 12, 2) := by decide +kernel
theorem dM_init_7 : decode bM_init 7 = .ok (.newarray .boolean, 2) := by decide +kernel
theorem dM_init_9 : decode bM_init 9 = .ok (.putfield 7, 3) := by decide +kernel
theorem dM_init_12 : decode bM_init 12 = .ok (.aload_n 0, 1) := by decide +kernel
theorem dM_init_13 : decode bM_init 13 = .ok (.sipush 144, 3) := by decide +kernel
theorem dM_init_16 : decode bM_init 16 = .ok (.newarray .boolean, 2) := by decide +kernel
theorem dM_init_18 : decode bM_init 18 = .ok (.putfield 13, 3) := by decide +kernel
theorem dM_init_21 : decode bM_init 21 = .ok (.aload_n 0, 1) := by decide +kernel
theorem dM_init_22 : decode bM_init 22 = .ok (.sipush 204, 3) := by decide +kernel
theorem dM_init_25 : decode bM_init 25 = .ok (.newarray .int, 2) := by decide +kernel
theorem dM_init_27 : decode bM_init 27 = .ok (.putfield 16, 3) := by decide +kernel
theorem dM_init_30 : decode bM_init 30 = .ok (.aload_n 0, 1) := by decide +kernel
theorem dM_init_31 : decode bM_init 31 = .ok (.sipush 204, 3) := by decide +kernel
theorem dM_init_34 : decode bM_init 34 = .ok (.newarray .boolean, 2) := by decide +kernel
theorem dM_init_36 : decode bM_init 36 = .ok (.putfield 20, 3) := by decide +kernel
theorem dM_init_39 : decode bM_init 39 = .ok (.aload_n 0, 1) := by decide +kernel
theorem dM_init_40 : decode bM_init 40 = .ok (.sipush 204, 3) := by decide +kernel
theorem dM_init_43 : decode bM_init 43 = .ok (.newarray .int, 2) := by decide +kernel
theorem dM_init_45 : decode bM_init 45 = .ok (.putfield 23, 3) := by decide +kernel
theorem dM_init_48 : decode bM_init 48 = .ok (.aload_n 0, 1) := by decide +kernel
theorem dM_init_49 : decode bM_init 49 = .ok (.bipush 12, 2) := by decide +kernel
theorem dM_init_51 : decode bM_init 51 = .ok (.newarray .int, 2) := by decide +kernel
theorem dM_init_53 : decode bM_init 53 = .ok (.putfield 26, 3) := by decide +kernel
theorem dM_init_56 : decode bM_init 56 = .ok (.aload_n 0, 1) := by decide +kernel
theorem dM_init_57 : decode bM_init 57 = .ok (.sipush 144, 3) := by decide +kernel
theorem dM_init_60 : decode bM_init 60 = .ok (.newarray .int, 2) := by decide +kernel
theorem dM_init_62 : decode bM_init 62 = .ok (.putfield 29, 3) := by decide +kernel
theorem dM_init_65 : decode bM_init 65 = .ok (.aload_n 0, 1) := by decide +kernel
theorem dM_init_66 : decode bM_init 66 = .ok (.sipush 4096, 3) := by decide +kernel
theorem dM_init_69 : decode bM_init 69 = .ok (.newarray .int, 2) := by decide +kernel
theorem dM_init_71 : decode bM_init 71 = .ok (.putfield 32, 3) := by decide +kernel
theorem dM_init_74 : decode bM_init 74 = .ok (.aload_n 0, 1) := by decide +kernel
theorem dM_init_75 : decode bM_init 75 = .ok (.sipush 4096, 3) := by decide +kernel
theorem dM_init_78 : decode bM_init 78 = .ok (.newarray .int, 2) := by decide +kernel
theorem dM_init_80 : decode bM_init 80 = .ok (.putfield 35, 3) := by decide +kernel
theorem dM_init_83 : decode bM_init 83 = .ok (.aload_n 0, 1) := by decide +kernel
theorem dM_init_84 : decode bM_init 84 = .ok (.sipush 4096, 3) := by decide +kernel
theorem dM_init_87 : decode bM_init 87 = .ok (.newarray .int, 2) := by decide +kernel
theorem dM_init_89 : decode bM_init 89 = .ok (.putfield 38, 3) := by decide +kernel
theorem dM_init_92 : decode bM_init 92 = .ok (.aload_n 0, 1) := by decide +kernel
theorem dM_init_93 : decode bM_init 93 = .ok (.bipush 12, 2) := by decide +kernel
theorem dM_init_95 : decode bM_init 95 = .ok (.newarray .int, 2) := by decide +kernel
theorem dM_init_97 : decode bM_init 97 = .ok (.putfield 41, 3) := by decide +kernel
theorem dM_init_100 : decode bM_init 100 = .ok (.aload_n 0, 1) := by decide +kernel
theorem dM_init_101 : decode bM_init 101 = .ok (.iload_n 1, 1) := by decide +kernel
theorem dM_init_102 : decode bM_init 102 = .ok (.iconst 2, 1) := by decide +kernel
theorem dM_init_103 : decode bM_init 103 = .ok (.if_icmp .ge 7, 3) := by decide +kernel
theorem dM_init_106 : decode bM_init 106 = .ok (.iconst 2, 1) := by decide +kernel
theorem dM_init_107 : decode bM_init 107 = .ok (.goto 15, 3) := by decide +kernel
theorem dM_init_110 : decode bM_init 110 = .ok (.iload_n 1, 1) := by decide +kernel
theorem dM_init_111 : decode bM_init 111 = .ok (.bipush 12, 2) := by decide +kernel
theorem dM_init_113 : decode bM_init 113 = .ok (.if_icmp .le 8, 3) := by decide +kernel
theorem dM_init_116 : decode bM_init 116 = .ok (.bipush 12, 2) := by decide +kernel
theorem dM_init_118 : decode bM_init 118 = .ok (.goto 4, 3) := by decide +kernel
theorem dM_init_121 : decode bM_init 121 = .ok (.iload_n 1, 1) := by decide +kernel
theorem dM_init_122 : decode bM_init 122 = .ok (.putfield 44, 3) := by decide +kernel
theorem dM_init_125 : decode bM_init 125 = .ok (.iconst 0, 1) := by decide +kernel
theorem dM_init_126 : decode bM_init 126 = .ok (.istore_n 2, 1) := by decide +kernel
theorem dM_init_127 : decode bM_init 127 = .ok (.iload_n 2, 1) := by decide +kernel
theorem dM_init_128 : decode bM_init 128 = .ok (.bipush 12, 2) := by decide +kernel
theorem dM_init_130 : decode bM_init 130 = .ok (.if_icmp .ge 16, 3) := by decide +kernel
theorem dM_init_133 : decode bM_init 133 = .ok (.aload_n 0, 1) := by decide +kernel
theorem dM_init_134 : decode bM_init 134 = .ok (.getfield 7, 3) := by decide +kernel
theorem dM_init_137 : decode bM_init 137 = .ok (.iload_n 2, 1) := by decide +kernel
theorem dM_init_138 : decode bM_init 138 = .ok (.iconst 1, 1) := by decide +kernel
theorem dM_init_139 : decode bM_init 139 = .ok (.bastore, 1) := by decide +kernel
theorem dM_init_140 : decode bM_init 140 = .ok (.iinc 2 1, 3) := by decide +kernel
theorem dM_init_143 : decode bM_init 143 = .ok (.goto (-16), 3) := by decide +kernel
theorem dM_init_146 : decode bM_init 146 = .ok (.return_, 1) := by decide +kernel
theorem dM_isBefore_0 : decode bM_isBefore 0 = .ok (.aload_n 0, 1) := by decide +kernel
theorem dM_isBefore_1 : decode bM_isBefore 1 = .ok (.iload_n 1, 1) := by decide +kernel
theorem dM_isBefore_2 : decode bM_isBefore 2 = .ok (.invokevirtual 70, 3) := by decide +kernel
theorem dM_isBefore_5 : decode bM_isBefore 5 = .ok (.aload_n 0, 1) := by decide +kernel
theorem dM_isBefore_6 : decode bM_isBefore 6 = .ok (.iload_n 2, 1) := by decide +kernel
theorem dM_isBefore_7 : decode bM_isBefore 7 = .ok (.invokevirtual 70, 3) := by decide +kernel
theorem dM_isBefore_10 : decode bM_isBefore 10 = .ok (.isub, 1) := by decide +kernel
theorem dM_isBefore_11 : decode bM_isBefore 11 = .ok (.istore_n 3, 1) := by decide +kernel
theorem dM_isBefore_12 : decode bM_isBefore 12 = .ok (.aload_n 0, 1) := by decide +kernel
theorem dM_isBefore_13 : decode bM_isBefore 13 = .ok (.iload_n 1, 1) := by decide +kernel
theorem dM_isBefore_14 : decode bM_isBefore 14 = .ok (.invokevirtual 129, 3) := by decide +kernel
theorem dM_isBefore_17 : decode bM_isBefore 17 = .ok (.aload_n 0, 1) := by decide +kernel
theorem dM_isBefore_18 : decode bM_isBefore 18 = .ok (.iload_n 2, 1) := by decide +kernel
theorem dM_isBefore_19 : decode bM_isBefore 19 = .ok (.invokevirtual 129, 3) := by decide +kernel
theorem dM_isBefore_22 : decode bM_isBefore 22 = .ok (.isub, 1) := by decide +kernel
theorem dM_isBefore_23 : decode bM_isBefore 23 = .ok (.istore 4, 2) := by decide +kernel
theorem dM_isBefore_25 : decode bM_isBefore 25 = .ok (.aload_n 0, 1) := by decide +kernel
theorem dM_isBefore_26 : decode bM_isBefore 26 = .ok (.iload_n 1, 1) := by decide +kernel
theorem dM_isBefore_27 : decode bM_isBefore 27 = .ok (.invokevirtual 132, 3) := by decide +kernel
theorem dM_isBefore_30 : decode bM_isBefore 30 = .ok (.aload_n 0, 1) := by decide +kernel
theorem dM_isBefore_31 : decode bM_isBefore 31 = .ok (.iload_n 2, 1) := by decide +kernel
theorem dM_isBefore_32 : decode bM_isBefore 32 = .ok (.invokevirtual 132, 3) := by decide +kernel
theorem dM_isBefore_35 : decode bM_isBefore 35 = .ok (.isub, 1) := by decide +kernel
theorem dM_isBefore_36 : decode bM_isBefore 36 = .ok (.istore 5, 2) := by decide +kernel
theorem dM_isBefore_38 : decode bM_isBefore 38 = .ok (.aload_n 0, 1) := by decide +kernel
theorem dM_isBefore_39 : decode bM_isBefore 39 = .ok (.iload_n 1, 1) := by decide +kernel
theorem dM_isBefore_40 : decode bM_isBefore 40 = .ok (.invokevirtual 135, 3) := by decide +kernel
theorem dM_isBefore_43 : decode bM_isBefore 43 = .ok (.aload_n 0, 1) := by decide +kernel
theorem dM_isBefore_44 : decode bM_isBefore 44 = .ok (.iload_n 2, 1) := by decide +kernel
theorem dM_isBefore_45 : decode bM_isBefore 45 = .ok (.invokevirtual 135, 3) := by decide +kernel
theorem dM_isBefore_48 : decode bM_isBefore 48 = .ok (.isub, 1) := by decide +kernel
theorem dM_isBefore_49 : decode bM_isBefore 49 = .ok (.istore 6, 2) := by decide +kernel
theorem dM_isBefore_51 : decode bM_isBefore 51 = .ok (.iload_n 3, 1) := by decide +kernel
theorem dM_isBefore_52 : decode bM_isBefore 52 = .ok (.ifCond .eq 15, 3) := by decide +kernel
theorem dM_isBefore_55 : decode bM_isBefore 55 = .ok (.iload_n 3, 1) := by decide +kernel
theorem dM_isBefore_56 : decode bM_isBefore 56 = .ok (.ifCond .le 7, 3) := by decide +kernel
theorem dM_isBefore_59 : decode bM_isBefore 59 = .ok (.iconst 1, 1) := by decide +kernel
theorem dM_isBefore_60 : decode bM_isBefore 60 = .ok (.goto 71, 3) := by decide +kernel
theorem dM_isBefore_63 : decode bM_isBefore 63 = .ok (.iconst 0, 1) := by decide +kernel
theorem dM_isBefore_64 : decode bM_isBefore 64 = .ok (.goto 67, 3) := by decide +kernel
theorem dM_isBefore_67 : decode bM_isBefore 67 = .ok (.iload 4, 2) := by decide +kernel
theorem dM_isBefore_69 : decode bM_isBefore 69 = .ok (.ifCond .eq 16, 3) := by decide +kernel
theorem dM_isBefore_72 : decode bM_isBefore 72 = .ok (.iload 4, 2) := by decide +kernel
theorem dM_isBefore_74 : decode bM_isBefore 74 = .ok (.ifCond .le 7, 3) := by decide +kernel
theorem dM_isBefore_77 : decode bM_isBefore 77 = .ok (.iconst 1, 1) := by decide +kernel
theorem dM_isBefore_78 : decode bM_isBefore 78 = .ok (.goto 53, 3) := by decide +kernel
theorem dM_isBefore_81 : decode bM_isBefore 81 = .ok (.iconst 0, 1) := by decide +kernel
theorem dM_isBefore_82 : decode bM_isBefore 82 = .ok (.goto 49, 3) := by decide +kernel
theorem dM_isBefore_85 : decode bM_isBefore 85 = .ok (.iload 5, 2) := by decide +kernel
theorem dM_isBefore_87 : decode bM_isBefore 87 = .ok (.ifCond .eq 16, 3) := by decide +kernel
theorem dM_isBefore_90 : decode bM_isBefore 90 = .ok (.iload 5, 2) := by decide +kernel
theorem dM_isBefore_92 : decode bM_isBefore 92 = .ok (.ifCond .le 7, 3) := by decide +kernel
theorem dM_isBefore_95 : decode bM_isBefore 95 = .ok (.iconst 1, 1) := by decide +kernel
theorem dM_isBefore_96 : decode bM_isBefore 96 = .ok (.goto 35, 3) := by decide +kernel
theorem dM_isBefore_99 : decode bM_isBefore 99 = .ok (.iconst 0, 1) := by decide +kernel
theorem dM_isBefore_100 : decode bM_isBefore 100 = .ok (.goto 31, 3) := by decide +kernel
theorem dM_isBefore_103 : decode bM_isBefore 103 = .ok (.iload 6, 2) := by decide +kernel
theorem dM_isBefore_105 : decode bM_isBefore 105 = .ok (.ifCond .eq 16, 3) := by decide +kernel
theorem dM_isBefore_108 : decode bM_isBefore 108 = .ok (.iload 6, 2) := by decide +kernel
theorem dM_isBefore_110 : decode bM_isBefore 110 = .ok (.ifCond .le 7, 3) := by decide +kernel
theorem dM_isBefore_113 : decode bM_isBefore 113 = .ok (.iconst 1, 1) := by decide +kernel
theorem dM_isBefore_114 : decode bM_isBefore 114 = .ok (.goto 17, 3) := by decide +kernel
theorem dM_isBefore_117 : decode bM_isBefore 117 = .ok (.iconst 0, 1) := by decide +kernel
theorem dM_isBefore_118 : decode bM_isBefore 118 = .ok (.goto 13, 3) := by decide +kernel
theorem dM_isBefore_121 : decode bM_isBefore 121 = .ok (.iload_n 1, 1) := by decide +kernel
theorem dM_isBefore_122 : decode bM_isBefore 122 = .ok (.iload_n 2, 1) := by decide +kernel
theorem dM_isBefore_123 : decode bM_isBefore 123 = .ok (.if_icmp .ge 7, 3) := by decide +kernel
theorem dM_isBefore_126 : decode bM_isBefore 126 = .ok (.iconst 1, 1) := by decide +kernel
theorem dM_isBefore_127 : decode bM_isBefore 127 = .ok (.goto 4, 3) := by decide +kernel
theorem dM_isBefore_130 : decode bM_isBefore 130 = .ok (.iconst 0, 1) := by decide +kernel
theorem dM_isBefore_131 : decode bM_isBefore 131 = .ok (.ireturn, 1) := by decide +kernel
theorem dM_isFirstWhite_0 : decode bM_isFirstWhite 0 = .ok (.aload_n 0, 1) := by decide +kernel
theorem dM_isFirstWhite_1 : decode bM_isFirstWhite 1 = .ok (.iload_n 1, 1) := by decide +kernel
theorem dM_isFirstWhite_2 : decode bM_isFirstWhite 2 = .ok (.invokevirtual 74, 3) := by decide +kernel
theorem dM_isFirstWhite_5 : decode bM_isFirstWhite 5 = .ok (.istore_n 3, 1) := by decide +kernel
theorem dM_isFirstWhite_6 : decode bM_isFirstWhite 6 = .ok (.aload_n 0, 1) := by decide +kernel
theorem dM_isFirstWhite_7 : decode bM_isFirstWhite 7 = .ok (.iload_n 2, 1) := by decide +kernel
theorem dM_isFirstWhite_8 : decode bM_isFirstWhite 8 = .ok (.invokevirtual 74, 3) := by decide +kernel
theorem dM_isFirstWhite_11 : decode bM_isFirstWhite 11 = .ok (.istore 4, 2) := by decide +kernel
theorem dM_isFirstWhite_13 : decode bM_isFirstWhite 13 = .ok (.iload_n 3, 1) := by decide +kernel
theorem dM_isFirstWhite_14 : decode bM_isFirstWhite 14 = .ok (.iload 4, 2) := by decide +kernel
theorem dM_isFirstWhite_16 : decode bM_isFirstWhite 16 = .ok (.if_icmp .eq 15, 3) := by decide +kernel
theorem dM_isFirstWhite_19 : decode bM_isFirstWhite 19 = .ok (.iload_n 3, 1) := by decide +kernel
theorem dM_isFirstWhite_20 : decode bM_isFirstWhite 20 = .ok (.iload 4, 2) := by decide +kernel
theorem dM_isFirstWhite_22 : decode bM_isFirstWhite 22 = .ok (.if_icmp .ge 7, 3) := by decide +kernel
theorem dM_isFirstWhite_25 : decode bM_isFirstWhite 25 = .ok (.iconst 1, 1) := by decide +kernel
theorem dM_isFirstWhite_26 : decode bM_isFirstWhite 26 = .ok (.goto 4, 3) := by decide +kernel
theorem dM_isFirstWhite_29 : decode bM_isFirstWhite 29 = .ok (.iconst 0, 1) := by decide +kernel
theorem dM_isFirstWhite_30 : decode bM_isFirstWhite 30 = .ok (.ireturn, 1) := by decide +kernel
theorem dM_isFirstWhite_31 : decode bM_isFirstWhite 31 = .ok (.aload_n 0, 1) := by decide +kernel
theorem dM_isFirstWhite_32 : decode bM_isFirstWhite 32 = .ok (.iload_n 1, 1) := by decide +kernel
theorem dM_isFirstWhite_33 : decode bM_isFirstWhite 33 = .ok (.iconst 0, 1) := by decide +kernel
theorem dM_isFirstWhite_34 : decode bM_isFirstWhite 34 = .ok (.invokevirtual 77, 3) := by decide +kernel
theorem dM_isFirstWhite_37 : decode bM_isFirstWhite 37 = .ok (.istore 5, 2) := by decide +kernel
theorem dM_isFirstWhite_39 : decode bM_isFirstWhite 39 = .ok (.aload_n 0, 1) := by decide +kernel
theorem dM_isFirstWhite_40 : decode bM_isFirstWhite 40 = .ok (.iload_n 2, 1) := by decide +kernel
theorem dM_isFirstWhite_41 : decode bM_isFirstWhite 41 = .ok (.iconst 0, 1) := by decide +kernel
theorem dM_isFirstWhite_42 : decode bM_isFirstWhite 42 = .ok (.invokevirtual 77, 3) := by decide +kernel
theorem dM_isFirstWhite_45 : decode bM_isFirstWhite 45 = .ok (.istore 6, 2) := by decide +kernel
theorem dM_isFirstWhite_47 : decode bM_isFirstWhite 47 = .ok (.iload 5, 2) := by decide +kernel
theorem dM_isFirstWhite_49 : decode bM_isFirstWhite 49 = .ok (.iconst (-1), 1) := by decide +kernel
theorem dM_isFirstWhite_50 : decode bM_isFirstWhite 50 = .ok (.if_icmp .ne 11, 3) := by decide +kernel
theorem dM_isFirstWhite_53 : decode bM_isFirstWhite 53 = .ok (.iload 6, 2) := by decide +kernel
theorem dM_isFirstWhite_55 : decode bM_isFirstWhite 55 = .ok (.iconst 1, 1) := by decide +kernel
theorem dM_isFirstWhite_56 : decode bM_isFirstWhite 56 = .ok (.if_icmp .ne 5, 3) := by decide +kernel
theorem dM_isFirstWhite_59 : decode bM_isFirstWhite 59 = .ok (.iconst 1, 1) := by decide +kernel
theorem dM_isFirstWhite_60 : decode bM_isFirstWhite 60 = .ok (.ireturn, 1) := by decide +kernel
theorem dM_isFirstWhite_61 : decode bM_isFirstWhite 61 = .ok (.iload 5, 2) := by decide +kernel
theorem dM_isFirstWhite_63 : decode bM_isFirstWhite 63 = .ok (.iconst 1, 1) := by decide +kernel
theorem dM_isFirstWhite_64 : decode bM_isFirstWhite 64 = .ok (.if_icmp .ne 11, 3) := by decide +kernel
theorem dM_isFirstWhite_67 : decode bM_isFirstWhite 67 = .ok (.iload 6, 2) := by decide +kernel
theorem dM_isFirstWhite_69 : decode bM_isFirstWhite 69 = .ok (.iconst (-1), 1) := by decide +kernel
theorem dM_isFirstWhite_70 : decode bM_isFirstWhite 70 = .ok (.if_icmp .ne 5, 3) := by decide +kernel
theorem dM_isFirstWhite_73 : decode bM_isFirstWhite 73 = .ok (.iconst 0, 1) := by decide +kernel
theorem dM_isFirstWhite_74 : decode bM_isFirstWhite 74 = .ok (.ireturn, 1) := by decide +kernel
theorem dM_isFirstWhite_75 : decode bM_isFirstWhite 75 = .ok (.aload_n 0, 1) := by decide +kernel
theorem dM_isFirstWhite_76 : decode bM_isFirstWhite 76 = .ok (.getfield 63, 3) := by decide +kernel
theorem dM_isFirstWhite_79 : decode bM_isFirstWhite 79 = .ok (.iconst 2, 1) := by decide +kernel
theorem dM_isFirstWhite_80 : decode bM_isFirstWhite 80 = .ok (.irem, 1) := by decide +kernel
theorem dM_isFirstWhite_81 : decode bM_isFirstWhite 81 = .ok (.ifCond .ne 7, 3) := by decide +kernel
theorem dM_isFirstWhite_84 : decode bM_isFirstWhite 84 = .ok (.iconst 1, 1) := by decide +kernel
theorem dM_isFirstWhite_85 : decode bM_isFirstWhite 85 = .ok (.goto 4, 3) := by decide +kernel
theorem dM_isFirstWhite_88 : decode bM_isFirstWhite 88 = .ok (.iconst 0, 1) := by decide +kernel
theorem dM_isFirstWhite_89 : decode bM_isFirstWhite 89 = .ok (.ireturn, 1) := by decide +kernel
theorem dM_isIn_0 : decode bM_isIn 0 = .ok (.aload_n 0, 1) := by decide +kernel
theorem dM_isIn_1 : decode bM_isIn 1 = .ok (.iconst 0, 1) := by decide +kernel
theorem dM_isIn_2 : decode bM_isIn 2 = .ok (.putfield 48, 3) := by decide +kernel
theorem dM_isIn_5 : decode bM_isIn 5 = .ok (.aload_n 0, 1) := by decide +kernel
theorem dM_isIn_6 : decode bM_isIn 6 = .ok (.iload_n 1, 1) := by decide +kernel
theorem dM_isIn_7 : decode bM_isIn 7 = .ok (.invokevirtual 59, 3) := by decide +kernel
theorem dM_isIn_10 : decode bM_isIn 10 = .ok (.ifCond .eq 16, 3) := by decide +kernel
theorem dM_isIn_13 : decode bM_isIn 13 = .ok (.aload_n 0, 1) := by decide +kernel
theorem dM_isIn_14 : decode bM_isIn 14 = .ok (.getfield 7, 3) := by decide +kernel
theorem dM_isIn_17 : decode bM_isIn 17 = .ok (.iload_n 1, 1) := by decide +kernel
theorem dM_isIn_18 : decode bM_isIn 18 = .ok (.baload, 1) := by decide +kernel
theorem dM_isIn_19 : decode bM_isIn 19 = .ok (.ifCond .eq 7, 3) := by decide +kernel
theorem dM_isIn_22 : decode bM_isIn 22 = .ok (.iconst 1, 1) := by decide +kernel
theorem dM_isIn_23 : decode bM_isIn 23 = .ok (.goto 4, 3) := by decide +kernel
theorem dM_isIn_26 : decode bM_isIn 26 = .ok (.iconst 0, 1) := by decide +kernel
theorem dM_isIn_27 : decode bM_isIn 27 = .ok (.ireturn, 1) := by decide +kernel
theorem dM_isPlayer_0 : decode bM_isPlayer 0 = .ok (.iload_n 1, 1) := by decide +kernel
theorem dM_isPlayer_1 : decode bM_isPlayer 1 = .ok (.ifCond .lt 15, 3) := by decide +kernel
theorem dM_isPlayer_4 : decode bM_isPlayer 4 = .ok (.iload_n 1, 1) := by decide +kernel
theorem dM_isPlayer_5 : decode bM_isPlayer 5 = .ok (.aload_n 0, 1) := by decide +kernel
theorem dM_isPlayer_6 : decode bM_isPlayer 6 = .ok (.getfield 44, 3) := by decide +kernel
theorem dM_isPlayer_9 : decode bM_isPlayer 9 = .ok (.if_icmp .ge 7, 3) := by decide +kernel
theorem dM_isPlayer_12 : decode bM_isPlayer 12 = .ok (.iconst 1, 1) := by decide +kernel
theorem dM_isPlayer_13 : decode bM_isPlayer 13 = .ok (.goto 4, 3) := by decide +kernel
theorem dM_isPlayer_16 : decode bM_isPlayer 16 = .ok (.iconst 0, 1) := by decide +kernel
theorem dM_isPlayer_17 : decode bM_isPlayer 17 = .ok (.ireturn, 1) := by decide +kernel
theorem dM_isWhite_0 : decode bM_isWhite 0 = .ok (.aload_n 0, 1) := by decide +kernel
theorem dM_isWhite_1 : decode bM_isWhite 1 = .ok (.aload_n 0, 1) := by decide +kernel
theorem dM_isWhite_2 : decode bM_isWhite 2 = .ok (.iload_n 1, 1) := by decide +kernel
theorem dM_isWhite_3 : decode bM_isWhite 3 = .ok (.invokevirtual 59, 3) := by decide +kernel
theorem dM_isWhite_6 : decode bM_isWhite 6 = .ok (.ifCond .ne 7, 3) := by decide +kernel
theorem dM_isWhite_9 : decode bM_isWhite 9 = .ok (.iconst 1, 1) := by decide +kernel
theorem dM_isWhite_10 : decode bM_isWhite 10 = .ok (.goto 4, 3) := by decide +kernel
theorem dM_isWhite_13 : decode bM_isWhite 13 = .ok (.iconst 0, 1) := by decide +kernel
theorem dM_isWhite_14 : decode bM_isWhite 14 = .ok (.aload_n 0, 1) := by decide +kernel
theorem dM_isWhite_15 : decode bM_isWhite 15 = .ok (.getfield 51, 3) := by decide +kernel
theorem dM_isWhite_18 : decode bM_isWhite 18 = .ok (.ifCond .ne 7, 3) := by decide +kernel
theorem dM_isWhite_21 : decode bM_isWhite 21 = .ok (.iconst 1, 1) := by decide +kernel
theorem dM_isWhite_22 : decode bM_isWhite 22 = .ok (.goto 4, 3) := by decide +kernel
theorem dM_isWhite_25 : decode bM_isWhite 25 = .ok (.iconst 0, 1) := by decide +kernel
theorem dM_isWhite_26 : decode bM_isWhite 26 = .ok (.iconst 0, 1) := by decide +kernel
theorem dM_isWhite_27 : decode bM_isWhite 27 = .ok (.invokevirtual 55, 3) := by decide +kernel
theorem dM_isWhite_30 : decode bM_isWhite 30 = .ok (.ifCond .ne 36, 3) := by decide +kernel
theorem dM_isWhite_33 : decode bM_isWhite 33 = .ok (.aload_n 0, 1) := by decide +kernel
theorem dM_isWhite_34 : decode bM_isWhite 34 = .ok (.aload_n 0, 1) := by decide +kernel
theorem dM_isWhite_35 : decode bM_isWhite 35 = .ok (.getfield 63, 3) := by decide +kernel
theorem dM_isWhite_38 : decode bM_isWhite 38 = .ok (.iload_n 1, 1) := by decide +kernel
theorem dM_isWhite_39 : decode bM_isWhite 39 = .ok (.invokevirtual 66, 3) := by decide +kernel
theorem dM_isWhite_42 : decode bM_isWhite 42 = .ok (.ifCond .eq 24, 3) := by decide +kernel
theorem dM_isWhite_45 : decode bM_isWhite 45 = .ok (.aload_n 0, 1) := by decide +kernel
theorem dM_isWhite_46 : decode bM_isWhite 46 = .ok (.getfield 20, 3) := by decide +kernel
theorem dM_isWhite_49 : decode bM_isWhite 49 = .ok (.bipush 12, 2) := by decide +kernel
theorem dM_isWhite_51 : decode bM_isWhite 51 = .ok (.aload_n 0, 1) := by decide +kernel
theorem dM_isWhite_52 : decode bM_isWhite 52 = .ok (.getfield 63, 3) := by decide +kernel
theorem dM_isWhite_55 : decode bM_isWhite 55 = .ok (.imul, 1) := by decide +kernel
theorem dM_isWhite_56 : decode bM_isWhite 56 = .ok (.iload_n 1, 1) := by decide +kernel
theorem dM_isWhite_57 : decode bM_isWhite 57 = .ok (.iadd, 1) := by decide +kernel
theorem dM_isWhite_58 : decode bM_isWhite 58 = .ok (.baload, 1) := by decide +kernel
theorem dM_isWhite_59 : decode bM_isWhite 59 = .ok (.ifCond .eq 7, 3) := by decide +kernel
theorem dM_isWhite_62 : decode bM_isWhite 62 = .ok (.iconst 1, 1) := by decide +kernel
theorem dM_isWhite_63 : decode bM_isWhite 63 = .ok (.goto 4, 3) := by decide +kernel
theorem dM_isWhite_66 : decode bM_isWhite 66 = .ok (.iconst 0, 1) := by decide +kernel
theorem dM_isWhite_67 : decode bM_isWhite 67 = .ok (.ireturn, 1) := by decide +kernel
theorem dM_leave_0 : decode bM_leave 0 = .ok (.aload_n 0, 1) := by decide +kernel
theorem dM_leave_1 : decode bM_leave 1 = .ok (.aload_n 0, 1) := by decide +kernel
theorem dM_leave_2 : decode bM_leave 2 = .ok (.iload_n 1, 1) := by decide +kernel
theorem dM_leave_3 : decode bM_leave 3 = .ok (.invokevirtual 59, 3) := by decide +kernel
theorem dM_leave_6 : decode bM_leave 6 = .ok (.ifCond .ne 7, 3) := by decide +kernel
theorem dM_leave_9 : decode bM_leave 9 = .ok (.iconst 1, 1) := by decide +kernel
theorem dM_leave_10 : decode bM_leave 10 = .ok (.goto 4, 3) := by decide +kernel
theorem dM_leave_13 : decode bM_leave 13 = .ok (.iconst 0, 1) := by decide +kernel
theorem dM_leave_14 : decode bM_leave 14 = .ok (.aload_n 0, 1) := by decide +kernel
theorem dM_leave_15 : decode bM_leave 15 = .ok (.iload_n 1, 1) := by decide +kernel
theorem dM_leave_16 : decode bM_leave 16 = .ok (.invokevirtual 59, 3) := by decide +kernel
theorem dM_leave_19 : decode bM_leave 19 = .ok (.ifCond .eq 16, 3) := by decide +kernel
theorem dM_leave_22 : decode bM_leave 22 = .ok (.aload_n 0, 1) := by decide +kernel
theorem dM_leave_23 : decode bM_leave 23 = .ok (.getfield 7, 3) := by decide +kernel
theorem dM_leave_26 : decode bM_leave 26 = .ok (.iload_n 1, 1) := by decide +kernel
theorem dM_leave_27 : decode bM_leave 27 = .ok (.baload, 1) := by decide +kernel
theorem dM_leave_28 : decode bM_leave 28 = .ok (.ifCond .ne 7, 3) := by decide +kernel
theorem dM_leave_31 : decode bM_leave 31 = .ok (.iconst 1, 1) := by decide +kernel
theorem dM_leave_32 : decode bM_leave 32 = .ok (.goto 4, 3) := by decide +kernel
theorem dM_leave_35 : decode bM_leave 35 = .ok (.iconst 0, 1) := by decide +kernel
theorem dM_leave_36 : decode bM_leave 36 = .ok (.aload_n 0, 1) := by decide +kernel
theorem dM_leave_37 : decode bM_leave 37 = .ok (.getfield 51, 3) := by decide +kernel
theorem dM_leave_40 : decode bM_leave 40 = .ok (.invokevirtual 55, 3) := by decide +kernel
theorem dM_leave_43 : decode bM_leave 43 = .ok (.ifCond .ne 10, 3) := by decide +kernel
theorem dM_leave_46 : decode bM_leave 46 = .ok (.aload_n 0, 1) := by decide +kernel
theorem dM_leave_47 : decode bM_leave 47 = .ok (.getfield 7, 3) := by decide +kernel
theorem dM_leave_50 : decode bM_leave 50 = .ok (.iload_n 1, 1) := by decide +kernel
theorem dM_leave_51 : decode bM_leave 51 = .ok (.iconst 0, 1) := by decide +kernel
theorem dM_leave_52 : decode bM_leave 52 = .ok (.bastore, 1) := by decide +kernel
theorem dM_leave_53 : decode bM_leave 53 = .ok (.return_, 1) := by decide +kernel
theorem dM_lineUp_0 : decode bM_lineUp 0 = .ok (.aload_n 0, 1) := by decide +kernel
theorem dM_lineUp_1 : decode bM_lineUp 1 = .ok (.aload_n 0, 1) := by decide +kernel
theorem dM_lineUp_2 : decode bM_lineUp 2 = .ok (.invokevirtual 90, 3) := by decide +kernel
theorem dM_lineUp_5 : decode bM_lineUp 5 = .ok (.iconst 2, 1) := by decide +kernel
theorem dM_lineUp_6 : decode bM_lineUp 6 = .ok (.irem, 1) := by decide +kernel
theorem dM_lineUp_7 : decode bM_lineUp 7 = .ok (.iconst 1, 1) := by decide +kernel
theorem dM_lineUp_8 : decode bM_lineUp 8 = .ok (.if_icmp .ne 10, 3) := by decide +kernel
theorem dM_lineUp_11 : decode bM_lineUp 11 = .ok (.aload_n 0, 1) := by decide +kernel
theorem dM_lineUp_12 : decode bM_lineUp 12 = .ok (.invokevirtual 94, 3) := by decide +kernel
theorem dM_lineUp_15 : decode bM_lineUp 15 = .ok (.goto 4, 3) := by decide +kernel
theorem dM_lineUp_18 : decode bM_lineUp 18 = .ok (.iconst (-1), 1) := by decide +kernel
theorem dM_lineUp_19 : decode bM_lineUp 19 = .ok (.putfield 97, 3) := by decide +kernel
theorem dM_lineUp_22 : decode bM_lineUp 22 = .ok (.aload_n 0, 1) := by decide +kernel
theorem dM_lineUp_23 : decode bM_lineUp 23 = .ok (.iconst 0, 1) := by decide +kernel
theorem dM_lineUp_24 : decode bM_lineUp 24 = .ok (.putfield 100, 3) := by decide +kernel
theorem dM_lineUp_27 : decode bM_lineUp 27 = .ok (.bipush 32, 2) := by decide +kernel
theorem dM_lineUp_29 : decode bM_lineUp 29 = .ok (.istore_n 1, 1) := by decide +kernel
theorem dM_lineUp_30 : decode bM_lineUp 30 = .ok (.iload_n 1, 1) := by decide +kernel
theorem dM_lineUp_31 : decode bM_lineUp 31 = .ok (.ifCond .lt 71, 3) := by decide +kernel
theorem dM_lineUp_34 : decode bM_lineUp 34 = .ok (.iconst 0, 1) := by decide +kernel
theorem dM_lineUp_35 : decode bM_lineUp 35 = .ok (.istore_n 2, 1) := by decide +kernel
theorem dM_lineUp_36 : decode bM_lineUp 36 = .ok (.iload_n 2, 1) := by decide +kernel
theorem dM_lineUp_37 : decode bM_lineUp 37 = .ok (.aload_n 0, 1) := by decide +kernel
theorem dM_lineUp_38 : decode bM_lineUp 38 = .ok (.getfield 44, 3) := by decide +kernel
theorem dM_lineUp_41 : decode bM_lineUp 41 = .ok (.if_icmp .ge 55, 3) := by decide +kernel
theorem dM_lineUp_44 : decode bM_lineUp 44 = .ok (.aload_n 0, 1) := by decide +kernel
theorem dM_lineUp_45 : decode bM_lineUp 45 = .ok (.getfield 7, 3) := by decide +kernel
theorem dM_lineUp_48 : decode bM_lineUp 48 = .ok (.iload_n 2, 1) := by decide +kernel
theorem dM_lineUp_49 : decode bM_lineUp 49 = .ok (.baload, 1) := by decide +kernel
theorem dM_lineUp_50 : decode bM_lineUp 50 = .ok (.ifCond .eq 40, 3) := by decide +kernel
theorem dM_lineUp_53 : decode bM_lineUp 53 = .ok (.iload_n 2, 1) := by decide +kernel
theorem dM_lineUp_54 : decode bM_lineUp 54 = .ok (.aload_n 0, 1) := by decide +kernel
theorem dM_lineUp_55 : decode bM_lineUp 55 = .ok (.getfield 97, 3) := by decide +kernel
theorem dM_lineUp_58 : decode bM_lineUp 58 = .ok (.if_icmp .eq 32, 3) := by decide +kernel
theorem dM_lineUp_61 : decode bM_lineUp 61 = .ok (.aload_n 0, 1) := by decide +kernel
theorem dM_lineUp_62 : decode bM_lineUp 62 = .ok (.iload_n 2, 1) := by decide +kernel
theorem dM_lineUp_63 : decode bM_lineUp 63 = .ok (.invokevirtual 70, 3) := by decide +kernel
theorem dM_lineUp_66 : decode bM_lineUp 66 = .ok (.iload_n 1, 1) := by decide +kernel
theorem dM_lineUp_67 : decode bM_lineUp 67 = .ok (.if_icmp .ne 23, 3) := by decide +kernel
theorem dM_lineUp_70 : decode bM_lineUp 70 = .ok (.aload_n 0, 1) := by decide +kernel
theorem dM_lineUp_71 : decode bM_lineUp 71 = .ok (.getfield 26, 3) := by decide +kernel
theorem dM_lineUp_74 : decode bM_lineUp 74 = .ok (.aload_n 0, 1) := by decide +kernel
theorem dM_lineUp_75 : decode bM_lineUp 75 = .ok (.getfield 100, 3) := by decide +kernel
theorem dM_lineUp_78 : decode bM_lineUp 78 = .ok (.iload_n 2, 1) := by decide +kernel
theorem dM_lineUp_79 : decode bM_lineUp 79 = .ok (.iastore, 1) := by decide +kernel
theorem dM_lineUp_80 : decode bM_lineUp 80 = .ok (.aload_n 0, 1) := by decide +kernel
theorem dM_lineUp_81 : decode bM_lineUp 81 = .ok (.dup, 1) := by decide +kernel
theorem dM_lineUp_82 : decode bM_lineUp 82 = .ok (.getfield 100, 3) := by decide +kernel
theorem dM_lineUp_85 : decode bM_lineUp 85 = .ok (.iconst 1, 1) := by decide +kernel
theorem dM_lineUp_86 : decode bM_lineUp 86 = .ok (.iadd, 1) := by decide +kernel
theorem dM_lineUp_87 : decode bM_lineUp 87 = .ok (.putfield 100, 3) := by decide +kernel
theorem dM_lineUp_90 : decode bM_lineUp 90 = .ok (.iinc 2 1, 3) := by decide +kernel
theorem dM_lineUp_93 : decode bM_lineUp 93 = .ok (.goto (-57), 3) := by decide +kernel
theorem dM_lineUp_96 : decode bM_lineUp 96 = .ok (.iinc 1 (-1), 3) := by decide +kernel
theorem dM_lineUp_99 : decode bM_lineUp 99 = .ok (.goto (-69), 3) := by decide +kernel
theorem dM_lineUp_102 : decode bM_lineUp 102 = .ok (.iconst 0, 1) := by decide +kernel
theorem dM_lineUp_103 : decode bM_lineUp 103 = .ok (.istore_n 1, 1) := by decide +kernel
theorem dM_lineUp_104 : decode bM_lineUp 104 = .ok (.iload_n 1, 1) := by decide +kernel
theorem dM_lineUp_105 : decode bM_lineUp 105 = .ok (.aload_n 0, 1) := by decide +kernel
theorem dM_lineUp_106 : decode bM_lineUp 106 = .ok (.getfield 100, 3) := by decide +kernel
theorem dM_lineUp_109 : decode bM_lineUp 109 = .ok (.if_icmp .ge 112, 3) := by decide +kernel
theorem dM_lineUp_112 : decode bM_lineUp 112 = .ok (.iload_n 1, 1) := by decide +kernel
theorem dM_lineUp_113 : decode bM_lineUp 113 = .ok (.iconst 1, 1) := by decide +kernel
theorem dM_lineUp_114 : decode bM_lineUp 114 = .ok (.iadd, 1) := by decide +kernel
theorem dM_lineUp_115 : decode bM_lineUp 115 = .ok (.istore_n 2, 1) := by decide +kernel
theorem dM_lineUp_116 : decode bM_lineUp 116 = .ok (.iload_n 2, 1) := by decide +kernel
theorem dM_lineUp_117 : decode bM_lineUp 117 = .ok (.aload_n 0, 1) := by decide +kernel
theorem dM_lineUp_118 : decode bM_lineUp 118 = .ok (.getfield 100, 3) := by decide +kernel
theorem dM_lineUp_121 : decode bM_lineUp 121 = .ok (.if_icmp .ge 94, 3) := by decide +kernel
theorem dM_lineUp_124 : decode bM_lineUp 124 = .ok (.aload_n 0, 1) := by decide +kernel
theorem dM_lineUp_125 : decode bM_lineUp 125 = .ok (.getfield 13, 3) := by decide +kernel
theorem dM_lineUp_128 : decode bM_lineUp 128 = .ok (.bipush 12, 2) := by decide +kernel
theorem dM_lineUp_130 : decode bM_lineUp 130 = .ok (.aload_n 0, 1) := by decide +kernel
theorem dM_lineUp_131 : decode bM_lineUp 131 = .ok (.getfield 26, 3) := by decide +kernel
theorem dM_lineUp_134 : decode bM_lineUp 134 = .ok (.iload_n 1, 1) := by decide +kernel
theorem dM_lineUp_135 : decode bM_lineUp 135 = .ok (.iaload, 1) := by decide +kernel
theorem dM_lineUp_136 : decode bM_lineUp 136 = .ok (.imul, 1) := by decide +kernel
theorem dM_lineUp_137 : decode bM_lineUp 137 = .ok (.aload_n 0, 1) := by decide +kernel
theorem dM_lineUp_138 : decode bM_lineUp 138 = .ok (.getfield 26, 3) := by decide +kernel
theorem dM_lineUp_141 : decode bM_lineUp 141 = .ok (.iload_n 2, 1) := by decide +kernel
theorem dM_lineUp_142 : decode bM_lineUp 142 = .ok (.iaload, 1) := by decide +kernel
theorem dM_lineUp_143 : decode bM_lineUp 143 = .ok (.iadd, 1) := by decide +kernel
theorem dM_lineUp_144 : decode bM_lineUp 144 = .ok (.baload, 1) := by decide +kernel
theorem dM_lineUp_145 : decode bM_lineUp 145 = .ok (.ifCond .ne 26, 3) := by decide +kernel
theorem dM_lineUp_148 : decode bM_lineUp 148 = .ok (.aload_n 0, 1) := by decide +kernel
theorem dM_lineUp_149 : decode bM_lineUp 149 = .ok (.aload_n 0, 1) := by decide +kernel
theorem dM_lineUp_150 : decode bM_lineUp 150 = .ok (.getfield 26, 3) := by decide +kernel
theorem dM_lineUp_153 : decode bM_lineUp 153 = .ok (.iload_n 1, 1) := by decide +kernel
theorem dM_lineUp_154 : decode bM_lineUp 154 = .ok (.iaload, 1) := by decide +kernel
theorem dM_lineUp_155 : decode bM_lineUp 155 = .ok (.aload_n 0, 1) := by decide +kernel
theorem dM_lineUp_156 : decode bM_lineUp 156 = .ok (.getfield 26, 3) := by decide +kernel
theorem dM_lineUp_159 : decode bM_lineUp 159 = .ok (.iload_n 2, 1) := by decide +kernel
theorem dM_lineUp_160 : decode bM_lineUp 160 = .ok (.iaload, 1) := by decide +kernel
theorem dM_lineUp_161 : decode bM_lineUp 161 = .ok (.invokevirtual 103, 3) := by decide +kernel
theorem dM_lineUp_164 : decode bM_lineUp 164 = .ok (.ifCond .ne 7, 3) := by decide +kernel
theorem dM_lineUp_167 : decode bM_lineUp 167 = .ok (.iconst 1, 1) := by decide +kernel
theorem dM_lineUp_168 : decode bM_lineUp 168 = .ok (.goto 4, 3) := by decide +kernel
theorem dM_lineUp_171 : decode bM_lineUp 171 = .ok (.iconst 0, 1) := by decide +kernel
theorem dM_lineUp_172 : decode bM_lineUp 172 = .ok (.istore_n 3, 1) := by decide +kernel
theorem dM_lineUp_173 : decode bM_lineUp 173 = .ok (.aload_n 0, 1) := by decide +kernel
theorem dM_lineUp_174 : decode bM_lineUp 174 = .ok (.getfield 29, 3) := by decide +kernel
theorem dM_lineUp_177 : decode bM_lineUp 177 = .ok (.bipush 12, 2) := by decide +kernel
theorem dM_lineUp_179 : decode bM_lineUp 179 = .ok (.iload_n 1, 1) := by decide +kernel
theorem dM_lineUp_180 : decode bM_lineUp 180 = .ok (.imul, 1) := by decide +kernel
theorem dM_lineUp_181 : decode bM_lineUp 181 = .ok (.iload_n 2, 1) := by decide +kernel
theorem dM_lineUp_182 : decode bM_lineUp 182 = .ok (.iadd, 1) := by decide +kernel
theorem dM_lineUp_183 : decode bM_lineUp 183 = .ok (.iload_n 3, 1) := by decide +kernel
theorem dM_lineUp_184 : decode bM_lineUp 184 = .ok (.ifCond .eq 22, 3) := by decide +kernel
theorem dM_lineUp_187 : decode bM_lineUp 187 = .ok (.aload_n 0, 1) := by decide +kernel
theorem dM_lineUp_188 : decode bM_lineUp 188 = .ok (.aload_n 0, 1) := by decide +kernel
theorem dM_lineUp_189 : decode bM_lineUp 189 = .ok (.getfield 26, 3) := by decide +kernel
theorem dM_lineUp_192 : decode bM_lineUp 192 = .ok (.iload_n 1, 1) := by decide +kernel
theorem dM_lineUp_193 : decode bM_lineUp 193 = .ok (.iaload, 1) := by decide +kernel
theorem dM_lineUp_194 : decode bM_lineUp 194 = .ok (.aload_n 0, 1) := by decide +kernel
theorem dM_lineUp_195 : decode bM_lineUp 195 = .ok (.getfield 26, 3) := by decide +kernel
theorem dM_lineUp_198 : decode bM_lineUp 198 = .ok (.iload_n 2, 1) := by decide +kernel
theorem dM_lineUp_199 : decode bM_lineUp 199 = .ok (.iaload, 1) := by decide +kernel
theorem dM_lineUp_200 : decode bM_lineUp 200 = .ok (.invokevirtual 106, 3) := by decide +kernel
theorem dM_lineUp_203 : decode bM_lineUp 203 = .ok (.goto 5, 3) := by decide +kernel
theorem dM_lineUp_206 : decode bM_lineUp 206 = .ok (.ldc 109, 2) := by decide +kernel
theorem dM_lineUp_208 : decode bM_lineUp 208 = .ok (.iastore, 1) := by decide +kernel
theorem dM_lineUp_209 : decode bM_lineUp 209 = .ok (.iinc 2 1, 3) := by decide +kernel
theorem dM_lineUp_212 : decode bM_lineUp 212 = .ok (.goto (-96), 3) := by decide +kernel
theorem dM_lineUp_215 : decode bM_lineUp 215 = .ok (.iinc 1 1, 3) := by decide +kernel
theorem dM_lineUp_218 : decode bM_lineUp 218 = .ok (.goto (-114), 3) := by decide +kernel
theorem dM_lineUp_221 : decode bM_lineUp 221 = .ok (.return_, 1) := by decide +kernel
theorem dM_missing_0 : decode bM_missing 0 = .ok (.aload_n 0, 1) := by decide +kernel
theorem dM_missing_1 : decode bM_missing 1 = .ok (.aload_n 0, 1) := by decide +kernel
theorem dM_missing_2 : decode bM_missing 2 = .ok (.getfield 51, 3) := by decide +kernel
theorem dM_missing_5 : decode bM_missing 5 = .ok (.ifCond .ne 7, 3) := by decide +kernel
theorem dM_missing_8 : decode bM_missing 8 = .ok (.iconst 1, 1) := by decide +kernel
theorem dM_missing_9 : decode bM_missing 9 = .ok (.goto 4, 3) := by decide +kernel
theorem dM_missing_12 : decode bM_missing 12 = .ok (.iconst 0, 1) := by decide +kernel
theorem dM_missing_13 : decode bM_missing 13 = .ok (.iconst 0, 1) := by decide +kernel
theorem dM_missing_14 : decode bM_missing 14 = .ok (.iconst 0, 1) := by decide +kernel
theorem dM_missing_15 : decode bM_missing 15 = .ok (.invokevirtual 55, 3) := by decide +kernel
theorem dM_missing_18 : decode bM_missing 18 = .ok (.ifCond .eq 7, 3) := by decide +kernel
theorem dM_missing_21 : decode bM_missing 21 = .ok (.iconst 0, 1) := by decide +kernel
theorem dM_missing_22 : decode bM_missing 22 = .ok (.goto 7, 3) := by decide +kernel
theorem dM_missing_25 : decode bM_missing 25 = .ok (.aload_n 0, 1) := by decide +kernel
theorem dM_missing_26 : decode bM_missing 26 = .ok (.invokevirtual 126, 3) := by decide +kernel
theorem dM_missing_29 : decode bM_missing 29 = .ok (.ireturn, 1) := by decide +kernel
theorem dM_openRound_0 : decode bM_openRound 0 = .ok (.iconst 0, 1) := by decide +kernel
theorem dM_openRound_1 : decode bM_openRound 1 = .ok (.istore_n 1, 1) := by decide +kernel
theorem dM_openRound_2 : decode bM_openRound 2 = .ok (.iload_n 1, 1) := by decide +kernel
theorem dM_openRound_3 : decode bM_openRound 3 = .ok (.bipush 12, 2) := by decide +kernel
theorem dM_openRound_5 : decode bM_openRound 5 = .ok (.if_icmp .ge 67, 3) := by decide +kernel
theorem dM_openRound_8 : decode bM_openRound 8 = .ok (.aload_n 0, 1) := by decide +kernel
theorem dM_openRound_9 : decode bM_openRound 9 = .ok (.getfield 16, 3) := by decide +kernel
theorem dM_openRound_12 : decode bM_openRound 12 = .ok (.bipush 12, 2) := by decide +kernel
theorem dM_openRound_14 : decode bM_openRound 14 = .ok (.aload_n 0, 1) := by decide +kernel
theorem dM_openRound_15 : decode bM_openRound 15 = .ok (.getfield 63, 3) := by decide +kernel
theorem dM_openRound_18 : decode bM_openRound 18 = .ok (.imul, 1) := by decide +kernel
theorem dM_openRound_19 : decode bM_openRound 19 = .ok (.iload_n 1, 1) := by decide +kernel
theorem dM_openRound_20 : decode bM_openRound 20 = .ok (.iadd, 1) := by decide +kernel
theorem dM_openRound_21 : decode bM_openRound 21 = .ok (.iload_n 1, 1) := by decide +kernel
theorem dM_openRound_22 : decode bM_openRound 22 = .ok (.aload_n 0, 1) := by decide +kernel
theorem dM_openRound_23 : decode bM_openRound 23 = .ok (.getfield 97, 3) := by decide +kernel
theorem dM_openRound_26 : decode bM_openRound 26 = .ok (.if_icmp .ne 8, 3) := by decide +kernel
theorem dM_openRound_29 : decode bM_openRound 29 = .ok (.bipush 12, 2) := by decide +kernel
theorem dM_openRound_31 : decode bM_openRound 31 = .ok (.goto 4, 3) := by decide +kernel
theorem dM_openRound_34 : decode bM_openRound 34 = .ok (.iconst (-1), 1) := by decide +kernel
theorem dM_openRound_35 : decode bM_openRound 35 = .ok (.iastore, 1) := by decide +kernel
theorem dM_openRound_36 : decode bM_openRound 36 = .ok (.aload_n 0, 1) := by decide +kernel
theorem dM_openRound_37 : decode bM_openRound 37 = .ok (.getfield 20, 3) := by decide +kernel
theorem dM_openRound_40 : decode bM_openRound 40 = .ok (.bipush 12, 2) := by decide +kernel
theorem dM_openRound_42 : decode bM_openRound 42 = .ok (.aload_n 0, 1) := by decide +kernel
theorem dM_openRound_43 : decode bM_openRound 43 = .ok (.getfield 63, 3) := by decide +kernel
theorem dM_openRound_46 : decode bM_openRound 46 = .ok (.imul, 1) := by decide +kernel
theorem dM_openRound_47 : decode bM_openRound 47 = .ok (.iload_n 1, 1) := by decide +kernel
theorem dM_openRound_48 : decode bM_openRound 48 = .ok (.iadd, 1) := by decide +kernel
theorem dM_openRound_49 : decode bM_openRound 49 = .ok (.iconst 0, 1) := by decide +kernel
theorem dM_openRound_50 : decode bM_openRound 50 = .ok (.bastore, 1) := by decide +kernel
theorem dM_openRound_51 : decode bM_openRound 51 = .ok (.aload_n 0, 1) := by decide +kernel
theorem dM_openRound_52 : decode bM_openRound 52 = .ok (.getfield 23, 3) := by decide +kernel
theorem dM_openRound_55 : decode bM_openRound 55 = .ok (.bipush 12, 2) := by decide +kernel
theorem dM_openRound_57 : decode bM_openRound 57 = .ok (.aload_n 0, 1) := by decide +kernel
theorem dM_openRound_58 : decode bM_openRound 58 = .ok (.getfield 63, 3) := by decide +kernel
theorem dM_openRound_61 : decode bM_openRound 61 = .ok (.imul, 1) := by decide +kernel
theorem dM_openRound_62 : decode bM_openRound 62 = .ok (.iload_n 1, 1) := by decide +kernel
theorem dM_openRound_63 : decode bM_openRound 63 = .ok (.iadd, 1) := by decide +kernel
theorem dM_openRound_64 : decode bM_openRound 64 = .ok (.iconst (-1), 1) := by decide +kernel
theorem dM_openRound_65 : decode bM_openRound 65 = .ok (.iastore, 1) := by decide +kernel
theorem dM_openRound_66 : decode bM_openRound 66 = .ok (.iinc 1 1, 3) := by decide +kernel
theorem dM_openRound_69 : decode bM_openRound 69 = .ok (.goto (-67), 3) := by decide +kernel
theorem dM_openRound_72 : decode bM_openRound 72 = .ok (.iconst 0, 1) := by decide +kernel
theorem dM_openRound_73 : decode bM_openRound 73 = .ok (.istore_n 1, 1) := by decide +kernel
theorem dM_openRound_74 : decode bM_openRound 74 = .ok (.aload_n 0, 1) := by decide +kernel
theorem dM_openRound_75 : decode bM_openRound 75 = .ok (.invokevirtual 116, 3) := by decide +kernel
theorem dM_openRound_78 : decode bM_openRound 78 = .ok (.istore_n 2, 1) := by decide +kernel
theorem dM_openRound_79 : decode bM_openRound 79 = .ok (.iconst 0, 1) := by decide +kernel
theorem dM_openRound_80 : decode bM_openRound 80 = .ok (.istore_n 3, 1) := by decide +kernel
theorem dM_openRound_81 : decode bM_openRound 81 = .ok (.iload_n 3, 1) := by decide +kernel
theorem dM_openRound_82 : decode bM_openRound 82 = .ok (.aload_n 0, 1) := by decide +kernel
theorem dM_openRound_83 : decode bM_openRound 83 = .ok (.getfield 100, 3) := by decide +kernel
theorem dM_openRound_86 : decode bM_openRound 86 = .ok (.if_icmp .ge 147, 3) := by decide +kernel
theorem dM_openRound_89 : decode bM_openRound 89 = .ok (.iload_n 2, 1) := by decide +kernel
theorem dM_openRound_90 : decode bM_openRound 90 = .ok (.iload_n 3, 1) := by decide +kernel
theorem dM_openRound_91 : decode bM_openRound 91 = .ok (.ishr, 1) := by decide +kernel
theorem dM_openRound_92 : decode bM_openRound 92 = .ok (.iconst 1, 1) := by decide +kernel
theorem dM_openRound_93 : decode bM_openRound 93 = .ok (.iand, 1) := by decide +kernel
theorem dM_openRound_94 : decode bM_openRound 94 = .ok (.iconst 1, 1) := by decide +kernel
theorem dM_openRound_95 : decode bM_openRound 95 = .ok (.if_icmp .ne 132, 3) := by decide +kernel
theorem dM_openRound_98 : decode bM_openRound 98 = .ok (.aload_n 0, 1) := by decide +kernel
theorem dM_openRound_99 : decode bM_openRound 99 = .ok (.getfield 35, 3) := by decide +kernel
theorem dM_openRound_102 : decode bM_openRound 102 = .ok (.iload_n 2, 1) := by decide +kernel
theorem dM_openRound_103 : decode bM_openRound 103 = .ok (.iaload, 1) := by decide +kernel
theorem dM_openRound_104 : decode bM_openRound 104 = .ok (.istore 4, 2) := by decide +kernel
theorem dM_openRound_106 : decode bM_openRound 106 = .ok (.aload_n 0, 1) := by decide +kernel
theorem dM_openRound_107 : decode bM_openRound 107 = .ok (.getfield 26, 3) := by decide +kernel
theorem dM_openRound_110 : decode bM_openRound 110 = .ok (.iload_n 3, 1) := by decide +kernel
theorem dM_openRound_111 : decode bM_openRound 111 = .ok (.iaload, 1) := by decide +kernel
theorem dM_openRound_112 : decode bM_openRound 112 = .ok (.istore 5, 2) := by decide +kernel
theorem dM_openRound_114 : decode bM_openRound 114 = .ok (.aload_n 0, 1) := by decide +kernel
theorem dM_openRound_115 : decode bM_openRound 115 = .ok (.getfield 26, 3) := by decide +kernel
theorem dM_openRound_118 : decode bM_openRound 118 = .ok (.iload 4, 2) := by decide +kernel
theorem dM_openRound_120 : decode bM_openRound 120 = .ok (.iaload, 1) := by decide +kernel
theorem dM_openRound_121 : decode bM_openRound 121 = .ok (.istore 6, 2) := by decide +kernel
theorem dM_openRound_123 : decode bM_openRound 123 = .ok (.aload_n 0, 1) := by decide +kernel
theorem dM_openRound_124 : decode bM_openRound 124 = .ok (.iload 5, 2) := by decide +kernel
theorem dM_openRound_126 : decode bM_openRound 126 = .ok (.iload 6, 2) := by decide +kernel
theorem dM_openRound_128 : decode bM_openRound 128 = .ok (.invokevirtual 81, 3) := by decide +kernel
theorem dM_openRound_131 : decode bM_openRound 131 = .ok (.istore 7, 2) := by decide +kernel
theorem dM_openRound_133 : decode bM_openRound 133 = .ok (.aload_n 0, 1) := by decide +kernel
theorem dM_openRound_134 : decode bM_openRound 134 = .ok (.getfield 16, 3) := by decide +kernel
theorem dM_openRound_137 : decode bM_openRound 137 = .ok (.bipush 12, 2) := by decide +kernel
theorem dM_openRound_139 : decode bM_openRound 139 = .ok (.aload_n 0, 1) := by decide +kernel
theorem dM_openRound_140 : decode bM_openRound 140 = .ok (.getfield 63, 3) := by decide +kernel
theorem dM_openRound_143 : decode bM_openRound 143 = .ok (.imul, 1) := by decide +kernel
theorem dM_openRound_144 : decode bM_openRound 144 = .ok (.iload 5, 2) := by decide +kernel
theorem dM_openRound_146 : decode bM_openRound 146 = .ok (.iadd, 1) := by decide +kernel
theorem dM_openRound_147 : decode bM_openRound 147 = .ok (.iload 6, 2) := by decide +kernel
theorem dM_openRound_149 : decode bM_openRound 149 = .ok (.iastore, 1) := by decide +kernel
theorem dM_openRound_150 : decode bM_openRound 150 = .ok (.aload_n 0, 1) := by decide +kernel
theorem dM_openRound_151 : decode bM_openRound 151 = .ok (.getfield 16, 3) := by decide +kernel
theorem dM_openRound_154 : decode bM_openRound 154 = .ok (.bipush 12, 2) := by decide +kernel
theorem dM_openRound_156 : decode bM_openRound 156 = .ok (.aload_n 0, 1) := by decide +kernel
theorem dM_openRound_157 : decode bM_openRound 157 = .ok (.getfield 63, 3) := by decide +kernel
theorem dM_openRound_160 : decode bM_openRound 160 = .ok (.imul, 1) := by decide +kernel
theorem dM_openRound_161 : decode bM_openRound 161 = .ok (.iload 6, 2) := by decide +kernel
theorem dM_openRound_163 : decode bM_openRound 163 = .ok (.iadd, 1) := by decide +kernel
theorem dM_openRound_164 : decode bM_openRound 164 = .ok (.iload 5, 2) := by decide +kernel
theorem dM_openRound_166 : decode bM_openRound 166 = .ok (.iastore, 1) := by decide +kernel
theorem dM_openRound_167 : decode bM_openRound 167 = .ok (.aload_n 0, 1) := by decide +kernel
theorem dM_openRound_168 : decode bM_openRound 168 = .ok (.getfield 20, 3) := by decide +kernel
theorem dM_openRound_171 : decode bM_openRound 171 = .ok (.bipush 12, 2) := by decide +kernel
theorem dM_openRound_173 : decode bM_openRound 173 = .ok (.aload_n 0, 1) := by decide +kernel
theorem dM_openRound_174 : decode bM_openRound 174 = .ok (.getfield 63, 3) := by decide +kernel
theorem dM_openRound_177 : decode bM_openRound 177 = .ok (.imul, 1) := by decide +kernel
theorem dM_openRound_178 : decode bM_openRound 178 = .ok (.iload 5, 2) := by decide +kernel
theorem dM_openRound_180 : decode bM_openRound 180 = .ok (.iadd, 1) := by decide +kernel
theorem dM_openRound_181 : decode bM_openRound 181 = .ok (.iload 7, 2) := by decide +kernel
theorem dM_openRound_183 : decode bM_openRound 183 = .ok (.bastore, 1) := by decide +kernel
theorem dM_openRound_184 : decode bM_openRound 184 = .ok (.aload_n 0, 1) := by decide +kernel
theorem dM_openRound_185 : decode bM_openRound 185 = .ok (.getfield 20, 3) := by decide +kernel
theorem dM_openRound_188 : decode bM_openRound 188 = .ok (.bipush 12, 2) := by decide +kernel
theorem dM_openRound_190 : decode bM_openRound 190 = .ok (.aload_n 0, 1) := by decide +kernel
theorem dM_openRound_191 : decode bM_openRound 191 = .ok (.getfield 63, 3) := by decide +kernel
theorem dM_openRound_194 : decode bM_openRound 194 = .ok (.imul, 1) := by decide +kernel
theorem dM_openRound_195 : decode bM_openRound 195 = .ok (.iload 6, 2) := by decide +kernel
theorem dM_openRound_197 : decode bM_openRound 197 = .ok (.iadd, 1) := by decide +kernel
theorem dM_openRound_198 : decode bM_openRound 198 = .ok (.iload 7, 2) := by decide +kernel
theorem dM_openRound_200 : decode bM_openRound 200 = .ok (.ifCond .ne 7, 3) := by decide +kernel
theorem dM_openRound_203 : decode bM_openRound 203 = .ok (.iconst 1, 1) := by decide +kernel
theorem dM_openRound_204 : decode bM_openRound 204 = .ok (.goto 4, 3) := by decide +kernel
theorem dM_openRound_207 : decode bM_openRound 207 = .ok (.iconst 0, 1) := by decide +kernel
theorem dM_openRound_208 : decode bM_openRound 208 = .ok (.bastore, 1) := by decide +kernel
theorem dM_openRound_209 : decode bM_openRound 209 = .ok (.iload_n 2, 1) := by decide +kernel
theorem dM_openRound_210 : decode bM_openRound 210 = .ok (.iconst 1, 1) := by decide +kernel
theorem dM_openRound_211 : decode bM_openRound 211 = .ok (.iload_n 3, 1) := by decide +kernel
theorem dM_openRound_212 : decode bM_openRound 212 = .ok (.ishl, 1) := by decide +kernel
theorem dM_openRound_213 : decode bM_openRound 213 = .ok (.iconst (-1), 1) := by decide +kernel
theorem dM_openRound_214 : decode bM_openRound 214 = .ok (.ixor, 1) := by decide +kernel
theorem dM_openRound_215 : decode bM_openRound 215 = .ok (.iand, 1) := by decide +kernel
theorem dM_openRound_216 : decode bM_openRound 216 = .ok (.iconst 1, 1) := by decide +kernel
theorem dM_openRound_217 : decode bM_openRound 217 = .ok (.iload 4, 2) := by decide +kernel
theorem dM_openRound_219 : decode bM_openRound 219 = .ok (.ishl, 1) := by decide +kernel
theorem dM_openRound_220 : decode bM_openRound 220 = .ok (.iconst (-1), 1) := by decide +kernel
theorem dM_openRound_221 : decode bM_openRound 221 = .ok (.ixor, 1) := by decide +kernel
theorem dM_openRound_222 : decode bM_openRound 222 = .ok (.iand, 1) := by decide +kernel
theorem dM_openRound_223 : decode bM_openRound 223 = .ok (.istore_n 2, 1) := by decide +kernel
theorem dM_openRound_224 : decode bM_openRound 224 = .ok (.iinc 1 1, 3) := by decide +kernel
theorem dM_openRound_227 : decode bM_openRound 227 = .ok (.iinc 3 1, 3) := by decide +kernel
theorem dM_openRound_230 : decode bM_openRound 230 = .ok (.goto (-149), 3) := by decide +kernel
theorem dM_openRound_233 : decode bM_openRound 233 = .ok (.aload_n 0, 1) := by decide +kernel
theorem dM_openRound_234 : decode bM_openRound 234 = .ok (.iconst 1, 1) := by decide +kernel
theorem dM_openRound_235 : decode bM_openRound 235 = .ok (.putfield 51, 3) := by decide +kernel
theorem dM_openRound_238 : decode bM_openRound 238 = .ok (.iload_n 1, 1) := by decide +kernel
theorem dM_openRound_239 : decode bM_openRound 239 = .ok (.ireturn, 1) := by decide +kernel
theorem dM_opponent_0 : decode bM_opponent 0 = .ok (.aload_n 0, 1) := by decide +kernel
theorem dM_opponent_1 : decode bM_opponent 1 = .ok (.aload_n 0, 1) := by decide +kernel
theorem dM_opponent_2 : decode bM_opponent 2 = .ok (.iload_n 1, 1) := by decide +kernel
theorem dM_opponent_3 : decode bM_opponent 3 = .ok (.invokevirtual 59, 3) := by decide +kernel
theorem dM_opponent_6 : decode bM_opponent 6 = .ok (.ifCond .ne 7, 3) := by decide +kernel
theorem dM_opponent_9 : decode bM_opponent 9 = .ok (.iconst 1, 1) := by decide +kernel
theorem dM_opponent_10 : decode bM_opponent 10 = .ok (.goto 4, 3) := by decide +kernel
theorem dM_opponent_13 : decode bM_opponent 13 = .ok (.iconst 0, 1) := by decide +kernel
theorem dM_opponent_14 : decode bM_opponent 14 = .ok (.aload_n 0, 1) := by decide +kernel
theorem dM_opponent_15 : decode bM_opponent 15 = .ok (.getfield 51, 3) := by decide +kernel
theorem dM_opponent_18 : decode bM_opponent 18 = .ok (.ifCond .ne 7, 3) := by decide +kernel
theorem dM_opponent_21 : decode bM_opponent 21 = .ok (.iconst 1, 1) := by decide +kernel
theorem dM_opponent_22 : decode bM_opponent 22 = .ok (.goto 4, 3) := by decide +kernel
theorem dM_opponent_25 : decode bM_opponent 25 = .ok (.iconst 0, 1) := by decide +kernel
theorem dM_opponent_26 : decode bM_opponent 26 = .ok (.iconst 0, 1) := by decide +kernel
theorem dM_opponent_27 : decode bM_opponent 27 = .ok (.invokevirtual 55, 3) := by decide +kernel
theorem dM_opponent_30 : decode bM_opponent 30 = .ok (.ifCond .eq 7, 3) := by decide +kernel
theorem dM_opponent_33 : decode bM_opponent 33 = .ok (.iconst 0, 1) := by decide +kernel
theorem dM_opponent_34 : decode bM_opponent 34 = .ok (.goto 17, 3) := by decide +kernel
theorem dM_opponent_37 : decode bM_opponent 37 = .ok (.aload_n 0, 1) := by decide +kernel
theorem dM_opponent_38 : decode bM_opponent 38 = .ok (.getfield 16, 3) := by decide +kernel
theorem dM_opponent_41 : decode bM_opponent 41 = .ok (.bipush 12, 2) := by decide +kernel
theorem dM_opponent_43 : decode bM_opponent 43 = .ok (.aload_n 0, 1) := by decide +kernel
theorem dM_opponent_44 : decode bM_opponent 44 = .ok (.getfield 63, 3) := by decide +kernel
theorem dM_opponent_47 : decode bM_opponent 47 = .ok (.imul, 1) := by decide +kernel
theorem dM_opponent_48 : decode bM_opponent 48 = .ok (.iload_n 1, 1) := by decide +kernel
theorem dM_opponent_49 : decode bM_opponent 49 = .ok (.iadd, 1) := by decide +kernel
theorem dM_opponent_50 : decode bM_opponent 50 = .ok (.iaload, 1) := by decide +kernel
theorem dM_opponent_51 : decode bM_opponent 51 = .ok (.ireturn, 1) := by decide +kernel
