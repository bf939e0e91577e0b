theorem dM_pair_0 : decode bM_pair 0 = .ok (.aload_n 0, 1) := by decide +kernel
theorem dM_pair_1 : decode bM_pair 1 = .ok (.getfield 51, 3) := by decide +kernel
theorem dM_pair_4 : decode bM_pair 4 = .ok (.ifCond .ne 12, 3) := by decide +kernel
theorem dM_pair_7 : decode bM_pair 7 = .ok (.aload_n 0, 1) := by decide +kernel
theorem dM_pair_8 : decode bM_pair 8 = .ok (.getfield 63, 3) := by decide +kernel
theorem dM_pair_11 : decode bM_pair 11 = .ok (.bipush 16, 2) := by decide +kernel
theorem dM_pair_13 : decode bM_pair 13 = .ok (.if_icmp .ne 7, 3) := by decide +kernel
theorem dM_pair_16 : decode bM_pair 16 = .ok (.iconst 1, 1) := by decide +kernel
theorem dM_pair_17 : decode bM_pair 17 = .ok (.goto 4, 3) := by decide +kernel
theorem dM_pair_20 : decode bM_pair 20 = .ok (.iconst 0, 1) := by decide +kernel
theorem dM_pair_21 : decode bM_pair 21 = .ok (.istore_n 1, 1) := by decide +kernel
theorem dM_pair_22 : decode bM_pair 22 = .ok (.iload_n 1, 1) := by decide +kernel
theorem dM_pair_23 : decode bM_pair 23 = .ok (.ifCond .ne 14, 3) := by decide +kernel
theorem dM_pair_26 : decode bM_pair 26 = .ok (.aload_n 0, 1) := by decide +kernel
theorem dM_pair_27 : decode bM_pair 27 = .ok (.invokevirtual 119, 3) := by decide +kernel
theorem dM_pair_30 : decode bM_pair 30 = .ok (.ifCond .eq 7, 3) := by decide +kernel
theorem dM_pair_33 : decode bM_pair 33 = .ok (.iconst 1, 1) := by decide +kernel
theorem dM_pair_34 : decode bM_pair 34 = .ok (.goto 4, 3) := by decide +kernel
theorem dM_pair_37 : decode bM_pair 37 = .ok (.iconst 0, 1) := by decide +kernel
theorem dM_pair_38 : decode bM_pair 38 = .ok (.istore_n 2, 1) := by decide +kernel
theorem dM_pair_39 : decode bM_pair 39 = .ok (.aload_n 0, 1) := by decide +kernel
theorem dM_pair_40 : decode bM_pair 40 = .ok (.iload_n 1, 1) := by decide +kernel
theorem dM_pair_41 : decode bM_pair 41 = .ok (.iload_n 2, 1) := by decide +kernel
theorem dM_pair_42 : decode bM_pair 42 = .ok (.ifCond .ne 7, 3) := by decide +kernel
theorem dM_pair_45 : decode bM_pair 45 = .ok (.iconst 1, 1) := by decide +kernel
theorem dM_pair_46 : decode bM_pair 46 = .ok (.goto 4, 3) := by decide +kernel
theorem dM_pair_49 : decode bM_pair 49 = .ok (.iconst 0, 1) := by decide +kernel
theorem dM_pair_50 : decode bM_pair 50 = .ok (.iconst 0, 1) := by decide +kernel
theorem dM_pair_51 : decode bM_pair 51 = .ok (.invokevirtual 55, 3) := by decide +kernel
theorem dM_pair_54 : decode bM_pair 54 = .ok (.ifCond .eq 7, 3) := by decide +kernel
theorem dM_pair_57 : decode bM_pair 57 = .ok (.iconst 0, 1) := by decide +kernel
theorem dM_pair_58 : decode bM_pair 58 = .ok (.goto 7, 3) := by decide +kernel
theorem dM_pair_61 : decode bM_pair 61 = .ok (.aload_n 0, 1) := by decide +kernel
theorem dM_pair_62 : decode bM_pair 62 = .ok (.invokevirtual 123, 3) := by decide +kernel
theorem dM_pair_65 : decode bM_pair 65 = .ok (.ireturn, 1) := by decide +kernel
theorem dM_play_0 : decode bM_play 0 = .ok (.aload_n 0, 1) := by decide +kernel
theorem dM_play_1 : decode bM_play 1 = .ok (.iload_n 1, 1) := by decide +kernel
theorem dM_play_2 : decode bM_play 2 = .ok (.ifCond .lt 9, 3) := by decide +kernel
theorem dM_play_5 : decode bM_play 5 = .ok (.iload_n 1, 1) := by decide +kernel
theorem dM_play_6 : decode bM_play 6 = .ok (.bipush 16, 2) := by decide +kernel
theorem dM_play_8 : decode bM_play 8 = .ok (.if_icmp .le 7, 3) := by decide +kernel
theorem dM_play_11 : decode bM_play 11 = .ok (.iconst 1, 1) := by decide +kernel
theorem dM_play_12 : decode bM_play 12 = .ok (.goto 4, 3) := by decide +kernel
theorem dM_play_15 : decode bM_play 15 = .ok (.iconst 0, 1) := by decide +kernel
theorem dM_play_16 : decode bM_play 16 = .ok (.aload_n 0, 1) := by decide +kernel
theorem dM_play_17 : decode bM_play 17 = .ok (.getfield 51, 3) := by decide +kernel
theorem dM_play_20 : decode bM_play 20 = .ok (.iconst 0, 1) := by decide +kernel
theorem dM_play_21 : decode bM_play 21 = .ok (.invokevirtual 55, 3) := by decide +kernel
theorem dM_play_24 : decode bM_play 24 = .ok (.ifCond .eq 5, 3) := by decide +kernel
theorem dM_play_27 : decode bM_play 27 = .ok (.iconst 0, 1) := by decide +kernel
theorem dM_play_28 : decode bM_play 28 = .ok (.ireturn, 1) := by decide +kernel
theorem dM_play_29 : decode bM_play 29 = .ok (.iconst 0, 1) := by decide +kernel
theorem dM_play_30 : decode bM_play 30 = .ok (.istore_n 2, 1) := by decide +kernel
theorem dM_play_31 : decode bM_play 31 = .ok (.iload_n 2, 1) := by decide +kernel
theorem dM_play_32 : decode bM_play 32 = .ok (.iload_n 1, 1) := by decide +kernel
theorem dM_play_33 : decode bM_play 33 = .ok (.if_icmp .ge 162, 3) := by decide +kernel
theorem dM_play_36 : decode bM_play 36 = .ok (.aload_n 0, 1) := by decide +kernel
theorem dM_play_37 : decode bM_play 37 = .ok (.getfield 63, 3) := by decide +kernel
theorem dM_play_40 : decode bM_play 40 = .ok (.bipush 16, 2) := by decide +kernel
theorem dM_play_42 : decode bM_play 42 = .ok (.if_icmp .ge 153, 3) := by decide +kernel
theorem dM_play_45 : decode bM_play 45 = .ok (.aload_n 0, 1) := by decide +kernel
theorem dM_play_46 : decode bM_play 46 = .ok (.invokevirtual 119, 3) := by decide +kernel
theorem dM_play_49 : decode bM_play 49 = .ok (.ifCond .eq 146, 3) := by decide +kernel
theorem dM_play_52 : decode bM_play 52 = .ok (.aload_n 0, 1) := by decide +kernel
theorem dM_play_53 : decode bM_play 53 = .ok (.invokevirtual 123, 3) := by decide +kernel
theorem dM_play_56 : decode bM_play 56 = .ok (.istore_n 3, 1) := by decide +kernel
theorem dM_play_57 : decode bM_play 57 = .ok (.iconst 0, 1) := by decide +kernel
theorem dM_play_58 : decode bM_play 58 = .ok (.istore 4, 2) := by decide +kernel
theorem dM_play_60 : decode bM_play 60 = .ok (.iload 4, 2) := by decide +kernel
theorem dM_play_62 : decode bM_play 62 = .ok (.aload_n 0, 1) := by decide +kernel
theorem dM_play_63 : decode bM_play 63 = .ok (.getfield 44, 3) := by decide +kernel
theorem dM_play_66 : decode bM_play 66 = .ok (.if_icmp .ge 99, 3) := by decide +kernel
theorem dM_play_69 : decode bM_play 69 = .ok (.aload_n 0, 1) := by decide +kernel
theorem dM_play_70 : decode bM_play 70 = .ok (.getfield 16, 3) := by decide +kernel
theorem dM_play_73 : decode bM_play 73 = .ok (.bipush 12, 2) := by decide +kernel
theorem dM_play_75 : decode bM_play 75 = .ok (.aload_n 0, 1) := by decide +kernel
theorem dM_play_76 : decode bM_play 76 = .ok (.getfield 63, 3) := by decide +kernel
theorem dM_play_79 : decode bM_play 79 = .ok (.imul, 1) := by decide +kernel
theorem dM_play_80 : decode bM_play 80 = .ok (.iload 4, 2) := by decide +kernel
theorem dM_play_82 : decode bM_play 82 = .ok (.iadd, 1) := by decide +kernel
theorem dM_play_83 : decode bM_play 83 = .ok (.iaload, 1) := by decide +kernel
theorem dM_play_84 : decode bM_play 84 = .ok (.istore 5, 2) := by decide +kernel
theorem dM_play_86 : decode bM_play 86 = .ok (.aload_n 0, 1) := by decide +kernel
theorem dM_play_87 : decode bM_play 87 = .ok (.aload_n 0, 1) := by decide +kernel
theorem dM_play_88 : decode bM_play 88 = .ok (.getfield 63, 3) := by decide +kernel
theorem dM_play_91 : decode bM_play 91 = .ok (.iload 4, 2) := by decide +kernel
theorem dM_play_93 : decode bM_play 93 = .ok (.invokevirtual 66, 3) := by decide +kernel
theorem dM_play_96 : decode bM_play 96 = .ok (.ifCond .eq 63, 3) := by decide +kernel
theorem dM_play_99 : decode bM_play 99 = .ok (.iload 4, 2) := by decide +kernel
theorem dM_play_101 : decode bM_play 101 = .ok (.iload 5, 2) := by decide +kernel
theorem dM_play_103 : decode bM_play 103 = .ok (.if_icmp .ge 56, 3) := by decide +kernel
theorem dM_play_106 : decode bM_play 106 = .ok (.iload 4, 2) := by decide +kernel
theorem dM_play_108 : decode bM_play 108 = .ok (.iload 5, 2) := by decide +kernel
theorem dM_play_110 : decode bM_play 110 = .ok (.iadd, 1) := by decide +kernel
theorem dM_play_111 : decode bM_play 111 = .ok (.iconst 3, 1) := by decide +kernel
theorem dM_play_112 : decode bM_play 112 = .ok (.irem, 1) := by decide +kernel
theorem dM_play_113 : decode bM_play 113 = .ok (.ifCond .ne 7, 3) := by decide +kernel
theorem dM_play_116 : decode bM_play 116 = .ok (.iconst 1, 1) := by decide +kernel
theorem dM_play_117 : decode bM_play 117 = .ok (.goto 4, 3) := by decide +kernel
theorem dM_play_120 : decode bM_play 120 = .ok (.iconst 2, 1) := by decide +kernel
theorem dM_play_121 : decode bM_play 121 = .ok (.istore 6, 2) := by decide +kernel
theorem dM_play_123 : decode bM_play 123 = .ok (.aload_n 0, 1) := by decide +kernel
theorem dM_play_124 : decode bM_play 124 = .ok (.getfield 23, 3) := by decide +kernel
theorem dM_play_127 : decode bM_play 127 = .ok (.bipush 12, 2) := by decide +kernel
theorem dM_play_129 : decode bM_play 129 = .ok (.aload_n 0, 1) := by decide +kernel
theorem dM_play_130 : decode bM_play 130 = .ok (.getfield 63, 3) := by decide +kernel
theorem dM_play_133 : decode bM_play 133 = .ok (.imul, 1) := by decide +kernel
theorem dM_play_134 : decode bM_play 134 = .ok (.iload 4, 2) := by decide +kernel
theorem dM_play_136 : decode bM_play 136 = .ok (.iadd, 1) := by decide +kernel
theorem dM_play_137 : decode bM_play 137 = .ok (.iload 6, 2) := by decide +kernel
theorem dM_play_139 : decode bM_play 139 = .ok (.iastore, 1) := by decide +kernel
theorem dM_play_140 : decode bM_play 140 = .ok (.aload_n 0, 1) := by decide +kernel
theorem dM_play_141 : decode bM_play 141 = .ok (.getfield 23, 3) := by decide +kernel
theorem dM_play_144 : decode bM_play 144 = .ok (.bipush 12, 2) := by decide +kernel
theorem dM_play_146 : decode bM_play 146 = .ok (.aload_n 0, 1) := by decide +kernel
theorem dM_play_147 : decode bM_play 147 = .ok (.getfield 63, 3) := by decide +kernel
theorem dM_play_150 : decode bM_play 150 = .ok (.imul, 1) := by decide +kernel
theorem dM_play_151 : decode bM_play 151 = .ok (.iload 5, 2) := by decide +kernel
theorem dM_play_153 : decode bM_play 153 = .ok (.iadd, 1) := by decide +kernel
theorem dM_play_154 : decode bM_play 154 = .ok (.iconst 2, 1) := by decide +kernel
theorem dM_play_155 : decode bM_play 155 = .ok (.iload 6, 2) := by decide +kernel
theorem dM_play_157 : decode bM_play 157 = .ok (.isub, 1) := by decide +kernel
theorem dM_play_158 : decode bM_play 158 = .ok (.iastore, 1) := by decide +kernel
theorem dM_play_159 : decode bM_play 159 = .ok (.iinc 4 1, 3) := by decide +kernel
theorem dM_play_162 : decode bM_play 162 = .ok (.goto (-102), 3) := by decide +kernel
theorem dM_play_165 : decode bM_play 165 = .ok (.aload_n 0, 1) := by decide +kernel
theorem dM_play_166 : decode bM_play 166 = .ok (.iconst 0, 1) := by decide +kernel
theorem dM_play_167 : decode bM_play 167 = .ok (.putfield 51, 3) := by decide +kernel
theorem dM_play_170 : decode bM_play 170 = .ok (.aload_n 0, 1) := by decide +kernel
theorem dM_play_171 : decode bM_play 171 = .ok (.dup, 1) := by decide +kernel
theorem dM_play_172 : decode bM_play 172 = .ok (.getfield 63, 3) := by decide +kernel
theorem dM_play_175 : decode bM_play 175 = .ok (.iconst 1, 1) := by decide +kernel
theorem dM_play_176 : decode bM_play 176 = .ok (.iadd, 1) := by decide +kernel
theorem dM_play_177 : decode bM_play 177 = .ok (.putfield 63, 3) := by decide +kernel
theorem dM_play_180 : decode bM_play 180 = .ok (.iload_n 3, 1) := by decide +kernel
theorem dM_play_181 : decode bM_play 181 = .ok (.ifCond .lt 9, 3) := by decide +kernel
theorem dM_play_184 : decode bM_play 184 = .ok (.iload_n 2, 1) := by decide +kernel
theorem dM_play_185 : decode bM_play 185 = .ok (.iconst 1, 1) := by decide +kernel
theorem dM_play_186 : decode bM_play 186 = .ok (.iadd, 1) := by decide +kernel
theorem dM_play_187 : decode bM_play 187 = .ok (.goto 4, 3) := by decide +kernel
theorem dM_play_190 : decode bM_play 190 = .ok (.iload_n 2, 1) := by decide +kernel
theorem dM_play_191 : decode bM_play 191 = .ok (.istore_n 2, 1) := by decide +kernel
theorem dM_play_192 : decode bM_play 192 = .ok (.goto (-161), 3) := by decide +kernel
theorem dM_play_195 : decode bM_play 195 = .ok (.iload_n 2, 1) := by decide +kernel
theorem dM_play_196 : decode bM_play 196 = .ok (.ireturn, 1) := by decide +kernel
theorem dM_players_0 : decode bM_players 0 = .ok (.aload_n 0, 1) := by decide +kernel
theorem dM_players_1 : decode bM_players 1 = .ok (.iconst 0, 1) := by decide +kernel
theorem dM_players_2 : decode bM_players 2 = .ok (.putfield 48, 3) := by decide +kernel
theorem dM_players_5 : decode bM_players 5 = .ok (.aload_n 0, 1) := by decide +kernel
theorem dM_players_6 : decode bM_players 6 = .ok (.getfield 44, 3) := by decide +kernel
theorem dM_players_9 : decode bM_players 9 = .ok (.ireturn, 1) := by decide +kernel
theorem dM_refused_0 : decode bM_refused 0 = .ok (.aload_n 0, 1) := by decide +kernel
theorem dM_refused_1 : decode bM_refused 1 = .ok (.iload_n 1, 1) := by decide +kernel
theorem dM_refused_2 : decode bM_refused 2 = .ok (.ifCond .eq 7, 3) := by decide +kernel
theorem dM_refused_5 : decode bM_refused 5 = .ok (.iconst 1, 1) := by decide +kernel
theorem dM_refused_6 : decode bM_refused 6 = .ok (.goto 20, 3) := by decide +kernel
theorem dM_refused_9 : decode bM_refused 9 = .ok (.iload_n 2, 1) := by decide +kernel
theorem dM_refused_10 : decode bM_refused 10 = .ok (.ifCond .eq 7, 3) := by decide +kernel
theorem dM_refused_13 : decode bM_refused 13 = .ok (.iconst 2, 1) := by decide +kernel
theorem dM_refused_14 : decode bM_refused 14 = .ok (.goto 12, 3) := by decide +kernel
theorem dM_refused_17 : decode bM_refused 17 = .ok (.iload_n 3, 1) := by decide +kernel
theorem dM_refused_18 : decode bM_refused 18 = .ok (.ifCond .eq 7, 3) := by decide +kernel
theorem dM_refused_21 : decode bM_refused 21 = .ok (.iconst 3, 1) := by decide +kernel
theorem dM_refused_22 : decode bM_refused 22 = .ok (.goto 4, 3) := by decide +kernel
theorem dM_refused_25 : decode bM_refused 25 = .ok (.iconst 0, 1) := by decide +kernel
theorem dM_refused_26 : decode bM_refused 26 = .ok (.putfield 48, 3) := by decide +kernel
theorem dM_refused_29 : decode bM_refused 29 = .ok (.aload_n 0, 1) := by decide +kernel
theorem dM_refused_30 : decode bM_refused 30 = .ok (.getfield 48, 3) := by decide +kernel
theorem dM_refused_33 : decode bM_refused 33 = .ok (.ifCond .le 7, 3) := by decide +kernel
theorem dM_refused_36 : decode bM_refused 36 = .ok (.iconst 1, 1) := by decide +kernel
theorem dM_refused_37 : decode bM_refused 37 = .ok (.goto 4, 3) := by decide +kernel
theorem dM_refused_40 : decode bM_refused 40 = .ok (.iconst 0, 1) := by decide +kernel
theorem dM_refused_41 : decode bM_refused 41 = .ok (.ireturn, 1) := by decide +kernel
theorem dM_report_0 : decode bM_report 0 = .ok (.aload_n 0, 1) := by decide +kernel
theorem dM_report_1 : decode bM_report 1 = .ok (.getfield 51, 3) := by decide +kernel
theorem dM_report_4 : decode bM_report 4 = .ok (.ifCond .eq 44, 3) := by decide +kernel
theorem dM_report_7 : decode bM_report 7 = .ok (.aload_n 0, 1) := by decide +kernel
theorem dM_report_8 : decode bM_report 8 = .ok (.iload_n 1, 1) := by decide +kernel
theorem dM_report_9 : decode bM_report 9 = .ok (.invokevirtual 59, 3) := by decide +kernel
theorem dM_report_12 : decode bM_report 12 = .ok (.ifCond .eq 36, 3) := by decide +kernel
theorem dM_report_15 : decode bM_report 15 = .ok (.aload_n 0, 1) := by decide +kernel
theorem dM_report_16 : decode bM_report 16 = .ok (.aload_n 0, 1) := by decide +kernel
theorem dM_report_17 : decode bM_report 17 = .ok (.getfield 63, 3) := by decide +kernel
theorem dM_report_20 : decode bM_report 20 = .ok (.iload_n 1, 1) := by decide +kernel
theorem dM_report_21 : decode bM_report 21 = .ok (.invokevirtual 66, 3) := by decide +kernel
theorem dM_report_24 : decode bM_report 24 = .ok (.ifCond .eq 24, 3) := by decide +kernel
theorem dM_report_27 : decode bM_report 27 = .ok (.aload_n 0, 1) := by decide +kernel
theorem dM_report_28 : decode bM_report 28 = .ok (.getfield 23, 3) := by decide +kernel
theorem dM_report_31 : decode bM_report 31 = .ok (.bipush 12, 2) := by decide +kernel
theorem dM_report_33 : decode bM_report 33 = .ok (.aload_n 0, 1) := by decide +kernel
theorem dM_report_34 : decode bM_report 34 = .ok (.getfield 63, 3) := by decide +kernel
theorem dM_report_37 : decode bM_report 37 = .ok (.imul, 1) := by decide +kernel
theorem dM_report_38 : decode bM_report 38 = .ok (.iload_n 1, 1) := by decide +kernel
theorem dM_report_39 : decode bM_report 39 = .ok (.iadd, 1) := by decide +kernel
theorem dM_report_40 : decode bM_report 40 = .ok (.iaload, 1) := by decide +kernel
theorem dM_report_41 : decode bM_report 41 = .ok (.ifCond .ge 7, 3) := by decide +kernel
theorem dM_report_44 : decode bM_report 44 = .ok (.iconst 1, 1) := by decide +kernel
theorem dM_report_45 : decode bM_report 45 = .ok (.goto 4, 3) := by decide +kernel
theorem dM_report_48 : decode bM_report 48 = .ok (.iconst 0, 1) := by decide +kernel
theorem dM_report_49 : decode bM_report 49 = .ok (.istore_n 3, 1) := by decide +kernel
theorem dM_report_50 : decode bM_report 50 = .ok (.aload_n 0, 1) := by decide +kernel
theorem dM_report_51 : decode bM_report 51 = .ok (.aload_n 0, 1) := by decide +kernel
theorem dM_report_52 : decode bM_report 52 = .ok (.iload_n 1, 1) := by decide +kernel
theorem dM_report_53 : decode bM_report 53 = .ok (.invokevirtual 59, 3) := by decide +kernel
theorem dM_report_56 : decode bM_report 56 = .ok (.ifCond .ne 7, 3) := by decide +kernel
theorem dM_report_59 : decode bM_report 59 = .ok (.iconst 1, 1) := by decide +kernel
theorem dM_report_60 : decode bM_report 60 = .ok (.goto 4, 3) := by decide +kernel
theorem dM_report_63 : decode bM_report 63 = .ok (.iconst 0, 1) := by decide +kernel
theorem dM_report_64 : decode bM_report 64 = .ok (.iload_n 2, 1) := by decide +kernel
theorem dM_report_65 : decode bM_report 65 = .ok (.ifCond .lt 8, 3) := by decide +kernel
theorem dM_report_68 : decode bM_report 68 = .ok (.iload_n 2, 1) := by decide +kernel
theorem dM_report_69 : decode bM_report 69 = .ok (.iconst 2, 1) := by decide +kernel
theorem dM_report_70 : decode bM_report 70 = .ok (.if_icmp .le 7, 3) := by decide +kernel
theorem dM_report_73 : decode bM_report 73 = .ok (.iconst 1, 1) := by decide +kernel
theorem dM_report_74 : decode bM_report 74 = .ok (.goto 4, 3) := by decide +kernel
theorem dM_report_77 : decode bM_report 77 = .ok (.iconst 0, 1) := by decide +kernel
theorem dM_report_78 : decode bM_report 78 = .ok (.iload_n 3, 1) := by decide +kernel
theorem dM_report_79 : decode bM_report 79 = .ok (.ifCond .ne 7, 3) := by decide +kernel
theorem dM_report_82 : decode bM_report 82 = .ok (.iconst 1, 1) := by decide +kernel
theorem dM_report_83 : decode bM_report 83 = .ok (.goto 4, 3) := by decide +kernel
theorem dM_report_86 : decode bM_report 86 = .ok (.iconst 0, 1) := by decide +kernel
theorem dM_report_87 : decode bM_report 87 = .ok (.invokevirtual 55, 3) := by decide +kernel
theorem dM_report_90 : decode bM_report 90 = .ok (.ifCond .ne 48, 3) := by decide +kernel
theorem dM_report_93 : decode bM_report 93 = .ok (.aload_n 0, 1) := by decide +kernel
theorem dM_report_94 : decode bM_report 94 = .ok (.getfield 23, 3) := by decide +kernel
theorem dM_report_97 : decode bM_report 97 = .ok (.bipush 12, 2) := by decide +kernel
theorem dM_report_99 : decode bM_report 99 = .ok (.aload_n 0, 1) := by decide +kernel
theorem dM_report_100 : decode bM_report 100 = .ok (.getfield 63, 3) := by decide +kernel
theorem dM_report_103 : decode bM_report 103 = .ok (.imul, 1) := by decide +kernel
theorem dM_report_104 : decode bM_report 104 = .ok (.iload_n 1, 1) := by decide +kernel
theorem dM_report_105 : decode bM_report 105 = .ok (.iadd, 1) := by decide +kernel
theorem dM_report_106 : decode bM_report 106 = .ok (.iload_n 2, 1) := by decide +kernel
theorem dM_report_107 : decode bM_report 107 = .ok (.iastore, 1) := by decide +kernel
theorem dM_report_108 : decode bM_report 108 = .ok (.aload_n 0, 1) := by decide +kernel
theorem dM_report_109 : decode bM_report 109 = .ok (.getfield 23, 3) := by decide +kernel
theorem dM_report_112 : decode bM_report 112 = .ok (.bipush 12, 2) := by decide +kernel
theorem dM_report_114 : decode bM_report 114 = .ok (.aload_n 0, 1) := by decide +kernel
theorem dM_report_115 : decode bM_report 115 = .ok (.getfield 63, 3) := by decide +kernel
theorem dM_report_118 : decode bM_report 118 = .ok (.imul, 1) := by decide +kernel
theorem dM_report_119 : decode bM_report 119 = .ok (.aload_n 0, 1) := by decide +kernel
theorem dM_report_120 : decode bM_report 120 = .ok (.getfield 16, 3) := by decide +kernel
theorem dM_report_123 : decode bM_report 123 = .ok (.bipush 12, 2) := by decide +kernel
theorem dM_report_125 : decode bM_report 125 = .ok (.aload_n 0, 1) := by decide +kernel
theorem dM_report_126 : decode bM_report 126 = .ok (.getfield 63, 3) := by decide +kernel
theorem dM_report_129 : decode bM_report 129 = .ok (.imul, 1) := by decide +kernel
theorem dM_report_130 : decode bM_report 130 = .ok (.iload_n 1, 1) := by decide +kernel
theorem dM_report_131 : decode bM_report 131 = .ok (.iadd, 1) := by decide +kernel
theorem dM_report_132 : decode bM_report 132 = .ok (.iaload, 1) := by decide +kernel
theorem dM_report_133 : decode bM_report 133 = .ok (.iadd, 1) := by decide +kernel
theorem dM_report_134 : decode bM_report 134 = .ok (.iconst 2, 1) := by decide +kernel
theorem dM_report_135 : decode bM_report 135 = .ok (.iload_n 2, 1) := by decide +kernel
theorem dM_report_136 : decode bM_report 136 = .ok (.isub, 1) := by decide +kernel
theorem dM_report_137 : decode bM_report 137 = .ok (.iastore, 1) := by decide +kernel
theorem dM_report_138 : decode bM_report 138 = .ok (.return_, 1) := by decide +kernel
theorem dM_rounds_0 : decode bM_rounds 0 = .ok (.aload_n 0, 1) := by decide +kernel
theorem dM_rounds_1 : decode bM_rounds 1 = .ok (.iconst 0, 1) := by decide +kernel
theorem dM_rounds_2 : decode bM_rounds 2 = .ok (.putfield 48, 3) := by decide +kernel
theorem dM_rounds_5 : decode bM_rounds 5 = .ok (.aload_n 0, 1) := by decide +kernel
theorem dM_rounds_6 : decode bM_rounds 6 = .ok (.getfield 63, 3) := by decide +kernel
theorem dM_rounds_9 : decode bM_rounds 9 = .ok (.ireturn, 1) := by decide +kernel
theorem dM_scoreOf_0 : decode bM_scoreOf 0 = .ok (.iconst 0, 1) := by decide +kernel
theorem dM_scoreOf_1 : decode bM_scoreOf 1 = .ok (.istore_n 2, 1) := by decide +kernel
theorem dM_scoreOf_2 : decode bM_scoreOf 2 = .ok (.iconst 0, 1) := by decide +kernel
theorem dM_scoreOf_3 : decode bM_scoreOf 3 = .ok (.istore_n 3, 1) := by decide +kernel
theorem dM_scoreOf_4 : decode bM_scoreOf 4 = .ok (.iload_n 3, 1) := by decide +kernel
theorem dM_scoreOf_5 : decode bM_scoreOf 5 = .ok (.aload_n 0, 1) := by decide +kernel
theorem dM_scoreOf_6 : decode bM_scoreOf 6 = .ok (.getfield 63, 3) := by decide +kernel
theorem dM_scoreOf_9 : decode bM_scoreOf 9 = .ok (.if_icmp .ge 58, 3) := by decide +kernel
theorem dM_scoreOf_12 : decode bM_scoreOf 12 = .ok (.aload_n 0, 1) := by decide +kernel
theorem dM_scoreOf_13 : decode bM_scoreOf 13 = .ok (.getfield 16, 3) := by decide +kernel
theorem dM_scoreOf_16 : decode bM_scoreOf 16 = .ok (.bipush 12, 2) := by decide +kernel
theorem dM_scoreOf_18 : decode bM_scoreOf 18 = .ok (.iload_n 3, 1) := by decide +kernel
theorem dM_scoreOf_19 : decode bM_scoreOf 19 = .ok (.imul, 1) := by decide +kernel
theorem dM_scoreOf_20 : decode bM_scoreOf 20 = .ok (.iload_n 1, 1) := by decide +kernel
theorem dM_scoreOf_21 : decode bM_scoreOf 21 = .ok (.iadd, 1) := by decide +kernel
theorem dM_scoreOf_22 : decode bM_scoreOf 22 = .ok (.iaload, 1) := by decide +kernel
theorem dM_scoreOf_23 : decode bM_scoreOf 23 = .ok (.istore 4, 2) := by decide +kernel
theorem dM_scoreOf_25 : decode bM_scoreOf 25 = .ok (.iload 4, 2) := by decide +kernel
theorem dM_scoreOf_27 : decode bM_scoreOf 27 = .ok (.bipush 12, 2) := by decide +kernel
theorem dM_scoreOf_29 : decode bM_scoreOf 29 = .ok (.if_icmp .ne 9, 3) := by decide +kernel
theorem dM_scoreOf_32 : decode bM_scoreOf 32 = .ok (.iload_n 2, 1) := by decide +kernel
theorem dM_scoreOf_33 : decode bM_scoreOf 33 = .ok (.iconst 2, 1) := by decide +kernel
theorem dM_scoreOf_34 : decode bM_scoreOf 34 = .ok (.iadd, 1) := by decide +kernel
theorem dM_scoreOf_35 : decode bM_scoreOf 35 = .ok (.goto 25, 3) := by decide +kernel
theorem dM_scoreOf_38 : decode bM_scoreOf 38 = .ok (.iload 4, 2) := by decide +kernel
theorem dM_scoreOf_40 : decode bM_scoreOf 40 = .ok (.ifCond .lt 19, 3) := by decide +kernel
theorem dM_scoreOf_43 : decode bM_scoreOf 43 = .ok (.iload_n 2, 1) := by decide +kernel
theorem dM_scoreOf_44 : decode bM_scoreOf 44 = .ok (.aload_n 0, 1) := by decide +kernel
theorem dM_scoreOf_45 : decode bM_scoreOf 45 = .ok (.getfield 23, 3) := by decide +kernel
theorem dM_scoreOf_48 : decode bM_scoreOf 48 = .ok (.bipush 12, 2) := by decide +kernel
theorem dM_scoreOf_50 : decode bM_scoreOf 50 = .ok (.iload_n 3, 1) := by decide +kernel
theorem dM_scoreOf_51 : decode bM_scoreOf 51 = .ok (.imul, 1) := by decide +kernel
theorem dM_scoreOf_52 : decode bM_scoreOf 52 = .ok (.iload_n 1, 1) := by decide +kernel
theorem dM_scoreOf_53 : decode bM_scoreOf 53 = .ok (.iadd, 1) := by decide +kernel
theorem dM_scoreOf_54 : decode bM_scoreOf 54 = .ok (.iaload, 1) := by decide +kernel
theorem dM_scoreOf_55 : decode bM_scoreOf 55 = .ok (.iadd, 1) := by decide +kernel
theorem dM_scoreOf_56 : decode bM_scoreOf 56 = .ok (.goto 4, 3) := by decide +kernel
theorem dM_scoreOf_59 : decode bM_scoreOf 59 = .ok (.iload_n 2, 1) := by decide +kernel
theorem dM_scoreOf_60 : decode bM_scoreOf 60 = .ok (.istore_n 2, 1) := by decide +kernel
theorem dM_scoreOf_61 : decode bM_scoreOf 61 = .ok (.iinc 3 1, 3) := by decide +kernel
theorem dM_scoreOf_64 : decode bM_scoreOf 64 = .ok (.goto (-60), 3) := by decide +kernel
theorem dM_scoreOf_67 : decode bM_scoreOf 67 = .ok (.iload_n 2, 1) := by decide +kernel
theorem dM_scoreOf_68 : decode bM_scoreOf 68 = .ok (.ireturn, 1) := by decide +kernel
theorem dM_table_0 : decode bM_table 0 = .ok (.aload_n 0, 1) := by decide +kernel
theorem dM_table_1 : decode bM_table 1 = .ok (.iload_n 1, 1) := by decide +kernel
theorem dM_table_2 : decode bM_table 2 = .ok (.ifCond .lt 11, 3) := by decide +kernel
theorem dM_table_5 : decode bM_table 5 = .ok (.iload_n 1, 1) := by decide +kernel
theorem dM_table_6 : decode bM_table 6 = .ok (.aload_n 0, 1) := by decide +kernel
theorem dM_table_7 : decode bM_table 7 = .ok (.getfield 44, 3) := by decide +kernel
theorem dM_table_10 : decode bM_table 10 = .ok (.if_icmp .lt 7, 3) := by decide +kernel
theorem dM_table_13 : decode bM_table 13 = .ok (.iconst 1, 1) := by decide +kernel
theorem dM_table_14 : decode bM_table 14 = .ok (.goto 4, 3) := by decide +kernel
theorem dM_table_17 : decode bM_table 17 = .ok (.iconst 0, 1) := by decide +kernel
theorem dM_table_18 : decode bM_table 18 = .ok (.iconst 0, 1) := by decide +kernel
theorem dM_table_19 : decode bM_table 19 = .ok (.iconst 0, 1) := by decide +kernel
theorem dM_table_20 : decode bM_table 20 = .ok (.invokevirtual 55, 3) := by decide +kernel
theorem dM_table_23 : decode bM_table 23 = .ok (.ifCond .eq 5, 3) := by decide +kernel
theorem dM_table_26 : decode bM_table 26 = .ok (.iconst 0, 1) := by decide +kernel
theorem dM_table_27 : decode bM_table 27 = .ok (.ireturn, 1) := by decide +kernel
theorem dM_table_28 : decode bM_table 28 = .ok (.iconst 0, 1) := by decide +kernel
theorem dM_table_29 : decode bM_table 29 = .ok (.istore_n 2, 1) := by decide +kernel
theorem dM_table_30 : decode bM_table 30 = .ok (.iload_n 2, 1) := by decide +kernel
theorem dM_table_31 : decode bM_table 31 = .ok (.aload_n 0, 1) := by decide +kernel
theorem dM_table_32 : decode bM_table 32 = .ok (.getfield 44, 3) := by decide +kernel
theorem dM_table_35 : decode bM_table 35 = .ok (.if_icmp .ge 60, 3) := by decide +kernel
theorem dM_table_38 : decode bM_table 38 = .ok (.iconst 0, 1) := by decide +kernel
theorem dM_table_39 : decode bM_table 39 = .ok (.istore_n 3, 1) := by decide +kernel
theorem dM_table_40 : decode bM_table 40 = .ok (.iconst 0, 1) := by decide +kernel
theorem dM_table_41 : decode bM_table 41 = .ok (.istore 4, 2) := by decide +kernel
theorem dM_table_43 : decode bM_table 43 = .ok (.iload 4, 2) := by decide +kernel
theorem dM_table_45 : decode bM_table 45 = .ok (.aload_n 0, 1) := by decide +kernel
theorem dM_table_46 : decode bM_table 46 = .ok (.getfield 44, 3) := by decide +kernel
theorem dM_table_49 : decode bM_table 49 = .ok (.if_icmp .ge 33, 3) := by decide +kernel
theorem dM_table_52 : decode bM_table 52 = .ok (.iload 4, 2) := by decide +kernel
theorem dM_table_54 : decode bM_table 54 = .ok (.iload_n 2, 1) := by decide +kernel
theorem dM_table_55 : decode bM_table 55 = .ok (.if_icmp .eq 19, 3) := by decide +kernel
theorem dM_table_58 : decode bM_table 58 = .ok (.aload_n 0, 1) := by decide +kernel
theorem dM_table_59 : decode bM_table 59 = .ok (.iload 4, 2) := by decide +kernel
theorem dM_table_61 : decode bM_table 61 = .ok (.iload_n 2, 1) := by decide +kernel
theorem dM_table_62 : decode bM_table 62 = .ok (.invokevirtual 141, 3) := by decide +kernel
theorem dM_table_65 : decode bM_table 65 = .ok (.ifCond .eq 9, 3) := by decide +kernel
theorem dM_table_68 : decode bM_table 68 = .ok (.iload_n 3, 1) := by decide +kernel
theorem dM_table_69 : decode bM_table 69 = .ok (.iconst 1, 1) := by decide +kernel
theorem dM_table_70 : decode bM_table 70 = .ok (.iadd, 1) := by decide +kernel
theorem dM_table_71 : decode bM_table 71 = .ok (.goto 4, 3) := by decide +kernel
theorem dM_table_74 : decode bM_table 74 = .ok (.iload_n 3, 1) := by decide +kernel
theorem dM_table_75 : decode bM_table 75 = .ok (.istore_n 3, 1) := by decide +kernel
theorem dM_table_76 : decode bM_table 76 = .ok (.iinc 4 1, 3) := by decide +kernel
theorem dM_table_79 : decode bM_table 79 = .ok (.goto (-36), 3) := by decide +kernel
theorem dM_table_82 : decode bM_table 82 = .ok (.aload_n 0, 1) := by decide +kernel
theorem dM_table_83 : decode bM_table 83 = .ok (.getfield 41, 3) := by decide +kernel
theorem dM_table_86 : decode bM_table 86 = .ok (.iload_n 3, 1) := by decide +kernel
theorem dM_table_87 : decode bM_table 87 = .ok (.iload_n 2, 1) := by decide +kernel
theorem dM_table_88 : decode bM_table 88 = .ok (.iastore, 1) := by decide +kernel
theorem dM_table_89 : decode bM_table 89 = .ok (.iinc 2 1, 3) := by decide +kernel
theorem dM_table_92 : decode bM_table 92 = .ok (.goto (-62), 3) := by decide +kernel
theorem dM_table_95 : decode bM_table 95 = .ok (.aload_n 0, 1) := by decide +kernel
theorem dM_table_96 : decode bM_table 96 = .ok (.getfield 41, 3) := by decide +kernel
theorem dM_table_99 : decode bM_table 99 = .ok (.iload_n 1, 1) := by decide +kernel
theorem dM_table_100 : decode bM_table 100 = .ok (.iaload, 1) := by decide +kernel
theorem dM_table_101 : decode bM_table 101 = .ok (.ireturn, 1) := by decide +kernel
theorem dM_tell_0 : decode bM_tell 0 = .ok (.aload_n 0, 1) := by decide +kernel
theorem dM_tell_1 : decode bM_tell 1 = .ok (.aload_n 0, 1) := by decide +kernel
theorem dM_tell_2 : decode bM_tell 2 = .ok (.iload_n 1, 1) := by decide +kernel
theorem dM_tell_3 : decode bM_tell 3 = .ok (.invokevirtual 59, 3) := by decide +kernel
theorem dM_tell_6 : decode bM_tell 6 = .ok (.ifCond .eq 13, 3) := by decide +kernel
theorem dM_tell_9 : decode bM_tell 9 = .ok (.iload_n 2, 1) := by decide +kernel
theorem dM_tell_10 : decode bM_tell 10 = .ok (.ifCond .lt 9, 3) := by decide +kernel
theorem dM_tell_13 : decode bM_tell 13 = .ok (.iload_n 2, 1) := by decide +kernel
theorem dM_tell_14 : decode bM_tell 14 = .ok (.bipush 6, 2) := by decide +kernel
theorem dM_tell_16 : decode bM_tell 16 = .ok (.if_icmp .le 7, 3) := by decide +kernel
theorem dM_tell_19 : decode bM_tell 19 = .ok (.iconst 1, 1) := by decide +kernel
theorem dM_tell_20 : decode bM_tell 20 = .ok (.goto 4, 3) := by decide +kernel
theorem dM_tell_23 : decode bM_tell 23 = .ok (.iconst 0, 1) := by decide +kernel
theorem dM_tell_24 : decode bM_tell 24 = .ok (.iconst 0, 1) := by decide +kernel
theorem dM_tell_25 : decode bM_tell 25 = .ok (.iconst 0, 1) := by decide +kernel
theorem dM_tell_26 : decode bM_tell 26 = .ok (.invokevirtual 55, 3) := by decide +kernel
theorem dM_tell_29 : decode bM_tell 29 = .ok (.ifCond .eq 5, 3) := by decide +kernel
theorem dM_tell_32 : decode bM_tell 32 = .ok (.iconst 0, 1) := by decide +kernel
theorem dM_tell_33 : decode bM_tell 33 = .ok (.ireturn, 1) := by decide +kernel
theorem dM_tell_34 : decode bM_tell 34 = .ok (.iload_n 2, 1) := by decide +kernel
theorem dM_tell_35 : decode bM_tell 35 = .ok (.tableswitch 73 0 5 #[37, 43, 49, 55, 61, 67], 37) := by decide +kernel
theorem dM_tell_72 : decode bM_tell 72 = .ok (.aload_n 0, 1) := by decide +kernel
theorem dM_tell_73 : decode bM_tell 73 = .ok (.iload_n 1, 1) := by decide +kernel
theorem dM_tell_74 : decode bM_tell 74 = .ok (.invokevirtual 70, 3) := by decide +kernel
theorem dM_tell_77 : decode bM_tell 77 = .ok (.ireturn, 1) := by decide +kernel
theorem dM_tell_78 : decode bM_tell 78 = .ok (.aload_n 0, 1) := by decide +kernel
theorem dM_tell_79 : decode bM_tell 79 = .ok (.iload_n 1, 1) := by decide +kernel
theorem dM_tell_80 : decode bM_tell 80 = .ok (.invokevirtual 74, 3) := by decide +kernel
theorem dM_tell_83 : decode bM_tell 83 = .ok (.ireturn, 1) := by decide +kernel
theorem dM_tell_84 : decode bM_tell 84 = .ok (.aload_n 0, 1) := by decide +kernel
theorem dM_tell_85 : decode bM_tell 85 = .ok (.iload_n 1, 1) := by decide +kernel
theorem dM_tell_86 : decode bM_tell 86 = .ok (.invokevirtual 129, 3) := by decide +kernel
theorem dM_tell_89 : decode bM_tell 89 = .ok (.ireturn, 1) := by decide +kernel
theorem dM_tell_90 : decode bM_tell 90 = .ok (.aload_n 0, 1) := by decide +kernel
theorem dM_tell_91 : decode bM_tell 91 = .ok (.iload_n 1, 1) := by decide +kernel
theorem dM_tell_92 : decode bM_tell 92 = .ok (.invokevirtual 132, 3) := by decide +kernel
theorem dM_tell_95 : decode bM_tell 95 = .ok (.ireturn, 1) := by decide +kernel
theorem dM_tell_96 : decode bM_tell 96 = .ok (.aload_n 0, 1) := by decide +kernel
theorem dM_tell_97 : decode bM_tell 97 = .ok (.iload_n 1, 1) := by decide +kernel
theorem dM_tell_98 : decode bM_tell 98 = .ok (.invokevirtual 135, 3) := by decide +kernel
theorem dM_tell_101 : decode bM_tell 101 = .ok (.ireturn, 1) := by decide +kernel
theorem dM_tell_102 : decode bM_tell 102 = .ok (.aload_n 0, 1) := by decide +kernel
theorem dM_tell_103 : decode bM_tell 103 = .ok (.iload_n 1, 1) := by decide +kernel
theorem dM_tell_104 : decode bM_tell 104 = .ok (.invokevirtual 87, 3) := by decide +kernel
theorem dM_tell_107 : decode bM_tell 107 = .ok (.ireturn, 1) := by decide +kernel
theorem dM_tell_108 : decode bM_tell 108 = .ok (.aload_n 0, 1) := by decide +kernel
theorem dM_tell_109 : decode bM_tell 109 = .ok (.iload_n 1, 1) := by decide +kernel
theorem dM_tell_110 : decode bM_tell 110 = .ok (.invokevirtual 138, 3) := by decide +kernel
theorem dM_tell_113 : decode bM_tell 113 = .ok (.ireturn, 1) := by decide +kernel
theorem dM_thrown_0 : decode bM_thrown 0 = .ok (.aload_n 0, 1) := by decide +kernel
theorem dM_thrown_1 : decode bM_thrown 1 = .ok (.getfield 48, 3) := by decide +kernel
theorem dM_thrown_4 : decode bM_thrown 4 = .ok (.ireturn, 1) := by decide +kernel
theorem dM_untold_0 : decode bM_untold 0 = .ok (.iconst 0, 1) := by decide +kernel
theorem dM_untold_1 : decode bM_untold 1 = .ok (.istore_n 1, 1) := by decide +kernel
theorem dM_untold_2 : decode bM_untold 2 = .ok (.iconst 0, 1) := by decide +kernel
theorem dM_untold_3 : decode bM_untold 3 = .ok (.istore_n 2, 1) := by decide +kernel
theorem dM_untold_4 : decode bM_untold 4 = .ok (.iload_n 2, 1) := by decide +kernel
theorem dM_untold_5 : decode bM_untold 5 = .ok (.aload_n 0, 1) := by decide +kernel
theorem dM_untold_6 : decode bM_untold 6 = .ok (.getfield 44, 3) := by decide +kernel
theorem dM_untold_9 : decode bM_untold 9 = .ok (.if_icmp .ge 46, 3) := by decide +kernel
theorem dM_untold_12 : decode bM_untold 12 = .ok (.aload_n 0, 1) := by decide +kernel
theorem dM_untold_13 : decode bM_untold 13 = .ok (.aload_n 0, 1) := by decide +kernel
theorem dM_untold_14 : decode bM_untold 14 = .ok (.getfield 63, 3) := by decide +kernel
theorem dM_untold_17 : decode bM_untold 17 = .ok (.iload_n 2, 1) := by decide +kernel
theorem dM_untold_18 : decode bM_untold 18 = .ok (.invokevirtual 66, 3) := by decide +kernel
theorem dM_untold_21 : decode bM_untold 21 = .ok (.ifCond .eq 26, 3) := by decide +kernel
theorem dM_untold_24 : decode bM_untold 24 = .ok (.aload_n 0, 1) := by decide +kernel
theorem dM_untold_25 : decode bM_untold 25 = .ok (.getfield 23, 3) := by decide +kernel
theorem dM_untold_28 : decode bM_untold 28 = .ok (.bipush 12, 2) := by decide +kernel
theorem dM_untold_30 : decode bM_untold 30 = .ok (.aload_n 0, 1) := by decide +kernel
theorem dM_untold_31 : decode bM_untold 31 = .ok (.getfield 63, 3) := by decide +kernel
theorem dM_untold_34 : decode bM_untold 34 = .ok (.imul, 1) := by decide +kernel
theorem dM_untold_35 : decode bM_untold 35 = .ok (.iload_n 2, 1) := by decide +kernel
theorem dM_untold_36 : decode bM_untold 36 = .ok (.iadd, 1) := by decide +kernel
theorem dM_untold_37 : decode bM_untold 37 = .ok (.iaload, 1) := by decide +kernel
theorem dM_untold_38 : decode bM_untold 38 = .ok (.ifCond .ge 9, 3) := by decide +kernel
theorem dM_untold_41 : decode bM_untold 41 = .ok (.iload_n 1, 1) := by decide +kernel
theorem dM_untold_42 : decode bM_untold 42 = .ok (.iconst 1, 1) := by decide +kernel
theorem dM_untold_43 : decode bM_untold 43 = .ok (.iadd, 1) := by decide +kernel
theorem dM_untold_44 : decode bM_untold 44 = .ok (.goto 4, 3) := by decide +kernel
theorem dM_untold_47 : decode bM_untold 47 = .ok (.iload_n 1, 1) := by decide +kernel
theorem dM_untold_48 : decode bM_untold 48 = .ok (.istore_n 1, 1) := by decide +kernel
theorem dM_untold_49 : decode bM_untold 49 = .ok (.iinc 2 1, 3) := by decide +kernel
theorem dM_untold_52 : decode bM_untold 52 = .ok (.goto (-48), 3) := by decide +kernel
theorem dM_untold_55 : decode bM_untold 55 = .ok (.iload_n 1, 1) := by decide +kernel
theorem dM_untold_56 : decode bM_untold 56 = .ok (.iconst 2, 1) := by decide +kernel
theorem dM_untold_57 : decode bM_untold 57 = .ok (.idiv, 1) := by decide +kernel
theorem dM_untold_58 : decode bM_untold 58 = .ok (.ireturn, 1) := by decide +kernel
theorem dM_ways_0 : decode bM_ways 0 = .ok (.aload_n 0, 1) := by decide +kernel
theorem dM_ways_1 : decode bM_ways 1 = .ok (.iconst 0, 1) := by decide +kernel
theorem dM_ways_2 : decode bM_ways 2 = .ok (.putfield 48, 3) := by decide +kernel
theorem dM_ways_5 : decode bM_ways 5 = .ok (.aload_n 0, 1) := by decide +kernel
theorem dM_ways_6 : decode bM_ways 6 = .ok (.invokevirtual 113, 3) := by decide +kernel
theorem dM_ways_9 : decode bM_ways 9 = .ok (.aload_n 0, 1) := by decide +kernel
theorem dM_ways_10 : decode bM_ways 10 = .ok (.getfield 38, 3) := by decide +kernel
theorem dM_ways_13 : decode bM_ways 13 = .ok (.aload_n 0, 1) := by decide +kernel
theorem dM_ways_14 : decode bM_ways 14 = .ok (.invokevirtual 116, 3) := by decide +kernel
theorem dM_ways_17 : decode bM_ways 17 = .ok (.iaload, 1) := by decide +kernel
theorem dM_ways_18 : decode bM_ways 18 = .ok (.ireturn, 1) := by decide +kernel
theorem dM_whole_0 : decode bM_whole 0 = .ok (.iconst 1, 1) := by decide +kernel
theorem dM_whole_1 : decode bM_whole 1 = .ok (.aload_n 0, 1) := by decide +kernel
theorem dM_whole_2 : decode bM_whole 2 = .ok (.getfield 100, 3) := by decide +kernel
theorem dM_whole_5 : decode bM_whole 5 = .ok (.ishl, 1) := by decide +kernel
theorem dM_whole_6 : decode bM_whole 6 = .ok (.iconst 1, 1) := by decide +kernel
theorem dM_whole_7 : decode bM_whole 7 = .ok (.isub, 1) := by decide +kernel
theorem dM_whole_8 : decode bM_whole 8 = .ok (.ireturn, 1) := by decide +kernel
theorem dM_wonOf_0 : decode bM_wonOf 0 = .ok (.iconst 0, 1) := by decide +kernel
theorem dM_wonOf_1 : decode bM_wonOf 1 = .ok (.istore_n 2, 1) := by decide +kernel
theorem dM_wonOf_2 : decode bM_wonOf 2 = .ok (.iconst 0, 1) := by decide +kernel
theorem dM_wonOf_3 : decode bM_wonOf 3 = .ok (.istore_n 3, 1) := by decide +kernel
theorem dM_wonOf_4 : decode bM_wonOf 4 = .ok (.iload_n 3, 1) := by decide +kernel
theorem dM_wonOf_5 : decode bM_wonOf 5 = .ok (.aload_n 0, 1) := by decide +kernel
theorem dM_wonOf_6 : decode bM_wonOf 6 = .ok (.getfield 63, 3) := by decide +kernel
theorem dM_wonOf_9 : decode bM_wonOf 9 = .ok (.if_icmp .ge 41, 3) := by decide +kernel
theorem dM_wonOf_12 : decode bM_wonOf 12 = .ok (.aload_n 0, 1) := by decide +kernel
theorem dM_wonOf_13 : decode bM_wonOf 13 = .ok (.iload_n 3, 1) := by decide +kernel
theorem dM_wonOf_14 : decode bM_wonOf 14 = .ok (.iload_n 1, 1) := by decide +kernel
theorem dM_wonOf_15 : decode bM_wonOf 15 = .ok (.invokevirtual 66, 3) := by decide +kernel
theorem dM_wonOf_18 : decode bM_wonOf 18 = .ok (.ifCond .eq 24, 3) := by decide +kernel
theorem dM_wonOf_21 : decode bM_wonOf 21 = .ok (.aload_n 0, 1) := by decide +kernel
theorem dM_wonOf_22 : decode bM_wonOf 22 = .ok (.getfield 23, 3) := by decide +kernel
theorem dM_wonOf_25 : decode bM_wonOf 25 = .ok (.bipush 12, 2) := by decide +kernel
theorem dM_wonOf_27 : decode bM_wonOf 27 = .ok (.iload_n 3, 1) := by decide +kernel
theorem dM_wonOf_28 : decode bM_wonOf 28 = .ok (.imul, 1) := by decide +kernel
theorem dM_wonOf_29 : decode bM_wonOf 29 = .ok (.iload_n 1, 1) := by decide +kernel
theorem dM_wonOf_30 : decode bM_wonOf 30 = .ok (.iadd, 1) := by decide +kernel
theorem dM_wonOf_31 : decode bM_wonOf 31 = .ok (.iaload, 1) := by decide +kernel
theorem dM_wonOf_32 : decode bM_wonOf 32 = .ok (.iconst 2, 1) := by decide +kernel
theorem dM_wonOf_33 : decode bM_wonOf 33 = .ok (.if_icmp .ne 9, 3) := by decide +kernel
theorem dM_wonOf_36 : decode bM_wonOf 36 = .ok (.iload_n 2, 1) := by decide +kernel
theorem dM_wonOf_37 : decode bM_wonOf 37 = .ok (.iconst 1, 1) := by decide +kernel
theorem dM_wonOf_38 : decode bM_wonOf 38 = .ok (.iadd, 1) := by decide +kernel
theorem dM_wonOf_39 : decode bM_wonOf 39 = .ok (.goto 4, 3) := by decide +kernel
theorem dM_wonOf_42 : decode bM_wonOf 42 = .ok (.iload_n 2, 1) := by decide +kernel
theorem dM_wonOf_43 : decode bM_wonOf 43 = .ok (.istore_n 2, 1) := by decide +kernel
theorem dM_wonOf_44 : decode bM_wonOf 44 = .ok (.iinc 3 1, 3) := by decide +kernel
theorem dM_wonOf_47 : decode bM_wonOf 47 = .ok (.goto (-43), 3) := by decide +kernel
theorem dM_wonOf_50 : decode bM_wonOf 50 = .ok (.iload_n 2, 1) := by decide +kernel
theorem dM_wonOf_51 : decode bM_wonOf 51 = .ok (.ireturn, 1) := by decide +kernel
theorem dM_work_0 : decode bM_work 0 = .ok (.aload_n 0, 1) := by decide +kernel
theorem dM_work_1 : decode bM_work 1 = .ok (.invokevirtual 110, 3) := by decide +kernel
theorem dM_work_4 : decode bM_work 4 = .ok (.aload_n 0, 1) := by decide +kernel
theorem dM_work_5 : decode bM_work 5 = .ok (.getfield 32, 3) := by decide +kernel
theorem dM_work_8 : decode bM_work 8 = .ok (.iconst 0, 1) := by decide +kernel
theorem dM_work_9 : decode bM_work 9 = .ok (.iconst 0, 1) := by decide +kernel
theorem dM_work_10 : decode bM_work 10 = .ok (.iastore, 1) := by decide +kernel
theorem dM_work_11 : decode bM_work 11 = .ok (.aload_n 0, 1) := by decide +kernel
theorem dM_work_12 : decode bM_work 12 = .ok (.getfield 38, 3) := by decide +kernel
theorem dM_work_15 : decode bM_work 15 = .ok (.iconst 0, 1) := by decide +kernel
theorem dM_work_16 : decode bM_work 16 = .ok (.iconst 1, 1) := by decide +kernel
theorem dM_work_17 : decode bM_work 17 = .ok (.iastore, 1) := by decide +kernel
theorem dM_work_18 : decode bM_work 18 = .ok (.iconst 1, 1) := by decide +kernel
theorem dM_work_19 : decode bM_work 19 = .ok (.istore_n 1, 1) := by decide +kernel
theorem dM_work_20 : decode bM_work 20 = .ok (.iload_n 1, 1) := by decide +kernel
theorem dM_work_21 : decode bM_work 21 = .ok (.iconst 1, 1) := by decide +kernel
theorem dM_work_22 : decode bM_work 22 = .ok (.aload_n 0, 1) := by decide +kernel
theorem dM_work_23 : decode bM_work 23 = .ok (.getfield 100, 3) := by decide +kernel
theorem dM_work_26 : decode bM_work 26 = .ok (.ishl, 1) := by decide +kernel
theorem dM_work_27 : decode bM_work 27 = .ok (.if_icmp .ge 201, 3) := by decide +kernel
theorem dM_work_30 : decode bM_work 30 = .ok (.iconst 0, 1) := by decide +kernel
theorem dM_work_31 : decode bM_work 31 = .ok (.istore_n 2, 1) := by decide +kernel
theorem dM_work_32 : decode bM_work 32 = .ok (.iload_n 1, 1) := by decide +kernel
theorem dM_work_33 : decode bM_work 33 = .ok (.iload_n 2, 1) := by decide +kernel
theorem dM_work_34 : decode bM_work 34 = .ok (.ishr, 1) := by decide +kernel
theorem dM_work_35 : decode bM_work 35 = .ok (.iconst 1, 1) := by decide +kernel
theorem dM_work_36 : decode bM_work 36 = .ok (.iand, 1) := by decide +kernel
theorem dM_work_37 : decode bM_work 37 = .ok (.ifCond .ne 9, 3) := by decide +kernel
theorem dM_work_40 : decode bM_work 40 = .ok (.iinc 2 1, 3) := by decide +kernel
theorem dM_work_43 : decode bM_work 43 = .ok (.goto (-11), 3) := by decide +kernel
theorem dM_work_46 : decode bM_work 46 = .ok (.aload_n 0, 1) := by decide +kernel
theorem dM_work_47 : decode bM_work 47 = .ok (.getfield 32, 3) := by decide +kernel
theorem dM_work_50 : decode bM_work 50 = .ok (.iload_n 1, 1) := by decide +kernel
theorem dM_work_51 : decode bM_work 51 = .ok (.ldc 109, 2) := by decide +kernel
theorem dM_work_53 : decode bM_work 53 = .ok (.iastore, 1) := by decide +kernel
theorem dM_work_54 : decode bM_work 54 = .ok (.aload_n 0, 1) := by decide +kernel
theorem dM_work_55 : decode bM_work 55 = .ok (.getfield 35, 3) := by decide +kernel
theorem dM_work_58 : decode bM_work 58 = .ok (.iload_n 1, 1) := by decide +kernel
theorem dM_work_59 : decode bM_work 59 = .ok (.iconst (-1), 1) := by decide +kernel
theorem dM_work_60 : decode bM_work 60 = .ok (.iastore, 1) := by decide +kernel
theorem dM_work_61 : decode bM_work 61 = .ok (.aload_n 0, 1) := by decide +kernel
theorem dM_work_62 : decode bM_work 62 = .ok (.getfield 38, 3) := by decide +kernel
theorem dM_work_65 : decode bM_work 65 = .ok (.iload_n 1, 1) := by decide +kernel
theorem dM_work_66 : decode bM_work 66 = .ok (.iconst 0, 1) := by decide +kernel
theorem dM_work_67 : decode bM_work 67 = .ok (.iastore, 1) := by decide +kernel
theorem dM_work_68 : decode bM_work 68 = .ok (.iload_n 2, 1) := by decide +kernel
theorem dM_work_69 : decode bM_work 69 = .ok (.iconst 1, 1) := by decide +kernel
theorem dM_work_70 : decode bM_work 70 = .ok (.iadd, 1) := by decide +kernel
theorem dM_work_71 : decode bM_work 71 = .ok (.istore_n 3, 1) := by decide +kernel
theorem dM_work_72 : decode bM_work 72 = .ok (.iload_n 3, 1) := by decide +kernel
theorem dM_work_73 : decode bM_work 73 = .ok (.aload_n 0, 1) := by decide +kernel
theorem dM_work_74 : decode bM_work 74 = .ok (.getfield 100, 3) := by decide +kernel
theorem dM_work_77 : decode bM_work 77 = .ok (.if_icmp .ge 145, 3) := by decide +kernel
theorem dM_work_80 : decode bM_work 80 = .ok (.iload_n 1, 1) := by decide +kernel
theorem dM_work_81 : decode bM_work 81 = .ok (.iconst 1, 1) := by decide +kernel
theorem dM_work_82 : decode bM_work 82 = .ok (.iload_n 2, 1) := by decide +kernel
theorem dM_work_83 : decode bM_work 83 = .ok (.ishl, 1) := by decide +kernel
theorem dM_work_84 : decode bM_work 84 = .ok (.iconst (-1), 1) := by decide +kernel
theorem dM_work_85 : decode bM_work 85 = .ok (.ixor, 1) := by decide +kernel
theorem dM_work_86 : decode bM_work 86 = .ok (.iand, 1) := by decide +kernel
theorem dM_work_87 : decode bM_work 87 = .ok (.iconst 1, 1) := by decide +kernel
theorem dM_work_88 : decode bM_work 88 = .ok (.iload_n 3, 1) := by decide +kernel
theorem dM_work_89 : decode bM_work 89 = .ok (.ishl, 1) := by decide +kernel
theorem dM_work_90 : decode bM_work 90 = .ok (.iconst (-1), 1) := by decide +kernel
theorem dM_work_91 : decode bM_work 91 = .ok (.ixor, 1) := by decide +kernel
theorem dM_work_92 : decode bM_work 92 = .ok (.iand, 1) := by decide +kernel
theorem dM_work_93 : decode bM_work 93 = .ok (.istore 4, 2) := by decide +kernel
theorem dM_work_95 : decode bM_work 95 = .ok (.iload_n 1, 1) := by decide +kernel
theorem dM_work_96 : decode bM_work 96 = .ok (.iload_n 3, 1) := by decide +kernel
theorem dM_work_97 : decode bM_work 97 = .ok (.ishr, 1) := by decide +kernel
theorem dM_work_98 : decode bM_work 98 = .ok (.iconst 1, 1) := by decide +kernel
theorem dM_work_99 : decode bM_work 99 = .ok (.iand, 1) := by decide +kernel
theorem dM_work_100 : decode bM_work 100 = .ok (.iconst 1, 1) := by decide +kernel
theorem dM_work_101 : decode bM_work 101 = .ok (.if_icmp .ne 115, 3) := by decide +kernel
theorem dM_work_104 : decode bM_work 104 = .ok (.aload_n 0, 1) := by decide +kernel
theorem dM_work_105 : decode bM_work 105 = .ok (.getfield 29, 3) := by decide +kernel
theorem dM_work_108 : decode bM_work 108 = .ok (.bipush 12, 2) := by decide +kernel
theorem dM_work_110 : decode bM_work 110 = .ok (.iload_n 2, 1) := by decide +kernel
theorem dM_work_111 : decode bM_work 111 = .ok (.imul, 1) := by decide +kernel
theorem dM_work_112 : decode bM_work 112 = .ok (.iload_n 3, 1) := by decide +kernel
theorem dM_work_113 : decode bM_work 113 = .ok (.iadd, 1) := by decide +kernel
theorem dM_work_114 : decode bM_work 114 = .ok (.iaload, 1) := by decide +kernel
theorem dM_work_115 : decode bM_work 115 = .ok (.ldc 109, 2) := by decide +kernel
theorem dM_work_117 : decode bM_work 117 = .ok (.if_icmp .ge 99, 3) := by decide +kernel
theorem dM_work_120 : decode bM_work 120 = .ok (.aload_n 0, 1) := by decide +kernel
theorem dM_work_121 : decode bM_work 121 = .ok (.getfield 29, 3) := by decide +kernel
theorem dM_work_124 : decode bM_work 124 = .ok (.bipush 12, 2) := by decide +kernel
theorem dM_work_126 : decode bM_work 126 = .ok (.iload_n 2, 1) := by decide +kernel
theorem dM_work_127 : decode bM_work 127 = .ok (.imul, 1) := by decide +kernel
theorem dM_work_128 : decode bM_work 128 = .ok (.iload_n 3, 1) := by decide +kernel
theorem dM_work_129 : decode bM_work 129 = .ok (.iadd, 1) := by decide +kernel
theorem dM_work_130 : decode bM_work 130 = .ok (.iaload, 1) := by decide +kernel
theorem dM_work_131 : decode bM_work 131 = .ok (.aload_n 0, 1) := by decide +kernel
theorem dM_work_132 : decode bM_work 132 = .ok (.getfield 32, 3) := by decide +kernel
theorem dM_work_135 : decode bM_work 135 = .ok (.iload 4, 2) := by decide +kernel
theorem dM_work_137 : decode bM_work 137 = .ok (.iaload, 1) := by decide +kernel
theorem dM_work_138 : decode bM_work 138 = .ok (.iadd, 1) := by decide +kernel
theorem dM_work_139 : decode bM_work 139 = .ok (.istore 5, 2) := by decide +kernel
theorem dM_work_141 : decode bM_work 141 = .ok (.aload_n 0, 1) := by decide +kernel
theorem dM_work_142 : decode bM_work 142 = .ok (.getfield 35, 3) := by decide +kernel
theorem dM_work_145 : decode bM_work 145 = .ok (.iload_n 1, 1) := by decide +kernel
theorem dM_work_146 : decode bM_work 146 = .ok (.iload 5, 2) := by decide +kernel
theorem dM_work_148 : decode bM_work 148 = .ok (.aload_n 0, 1) := by decide +kernel
theorem dM_work_149 : decode bM_work 149 = .ok (.getfield 32, 3) := by decide +kernel
theorem dM_work_152 : decode bM_work 152 = .ok (.iload_n 1, 1) := by decide +kernel
theorem dM_work_153 : decode bM_work 153 = .ok (.iaload, 1) := by decide +kernel
theorem dM_work_154 : decode bM_work 154 = .ok (.if_icmp .ge 7, 3) := by decide +kernel
theorem dM_work_157 : decode bM_work 157 = .ok (.iload_n 3, 1) := by decide +kernel
theorem dM_work_158 : decode bM_work 158 = .ok (.goto 9, 3) := by decide +kernel
theorem dM_work_161 : decode bM_work 161 = .ok (.aload_n 0, 1) := by decide +kernel
theorem dM_work_162 : decode bM_work 162 = .ok (.getfield 35, 3) := by decide +kernel
theorem dM_work_165 : decode bM_work 165 = .ok (.iload_n 1, 1) := by decide +kernel
theorem dM_work_166 : decode bM_work 166 = .ok (.iaload, 1) := by decide +kernel
theorem dM_work_167 : decode bM_work 167 = .ok (.iastore, 1) := by decide +kernel
theorem dM_work_168 : decode bM_work 168 = .ok (.aload_n 0, 1) := by decide +kernel
theorem dM_work_169 : decode bM_work 169 = .ok (.getfield 32, 3) := by decide +kernel
theorem dM_work_172 : decode bM_work 172 = .ok (.iload_n 1, 1) := by decide +kernel
theorem dM_work_173 : decode bM_work 173 = .ok (.iload 5, 2) := by decide +kernel
theorem dM_work_175 : decode bM_work 175 = .ok (.aload_n 0, 1) := by decide +kernel
theorem dM_work_176 : decode bM_work 176 = .ok (.getfield 32, 3) := by decide +kernel
theorem dM_work_179 : decode bM_work 179 = .ok (.iload_n 1, 1) := by decide +kernel
theorem dM_work_180 : decode bM_work 180 = .ok (.iaload, 1) := by decide +kernel
theorem dM_work_181 : decode bM_work 181 = .ok (.if_icmp .ge 8, 3) := by decide +kernel
theorem dM_work_184 : decode bM_work 184 = .ok (.iload 5, 2) := by decide +kernel
theorem dM_work_186 : decode bM_work 186 = .ok (.goto 9, 3) := by decide +kernel
theorem dM_work_189 : decode bM_work 189 = .ok (.aload_n 0, 1) := by decide +kernel
theorem dM_work_190 : decode bM_work 190 = .ok (.getfield 32, 3) := by decide +kernel
theorem dM_work_193 : decode bM_work 193 = .ok (.iload_n 1, 1) := by decide +kernel
theorem dM_work_194 : decode bM_work 194 = .ok (.iaload, 1) := by decide +kernel
theorem dM_work_195 : decode bM_work 195 = .ok (.iastore, 1) := by decide +kernel
theorem dM_work_196 : decode bM_work 196 = .ok (.aload_n 0, 1) := by decide +kernel
theorem dM_work_197 : decode bM_work 197 = .ok (.getfield 38, 3) := by decide +kernel
theorem dM_work_200 : decode bM_work 200 = .ok (.iload_n 1, 1) := by decide +kernel
theorem dM_work_201 : decode bM_work 201 = .ok (.aload_n 0, 1) := by decide +kernel
theorem dM_work_202 : decode bM_work 202 = .ok (.getfield 38, 3) := by decide +kernel
theorem dM_work_205 : decode bM_work 205 = .ok (.iload_n 1, 1) := by decide +kernel
theorem dM_work_206 : decode bM_work 206 = .ok (.iaload, 1) := by decide +kernel
theorem dM_work_207 : decode bM_work 207 = .ok (.aload_n 0, 1) := by decide +kernel
theorem dM_work_208 : decode bM_work 208 = .ok (.getfield 38, 3) := by decide +kernel
theorem dM_work_211 : decode bM_work 211 = .ok (.iload 4, 2) := by decide +kernel
theorem dM_work_213 : decode bM_work 213 = .ok (.iaload, 1) := by decide +kernel
theorem dM_work_214 : decode bM_work 214 = .ok (.iadd, 1) := by decide +kernel
theorem dM_work_215 : decode bM_work 215 = .ok (.iastore, 1) := by decide +kernel
theorem dM_work_216 : decode bM_work 216 = .ok (.iinc 3 1, 3) := by decide +kernel
theorem dM_work_219 : decode bM_work 219 = .ok (.goto (-147), 3) := by decide +kernel
theorem dM_work_222 : decode bM_work 222 = .ok (.iinc 1 1, 3) := by decide +kernel
theorem dM_work_225 : decode bM_work 225 = .ok (.goto (-205), 3) := by decide +kernel
theorem dM_work_228 : decode bM_work 228 = .ok (.return_, 1) := by decide +kernel
