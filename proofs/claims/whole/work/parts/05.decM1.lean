theorem dM_apart_0 : decode bM_apart 0 = .ok (.aload_n 0, 1) := by decide +kernel
theorem dM_apart_1 : decode bM_apart 1 = .ok (.aload_n 0, 1) := by decide +kernel
theorem dM_apart_2 : decode bM_apart 2 = .ok (.iload_n 1, 1) := by decide +kernel
theorem dM_apart_3 : decode bM_apart 3 = .ok (.invokevirtual 59, 3) := by decide +kernel
theorem dM_apart_6 : decode bM_apart 6 = .ok (.ifCond .eq 11, 3) := by decide +kernel
theorem dM_apart_9 : decode bM_apart 9 = .ok (.aload_n 0, 1) := by decide +kernel
theorem dM_apart_10 : decode bM_apart 10 = .ok (.iload_n 2, 1) := by decide +kernel
theorem dM_apart_11 : decode bM_apart 11 = .ok (.invokevirtual 59, 3) := by decide +kernel
theorem dM_apart_14 : decode bM_apart 14 = .ok (.ifCond .ne 7, 3) := by decide +kernel
theorem dM_apart_17 : decode bM_apart 17 = .ok (.iconst 1, 1) := by decide +kernel
theorem dM_apart_18 : decode bM_apart 18 = .ok (.goto 4, 3) := by decide +kernel
theorem dM_apart_21 : decode bM_apart 21 = .ok (.iconst 0, 1) := by decide +kernel
theorem dM_apart_22 : decode bM_apart 22 = .ok (.iload_n 1, 1) := by decide +kernel
theorem dM_apart_23 : decode bM_apart 23 = .ok (.iload_n 2, 1) := by decide +kernel
theorem dM_apart_24 : decode bM_apart 24 = .ok (.if_icmp .ne 7, 3) := by decide +kernel
theorem dM_apart_27 : decode bM_apart 27 = .ok (.iconst 1, 1) := by decide +kernel
theorem dM_apart_28 : decode bM_apart 28 = .ok (.goto 4, 3) := by decide +kernel
theorem dM_apart_31 : decode bM_apart 31 = .ok (.iconst 0, 1) := by decide +kernel
theorem dM_apart_32 : decode bM_apart 32 = .ok (.aload_n 0, 1) := by decide +kernel
theorem dM_apart_33 : decode bM_apart 33 = .ok (.getfield 51, 3) := by decide +kernel
theorem dM_apart_36 : decode bM_apart 36 = .ok (.invokevirtual 55, 3) := by decide +kernel
theorem dM_apart_39 : decode bM_apart 39 = .ok (.ifCond .eq 5, 3) := by decide +kernel
theorem dM_apart_42 : decode bM_apart 42 = .ok (.iconst 0, 1) := by decide +kernel
theorem dM_apart_43 : decode bM_apart 43 = .ok (.ireturn, 1) := by decide +kernel
theorem dM_apart_44 : decode bM_apart 44 = .ok (.aload_n 0, 1) := by decide +kernel
theorem dM_apart_45 : decode bM_apart 45 = .ok (.getfield 13, 3) := by decide +kernel
theorem dM_apart_48 : decode bM_apart 48 = .ok (.bipush 12, 2) := by decide +kernel
theorem dM_apart_50 : decode bM_apart 50 = .ok (.iload_n 1, 1) := by decide +kernel
theorem dM_apart_51 : decode bM_apart 51 = .ok (.imul, 1) := by decide +kernel
theorem dM_apart_52 : decode bM_apart 52 = .ok (.iload_n 2, 1) := by decide +kernel
theorem dM_apart_53 : decode bM_apart 53 = .ok (.iadd, 1) := by decide +kernel
theorem dM_apart_54 : decode bM_apart 54 = .ok (.baload, 1) := by decide +kernel
theorem dM_apart_55 : decode bM_apart 55 = .ok (.istore 4, 2) := by decide +kernel
theorem dM_apart_57 : decode bM_apart 57 = .ok (.aload_n 0, 1) := by decide +kernel
theorem dM_apart_58 : decode bM_apart 58 = .ok (.getfield 13, 3) := by decide +kernel
theorem dM_apart_61 : decode bM_apart 61 = .ok (.bipush 12, 2) := by decide +kernel
theorem dM_apart_63 : decode bM_apart 63 = .ok (.iload_n 1, 1) := by decide +kernel
theorem dM_apart_64 : decode bM_apart 64 = .ok (.imul, 1) := by decide +kernel
theorem dM_apart_65 : decode bM_apart 65 = .ok (.iload_n 2, 1) := by decide +kernel
theorem dM_apart_66 : decode bM_apart 66 = .ok (.iadd, 1) := by decide +kernel
theorem dM_apart_67 : decode bM_apart 67 = .ok (.iload_n 3, 1) := by decide +kernel
theorem dM_apart_68 : decode bM_apart 68 = .ok (.bastore, 1) := by decide +kernel
theorem dM_apart_69 : decode bM_apart 69 = .ok (.aload_n 0, 1) := by decide +kernel
theorem dM_apart_70 : decode bM_apart 70 = .ok (.getfield 13, 3) := by decide +kernel
theorem dM_apart_73 : decode bM_apart 73 = .ok (.bipush 12, 2) := by decide +kernel
theorem dM_apart_75 : decode bM_apart 75 = .ok (.iload_n 2, 1) := by decide +kernel
theorem dM_apart_76 : decode bM_apart 76 = .ok (.imul, 1) := by decide +kernel
theorem dM_apart_77 : decode bM_apart 77 = .ok (.iload_n 1, 1) := by decide +kernel
theorem dM_apart_78 : decode bM_apart 78 = .ok (.iadd, 1) := by decide +kernel
theorem dM_apart_79 : decode bM_apart 79 = .ok (.iload_n 3, 1) := by decide +kernel
theorem dM_apart_80 : decode bM_apart 80 = .ok (.bastore, 1) := by decide +kernel
theorem dM_apart_81 : decode bM_apart 81 = .ok (.iload 4, 2) := by decide +kernel
theorem dM_apart_83 : decode bM_apart 83 = .ok (.iload_n 3, 1) := by decide +kernel
theorem dM_apart_84 : decode bM_apart 84 = .ok (.if_icmp .eq 7, 3) := by decide +kernel
theorem dM_apart_87 : decode bM_apart 87 = .ok (.iconst 1, 1) := by decide +kernel
theorem dM_apart_88 : decode bM_apart 88 = .ok (.goto 4, 3) := by decide +kernel
theorem dM_apart_91 : decode bM_apart 91 = .ok (.iconst 0, 1) := by decide +kernel
theorem dM_apart_92 : decode bM_apart 92 = .ok (.ireturn, 1) := by decide +kernel
theorem dM_back_0 : decode bM_back 0 = .ok (.aload_n 0, 1) := by decide +kernel
theorem dM_back_1 : decode bM_back 1 = .ok (.aload_n 0, 1) := by decide +kernel
theorem dM_back_2 : decode bM_back 2 = .ok (.getfield 51, 3) := by decide +kernel
theorem dM_back_5 : decode bM_back 5 = .ok (.ifCond .ne 14, 3) := by decide +kernel
theorem dM_back_8 : decode bM_back 8 = .ok (.aload_n 0, 1) := by decide +kernel
theorem dM_back_9 : decode bM_back 9 = .ok (.getfield 63, 3) := by decide +kernel
theorem dM_back_12 : decode bM_back 12 = .ok (.ifCond .ne 7, 3) := by decide +kernel
theorem dM_back_15 : decode bM_back 15 = .ok (.iconst 1, 1) := by decide +kernel
theorem dM_back_16 : decode bM_back 16 = .ok (.goto 4, 3) := by decide +kernel
theorem dM_back_19 : decode bM_back 19 = .ok (.iconst 0, 1) := by decide +kernel
theorem dM_back_20 : decode bM_back 20 = .ok (.iconst 0, 1) := by decide +kernel
theorem dM_back_21 : decode bM_back 21 = .ok (.iconst 0, 1) := by decide +kernel
theorem dM_back_22 : decode bM_back 22 = .ok (.invokevirtual 55, 3) := by decide +kernel
theorem dM_back_25 : decode bM_back 25 = .ok (.ifCond .eq 5, 3) := by decide +kernel
theorem dM_back_28 : decode bM_back 28 = .ok (.iconst 0, 1) := by decide +kernel
theorem dM_back_29 : decode bM_back 29 = .ok (.ireturn, 1) := by decide +kernel
theorem dM_back_30 : decode bM_back 30 = .ok (.aload_n 0, 1) := by decide +kernel
theorem dM_back_31 : decode bM_back 31 = .ok (.aload_n 0, 1) := by decide +kernel
theorem dM_back_32 : decode bM_back 32 = .ok (.getfield 51, 3) := by decide +kernel
theorem dM_back_35 : decode bM_back 35 = .ok (.ifCond .eq 10, 3) := by decide +kernel
theorem dM_back_38 : decode bM_back 38 = .ok (.aload_n 0, 1) := by decide +kernel
theorem dM_back_39 : decode bM_back 39 = .ok (.getfield 63, 3) := by decide +kernel
theorem dM_back_42 : decode bM_back 42 = .ok (.goto 9, 3) := by decide +kernel
theorem dM_back_45 : decode bM_back 45 = .ok (.aload_n 0, 1) := by decide +kernel
theorem dM_back_46 : decode bM_back 46 = .ok (.getfield 63, 3) := by decide +kernel
theorem dM_back_49 : decode bM_back 49 = .ok (.iconst 1, 1) := by decide +kernel
theorem dM_back_50 : decode bM_back 50 = .ok (.isub, 1) := by decide +kernel
theorem dM_back_51 : decode bM_back 51 = .ok (.putfield 63, 3) := by decide +kernel
theorem dM_back_54 : decode bM_back 54 = .ok (.aload_n 0, 1) := by decide +kernel
theorem dM_back_55 : decode bM_back 55 = .ok (.iconst 0, 1) := by decide +kernel
theorem dM_back_56 : decode bM_back 56 = .ok (.putfield 51, 3) := by decide +kernel
theorem dM_back_59 : decode bM_back 59 = .ok (.aload_n 0, 1) := by decide +kernel
theorem dM_back_60 : decode bM_back 60 = .ok (.getfield 63, 3) := by decide +kernel
theorem dM_back_63 : decode bM_back 63 = .ok (.ireturn, 1) := by decide +kernel
theorem dM_balanceOf_0 : decode bM_balanceOf 0 = .ok (.iconst 0, 1) := by decide +kernel
theorem dM_balanceOf_1 : decode bM_balanceOf 1 = .ok (.istore_n 2, 1) := by decide +kernel
theorem dM_balanceOf_2 : decode bM_balanceOf 2 = .ok (.iconst 0, 1) := by decide +kernel
theorem dM_balanceOf_3 : decode bM_balanceOf 3 = .ok (.istore_n 3, 1) := by decide +kernel
theorem dM_balanceOf_4 : decode bM_balanceOf 4 = .ok (.iload_n 3, 1) := by decide +kernel
theorem dM_balanceOf_5 : decode bM_balanceOf 5 = .ok (.aload_n 0, 1) := by decide +kernel
theorem dM_balanceOf_6 : decode bM_balanceOf 6 = .ok (.getfield 63, 3) := by decide +kernel
theorem dM_balanceOf_9 : decode bM_balanceOf 9 = .ok (.if_icmp .ge 46, 3) := by decide +kernel
theorem dM_balanceOf_12 : decode bM_balanceOf 12 = .ok (.aload_n 0, 1) := by decide +kernel
theorem dM_balanceOf_13 : decode bM_balanceOf 13 = .ok (.iload_n 3, 1) := by decide +kernel
theorem dM_balanceOf_14 : decode bM_balanceOf 14 = .ok (.iload_n 1, 1) := by decide +kernel
theorem dM_balanceOf_15 : decode bM_balanceOf 15 = .ok (.invokevirtual 66, 3) := by decide +kernel
theorem dM_balanceOf_18 : decode bM_balanceOf 18 = .ok (.ifCond .ne 7, 3) := by decide +kernel
theorem dM_balanceOf_21 : decode bM_balanceOf 21 = .ok (.iload_n 2, 1) := by decide +kernel
theorem dM_balanceOf_22 : decode bM_balanceOf 22 = .ok (.goto 26, 3) := by decide +kernel
theorem dM_balanceOf_25 : decode bM_balanceOf 25 = .ok (.aload_n 0, 1) := by decide +kernel
theorem dM_balanceOf_26 : decode bM_balanceOf 26 = .ok (.getfield 20, 3) := by decide +kernel
theorem dM_balanceOf_29 : decode bM_balanceOf 29 = .ok (.bipush 12, 2) := by decide +kernel
theorem dM_balanceOf_31 : decode bM_balanceOf 31 = .ok (.iload_n 3, 1) := by decide +kernel
theorem dM_balanceOf_32 : decode bM_balanceOf 32 = .ok (.imul, 1) := by decide +kernel
theorem dM_balanceOf_33 : decode bM_balanceOf 33 = .ok (.iload_n 1, 1) := by decide +kernel
theorem dM_balanceOf_34 : decode bM_balanceOf 34 = .ok (.iadd, 1) := by decide +kernel
theorem dM_balanceOf_35 : decode bM_balanceOf 35 = .ok (.baload, 1) := by decide +kernel
theorem dM_balanceOf_36 : decode bM_balanceOf 36 = .ok (.ifCond .eq 9, 3) := by decide +kernel
theorem dM_balanceOf_39 : decode bM_balanceOf 39 = .ok (.iload_n 2, 1) := by decide +kernel
theorem dM_balanceOf_40 : decode bM_balanceOf 40 = .ok (.iconst 1, 1) := by decide +kernel
theorem dM_balanceOf_41 : decode bM_balanceOf 41 = .ok (.iadd, 1) := by decide +kernel
theorem dM_balanceOf_42 : decode bM_balanceOf 42 = .ok (.goto 6, 3) := by decide +kernel
theorem dM_balanceOf_45 : decode bM_balanceOf 45 = .ok (.iload_n 2, 1) := by decide +kernel
theorem dM_balanceOf_46 : decode bM_balanceOf 46 = .ok (.iconst 1, 1) := by decide +kernel
theorem dM_balanceOf_47 : decode bM_balanceOf 47 = .ok (.isub, 1) := by decide +kernel
theorem dM_balanceOf_48 : decode bM_balanceOf 48 = .ok (.istore_n 2, 1) := by decide +kernel
theorem dM_balanceOf_49 : decode bM_balanceOf 49 = .ok (.iinc 3 1, 3) := by decide +kernel
theorem dM_balanceOf_52 : decode bM_balanceOf 52 = .ok (.goto (-48), 3) := by decide +kernel
theorem dM_balanceOf_55 : decode bM_balanceOf 55 = .ok (.iload_n 2, 1) := by decide +kernel
theorem dM_balanceOf_56 : decode bM_balanceOf 56 = .ok (.ireturn, 1) := by decide +kernel
theorem dM_bergerOf_0 : decode bM_bergerOf 0 = .ok (.iconst 0, 1) := by decide +kernel
theorem dM_bergerOf_1 : decode bM_bergerOf 1 = .ok (.istore_n 2, 1) := by decide +kernel
theorem dM_bergerOf_2 : decode bM_bergerOf 2 = .ok (.iconst 0, 1) := by decide +kernel
theorem dM_bergerOf_3 : decode bM_bergerOf 3 = .ok (.istore_n 3, 1) := by decide +kernel
theorem dM_bergerOf_4 : decode bM_bergerOf 4 = .ok (.iload_n 3, 1) := by decide +kernel
theorem dM_bergerOf_5 : decode bM_bergerOf 5 = .ok (.aload_n 0, 1) := by decide +kernel
theorem dM_bergerOf_6 : decode bM_bergerOf 6 = .ok (.getfield 63, 3) := by decide +kernel
theorem dM_bergerOf_9 : decode bM_bergerOf 9 = .ok (.if_icmp .ge 52, 3) := by decide +kernel
theorem dM_bergerOf_12 : decode bM_bergerOf 12 = .ok (.aload_n 0, 1) := by decide +kernel
theorem dM_bergerOf_13 : decode bM_bergerOf 13 = .ok (.iload_n 3, 1) := by decide +kernel
theorem dM_bergerOf_14 : decode bM_bergerOf 14 = .ok (.iload_n 1, 1) := by decide +kernel
theorem dM_bergerOf_15 : decode bM_bergerOf 15 = .ok (.invokevirtual 66, 3) := by decide +kernel
theorem dM_bergerOf_18 : decode bM_bergerOf 18 = .ok (.ifCond .eq 35, 3) := by decide +kernel
theorem dM_bergerOf_21 : decode bM_bergerOf 21 = .ok (.iload_n 2, 1) := by decide +kernel
theorem dM_bergerOf_22 : decode bM_bergerOf 22 = .ok (.aload_n 0, 1) := by decide +kernel
theorem dM_bergerOf_23 : decode bM_bergerOf 23 = .ok (.getfield 23, 3) := by decide +kernel
theorem dM_bergerOf_26 : decode bM_bergerOf 26 = .ok (.bipush 12, 2) := by decide +kernel
theorem dM_bergerOf_28 : decode bM_bergerOf 28 = .ok (.iload_n 3, 1) := by decide +kernel
theorem dM_bergerOf_29 : decode bM_bergerOf 29 = .ok (.imul, 1) := by decide +kernel
theorem dM_bergerOf_30 : decode bM_bergerOf 30 = .ok (.iload_n 1, 1) := by decide +kernel
theorem dM_bergerOf_31 : decode bM_bergerOf 31 = .ok (.iadd, 1) := by decide +kernel
theorem dM_bergerOf_32 : decode bM_bergerOf 32 = .ok (.iaload, 1) := by decide +kernel
theorem dM_bergerOf_33 : decode bM_bergerOf 33 = .ok (.aload_n 0, 1) := by decide +kernel
theorem dM_bergerOf_34 : decode bM_bergerOf 34 = .ok (.aload_n 0, 1) := by decide +kernel
theorem dM_bergerOf_35 : decode bM_bergerOf 35 = .ok (.getfield 16, 3) := by decide +kernel
theorem dM_bergerOf_38 : decode bM_bergerOf 38 = .ok (.bipush 12, 2) := by decide +kernel
theorem dM_bergerOf_40 : decode bM_bergerOf 40 = .ok (.iload_n 3, 1) := by decide +kernel
theorem dM_bergerOf_41 : decode bM_bergerOf 41 = .ok (.imul, 1) := by decide +kernel
theorem dM_bergerOf_42 : decode bM_bergerOf 42 = .ok (.iload_n 1, 1) := by decide +kernel
theorem dM_bergerOf_43 : decode bM_bergerOf 43 = .ok (.iadd, 1) := by decide +kernel
theorem dM_bergerOf_44 : decode bM_bergerOf 44 = .ok (.iaload, 1) := by decide +kernel
theorem dM_bergerOf_45 : decode bM_bergerOf 45 = .ok (.invokevirtual 70, 3) := by decide +kernel
theorem dM_bergerOf_48 : decode bM_bergerOf 48 = .ok (.imul, 1) := by decide +kernel
theorem dM_bergerOf_49 : decode bM_bergerOf 49 = .ok (.iadd, 1) := by decide +kernel
theorem dM_bergerOf_50 : decode bM_bergerOf 50 = .ok (.goto 4, 3) := by decide +kernel
theorem dM_bergerOf_53 : decode bM_bergerOf 53 = .ok (.iload_n 2, 1) := by decide +kernel
theorem dM_bergerOf_54 : decode bM_bergerOf 54 = .ok (.istore_n 2, 1) := by decide +kernel
theorem dM_bergerOf_55 : decode bM_bergerOf 55 = .ok (.iinc 3 1, 3) := by decide +kernel
theorem dM_bergerOf_58 : decode bM_bergerOf 58 = .ok (.goto (-54), 3) := by decide +kernel
theorem dM_bergerOf_61 : decode bM_bergerOf 61 = .ok (.iload_n 2, 1) := by decide +kernel
theorem dM_bergerOf_62 : decode bM_bergerOf 62 = .ok (.ireturn, 1) := by decide +kernel
theorem dM_buchholzOf_0 : decode bM_buchholzOf 0 = .ok (.iconst 0, 1) := by decide +kernel
theorem dM_buchholzOf_1 : decode bM_buchholzOf 1 = .ok (.istore_n 2, 1) := by decide +kernel
theorem dM_buchholzOf_2 : decode bM_buchholzOf 2 = .ok (.iconst 0, 1) := by decide +kernel
theorem dM_buchholzOf_3 : decode bM_buchholzOf 3 = .ok (.istore_n 3, 1) := by decide +kernel
theorem dM_buchholzOf_4 : decode bM_buchholzOf 4 = .ok (.iload_n 3, 1) := by decide +kernel
theorem dM_buchholzOf_5 : decode bM_buchholzOf 5 = .ok (.aload_n 0, 1) := by decide +kernel
theorem dM_buchholzOf_6 : decode bM_buchholzOf 6 = .ok (.getfield 63, 3) := by decide +kernel
theorem dM_buchholzOf_9 : decode bM_buchholzOf 9 = .ok (.if_icmp .ge 40, 3) := by decide +kernel
theorem dM_buchholzOf_12 : decode bM_buchholzOf 12 = .ok (.aload_n 0, 1) := by decide +kernel
theorem dM_buchholzOf_13 : decode bM_buchholzOf 13 = .ok (.iload_n 3, 1) := by decide +kernel
theorem dM_buchholzOf_14 : decode bM_buchholzOf 14 = .ok (.iload_n 1, 1) := by decide +kernel
theorem dM_buchholzOf_15 : decode bM_buchholzOf 15 = .ok (.invokevirtual 66, 3) := by decide +kernel
theorem dM_buchholzOf_18 : decode bM_buchholzOf 18 = .ok (.ifCond .eq 23, 3) := by decide +kernel
theorem dM_buchholzOf_21 : decode bM_buchholzOf 21 = .ok (.iload_n 2, 1) := by decide +kernel
theorem dM_buchholzOf_22 : decode bM_buchholzOf 22 = .ok (.aload_n 0, 1) := by decide +kernel
theorem dM_buchholzOf_23 : decode bM_buchholzOf 23 = .ok (.aload_n 0, 1) := by decide +kernel
theorem dM_buchholzOf_24 : decode bM_buchholzOf 24 = .ok (.getfield 16, 3) := by decide +kernel
theorem dM_buchholzOf_27 : decode bM_buchholzOf 27 = .ok (.bipush 12, 2) := by decide +kernel
theorem dM_buchholzOf_29 : decode bM_buchholzOf 29 = .ok (.iload_n 3, 1) := by decide +kernel
theorem dM_buchholzOf_30 : decode bM_buchholzOf 30 = .ok (.imul, 1) := by decide +kernel
theorem dM_buchholzOf_31 : decode bM_buchholzOf 31 = .ok (.iload_n 1, 1) := by decide +kernel
theorem dM_buchholzOf_32 : decode bM_buchholzOf 32 = .ok (.iadd, 1) := by decide +kernel
theorem dM_buchholzOf_33 : decode bM_buchholzOf 33 = .ok (.iaload, 1) := by decide +kernel
theorem dM_buchholzOf_34 : decode bM_buchholzOf 34 = .ok (.invokevirtual 70, 3) := by decide +kernel
theorem dM_buchholzOf_37 : decode bM_buchholzOf 37 = .ok (.iadd, 1) := by decide +kernel
theorem dM_buchholzOf_38 : decode bM_buchholzOf 38 = .ok (.goto 4, 3) := by decide +kernel
theorem dM_buchholzOf_41 : decode bM_buchholzOf 41 = .ok (.iload_n 2, 1) := by decide +kernel
theorem dM_buchholzOf_42 : decode bM_buchholzOf 42 = .ok (.istore_n 2, 1) := by decide +kernel
theorem dM_buchholzOf_43 : decode bM_buchholzOf 43 = .ok (.iinc 3 1, 3) := by decide +kernel
theorem dM_buchholzOf_46 : decode bM_buchholzOf 46 = .ok (.goto (-42), 3) := by decide +kernel
theorem dM_buchholzOf_49 : decode bM_buchholzOf 49 = .ok (.iload_n 2, 1) := by decide +kernel
theorem dM_buchholzOf_50 : decode bM_buchholzOf 50 = .ok (.ireturn, 1) := by decide +kernel
theorem dM_byesOf_0 : decode bM_byesOf 0 = .ok (.iconst 0, 1) := by decide +kernel
theorem dM_byesOf_1 : decode bM_byesOf 1 = .ok (.istore_n 2, 1) := by decide +kernel
theorem dM_byesOf_2 : decode bM_byesOf 2 = .ok (.iconst 0, 1) := by decide +kernel
theorem dM_byesOf_3 : decode bM_byesOf 3 = .ok (.istore_n 3, 1) := by decide +kernel
theorem dM_byesOf_4 : decode bM_byesOf 4 = .ok (.iload_n 3, 1) := by decide +kernel
theorem dM_byesOf_5 : decode bM_byesOf 5 = .ok (.aload_n 0, 1) := by decide +kernel
theorem dM_byesOf_6 : decode bM_byesOf 6 = .ok (.getfield 63, 3) := by decide +kernel
theorem dM_byesOf_9 : decode bM_byesOf 9 = .ok (.if_icmp .ge 33, 3) := by decide +kernel
theorem dM_byesOf_12 : decode bM_byesOf 12 = .ok (.aload_n 0, 1) := by decide +kernel
theorem dM_byesOf_13 : decode bM_byesOf 13 = .ok (.getfield 16, 3) := by decide +kernel
theorem dM_byesOf_16 : decode bM_byesOf 16 = .ok (.bipush 12, 2) := by decide +kernel
theorem dM_byesOf_18 : decode bM_byesOf 18 = .ok (.iload_n 3, 1) := by decide +kernel
theorem dM_byesOf_19 : decode bM_byesOf 19 = .ok (.imul, 1) := by decide +kernel
theorem dM_byesOf_20 : decode bM_byesOf 20 = .ok (.iload_n 1, 1) := by decide +kernel
theorem dM_byesOf_21 : decode bM_byesOf 21 = .ok (.iadd, 1) := by decide +kernel
theorem dM_byesOf_22 : decode bM_byesOf 22 = .ok (.iaload, 1) := by decide +kernel
theorem dM_byesOf_23 : decode bM_byesOf 23 = .ok (.bipush 12, 2) := by decide +kernel
theorem dM_byesOf_25 : decode bM_byesOf 25 = .ok (.if_icmp .ne 9, 3) := by decide +kernel
theorem dM_byesOf_28 : decode bM_byesOf 28 = .ok (.iload_n 2, 1) := by decide +kernel
theorem dM_byesOf_29 : decode bM_byesOf 29 = .ok (.iconst 1, 1) := by decide +kernel
theorem dM_byesOf_30 : decode bM_byesOf 30 = .ok (.iadd, 1) := by decide +kernel
theorem dM_byesOf_31 : decode bM_byesOf 31 = .ok (.goto 4, 3) := by decide +kernel
theorem dM_byesOf_34 : decode bM_byesOf 34 = .ok (.iload_n 2, 1) := by decide +kernel
theorem dM_byesOf_35 : decode bM_byesOf 35 = .ok (.istore_n 2, 1) := by decide +kernel
theorem dM_byesOf_36 : decode bM_byesOf 36 = .ok (.iinc 3 1, 3) := by decide +kernel
theorem dM_byesOf_39 : decode bM_byesOf 39 = .ok (.goto (-35), 3) := by decide +kernel
theorem dM_byesOf_42 : decode bM_byesOf 42 = .ok (.iload_n 2, 1) := by decide +kernel
theorem dM_byesOf_43 : decode bM_byesOf 43 = .ok (.ireturn, 1) := by decide +kernel
theorem dM_canPair_0 : decode bM_canPair 0 = .ok (.aload_n 0, 1) := by decide +kernel
theorem dM_canPair_1 : decode bM_canPair 1 = .ok (.invokevirtual 113, 3) := by decide +kernel
theorem dM_canPair_4 : decode bM_canPair 4 = .ok (.aload_n 0, 1) := by decide +kernel
theorem dM_canPair_5 : decode bM_canPair 5 = .ok (.invokevirtual 90, 3) := by decide +kernel
theorem dM_canPair_8 : decode bM_canPair 8 = .ok (.ifCond .le 21, 3) := by decide +kernel
theorem dM_canPair_11 : decode bM_canPair 11 = .ok (.aload_n 0, 1) := by decide +kernel
theorem dM_canPair_12 : decode bM_canPair 12 = .ok (.getfield 32, 3) := by decide +kernel
theorem dM_canPair_15 : decode bM_canPair 15 = .ok (.aload_n 0, 1) := by decide +kernel
theorem dM_canPair_16 : decode bM_canPair 16 = .ok (.invokevirtual 116, 3) := by decide +kernel
theorem dM_canPair_19 : decode bM_canPair 19 = .ok (.iaload, 1) := by decide +kernel
theorem dM_canPair_20 : decode bM_canPair 20 = .ok (.ldc 109, 2) := by decide +kernel
theorem dM_canPair_22 : decode bM_canPair 22 = .ok (.if_icmp .ge 7, 3) := by decide +kernel
theorem dM_canPair_25 : decode bM_canPair 25 = .ok (.iconst 1, 1) := by decide +kernel
theorem dM_canPair_26 : decode bM_canPair 26 = .ok (.goto 4, 3) := by decide +kernel
theorem dM_canPair_29 : decode bM_canPair 29 = .ok (.iconst 0, 1) := by decide +kernel
theorem dM_canPair_30 : decode bM_canPair 30 = .ok (.ireturn, 1) := by decide +kernel
theorem dM_clashes_0 : decode bM_clashes 0 = .ok (.aload_n 0, 1) := by decide +kernel
theorem dM_clashes_1 : decode bM_clashes 1 = .ok (.iload_n 1, 1) := by decide +kernel
theorem dM_clashes_2 : decode bM_clashes 2 = .ok (.iconst 0, 1) := by decide +kernel
theorem dM_clashes_3 : decode bM_clashes 3 = .ok (.invokevirtual 77, 3) := by decide +kernel
theorem dM_clashes_6 : decode bM_clashes 6 = .ok (.iload_n 2, 1) := by decide +kernel
theorem dM_clashes_7 : decode bM_clashes 7 = .ok (.if_icmp .ne 17, 3) := by decide +kernel
theorem dM_clashes_10 : decode bM_clashes 10 = .ok (.aload_n 0, 1) := by decide +kernel
theorem dM_clashes_11 : decode bM_clashes 11 = .ok (.iload_n 1, 1) := by decide +kernel
theorem dM_clashes_12 : decode bM_clashes 12 = .ok (.iconst 1, 1) := by decide +kernel
theorem dM_clashes_13 : decode bM_clashes 13 = .ok (.invokevirtual 77, 3) := by decide +kernel
theorem dM_clashes_16 : decode bM_clashes 16 = .ok (.iload_n 2, 1) := by decide +kernel
theorem dM_clashes_17 : decode bM_clashes 17 = .ok (.if_icmp .ne 7, 3) := by decide +kernel
theorem dM_clashes_20 : decode bM_clashes 20 = .ok (.iconst 1, 1) := by decide +kernel
theorem dM_clashes_21 : decode bM_clashes 21 = .ok (.goto 4, 3) := by decide +kernel
theorem dM_clashes_24 : decode bM_clashes 24 = .ok (.iconst 0, 1) := by decide +kernel
theorem dM_clashes_25 : decode bM_clashes 25 = .ok (.istore_n 3, 1) := by decide +kernel
theorem dM_clashes_26 : decode bM_clashes 26 = .ok (.aload_n 0, 1) := by decide +kernel
theorem dM_clashes_27 : decode bM_clashes 27 = .ok (.iload_n 1, 1) := by decide +kernel
theorem dM_clashes_28 : decode bM_clashes 28 = .ok (.invokevirtual 74, 3) := by decide +kernel
theorem dM_clashes_31 : decode bM_clashes 31 = .ok (.iload_n 2, 1) := by decide +kernel
theorem dM_clashes_32 : decode bM_clashes 32 = .ok (.iadd, 1) := by decide +kernel
theorem dM_clashes_33 : decode bM_clashes 33 = .ok (.istore 4, 2) := by decide +kernel
theorem dM_clashes_35 : decode bM_clashes 35 = .ok (.iload 4, 2) := by decide +kernel
theorem dM_clashes_37 : decode bM_clashes 37 = .ok (.iconst 3, 1) := by decide +kernel
theorem dM_clashes_38 : decode bM_clashes 38 = .ok (.if_icmp .ge 10, 3) := by decide +kernel
theorem dM_clashes_41 : decode bM_clashes 41 = .ok (.iload 4, 2) := by decide +kernel
theorem dM_clashes_43 : decode bM_clashes 43 = .ok (.bipush (-3), 2) := by decide +kernel
theorem dM_clashes_45 : decode bM_clashes 45 = .ok (.if_icmp .gt 9, 3) := by decide +kernel
theorem dM_clashes_48 : decode bM_clashes 48 = .ok (.iload_n 3, 1) := by decide +kernel
theorem dM_clashes_49 : decode bM_clashes 49 = .ok (.iconst 1, 1) := by decide +kernel
theorem dM_clashes_50 : decode bM_clashes 50 = .ok (.iadd, 1) := by decide +kernel
theorem dM_clashes_51 : decode bM_clashes 51 = .ok (.goto 4, 3) := by decide +kernel
theorem dM_clashes_54 : decode bM_clashes 54 = .ok (.iload_n 3, 1) := by decide +kernel
theorem dM_clashes_55 : decode bM_clashes 55 = .ok (.ireturn, 1) := by decide +kernel
theorem dM_close_0 : decode bM_close 0 = .ok (.aload_n 0, 1) := by decide +kernel
theorem dM_close_1 : decode bM_close 1 = .ok (.aload_n 0, 1) := by decide +kernel
theorem dM_close_2 : decode bM_close 2 = .ok (.getfield 51, 3) := by decide +kernel
theorem dM_close_5 : decode bM_close 5 = .ok (.ifCond .eq 10, 3) := by decide +kernel
theorem dM_close_8 : decode bM_close 8 = .ok (.aload_n 0, 1) := by decide +kernel
theorem dM_close_9 : decode bM_close 9 = .ok (.invokevirtual 126, 3) := by decide +kernel
theorem dM_close_12 : decode bM_close 12 = .ok (.ifCond .le 7, 3) := by decide +kernel
theorem dM_close_15 : decode bM_close 15 = .ok (.iconst 1, 1) := by decide +kernel
theorem dM_close_16 : decode bM_close 16 = .ok (.goto 4, 3) := by decide +kernel
theorem dM_close_19 : decode bM_close 19 = .ok (.iconst 0, 1) := by decide +kernel
theorem dM_close_20 : decode bM_close 20 = .ok (.iconst 0, 1) := by decide +kernel
theorem dM_close_21 : decode bM_close 21 = .ok (.iconst 0, 1) := by decide +kernel
theorem dM_close_22 : decode bM_close 22 = .ok (.invokevirtual 55, 3) := by decide +kernel
theorem dM_close_25 : decode bM_close 25 = .ok (.ifCond .eq 5, 3) := by decide +kernel
theorem dM_close_28 : decode bM_close 28 = .ok (.iconst 0, 1) := by decide +kernel
theorem dM_close_29 : decode bM_close 29 = .ok (.ireturn, 1) := by decide +kernel
theorem dM_close_30 : decode bM_close 30 = .ok (.aload_n 0, 1) := by decide +kernel
theorem dM_close_31 : decode bM_close 31 = .ok (.iconst 0, 1) := by decide +kernel
theorem dM_close_32 : decode bM_close 32 = .ok (.putfield 51, 3) := by decide +kernel
theorem dM_close_35 : decode bM_close 35 = .ok (.aload_n 0, 1) := by decide +kernel
theorem dM_close_36 : decode bM_close 36 = .ok (.dup, 1) := by decide +kernel
theorem dM_close_37 : decode bM_close 37 = .ok (.getfield 63, 3) := by decide +kernel
theorem dM_close_40 : decode bM_close 40 = .ok (.iconst 1, 1) := by decide +kernel
theorem dM_close_41 : decode bM_close 41 = .ok (.iadd, 1) := by decide +kernel
theorem dM_close_42 : decode bM_close 42 = .ok (.putfield 63, 3) := by decide +kernel
theorem dM_close_45 : decode bM_close 45 = .ok (.aload_n 0, 1) := by decide +kernel
theorem dM_close_46 : decode bM_close 46 = .ok (.getfield 63, 3) := by decide +kernel
theorem dM_close_49 : decode bM_close 49 = .ok (.ireturn, 1) := by decide +kernel
theorem dM_colourOf_0 : decode bM_colourOf 0 = .ok (.iload_n 2, 1) := by decide +kernel
theorem dM_colourOf_1 : decode bM_colourOf 1 = .ok (.istore_n 3, 1) := by decide +kernel
theorem dM_colourOf_2 : decode bM_colourOf 2 = .ok (.aload_n 0, 1) := by decide +kernel
theorem dM_colourOf_3 : decode bM_colourOf 3 = .ok (.getfield 63, 3) := by decide +kernel
theorem dM_colourOf_6 : decode bM_colourOf 6 = .ok (.iconst 1, 1) := by decide +kernel
theorem dM_colourOf_7 : decode bM_colourOf 7 = .ok (.isub, 1) := by decide +kernel
theorem dM_colourOf_8 : decode bM_colourOf 8 = .ok (.istore 4, 2) := by decide +kernel
theorem dM_colourOf_10 : decode bM_colourOf 10 = .ok (.iload 4, 2) := by decide +kernel
theorem dM_colourOf_12 : decode bM_colourOf 12 = .ok (.ifCond .lt 47, 3) := by decide +kernel
theorem dM_colourOf_15 : decode bM_colourOf 15 = .ok (.aload_n 0, 1) := by decide +kernel
theorem dM_colourOf_16 : decode bM_colourOf 16 = .ok (.iload 4, 2) := by decide +kernel
theorem dM_colourOf_18 : decode bM_colourOf 18 = .ok (.iload_n 1, 1) := by decide +kernel
theorem dM_colourOf_19 : decode bM_colourOf 19 = .ok (.invokevirtual 66, 3) := by decide +kernel
theorem dM_colourOf_22 : decode bM_colourOf 22 = .ok (.ifCond .eq 31, 3) := by decide +kernel
theorem dM_colourOf_25 : decode bM_colourOf 25 = .ok (.iload_n 3, 1) := by decide +kernel
theorem dM_colourOf_26 : decode bM_colourOf 26 = .ok (.ifCond .ne 24, 3) := by decide +kernel
theorem dM_colourOf_29 : decode bM_colourOf 29 = .ok (.aload_n 0, 1) := by decide +kernel
theorem dM_colourOf_30 : decode bM_colourOf 30 = .ok (.getfield 20, 3) := by decide +kernel
theorem dM_colourOf_33 : decode bM_colourOf 33 = .ok (.bipush 12, 2) := by decide +kernel
theorem dM_colourOf_35 : decode bM_colourOf 35 = .ok (.iload 4, 2) := by decide +kernel
theorem dM_colourOf_37 : decode bM_colourOf 37 = .ok (.imul, 1) := by decide +kernel
theorem dM_colourOf_38 : decode bM_colourOf 38 = .ok (.iload_n 1, 1) := by decide +kernel
theorem dM_colourOf_39 : decode bM_colourOf 39 = .ok (.iadd, 1) := by decide +kernel
theorem dM_colourOf_40 : decode bM_colourOf 40 = .ok (.baload, 1) := by decide +kernel
theorem dM_colourOf_41 : decode bM_colourOf 41 = .ok (.ifCond .eq 7, 3) := by decide +kernel
theorem dM_colourOf_44 : decode bM_colourOf 44 = .ok (.iconst 1, 1) := by decide +kernel
theorem dM_colourOf_45 : decode bM_colourOf 45 = .ok (.goto 4, 3) := by decide +kernel
theorem dM_colourOf_48 : decode bM_colourOf 48 = .ok (.iconst (-1), 1) := by decide +kernel
theorem dM_colourOf_49 : decode bM_colourOf 49 = .ok (.ireturn, 1) := by decide +kernel
theorem dM_colourOf_50 : decode bM_colourOf 50 = .ok (.iinc 3 (-1), 3) := by decide +kernel
theorem dM_colourOf_53 : decode bM_colourOf 53 = .ok (.iinc 4 (-1), 3) := by decide +kernel
theorem dM_colourOf_56 : decode bM_colourOf 56 = .ok (.goto (-46), 3) := by decide +kernel
theorem dM_colourOf_59 : decode bM_colourOf 59 = .ok (.iconst 0, 1) := by decide +kernel
theorem dM_colourOf_60 : decode bM_colourOf 60 = .ok (.ireturn, 1) := by decide +kernel
theorem dM_cost_0 : decode bM_cost 0 = .ok (.aload_n 0, 1) := by decide +kernel
theorem dM_cost_1 : decode bM_cost 1 = .ok (.invokevirtual 119, 3) := by decide +kernel
theorem dM_cost_4 : decode bM_cost 4 = .ok (.istore_n 1, 1) := by decide +kernel
theorem dM_cost_5 : decode bM_cost 5 = .ok (.aload_n 0, 1) := by decide +kernel
theorem dM_cost_6 : decode bM_cost 6 = .ok (.iload_n 1, 1) := by decide +kernel
theorem dM_cost_7 : decode bM_cost 7 = .ok (.ifCond .ne 14, 3) := by decide +kernel
theorem dM_cost_10 : decode bM_cost 10 = .ok (.aload_n 0, 1) := by decide +kernel
theorem dM_cost_11 : decode bM_cost 11 = .ok (.getfield 51, 3) := by decide +kernel
theorem dM_cost_14 : decode bM_cost 14 = .ok (.ifCond .ne 7, 3) := by decide +kernel
theorem dM_cost_17 : decode bM_cost 17 = .ok (.iconst 1, 1) := by decide +kernel
theorem dM_cost_18 : decode bM_cost 18 = .ok (.goto 4, 3) := by decide +kernel
theorem dM_cost_21 : decode bM_cost 21 = .ok (.iconst 0, 1) := by decide +kernel
theorem dM_cost_22 : decode bM_cost 22 = .ok (.iconst 0, 1) := by decide +kernel
theorem dM_cost_23 : decode bM_cost 23 = .ok (.iconst 0, 1) := by decide +kernel
theorem dM_cost_24 : decode bM_cost 24 = .ok (.invokevirtual 55, 3) := by decide +kernel
theorem dM_cost_27 : decode bM_cost 27 = .ok (.ifCond .eq 7, 3) := by decide +kernel
theorem dM_cost_30 : decode bM_cost 30 = .ok (.iconst 0, 1) := by decide +kernel
theorem dM_cost_31 : decode bM_cost 31 = .ok (.goto 12, 3) := by decide +kernel
theorem dM_cost_34 : decode bM_cost 34 = .ok (.aload_n 0, 1) := by decide +kernel
theorem dM_cost_35 : decode bM_cost 35 = .ok (.getfield 32, 3) := by decide +kernel
theorem dM_cost_38 : decode bM_cost 38 = .ok (.aload_n 0, 1) := by decide +kernel
theorem dM_cost_39 : decode bM_cost 39 = .ok (.invokevirtual 116, 3) := by decide +kernel
theorem dM_cost_42 : decode bM_cost 42 = .ok (.iaload, 1) := by decide +kernel
theorem dM_cost_43 : decode bM_cost 43 = .ok (.ireturn, 1) := by decide +kernel
theorem dM_costOf_0 : decode bM_costOf 0 = .ok (.aload_n 0, 1) := by decide +kernel
theorem dM_costOf_1 : decode bM_costOf 1 = .ok (.iload_n 1, 1) := by decide +kernel
theorem dM_costOf_2 : decode bM_costOf 2 = .ok (.invokevirtual 70, 3) := by decide +kernel
theorem dM_costOf_5 : decode bM_costOf 5 = .ok (.aload_n 0, 1) := by decide +kernel
theorem dM_costOf_6 : decode bM_costOf 6 = .ok (.iload_n 2, 1) := by decide +kernel
theorem dM_costOf_7 : decode bM_costOf 7 = .ok (.invokevirtual 70, 3) := by decide +kernel
theorem dM_costOf_10 : decode bM_costOf 10 = .ok (.isub, 1) := by decide +kernel
theorem dM_costOf_11 : decode bM_costOf 11 = .ok (.istore_n 3, 1) := by decide +kernel
theorem dM_costOf_12 : decode bM_costOf 12 = .ok (.aload_n 0, 1) := by decide +kernel
theorem dM_costOf_13 : decode bM_costOf 13 = .ok (.iload_n 1, 1) := by decide +kernel
theorem dM_costOf_14 : decode bM_costOf 14 = .ok (.iload_n 2, 1) := by decide +kernel
theorem dM_costOf_15 : decode bM_costOf 15 = .ok (.invokevirtual 81, 3) := by decide +kernel
theorem dM_costOf_18 : decode bM_costOf 18 = .ok (.ifCond .eq 7, 3) := by decide +kernel
theorem dM_costOf_21 : decode bM_costOf 21 = .ok (.iconst 1, 1) := by decide +kernel
theorem dM_costOf_22 : decode bM_costOf 22 = .ok (.goto 4, 3) := by decide +kernel
theorem dM_costOf_25 : decode bM_costOf 25 = .ok (.iconst (-1), 1) := by decide +kernel
theorem dM_costOf_26 : decode bM_costOf 26 = .ok (.istore 4, 2) := by decide +kernel
theorem dM_costOf_28 : decode bM_costOf 28 = .ok (.bipush 64, 2) := by decide +kernel
theorem dM_costOf_30 : decode bM_costOf 30 = .ok (.iload_n 3, 1) := by decide +kernel
theorem dM_costOf_31 : decode bM_costOf 31 = .ok (.imul, 1) := by decide +kernel
theorem dM_costOf_32 : decode bM_costOf 32 = .ok (.iload_n 3, 1) := by decide +kernel
theorem dM_costOf_33 : decode bM_costOf 33 = .ok (.imul, 1) := by decide +kernel
theorem dM_costOf_34 : decode bM_costOf 34 = .ok (.aload_n 0, 1) := by decide +kernel
theorem dM_costOf_35 : decode bM_costOf 35 = .ok (.iload_n 1, 1) := by decide +kernel
theorem dM_costOf_36 : decode bM_costOf 36 = .ok (.iload 4, 2) := by decide +kernel
theorem dM_costOf_38 : decode bM_costOf 38 = .ok (.invokevirtual 84, 3) := by decide +kernel
theorem dM_costOf_41 : decode bM_costOf 41 = .ok (.iadd, 1) := by decide +kernel
theorem dM_costOf_42 : decode bM_costOf 42 = .ok (.aload_n 0, 1) := by decide +kernel
theorem dM_costOf_43 : decode bM_costOf 43 = .ok (.iload_n 2, 1) := by decide +kernel
theorem dM_costOf_44 : decode bM_costOf 44 = .ok (.iload 4, 2) := by decide +kernel
theorem dM_costOf_46 : decode bM_costOf 46 = .ok (.ineg, 1) := by decide +kernel
theorem dM_costOf_47 : decode bM_costOf 47 = .ok (.invokevirtual 84, 3) := by decide +kernel
theorem dM_costOf_50 : decode bM_costOf 50 = .ok (.iadd, 1) := by decide +kernel
theorem dM_costOf_51 : decode bM_costOf 51 = .ok (.ireturn, 1) := by decide +kernel
theorem dM_enter_0 : decode bM_enter 0 = .ok (.aload_n 0, 1) := by decide +kernel
theorem dM_enter_1 : decode bM_enter 1 = .ok (.aload_n 0, 1) := by decide +kernel
theorem dM_enter_2 : decode bM_enter 2 = .ok (.getfield 51, 3) := by decide +kernel
theorem dM_enter_5 : decode bM_enter 5 = .ok (.ifCond .ne 12, 3) := by decide +kernel
theorem dM_enter_8 : decode bM_enter 8 = .ok (.aload_n 0, 1) := by decide +kernel
theorem dM_enter_9 : decode bM_enter 9 = .ok (.getfield 44, 3) := by decide +kernel
theorem dM_enter_12 : decode bM_enter 12 = .ok (.bipush 12, 2) := by decide +kernel
theorem dM_enter_14 : decode bM_enter 14 = .ok (.if_icmp .ne 7, 3) := by decide +kernel
theorem dM_enter_17 : decode bM_enter 17 = .ok (.iconst 1, 1) := by decide +kernel
theorem dM_enter_18 : decode bM_enter 18 = .ok (.goto 4, 3) := by decide +kernel
theorem dM_enter_21 : decode bM_enter 21 = .ok (.iconst 0, 1) := by decide +kernel
theorem dM_enter_22 : decode bM_enter 22 = .ok (.iconst 0, 1) := by decide +kernel
theorem dM_enter_23 : decode bM_enter 23 = .ok (.iconst 0, 1) := by decide +kernel
theorem dM_enter_24 : decode bM_enter 24 = .ok (.invokevirtual 55, 3) := by decide +kernel
theorem dM_enter_27 : decode bM_enter 27 = .ok (.ifCond .eq 5, 3) := by decide +kernel
theorem dM_enter_30 : decode bM_enter 30 = .ok (.iconst 0, 1) := by decide +kernel
theorem dM_enter_31 : decode bM_enter 31 = .ok (.ireturn, 1) := by decide +kernel
theorem dM_enter_32 : decode bM_enter 32 = .ok (.aload_n 0, 1) := by decide +kernel
theorem dM_enter_33 : decode bM_enter 33 = .ok (.getfield 44, 3) := by decide +kernel
theorem dM_enter_36 : decode bM_enter 36 = .ok (.istore_n 1, 1) := by decide +kernel
theorem dM_enter_37 : decode bM_enter 37 = .ok (.aload_n 0, 1) := by decide +kernel
theorem dM_enter_38 : decode bM_enter 38 = .ok (.dup, 1) := by decide +kernel
theorem dM_enter_39 : decode bM_enter 39 = .ok (.getfield 44, 3) := by decide +kernel
theorem dM_enter_42 : decode bM_enter 42 = .ok (.iconst 1, 1) := by decide +kernel
theorem dM_enter_43 : decode bM_enter 43 = .ok (.iadd, 1) := by decide +kernel
theorem dM_enter_44 : decode bM_enter 44 = .ok (.putfield 44, 3) := by decide +kernel
theorem dM_enter_47 : decode bM_enter 47 = .ok (.aload_n 0, 1) := by decide +kernel
theorem dM_enter_48 : decode bM_enter 48 = .ok (.getfield 7, 3) := by decide +kernel
theorem dM_enter_51 : decode bM_enter 51 = .ok (.iload_n 1, 1) := by decide +kernel
theorem dM_enter_52 : decode bM_enter 52 = .ok (.iconst 1, 1) := by decide +kernel
theorem dM_enter_53 : decode bM_enter 53 = .ok (.bastore, 1) := by decide +kernel
theorem dM_enter_54 : decode bM_enter 54 = .ok (.iconst 0, 1) := by decide +kernel
theorem dM_enter_55 : decode bM_enter 55 = .ok (.istore_n 2, 1) := by decide +kernel
theorem dM_enter_56 : decode bM_enter 56 = .ok (.iload_n 2, 1) := by decide +kernel
theorem dM_enter_57 : decode bM_enter 57 = .ok (.bipush 17, 2) := by decide +kernel
theorem dM_enter_59 : decode bM_enter 59 = .ok (.if_icmp .ge 21, 3) := by decide +kernel
theorem dM_enter_62 : decode bM_enter 62 = .ok (.aload_n 0, 1) := by decide +kernel
theorem dM_enter_63 : decode bM_enter 63 = .ok (.getfield 16, 3) := by decide +kernel
theorem dM_enter_66 : decode bM_enter 66 = .ok (.bipush 12, 2) := by decide +kernel
theorem dM_enter_68 : decode bM_enter 68 = .ok (.iload_n 2, 1) := by decide +kernel
theorem dM_enter_69 : decode bM_enter 69 = .ok (.imul, 1) := by decide +kernel
theorem dM_enter_70 : decode bM_enter 70 = .ok (.iload_n 1, 1) := by decide +kernel
theorem dM_enter_71 : decode bM_enter 71 = .ok (.iadd, 1) := by decide +kernel
theorem dM_enter_72 : decode bM_enter 72 = .ok (.iconst (-1), 1) := by decide +kernel
theorem dM_enter_73 : decode bM_enter 73 = .ok (.iastore, 1) := by decide +kernel
theorem dM_enter_74 : decode bM_enter 74 = .ok (.iinc 2 1, 3) := by decide +kernel
theorem dM_enter_77 : decode bM_enter 77 = .ok (.goto (-21), 3) := by decide +kernel
theorem dM_enter_80 : decode bM_enter 80 = .ok (.iconst 0, 1) := by decide +kernel
theorem dM_enter_81 : decode bM_enter 81 = .ok (.istore_n 2, 1) := by decide +kernel
theorem dM_enter_82 : decode bM_enter 82 = .ok (.iload_n 2, 1) := by decide +kernel
theorem dM_enter_83 : decode bM_enter 83 = .ok (.bipush 12, 2) := by decide +kernel
theorem dM_enter_85 : decode bM_enter 85 = .ok (.if_icmp .ge 33, 3) := by decide +kernel
theorem dM_enter_88 : decode bM_enter 88 = .ok (.aload_n 0, 1) := by decide +kernel
theorem dM_enter_89 : decode bM_enter 89 = .ok (.getfield 13, 3) := by decide +kernel
theorem dM_enter_92 : decode bM_enter 92 = .ok (.bipush 12, 2) := by decide +kernel
theorem dM_enter_94 : decode bM_enter 94 = .ok (.iload_n 1, 1) := by decide +kernel
theorem dM_enter_95 : decode bM_enter 95 = .ok (.imul, 1) := by decide +kernel
theorem dM_enter_96 : decode bM_enter 96 = .ok (.iload_n 2, 1) := by decide +kernel
theorem dM_enter_97 : decode bM_enter 97 = .ok (.iadd, 1) := by decide +kernel
theorem dM_enter_98 : decode bM_enter 98 = .ok (.iconst 0, 1) := by decide +kernel
theorem dM_enter_99 : decode bM_enter 99 = .ok (.bastore, 1) := by decide +kernel
theorem dM_enter_100 : decode bM_enter 100 = .ok (.aload_n 0, 1) := by decide +kernel
theorem dM_enter_101 : decode bM_enter 101 = .ok (.getfield 13, 3) := by decide +kernel
theorem dM_enter_104 : decode bM_enter 104 = .ok (.bipush 12, 2) := by decide +kernel
theorem dM_enter_106 : decode bM_enter 106 = .ok (.iload_n 2, 1) := by decide +kernel
theorem dM_enter_107 : decode bM_enter 107 = .ok (.imul, 1) := by decide +kernel
theorem dM_enter_108 : decode bM_enter 108 = .ok (.iload_n 1, 1) := by decide +kernel
theorem dM_enter_109 : decode bM_enter 109 = .ok (.iadd, 1) := by decide +kernel
theorem dM_enter_110 : decode bM_enter 110 = .ok (.iconst 0, 1) := by decide +kernel
theorem dM_enter_111 : decode bM_enter 111 = .ok (.bastore, 1) := by decide +kernel
theorem dM_enter_112 : decode bM_enter 112 = .ok (.iinc 2 1, 3) := by decide +kernel
theorem dM_enter_115 : decode bM_enter 115 = .ok (.goto (-33), 3) := by decide +kernel
theorem dM_enter_118 : decode bM_enter 118 = .ok (.iload_n 1, 1) := by decide +kernel
theorem dM_enter_119 : decode bM_enter 119 = .ok (.ireturn, 1) := by decide +kernel
theorem dM_findBye_0 : decode bM_findBye 0 = .ok (.iconst (-1), 1) := by decide +kernel
theorem dM_findBye_1 : decode bM_findBye 1 = .ok (.istore_n 1, 1) := by decide +kernel
theorem dM_findBye_2 : decode bM_findBye 2 = .ok (.iconst 0, 1) := by decide +kernel
theorem dM_findBye_3 : decode bM_findBye 3 = .ok (.istore_n 2, 1) := by decide +kernel
theorem dM_findBye_4 : decode bM_findBye 4 = .ok (.iload_n 2, 1) := by decide +kernel
theorem dM_findBye_5 : decode bM_findBye 5 = .ok (.aload_n 0, 1) := by decide +kernel
theorem dM_findBye_6 : decode bM_findBye 6 = .ok (.getfield 44, 3) := by decide +kernel
theorem dM_findBye_9 : decode bM_findBye 9 = .ok (.if_icmp .ge 98, 3) := by decide +kernel
theorem dM_findBye_12 : decode bM_findBye 12 = .ok (.iload_n 1, 1) := by decide +kernel
theorem dM_findBye_13 : decode bM_findBye 13 = .ok (.ifCond .ge 7, 3) := by decide +kernel
theorem dM_findBye_16 : decode bM_findBye 16 = .ok (.iconst 1, 1) := by decide +kernel
theorem dM_findBye_17 : decode bM_findBye 17 = .ok (.goto 4, 3) := by decide +kernel
theorem dM_findBye_20 : decode bM_findBye 20 = .ok (.iconst 0, 1) := by decide +kernel
theorem dM_findBye_21 : decode bM_findBye 21 = .ok (.istore_n 3, 1) := by decide +kernel
theorem dM_findBye_22 : decode bM_findBye 22 = .ok (.aload_n 0, 1) := by decide +kernel
theorem dM_findBye_23 : decode bM_findBye 23 = .ok (.getfield 7, 3) := by decide +kernel
theorem dM_findBye_26 : decode bM_findBye 26 = .ok (.iload_n 2, 1) := by decide +kernel
theorem dM_findBye_27 : decode bM_findBye 27 = .ok (.baload, 1) := by decide +kernel
theorem dM_findBye_28 : decode bM_findBye 28 = .ok (.ifCond .eq 54, 3) := by decide +kernel
theorem dM_findBye_31 : decode bM_findBye 31 = .ok (.iload_n 1, 1) := by decide +kernel
theorem dM_findBye_32 : decode bM_findBye 32 = .ok (.ifCond .lt 50, 3) := by decide +kernel
theorem dM_findBye_35 : decode bM_findBye 35 = .ok (.aload_n 0, 1) := by decide +kernel
theorem dM_findBye_36 : decode bM_findBye 36 = .ok (.iload_n 2, 1) := by decide +kernel
theorem dM_findBye_37 : decode bM_findBye 37 = .ok (.invokevirtual 87, 3) := by decide +kernel
theorem dM_findBye_40 : decode bM_findBye 40 = .ok (.aload_n 0, 1) := by decide +kernel
theorem dM_findBye_41 : decode bM_findBye 41 = .ok (.iload_n 1, 1) := by decide +kernel
theorem dM_findBye_42 : decode bM_findBye 42 = .ok (.invokevirtual 87, 3) := by decide +kernel
theorem dM_findBye_45 : decode bM_findBye 45 = .ok (.isub, 1) := by decide +kernel
theorem dM_findBye_46 : decode bM_findBye 46 = .ok (.istore 4, 2) := by decide +kernel
theorem dM_findBye_48 : decode bM_findBye 48 = .ok (.aload_n 0, 1) := by decide +kernel
theorem dM_findBye_49 : decode bM_findBye 49 = .ok (.iload_n 2, 1) := by decide +kernel
theorem dM_findBye_50 : decode bM_findBye 50 = .ok (.invokevirtual 70, 3) := by decide +kernel
theorem dM_findBye_53 : decode bM_findBye 53 = .ok (.aload_n 0, 1) := by decide +kernel
theorem dM_findBye_54 : decode bM_findBye 54 = .ok (.iload_n 1, 1) := by decide +kernel
theorem dM_findBye_55 : decode bM_findBye 55 = .ok (.invokevirtual 70, 3) := by decide +kernel
theorem dM_findBye_58 : decode bM_findBye 58 = .ok (.isub, 1) := by decide +kernel
theorem dM_findBye_59 : decode bM_findBye 59 = .ok (.istore 5, 2) := by decide +kernel
theorem dM_findBye_61 : decode bM_findBye 61 = .ok (.iload 4, 2) := by decide +kernel
theorem dM_findBye_63 : decode bM_findBye 63 = .ok (.ifCond .lt 13, 3) := by decide +kernel
theorem dM_findBye_66 : decode bM_findBye 66 = .ok (.iload 4, 2) := by decide +kernel
theorem dM_findBye_68 : decode bM_findBye 68 = .ok (.ifCond .ne 12, 3) := by decide +kernel
theorem dM_findBye_71 : decode bM_findBye 71 = .ok (.iload 5, 2) := by decide +kernel
theorem dM_findBye_73 : decode bM_findBye 73 = .ok (.ifCond .gt 7, 3) := by decide +kernel
theorem dM_findBye_76 : decode bM_findBye 76 = .ok (.iconst 1, 1) := by decide +kernel
theorem dM_findBye_77 : decode bM_findBye 77 = .ok (.goto 4, 3) := by decide +kernel
theorem dM_findBye_80 : decode bM_findBye 80 = .ok (.iconst 0, 1) := by decide +kernel
theorem dM_findBye_81 : decode bM_findBye 81 = .ok (.istore_n 3, 1) := by decide +kernel
theorem dM_findBye_82 : decode bM_findBye 82 = .ok (.aload_n 0, 1) := by decide +kernel
theorem dM_findBye_83 : decode bM_findBye 83 = .ok (.getfield 7, 3) := by decide +kernel
theorem dM_findBye_86 : decode bM_findBye 86 = .ok (.iload_n 2, 1) := by decide +kernel
theorem dM_findBye_87 : decode bM_findBye 87 = .ok (.baload, 1) := by decide +kernel
theorem dM_findBye_88 : decode bM_findBye 88 = .ok (.ifCond .eq 11, 3) := by decide +kernel
theorem dM_findBye_91 : decode bM_findBye 91 = .ok (.iload_n 3, 1) := by decide +kernel
theorem dM_findBye_92 : decode bM_findBye 92 = .ok (.ifCond .eq 7, 3) := by decide +kernel
theorem dM_findBye_95 : decode bM_findBye 95 = .ok (.iload_n 2, 1) := by decide +kernel
theorem dM_findBye_96 : decode bM_findBye 96 = .ok (.goto 4, 3) := by decide +kernel
theorem dM_findBye_99 : decode bM_findBye 99 = .ok (.iload_n 1, 1) := by decide +kernel
theorem dM_findBye_100 : decode bM_findBye 100 = .ok (.istore_n 1, 1) := by decide +kernel
theorem dM_findBye_101 : decode bM_findBye 101 = .ok (.iinc 2 1, 3) := by decide +kernel
theorem dM_findBye_104 : decode bM_findBye 104 = .ok (.goto (-100), 3) := by decide +kernel
theorem dM_findBye_107 : decode bM_findBye 107 = .ok (.iload_n 1, 1) := by decide +kernel
theorem dM_findBye_108 : decode bM_findBye 108 = .ok (.ireturn, 1) := by decide +kernel
theorem dM_gamesOf_0 : decode bM_gamesOf 0 = .ok (.iconst 0, 1) := by decide +kernel
theorem dM_gamesOf_1 : decode bM_gamesOf 1 = .ok (.istore_n 2, 1) := by decide +kernel
theorem dM_gamesOf_2 : decode bM_gamesOf 2 = .ok (.iconst 0, 1) := by decide +kernel
theorem dM_gamesOf_3 : decode bM_gamesOf 3 = .ok (.istore_n 3, 1) := by decide +kernel
theorem dM_gamesOf_4 : decode bM_gamesOf 4 = .ok (.iload_n 3, 1) := by decide +kernel
theorem dM_gamesOf_5 : decode bM_gamesOf 5 = .ok (.aload_n 0, 1) := by decide +kernel
theorem dM_gamesOf_6 : decode bM_gamesOf 6 = .ok (.getfield 63, 3) := by decide +kernel
theorem dM_gamesOf_9 : decode bM_gamesOf 9 = .ok (.if_icmp .ge 26, 3) := by decide +kernel
theorem dM_gamesOf_12 : decode bM_gamesOf 12 = .ok (.aload_n 0, 1) := by decide +kernel
theorem dM_gamesOf_13 : decode bM_gamesOf 13 = .ok (.iload_n 3, 1) := by decide +kernel
theorem dM_gamesOf_14 : decode bM_gamesOf 14 = .ok (.iload_n 1, 1) := by decide +kernel
theorem dM_gamesOf_15 : decode bM_gamesOf 15 = .ok (.invokevirtual 66, 3) := by decide +kernel
theorem dM_gamesOf_18 : decode bM_gamesOf 18 = .ok (.ifCond .eq 9, 3) := by decide +kernel
theorem dM_gamesOf_21 : decode bM_gamesOf 21 = .ok (.iload_n 2, 1) := by decide +kernel
theorem dM_gamesOf_22 : decode bM_gamesOf 22 = .ok (.iconst 1, 1) := by decide +kernel
theorem dM_gamesOf_23 : decode bM_gamesOf 23 = .ok (.iadd, 1) := by decide +kernel
theorem dM_gamesOf_24 : decode bM_gamesOf 24 = .ok (.goto 4, 3) := by decide +kernel
theorem dM_gamesOf_27 : decode bM_gamesOf 27 = .ok (.iload_n 2, 1) := by decide +kernel
theorem dM_gamesOf_28 : decode bM_gamesOf 28 = .ok (.istore_n 2, 1) := by decide +kernel
theorem dM_gamesOf_29 : decode bM_gamesOf 29 = .ok (.iinc 3 1, 3) := by decide +kernel
theorem dM_gamesOf_32 : decode bM_gamesOf 32 = .ok (.goto (-28), 3) := by decide +kernel
theorem dM_gamesOf_35 : decode bM_gamesOf 35 = .ok (.iload_n 2, 1) := by decide +kernel
theorem dM_gamesOf_36 : decode bM_gamesOf 36 = .ok (.ireturn, 1) := by decide +kernel
theorem dM_had_0 : decode bM_had 0 = .ok (.aload_n 0, 1) := by decide +kernel
theorem dM_had_1 : decode bM_had 1 = .ok (.aload_n 0, 1) := by decide +kernel
theorem dM_had_2 : decode bM_had 2 = .ok (.iload_n 2, 1) := by decide +kernel
theorem dM_had_3 : decode bM_had 3 = .ok (.invokevirtual 59, 3) := by decide +kernel
theorem dM_had_6 : decode bM_had 6 = .ok (.ifCond .eq 15, 3) := by decide +kernel
theorem dM_had_9 : decode bM_had 9 = .ok (.iload_n 1, 1) := by decide +kernel
theorem dM_had_10 : decode bM_had 10 = .ok (.ifCond .lt 11, 3) := by decide +kernel
theorem dM_had_13 : decode bM_had 13 = .ok (.iload_n 1, 1) := by decide +kernel
theorem dM_had_14 : decode bM_had 14 = .ok (.aload_n 0, 1) := by decide +kernel
theorem dM_had_15 : decode bM_had 15 = .ok (.getfield 63, 3) := by decide +kernel
theorem dM_had_18 : decode bM_had 18 = .ok (.if_icmp .lt 7, 3) := by decide +kernel
theorem dM_had_21 : decode bM_had 21 = .ok (.iconst 1, 1) := by decide +kernel
theorem dM_had_22 : decode bM_had 22 = .ok (.goto 4, 3) := by decide +kernel
theorem dM_had_25 : decode bM_had 25 = .ok (.iconst 0, 1) := by decide +kernel
theorem dM_had_26 : decode bM_had 26 = .ok (.iconst 0, 1) := by decide +kernel
theorem dM_had_27 : decode bM_had 27 = .ok (.iconst 0, 1) := by decide +kernel
theorem dM_had_28 : decode bM_had 28 = .ok (.invokevirtual 55, 3) := by decide +kernel
theorem dM_had_31 : decode bM_had 31 = .ok (.ifCond .eq 5, 3) := by decide +kernel
theorem dM_had_34 : decode bM_had 34 = .ok (.iconst 0, 1) := by decide +kernel
theorem dM_had_35 : decode bM_had 35 = .ok (.ireturn, 1) := by decide +kernel
theorem dM_had_36 : decode bM_had 36 = .ok (.bipush 12, 2) := by decide +kernel
theorem dM_had_38 : decode bM_had 38 = .ok (.iload_n 1, 1) := by decide +kernel
theorem dM_had_39 : decode bM_had 39 = .ok (.imul, 1) := by decide +kernel
theorem dM_had_40 : decode bM_had 40 = .ok (.iload_n 2, 1) := by decide +kernel
theorem dM_had_41 : decode bM_had 41 = .ok (.iadd, 1) := by decide +kernel
theorem dM_had_42 : decode bM_had 42 = .ok (.istore_n 3, 1) := by decide +kernel
theorem dM_had_43 : decode bM_had 43 = .ok (.aload_n 0, 1) := by decide +kernel
theorem dM_had_44 : decode bM_had 44 = .ok (.getfield 16, 3) := by decide +kernel
theorem dM_had_47 : decode bM_had 47 = .ok (.iload_n 3, 1) := by decide +kernel
theorem dM_had_48 : decode bM_had 48 = .ok (.iaload, 1) := by decide +kernel
theorem dM_had_49 : decode bM_had 49 = .ok (.istore 4, 2) := by decide +kernel
theorem dM_had_51 : decode bM_had 51 = .ok (.iload 4, 2) := by decide +kernel
theorem dM_had_53 : decode bM_had 53 = .ok (.bipush 12, 2) := by decide +kernel
theorem dM_had_55 : decode bM_had 55 = .ok (.if_icmp .ne 8, 3) := by decide +kernel
theorem dM_had_58 : decode bM_had 58 = .ok (.bipush 76, 2) := by decide +kernel
theorem dM_had_60 : decode bM_had 60 = .ok (.goto 40, 3) := by decide +kernel
theorem dM_had_63 : decode bM_had 63 = .ok (.iload 4, 2) := by decide +kernel
theorem dM_had_65 : decode bM_had 65 = .ok (.ifCond .ge 7, 3) := by decide +kernel
theorem dM_had_68 : decode bM_had 68 = .ok (.iconst (-1), 1) := by decide +kernel
theorem dM_had_69 : decode bM_had 69 = .ok (.goto 31, 3) := by decide +kernel
theorem dM_had_72 : decode bM_had 72 = .ok (.iload 4, 2) := by decide +kernel
theorem dM_had_74 : decode bM_had 74 = .ok (.aload_n 0, 1) := by decide +kernel
theorem dM_had_75 : decode bM_had 75 = .ok (.getfield 20, 3) := by decide +kernel
theorem dM_had_78 : decode bM_had 78 = .ok (.iload_n 3, 1) := by decide +kernel
theorem dM_had_79 : decode bM_had 79 = .ok (.baload, 1) := by decide +kernel
theorem dM_had_80 : decode bM_had 80 = .ok (.ifCond .eq 8, 3) := by decide +kernel
theorem dM_had_83 : decode bM_had 83 = .ok (.bipush 16, 2) := by decide +kernel
theorem dM_had_85 : decode bM_had 85 = .ok (.goto 4, 3) := by decide +kernel
theorem dM_had_88 : decode bM_had 88 = .ok (.iconst 0, 1) := by decide +kernel
theorem dM_had_89 : decode bM_had 89 = .ok (.iadd, 1) := by decide +kernel
theorem dM_had_90 : decode bM_had 90 = .ok (.bipush 32, 2) := by decide +kernel
theorem dM_had_92 : decode bM_had 92 = .ok (.aload_n 0, 1) := by decide +kernel
theorem dM_had_93 : decode bM_had 93 = .ok (.getfield 23, 3) := by decide +kernel
theorem dM_had_96 : decode bM_had 96 = .ok (.iload_n 3, 1) := by decide +kernel
theorem dM_had_97 : decode bM_had 97 = .ok (.iaload, 1) := by decide +kernel
theorem dM_had_98 : decode bM_had 98 = .ok (.imul, 1) := by decide +kernel
theorem dM_had_99 : decode bM_had 99 = .ok (.iadd, 1) := by decide +kernel
theorem dM_had_100 : decode bM_had 100 = .ok (.ireturn, 1) := by decide +kernel
theorem dM_hadEachOther_0 : decode bM_hadEachOther 0 = .ok (.iconst 0, 1) := by decide +kernel
theorem dM_hadEachOther_1 : decode bM_hadEachOther 1 = .ok (.istore_n 3, 1) := by decide +kernel
theorem dM_hadEachOther_2 : decode bM_hadEachOther 2 = .ok (.iconst 0, 1) := by decide +kernel
theorem dM_hadEachOther_3 : decode bM_hadEachOther 3 = .ok (.istore 4, 2) := by decide +kernel
theorem dM_hadEachOther_5 : decode bM_hadEachOther 5 = .ok (.iload 4, 2) := by decide +kernel
theorem dM_hadEachOther_7 : decode bM_hadEachOther 7 = .ok (.aload_n 0, 1) := by decide +kernel
theorem dM_hadEachOther_8 : decode bM_hadEachOther 8 = .ok (.getfield 63, 3) := by decide +kernel
theorem dM_hadEachOther_11 : decode bM_hadEachOther 11 = .ok (.if_icmp .ge 35, 3) := by decide +kernel
theorem dM_hadEachOther_14 : decode bM_hadEachOther 14 = .ok (.iload_n 3, 1) := by decide +kernel
theorem dM_hadEachOther_15 : decode bM_hadEachOther 15 = .ok (.ifCond .ne 19, 3) := by decide +kernel
theorem dM_hadEachOther_18 : decode bM_hadEachOther 18 = .ok (.aload_n 0, 1) := by decide +kernel
theorem dM_hadEachOther_19 : decode bM_hadEachOther 19 = .ok (.getfield 16, 3) := by decide +kernel
theorem dM_hadEachOther_22 : decode bM_hadEachOther 22 = .ok (.bipush 12, 2) := by decide +kernel
theorem dM_hadEachOther_24 : decode bM_hadEachOther 24 = .ok (.iload 4, 2) := by decide +kernel
theorem dM_hadEachOther_26 : decode bM_hadEachOther 26 = .ok (.imul, 1) := by decide +kernel
theorem dM_hadEachOther_27 : decode bM_hadEachOther 27 = .ok (.iload_n 1, 1) := by decide +kernel
theorem dM_hadEachOther_28 : decode bM_hadEachOther 28 = .ok (.iadd, 1) := by decide +kernel
theorem dM_hadEachOther_29 : decode bM_hadEachOther 29 = .ok (.iaload, 1) := by decide +kernel
theorem dM_hadEachOther_30 : decode bM_hadEachOther 30 = .ok (.iload_n 2, 1) := by decide +kernel
theorem dM_hadEachOther_31 : decode bM_hadEachOther 31 = .ok (.if_icmp .ne 7, 3) := by decide +kernel
theorem dM_hadEachOther_34 : decode bM_hadEachOther 34 = .ok (.iconst 1, 1) := by decide +kernel
theorem dM_hadEachOther_35 : decode bM_hadEachOther 35 = .ok (.goto 4, 3) := by decide +kernel
theorem dM_hadEachOther_38 : decode bM_hadEachOther 38 = .ok (.iconst 0, 1) := by decide +kernel
theorem dM_hadEachOther_39 : decode bM_hadEachOther 39 = .ok (.istore_n 3, 1) := by decide +kernel
theorem dM_hadEachOther_40 : decode bM_hadEachOther 40 = .ok (.iinc 4 1, 3) := by decide +kernel
theorem dM_hadEachOther_43 : decode bM_hadEachOther 43 = .ok (.goto (-38), 3) := by decide +kernel
theorem dM_hadEachOther_46 : decode bM_hadEachOther 46 = .ok (.iload_n 3, 1) := by decide +kernel
theorem dM_hadEachOther_47 : decode bM_hadEachOther 47 = .ok (.ireturn, 1) := by decide +kernel
theorem dM_hadGame_0 : decode bM_hadGame 0 = .ok (.aload_n 0, 1) := by decide +kernel
theorem dM_hadGame_1 : decode bM_hadGame 1 = .ok (.getfield 16, 3) := by decide +kernel
