theorem dA_fill_0 : decode bA_fill 0 = .ok (.iconst 0, 1) := by decide +kernel
theorem dA_fill_1 : decode bA_fill 1 = .ok (.istore_n 2, 1) := by decide +kernel
theorem dA_fill_2 : decode bA_fill 2 = .ok (.aload_n 0, 1) := by decide +kernel
theorem dA_fill_3 : decode bA_fill 3 = .ok (.arraylength, 1) := by decide +kernel
theorem dA_fill_4 : decode bA_fill 4 = .ok (.istore_n 3, 1) := by decide +kernel
theorem dA_fill_5 : decode bA_fill 5 = .ok (.iload_n 2, 1) := by decide +kernel
theorem dA_fill_6 : decode bA_fill 6 = .ok (.iload_n 3, 1) := by decide +kernel
theorem dA_fill_7 : decode bA_fill 7 = .ok (.if_icmp .ge 13, 3) := by decide +kernel
theorem dA_fill_10 : decode bA_fill 10 = .ok (.aload_n 0, 1) := by decide +kernel
theorem dA_fill_11 : decode bA_fill 11 = .ok (.iload_n 2, 1) := by decide +kernel
theorem dA_fill_12 : decode bA_fill 12 = .ok (.iload_n 1, 1) := by decide +kernel
theorem dA_fill_13 : decode bA_fill 13 = .ok (.iastore, 1) := by decide +kernel
theorem dA_fill_14 : decode bA_fill 14 = .ok (.iinc 2 1, 3) := by decide +kernel
theorem dA_fill_17 : decode bA_fill 17 = .ok (.goto (-12), 3) := by decide +kernel
theorem dA_fill_20 : decode bA_fill 20 = .ok (.return_, 1) := by decide +kernel
theorem dC_colourIn_0 : decode bC_colourIn 0 = .ok (.iload_n 0, 1) := by decide +kernel
theorem dC_colourIn_1 : decode bC_colourIn 1 = .ok (.bipush 16, 2) := by decide +kernel
theorem dC_colourIn_3 : decode bC_colourIn 3 = .ok (.iand, 1) := by decide +kernel
theorem dC_colourIn_4 : decode bC_colourIn 4 = .ok (.ifCond .eq 7, 3) := by decide +kernel
theorem dC_colourIn_7 : decode bC_colourIn 7 = .ok (.iconst 1, 1) := by decide +kernel
theorem dC_colourIn_8 : decode bC_colourIn 8 = .ok (.goto 4, 3) := by decide +kernel
theorem dC_colourIn_11 : decode bC_colourIn 11 = .ok (.iconst (-1), 1) := by decide +kernel
theorem dC_colourIn_12 : decode bC_colourIn 12 = .ok (.ireturn, 1) := by decide +kernel
theorem dC_isGame_0 : decode bC_isGame 0 = .ok (.iload_n 0, 1) := by decide +kernel
theorem dC_isGame_1 : decode bC_isGame 1 = .ok (.iconst (-1), 1) := by decide +kernel
theorem dC_isGame_2 : decode bC_isGame 2 = .ok (.if_icmp .eq 13, 3) := by decide +kernel
theorem dC_isGame_5 : decode bC_isGame 5 = .ok (.iload_n 0, 1) := by decide +kernel
theorem dC_isGame_6 : decode bC_isGame 6 = .ok (.bipush 76, 2) := by decide +kernel
theorem dC_isGame_8 : decode bC_isGame 8 = .ok (.if_icmp .eq 7, 3) := by decide +kernel
theorem dC_isGame_11 : decode bC_isGame 11 = .ok (.iconst 1, 1) := by decide +kernel
theorem dC_isGame_12 : decode bC_isGame 12 = .ok (.goto 4, 3) := by decide +kernel
theorem dC_isGame_15 : decode bC_isGame 15 = .ok (.iconst 0, 1) := by decide +kernel
theorem dC_isGame_16 : decode bC_isGame 16 = .ok (.ireturn, 1) := by decide +kernel
theorem dC_isUntold_0 : decode bC_isUntold 0 = .ok (.iload_n 0, 1) := by decide +kernel
theorem dC_isUntold_1 : decode bC_isUntold 1 = .ok (.invokestatic 15, 3) := by decide +kernel
theorem dC_isUntold_4 : decode bC_isUntold 4 = .ok (.ifCond .eq 15, 3) := by decide +kernel
theorem dC_isUntold_7 : decode bC_isUntold 7 = .ok (.iload_n 0, 1) := by decide +kernel
theorem dC_isUntold_8 : decode bC_isUntold 8 = .ok (.invokestatic 19, 3) := by decide +kernel
theorem dC_isUntold_11 : decode bC_isUntold 11 = .ok (.iconst 3, 1) := by decide +kernel
theorem dC_isUntold_12 : decode bC_isUntold 12 = .ok (.if_icmp .ne 7, 3) := by decide +kernel
theorem dC_isUntold_15 : decode bC_isUntold 15 = .ok (.iconst 1, 1) := by decide +kernel
theorem dC_isUntold_16 : decode bC_isUntold 16 = .ok (.goto 4, 3) := by decide +kernel
theorem dC_isUntold_19 : decode bC_isUntold 19 = .ok (.iconst 0, 1) := by decide +kernel
theorem dC_isUntold_20 : decode bC_isUntold 20 = .ok (.ireturn, 1) := by decide +kernel
theorem dC_opponentIn_0 : decode bC_opponentIn 0 = .ok (.iload_n 0, 1) := by decide +kernel
theorem dC_opponentIn_1 : decode bC_opponentIn 1 = .ok (.bipush 15, 2) := by decide +kernel
theorem dC_opponentIn_3 : decode bC_opponentIn 3 = .ok (.iand, 1) := by decide +kernel
theorem dC_opponentIn_4 : decode bC_opponentIn 4 = .ok (.ireturn, 1) := by decide +kernel
theorem dC_resultIn_0 : decode bC_resultIn 0 = .ok (.iload_n 0, 1) := by decide +kernel
theorem dC_resultIn_1 : decode bC_resultIn 1 = .ok (.iconst 5, 1) := by decide +kernel
theorem dC_resultIn_2 : decode bC_resultIn 2 = .ok (.ishr, 1) := by decide +kernel
theorem dC_resultIn_3 : decode bC_resultIn 3 = .ok (.ireturn, 1) := by decide +kernel
theorem dC_untoldGame_0 : decode bC_untoldGame 0 = .ok (.iload_n 0, 1) := by decide +kernel
theorem dC_untoldGame_1 : decode bC_untoldGame 1 = .ok (.iload_n 1, 1) := by decide +kernel
theorem dC_untoldGame_2 : decode bC_untoldGame 2 = .ok (.iconst 1, 1) := by decide +kernel
theorem dC_untoldGame_3 : decode bC_untoldGame 3 = .ok (.if_icmp .ne 8, 3) := by decide +kernel
theorem dC_untoldGame_6 : decode bC_untoldGame 6 = .ok (.bipush 16, 2) := by decide +kernel
theorem dC_untoldGame_8 : decode bC_untoldGame 8 = .ok (.goto 4, 3) := by decide +kernel
theorem dC_untoldGame_11 : decode bC_untoldGame 11 = .ok (.iconst 0, 1) := by decide +kernel
theorem dC_untoldGame_12 : decode bC_untoldGame 12 = .ok (.iadd, 1) := by decide +kernel
theorem dC_untoldGame_13 : decode bC_untoldGame 13 = .ok (.iconst 3, 1) := by decide +kernel
theorem dC_untoldGame_14 : decode bC_untoldGame 14 = .ok (.invokestatic 11, 3) := by decide +kernel
theorem dC_untoldGame_17 : decode bC_untoldGame 17 = .ok (.ireturn, 1) := by decide +kernel
theorem dC_withResult_0 : decode bC_withResult 0 = .ok (.iload_n 0, 1) := by decide +kernel
theorem dC_withResult_1 : decode bC_withResult 1 = .ok (.bipush 31, 2) := by decide +kernel
theorem dC_withResult_3 : decode bC_withResult 3 = .ok (.iand, 1) := by decide +kernel
theorem dC_withResult_4 : decode bC_withResult 4 = .ok (.iload_n 1, 1) := by decide +kernel
theorem dC_withResult_5 : decode bC_withResult 5 = .ok (.iconst 5, 1) := by decide +kernel
theorem dC_withResult_6 : decode bC_withResult 6 = .ok (.ishl, 1) := by decide +kernel
theorem dC_withResult_7 : decode bC_withResult 7 = .ok (.iadd, 1) := by decide +kernel
theorem dC_withResult_8 : decode bC_withResult 8 = .ok (.ireturn, 1) := by decide +kernel
theorem dH_max_0 : decode bH_max 0 = .ok (.iload_n 0, 1) := by decide +kernel
theorem dH_max_1 : decode bH_max 1 = .ok (.iload_n 1, 1) := by decide +kernel
theorem dH_max_2 : decode bH_max 2 = .ok (.if_icmp .lt 7, 3) := by decide +kernel
theorem dH_max_5 : decode bH_max 5 = .ok (.iload_n 0, 1) := by decide +kernel
theorem dH_max_6 : decode bH_max 6 = .ok (.goto 4, 3) := by decide +kernel
theorem dH_max_9 : decode bH_max 9 = .ok (.iload_n 1, 1) := by decide +kernel
theorem dH_max_10 : decode bH_max 10 = .ok (.ireturn, 1) := by decide +kernel
theorem dH_min_0 : decode bH_min 0 = .ok (.iload_n 0, 1) := by decide +kernel
theorem dH_min_1 : decode bH_min 1 = .ok (.iload_n 1, 1) := by decide +kernel
theorem dH_min_2 : decode bH_min 2 = .ok (.if_icmp .gt 7, 3) := by decide +kernel
theorem dH_min_5 : decode bH_min 5 = .ok (.iload_n 0, 1) := by decide +kernel
theorem dH_min_6 : decode bH_min 6 = .ok (.goto 4, 3) := by decide +kernel
theorem dH_min_9 : decode bH_min 9 = .ok (.iload_n 1, 1) := by decide +kernel
theorem dH_min_10 : decode bH_min 10 = .ok (.ireturn, 1) := by decide +kernel
theorem dI_bitCount_0 : decode bI_bitCount 0 = .ok (.iload_n 0, 1) := by decide +kernel
theorem dI_bitCount_1 : decode bI_bitCount 1 = .ok (.iload_n 0, 1) := by decide +kernel
theorem dI_bitCount_2 : decode bI_bitCount 2 = .ok (.iconst 1, 1) := by decide +kernel
theorem dI_bitCount_3 : decode bI_bitCount 3 = .ok (.iushr, 1) := by decide +kernel
theorem dI_bitCount_4 : decode bI_bitCount 4 = .ok (.ldc_w 265, 3) := by decide +kernel
theorem dI_bitCount_7 : decode bI_bitCount 7 = .ok (.iand, 1) := by decide +kernel
theorem dI_bitCount_8 : decode bI_bitCount 8 = .ok (.isub, 1) := by decide +kernel
theorem dI_bitCount_9 : decode bI_bitCount 9 = .ok (.istore_n 0, 1) := by decide +kernel
theorem dI_bitCount_10 : decode bI_bitCount 10 = .ok (.iload_n 0, 1) := by decide +kernel
theorem dI_bitCount_11 : decode bI_bitCount 11 = .ok (.ldc_w 266, 3) := by decide +kernel
theorem dI_bitCount_14 : decode bI_bitCount 14 = .ok (.iand, 1) := by decide +kernel
theorem dI_bitCount_15 : decode bI_bitCount 15 = .ok (.iload_n 0, 1) := by decide +kernel
theorem dI_bitCount_16 : decode bI_bitCount 16 = .ok (.iconst 2, 1) := by decide +kernel
theorem dI_bitCount_17 : decode bI_bitCount 17 = .ok (.iushr, 1) := by decide +kernel
theorem dI_bitCount_18 : decode bI_bitCount 18 = .ok (.ldc_w 266, 3) := by decide +kernel
theorem dI_bitCount_21 : decode bI_bitCount 21 = .ok (.iand, 1) := by decide +kernel
theorem dI_bitCount_22 : decode bI_bitCount 22 = .ok (.iadd, 1) := by decide +kernel
theorem dI_bitCount_23 : decode bI_bitCount 23 = .ok (.istore_n 0, 1) := by decide +kernel
theorem dI_bitCount_24 : decode bI_bitCount 24 = .ok (.iload_n 0, 1) := by decide +kernel
theorem dI_bitCount_25 : decode bI_bitCount 25 = .ok (.iload_n 0, 1) := by decide +kernel
theorem dI_bitCount_26 : decode bI_bitCount 26 = .ok (.iconst 4, 1) := by decide +kernel
theorem dI_bitCount_27 : decode bI_bitCount 27 = .ok (.iushr, 1) := by decide +kernel
theorem dI_bitCount_28 : decode bI_bitCount 28 = .ok (.iadd, 1) := by decide +kernel
theorem dI_bitCount_29 : decode bI_bitCount 29 = .ok (.ldc_w 267, 3) := by decide +kernel
theorem dI_bitCount_32 : decode bI_bitCount 32 = .ok (.iand, 1) := by decide +kernel
theorem dI_bitCount_33 : decode bI_bitCount 33 = .ok (.istore_n 0, 1) := by decide +kernel
theorem dI_bitCount_34 : decode bI_bitCount 34 = .ok (.iload_n 0, 1) := by decide +kernel
theorem dI_bitCount_35 : decode bI_bitCount 35 = .ok (.iload_n 0, 1) := by decide +kernel
theorem dI_bitCount_36 : decode bI_bitCount 36 = .ok (.bipush 8, 2) := by decide +kernel
theorem dI_bitCount_38 : decode bI_bitCount 38 = .ok (.iushr, 1) := by decide +kernel
theorem dI_bitCount_39 : decode bI_bitCount 39 = .ok (.iadd, 1) := by decide +kernel
theorem dI_bitCount_40 : decode bI_bitCount 40 = .ok (.istore_n 0, 1) := by decide +kernel
theorem dI_bitCount_41 : decode bI_bitCount 41 = .ok (.iload_n 0, 1) := by decide +kernel
theorem dI_bitCount_42 : decode bI_bitCount 42 = .ok (.iload_n 0, 1) := by decide +kernel
theorem dI_bitCount_43 : decode bI_bitCount 43 = .ok (.bipush 16, 2) := by decide +kernel
theorem dI_bitCount_45 : decode bI_bitCount 45 = .ok (.iushr, 1) := by decide +kernel
theorem dI_bitCount_46 : decode bI_bitCount 46 = .ok (.iadd, 1) := by decide +kernel
theorem dI_bitCount_47 : decode bI_bitCount 47 = .ok (.istore_n 0, 1) := by decide +kernel
theorem dI_bitCount_48 : decode bI_bitCount 48 = .ok (.iload_n 0, 1) := by decide +kernel
theorem dI_bitCount_49 : decode bI_bitCount 49 = .ok (.bipush 63, 2) := by decide +kernel
theorem dI_bitCount_51 : decode bI_bitCount 51 = .ok (.iand, 1) := by decide +kernel
theorem dI_bitCount_52 : decode bI_bitCount 52 = .ok (.ireturn, 1) := by decide +kernel
theorem dI_numberOfTrailingZeros_0 : decode bI_numberOfTrailingZeros 0 = .ok (.iload_n 0, 1) := by decide +kernel
theorem dI_numberOfTrailingZeros_1 : decode bI_numberOfTrailingZeros 1 = .ok (.iconst (-1), 1) := by decide +kernel
theorem dI_numberOfTrailingZeros_2 : decode bI_numberOfTrailingZeros 2 = .ok (.ixor, 1) := by decide +kernel
theorem dI_numberOfTrailingZeros_3 : decode bI_numberOfTrailingZeros 3 = .ok (.iload_n 0, 1) := by decide +kernel
theorem dI_numberOfTrailingZeros_4 : decode bI_numberOfTrailingZeros 4 = .ok (.iconst 1, 1) := by decide +kernel
theorem dI_numberOfTrailingZeros_5 : decode bI_numberOfTrailingZeros 5 = .ok (.isub, 1) := by decide +kernel
theorem dI_numberOfTrailingZeros_6 : decode bI_numberOfTrailingZeros 6 = .ok (.iand, 1) := by decide +kernel
theorem dI_numberOfTrailingZeros_7 : decode bI_numberOfTrailingZeros 7 = .ok (.istore_n 0, 1) := by decide +kernel
theorem dI_numberOfTrailingZeros_8 : decode bI_numberOfTrailingZeros 8 = .ok (.iload_n 0, 1) := by decide +kernel
theorem dI_numberOfTrailingZeros_9 : decode bI_numberOfTrailingZeros 9 = .ok (.ifCond .gt 8, 3) := by decide +kernel
theorem dI_numberOfTrailingZeros_12 : decode bI_numberOfTrailingZeros 12 = .ok (.iload_n 0, 1) := by decide +kernel
theorem dI_numberOfTrailingZeros_13 : decode bI_numberOfTrailingZeros 13 = .ok (.bipush 32, 2) := by decide +kernel
theorem dI_numberOfTrailingZeros_15 : decode bI_numberOfTrailingZeros 15 = .ok (.iand, 1) := by decide +kernel
theorem dI_numberOfTrailingZeros_16 : decode bI_numberOfTrailingZeros 16 = .ok (.ireturn, 1) := by decide +kernel
theorem dI_numberOfTrailingZeros_17 : decode bI_numberOfTrailingZeros 17 = .ok (.iconst 1, 1) := by decide +kernel
theorem dI_numberOfTrailingZeros_18 : decode bI_numberOfTrailingZeros 18 = .ok (.istore_n 1, 1) := by decide +kernel
theorem dI_numberOfTrailingZeros_19 : decode bI_numberOfTrailingZeros 19 = .ok (.iload_n 0, 1) := by decide +kernel
theorem dI_numberOfTrailingZeros_20 : decode bI_numberOfTrailingZeros 20 = .ok (.ldc_w 264, 3) := by decide +kernel
theorem dI_numberOfTrailingZeros_23 : decode bI_numberOfTrailingZeros 23 = .ok (.if_icmp .le 11, 3) := by decide +kernel
theorem dI_numberOfTrailingZeros_26 : decode bI_numberOfTrailingZeros 26 = .ok (.iinc 1 16, 3) := by decide +kernel
theorem dI_numberOfTrailingZeros_29 : decode bI_numberOfTrailingZeros 29 = .ok (.iload_n 0, 1) := by decide +kernel
theorem dI_numberOfTrailingZeros_30 : decode bI_numberOfTrailingZeros 30 = .ok (.bipush 16, 2) := by decide +kernel
theorem dI_numberOfTrailingZeros_32 : decode bI_numberOfTrailingZeros 32 = .ok (.iushr, 1) := by decide +kernel
theorem dI_numberOfTrailingZeros_33 : decode bI_numberOfTrailingZeros 33 = .ok (.istore_n 0, 1) := by decide +kernel
theorem dI_numberOfTrailingZeros_34 : decode bI_numberOfTrailingZeros 34 = .ok (.iload_n 0, 1) := by decide +kernel
theorem dI_numberOfTrailingZeros_35 : decode bI_numberOfTrailingZeros 35 = .ok (.sipush 256, 3) := by decide +kernel
theorem dI_numberOfTrailingZeros_38 : decode bI_numberOfTrailingZeros 38 = .ok (.if_icmp .le 11, 3) := by decide +kernel
theorem dI_numberOfTrailingZeros_41 : decode bI_numberOfTrailingZeros 41 = .ok (.iinc 1 8, 3) := by decide +kernel
theorem dI_numberOfTrailingZeros_44 : decode bI_numberOfTrailingZeros 44 = .ok (.iload_n 0, 1) := by decide +kernel
theorem dI_numberOfTrailingZeros_45 : decode bI_numberOfTrailingZeros 45 = .ok (.bipush 8, 2) := by decide +kernel
theorem dI_numberOfTrailingZeros_47 : decode bI_numberOfTrailingZeros 47 = .ok (.iushr, 1) := by decide +kernel
theorem dI_numberOfTrailingZeros_48 : decode bI_numberOfTrailingZeros 48 = .ok (.istore_n 0, 1) := by decide +kernel
theorem dI_numberOfTrailingZeros_49 : decode bI_numberOfTrailingZeros 49 = .ok (.iload_n 0, 1) := by decide +kernel
theorem dI_numberOfTrailingZeros_50 : decode bI_numberOfTrailingZeros 50 = .ok (.bipush 16, 2) := by decide +kernel
theorem dI_numberOfTrailingZeros_52 : decode bI_numberOfTrailingZeros 52 = .ok (.if_icmp .le 10, 3) := by decide +kernel
theorem dI_numberOfTrailingZeros_55 : decode bI_numberOfTrailingZeros 55 = .ok (.iinc 1 4, 3) := by decide +kernel
theorem dI_numberOfTrailingZeros_58 : decode bI_numberOfTrailingZeros 58 = .ok (.iload_n 0, 1) := by decide +kernel
theorem dI_numberOfTrailingZeros_59 : decode bI_numberOfTrailingZeros 59 = .ok (.iconst 4, 1) := by decide +kernel
theorem dI_numberOfTrailingZeros_60 : decode bI_numberOfTrailingZeros 60 = .ok (.iushr, 1) := by decide +kernel
theorem dI_numberOfTrailingZeros_61 : decode bI_numberOfTrailingZeros 61 = .ok (.istore_n 0, 1) := by decide +kernel
theorem dI_numberOfTrailingZeros_62 : decode bI_numberOfTrailingZeros 62 = .ok (.iload_n 0, 1) := by decide +kernel
theorem dI_numberOfTrailingZeros_63 : decode bI_numberOfTrailingZeros 63 = .ok (.iconst 4, 1) := by decide +kernel
theorem dI_numberOfTrailingZeros_64 : decode bI_numberOfTrailingZeros 64 = .ok (.if_icmp .le 10, 3) := by decide +kernel
theorem dI_numberOfTrailingZeros_67 : decode bI_numberOfTrailingZeros 67 = .ok (.iinc 1 2, 3) := by decide +kernel
theorem dI_numberOfTrailingZeros_70 : decode bI_numberOfTrailingZeros 70 = .ok (.iload_n 0, 1) := by decide +kernel
theorem dI_numberOfTrailingZeros_71 : decode bI_numberOfTrailingZeros 71 = .ok (.iconst 2, 1) := by decide +kernel
theorem dI_numberOfTrailingZeros_72 : decode bI_numberOfTrailingZeros 72 = .ok (.iushr, 1) := by decide +kernel
theorem dI_numberOfTrailingZeros_73 : decode bI_numberOfTrailingZeros 73 = .ok (.istore_n 0, 1) := by decide +kernel
theorem dI_numberOfTrailingZeros_74 : decode bI_numberOfTrailingZeros 74 = .ok (.iload_n 1, 1) := by decide +kernel
theorem dI_numberOfTrailingZeros_75 : decode bI_numberOfTrailingZeros 75 = .ok (.iload_n 0, 1) := by decide +kernel
theorem dI_numberOfTrailingZeros_76 : decode bI_numberOfTrailingZeros 76 = .ok (.iconst 1, 1) := by decide +kernel
theorem dI_numberOfTrailingZeros_77 : decode bI_numberOfTrailingZeros 77 = .ok (.iushr, 1) := by decide +kernel
theorem dI_numberOfTrailingZeros_78 : decode bI_numberOfTrailingZeros 78 = .ok (.iadd, 1) := by decide +kernel
theorem dI_numberOfTrailingZeros_79 : decode bI_numberOfTrailingZeros 79 = .ok (.ireturn, 1) := by decide +kernel
theorem dP_allSeats_0 : decode bP_allSeats 0 = .ok (.iconst 1, 1) := by decide +kernel
theorem dP_allSeats_1 : decode bP_allSeats 1 = .ok (.aload_n 0, 1) := by decide +kernel
theorem dP_allSeats_2 : decode bP_allSeats 2 = .ok (.getfield 44, 3) := by decide +kernel
theorem dP_allSeats_5 : decode bP_allSeats 5 = .ok (.ishl, 1) := by decide +kernel
theorem dP_allSeats_6 : decode bP_allSeats 6 = .ok (.iconst 1, 1) := by decide +kernel
theorem dP_allSeats_7 : decode bP_allSeats 7 = .ok (.isub, 1) := by decide +kernel
theorem dP_allSeats_8 : decode bP_allSeats 8 = .ok (.ireturn, 1) := by decide +kernel
theorem dP_bestPartner_0 : decode bP_bestPartner 0 = .ok (.iload_n 2, 1) := by decide +kernel
theorem dP_bestPartner_1 : decode bP_bestPartner 1 = .ok (.iconst 1, 1) := by decide +kernel
theorem dP_bestPartner_2 : decode bP_bestPartner 2 = .ok (.iadd, 1) := by decide +kernel
theorem dP_bestPartner_3 : decode bP_bestPartner 3 = .ok (.istore_n 3, 1) := by decide +kernel
theorem dP_bestPartner_4 : decode bP_bestPartner 4 = .ok (.iload_n 3, 1) := by decide +kernel
theorem dP_bestPartner_5 : decode bP_bestPartner 5 = .ok (.aload_n 0, 1) := by decide +kernel
theorem dP_bestPartner_6 : decode bP_bestPartner 6 = .ok (.getfield 44, 3) := by decide +kernel
theorem dP_bestPartner_9 : decode bP_bestPartner 9 = .ok (.if_icmp .ge 70, 3) := by decide +kernel
theorem dP_bestPartner_12 : decode bP_bestPartner 12 = .ok (.iload_n 1, 1) := by decide +kernel
theorem dP_bestPartner_13 : decode bP_bestPartner 13 = .ok (.iload_n 2, 1) := by decide +kernel
theorem dP_bestPartner_14 : decode bP_bestPartner 14 = .ok (.iload_n 3, 1) := by decide +kernel
theorem dP_bestPartner_15 : decode bP_bestPartner 15 = .ok (.invokestatic 87, 3) := by decide +kernel
theorem dP_bestPartner_18 : decode bP_bestPartner 18 = .ok (.invokestatic 54, 3) := by decide +kernel
theorem dP_bestPartner_21 : decode bP_bestPartner 21 = .ok (.istore 4, 2) := by decide +kernel
theorem dP_bestPartner_23 : decode bP_bestPartner 23 = .ok (.aload_n 0, 1) := by decide +kernel
theorem dP_bestPartner_24 : decode bP_bestPartner 24 = .ok (.iload_n 1, 1) := by decide +kernel
theorem dP_bestPartner_25 : decode bP_bestPartner 25 = .ok (.iload_n 2, 1) := by decide +kernel
theorem dP_bestPartner_26 : decode bP_bestPartner 26 = .ok (.iload_n 3, 1) := by decide +kernel
theorem dP_bestPartner_27 : decode bP_bestPartner 27 = .ok (.invokevirtual 118, 3) := by decide +kernel
theorem dP_bestPartner_30 : decode bP_bestPartner 30 = .ok (.ifCond .eq 43, 3) := by decide +kernel
theorem dP_bestPartner_33 : decode bP_bestPartner 33 = .ok (.aload_n 0, 1) := by decide +kernel
theorem dP_bestPartner_34 : decode bP_bestPartner 34 = .ok (.getfield 27, 3) := by decide +kernel
theorem dP_bestPartner_37 : decode bP_bestPartner 37 = .ok (.iload 4, 2) := by decide +kernel
theorem dP_bestPartner_39 : decode bP_bestPartner 39 = .ok (.iaload, 1) := by decide +kernel
theorem dP_bestPartner_40 : decode bP_bestPartner 40 = .ok (.ifCond .le 33, 3) := by decide +kernel
theorem dP_bestPartner_43 : decode bP_bestPartner 43 = .ok (.aload_n 0, 1) := by decide +kernel
theorem dP_bestPartner_44 : decode bP_bestPartner 44 = .ok (.getfield 21, 3) := by decide +kernel
theorem dP_bestPartner_47 : decode bP_bestPartner 47 = .ok (.iload_n 2, 1) := by decide +kernel
theorem dP_bestPartner_48 : decode bP_bestPartner 48 = .ok (.aaload, 1) := by decide +kernel
theorem dP_bestPartner_49 : decode bP_bestPartner 49 = .ok (.iload_n 3, 1) := by decide +kernel
theorem dP_bestPartner_50 : decode bP_bestPartner 50 = .ok (.iaload, 1) := by decide +kernel
theorem dP_bestPartner_51 : decode bP_bestPartner 51 = .ok (.aload_n 0, 1) := by decide +kernel
theorem dP_bestPartner_52 : decode bP_bestPartner 52 = .ok (.getfield 24, 3) := by decide +kernel
theorem dP_bestPartner_55 : decode bP_bestPartner 55 = .ok (.iload 4, 2) := by decide +kernel
theorem dP_bestPartner_57 : decode bP_bestPartner 57 = .ok (.iaload, 1) := by decide +kernel
theorem dP_bestPartner_58 : decode bP_bestPartner 58 = .ok (.iadd, 1) := by decide +kernel
theorem dP_bestPartner_59 : decode bP_bestPartner 59 = .ok (.aload_n 0, 1) := by decide +kernel
theorem dP_bestPartner_60 : decode bP_bestPartner 60 = .ok (.getfield 24, 3) := by decide +kernel
theorem dP_bestPartner_63 : decode bP_bestPartner 63 = .ok (.iload_n 1, 1) := by decide +kernel
theorem dP_bestPartner_64 : decode bP_bestPartner 64 = .ok (.invokestatic 54, 3) := by decide +kernel
theorem dP_bestPartner_67 : decode bP_bestPartner 67 = .ok (.iaload, 1) := by decide +kernel
theorem dP_bestPartner_68 : decode bP_bestPartner 68 = .ok (.if_icmp .ne 5, 3) := by decide +kernel
theorem dP_bestPartner_71 : decode bP_bestPartner 71 = .ok (.iload_n 3, 1) := by decide +kernel
theorem dP_bestPartner_72 : decode bP_bestPartner 72 = .ok (.ireturn, 1) := by decide +kernel
theorem dP_bestPartner_73 : decode bP_bestPartner 73 = .ok (.iinc 3 1, 3) := by decide +kernel
theorem dP_bestPartner_76 : decode bP_bestPartner 76 = .ok (.goto (-72), 3) := by decide +kernel
theorem dP_bestPartner_79 : decode bP_bestPartner 79 = .ok (.iload_n 2, 1) := by decide +kernel
theorem dP_bestPartner_80 : decode bP_bestPartner 80 = .ok (.ireturn, 1) := by decide +kernel
theorem dP_canBeLeft_0 : decode bP_canBeLeft 0 = .ok (.aload_n 0, 1) := by decide +kernel
theorem dP_canBeLeft_1 : decode bP_canBeLeft 1 = .ok (.getfield 44, 3) := by decide +kernel
theorem dP_canBeLeft_4 : decode bP_canBeLeft 4 = .ok (.iload_n 1, 1) := by decide +kernel
theorem dP_canBeLeft_5 : decode bP_canBeLeft 5 = .ok (.invokestatic 127, 3) := by decide +kernel
theorem dP_canBeLeft_8 : decode bP_canBeLeft 8 = .ok (.isub, 1) := by decide +kernel
theorem dP_canBeLeft_9 : decode bP_canBeLeft 9 = .ok (.iconst 2, 1) := by decide +kernel
theorem dP_canBeLeft_10 : decode bP_canBeLeft 10 = .ok (.idiv, 1) := by decide +kernel
theorem dP_canBeLeft_11 : decode bP_canBeLeft 11 = .ok (.istore_n 2, 1) := by decide +kernel
theorem dP_canBeLeft_12 : decode bP_canBeLeft 12 = .ok (.iload_n 2, 1) := by decide +kernel
theorem dP_canBeLeft_13 : decode bP_canBeLeft 13 = .ok (.iload_n 1, 1) := by decide +kernel
theorem dP_canBeLeft_14 : decode bP_canBeLeft 14 = .ok (.invokestatic 69, 3) := by decide +kernel
theorem dP_canBeLeft_17 : decode bP_canBeLeft 17 = .ok (.if_icmp .gt 7, 3) := by decide +kernel
theorem dP_canBeLeft_20 : decode bP_canBeLeft 20 = .ok (.iconst 1, 1) := by decide +kernel
theorem dP_canBeLeft_21 : decode bP_canBeLeft 21 = .ok (.goto 4, 3) := by decide +kernel
theorem dP_canBeLeft_24 : decode bP_canBeLeft 24 = .ok (.iconst 0, 1) := by decide +kernel
theorem dP_canBeLeft_25 : decode bP_canBeLeft 25 = .ok (.ireturn, 1) := by decide +kernel
theorem dP_chooseBye_0 : decode bP_chooseBye 0 = .ok (.iconst 0, 1) := by decide +kernel
theorem dP_chooseBye_1 : decode bP_chooseBye 1 = .ok (.istore_n 3, 1) := by decide +kernel
theorem dP_chooseBye_2 : decode bP_chooseBye 2 = .ok (.iconst (-1), 1) := by decide +kernel
theorem dP_chooseBye_3 : decode bP_chooseBye 3 = .ok (.istore 4, 2) := by decide +kernel
theorem dP_chooseBye_5 : decode bP_chooseBye 5 = .ok (.iconst 0, 1) := by decide +kernel
theorem dP_chooseBye_6 : decode bP_chooseBye 6 = .ok (.istore 5, 2) := by decide +kernel
theorem dP_chooseBye_8 : decode bP_chooseBye 8 = .ok (.iload 5, 2) := by decide +kernel
theorem dP_chooseBye_10 : decode bP_chooseBye 10 = .ok (.bipush 12, 2) := by decide +kernel
theorem dP_chooseBye_12 : decode bP_chooseBye 12 = .ok (.if_icmp .ge 40, 3) := by decide +kernel
theorem dP_chooseBye_15 : decode bP_chooseBye 15 = .ok (.aload_n 2, 1) := by decide +kernel
theorem dP_chooseBye_16 : decode bP_chooseBye 16 = .ok (.iload 5, 2) := by decide +kernel
theorem dP_chooseBye_18 : decode bP_chooseBye 18 = .ok (.baload, 1) := by decide +kernel
theorem dP_chooseBye_19 : decode bP_chooseBye 19 = .ok (.ifCond .eq 27, 3) := by decide +kernel
theorem dP_chooseBye_22 : decode bP_chooseBye 22 = .ok (.iinc 3 1, 3) := by decide +kernel
theorem dP_chooseBye_25 : decode bP_chooseBye 25 = .ok (.iload 4, 2) := by decide +kernel
theorem dP_chooseBye_27 : decode bP_chooseBye 27 = .ok (.iconst (-1), 1) := by decide +kernel
theorem dP_chooseBye_28 : decode bP_chooseBye 28 = .ok (.if_icmp .eq 14, 3) := by decide +kernel
theorem dP_chooseBye_31 : decode bP_chooseBye 31 = .ok (.aload_n 1, 1) := by decide +kernel
theorem dP_chooseBye_32 : decode bP_chooseBye 32 = .ok (.iload 5, 2) := by decide +kernel
theorem dP_chooseBye_34 : decode bP_chooseBye 34 = .ok (.iload 4, 2) := by decide +kernel
theorem dP_chooseBye_36 : decode bP_chooseBye 36 = .ok (.invokevirtual 90, 3) := by decide +kernel
theorem dP_chooseBye_39 : decode bP_chooseBye 39 = .ok (.ifCond .eq 7, 3) := by decide +kernel
theorem dP_chooseBye_42 : decode bP_chooseBye 42 = .ok (.iload 5, 2) := by decide +kernel
theorem dP_chooseBye_44 : decode bP_chooseBye 44 = .ok (.istore 4, 2) := by decide +kernel
theorem dP_chooseBye_46 : decode bP_chooseBye 46 = .ok (.iinc 5 1, 3) := by decide +kernel
theorem dP_chooseBye_49 : decode bP_chooseBye 49 = .ok (.goto (-41), 3) := by decide +kernel
theorem dP_chooseBye_52 : decode bP_chooseBye 52 = .ok (.aload_n 0, 1) := by decide +kernel
theorem dP_chooseBye_53 : decode bP_chooseBye 53 = .ok (.iload_n 3, 1) := by decide +kernel
theorem dP_chooseBye_54 : decode bP_chooseBye 54 = .ok (.iconst 2, 1) := by decide +kernel
theorem dP_chooseBye_55 : decode bP_chooseBye 55 = .ok (.irem, 1) := by decide +kernel
theorem dP_chooseBye_56 : decode bP_chooseBye 56 = .ok (.iconst 1, 1) := by decide +kernel
theorem dP_chooseBye_57 : decode bP_chooseBye 57 = .ok (.if_icmp .ne 8, 3) := by decide +kernel
theorem dP_chooseBye_60 : decode bP_chooseBye 60 = .ok (.iload 4, 2) := by decide +kernel
theorem dP_chooseBye_62 : decode bP_chooseBye 62 = .ok (.goto 4, 3) := by decide +kernel
theorem dP_chooseBye_65 : decode bP_chooseBye 65 = .ok (.iconst (-1), 1) := by decide +kernel
theorem dP_chooseBye_66 : decode bP_chooseBye 66 = .ok (.putfield 15, 3) := by decide +kernel
theorem dP_chooseBye_69 : decode bP_chooseBye 69 = .ok (.return_, 1) := by decide +kernel
theorem dP_count_0 : decode bP_count 0 = .ok (.aload_n 0, 1) := by decide +kernel
theorem dP_count_1 : decode bP_count 1 = .ok (.getfield 27, 3) := by decide +kernel
theorem dP_count_4 : decode bP_count 4 = .ok (.aload_n 0, 1) := by decide +kernel
theorem dP_count_5 : decode bP_count 5 = .ok (.invokevirtual 51, 3) := by decide +kernel
theorem dP_count_8 : decode bP_count 8 = .ok (.invokestatic 54, 3) := by decide +kernel
theorem dP_count_11 : decode bP_count 11 = .ok (.iaload, 1) := by decide +kernel
theorem dP_count_12 : decode bP_count 12 = .ok (.ireturn, 1) := by decide +kernel
theorem dP_evenSet_0 : decode bP_evenSet 0 = .ok (.iload_n 0, 1) := by decide +kernel
theorem dP_evenSet_1 : decode bP_evenSet 1 = .ok (.iconst 1, 1) := by decide +kernel
theorem dP_evenSet_2 : decode bP_evenSet 2 = .ok (.ishl, 1) := by decide +kernel
theorem dP_evenSet_3 : decode bP_evenSet 3 = .ok (.iload_n 0, 1) := by decide +kernel
theorem dP_evenSet_4 : decode bP_evenSet 4 = .ok (.invokestatic 127, 3) := by decide +kernel
theorem dP_evenSet_7 : decode bP_evenSet 7 = .ok (.iconst 1, 1) := by decide +kernel
theorem dP_evenSet_8 : decode bP_evenSet 8 = .ok (.iand, 1) := by decide +kernel
theorem dP_evenSet_9 : decode bP_evenSet 9 = .ok (.ior, 1) := by decide +kernel
theorem dP_evenSet_10 : decode bP_evenSet 10 = .ok (.ireturn, 1) := by decide +kernel
theorem dP_games_0 : decode bP_games 0 = .ok (.aload_n 0, 1) := by decide +kernel
theorem dP_games_1 : decode bP_games 1 = .ok (.getfield 44, 3) := by decide +kernel
theorem dP_games_4 : decode bP_games 4 = .ok (.iconst 2, 1) := by decide +kernel
theorem dP_games_5 : decode bP_games 5 = .ok (.idiv, 1) := by decide +kernel
theorem dP_games_6 : decode bP_games 6 = .ok (.ireturn, 1) := by decide +kernel
theorem dP_indexOf_0 : decode bP_indexOf 0 = .ok (.iload_n 0, 1) := by decide +kernel
theorem dP_indexOf_1 : decode bP_indexOf 1 = .ok (.iconst 1, 1) := by decide +kernel
theorem dP_indexOf_2 : decode bP_indexOf 2 = .ok (.ishr, 1) := by decide +kernel
theorem dP_indexOf_3 : decode bP_indexOf 3 = .ok (.ireturn, 1) := by decide +kernel
theorem dP_init_0 : decode bP_init 0 = .ok (.aload_n 0, 1) := by decide +kernel
theorem dP_init_1 : decode bP_init 1 = .ok (.invokespecial 3, 3) := by decide +kernel
theorem dP_init_4 : decode bP_init 4 = .ok (.aload_n 0, 1) := by decide +kernel
theorem dP_init_5 : decode bP_init 5 = .ok (.bipush 12, 2) := by decide +kernel
theorem dP_init_7 : decode bP_init 7 = .ok (.newarray .int, 2) := by decide +kernel
theorem dP_init_9 : decode bP_init 9 = .ok (.putfield 9, 3) := by decide +kernel
theorem dP_init_12 : decode bP_init 12 = .ok (.aload_n 0, 1) := by decide +kernel
theorem dP_init_13 : decode bP_init 13 = .ok (.iconst (-1), 1) := by decide +kernel
theorem dP_init_14 : decode bP_init 14 = .ok (.putfield 15, 3) := by decide +kernel
theorem dP_init_17 : decode bP_init 17 = .ok (.aload_n 0, 1) := by decide +kernel
theorem dP_init_18 : decode bP_init 18 = .ok (.bipush 12, 2) := by decide +kernel
theorem dP_init_20 : decode bP_init 20 = .ok (.bipush 12, 2) := by decide +kernel
theorem dP_init_22 : decode bP_init 22 = .ok (.multianewarray 19 2, 4) := by decide +kernel
theorem dP_init_26 : decode bP_init 26 = .ok (.putfield 21, 3) := by decide +kernel
theorem dP_init_29 : decode bP_init 29 = .ok (.aload_n 0, 1) := by decide +kernel
theorem dP_init_30 : decode bP_init 30 = .ok (.sipush 2048, 3) := by decide +kernel
theorem dP_init_33 : decode bP_init 33 = .ok (.newarray .int, 2) := by decide +kernel
theorem dP_init_35 : decode bP_init 35 = .ok (.putfield 24, 3) := by decide +kernel
theorem dP_init_38 : decode bP_init 38 = .ok (.aload_n 0, 1) := by decide +kernel
theorem dP_init_39 : decode bP_init 39 = .ok (.sipush 2048, 3) := by decide +kernel
theorem dP_init_42 : decode bP_init 42 = .ok (.newarray .int, 2) := by decide +kernel
theorem dP_init_44 : decode bP_init 44 = .ok (.putfield 27, 3) := by decide +kernel
theorem dP_init_47 : decode bP_init 47 = .ok (.return_, 1) := by decide +kernel
theorem dP_isPossible_0 : decode bP_isPossible 0 = .ok (.aload_n 0, 1) := by decide +kernel
theorem dP_isPossible_1 : decode bP_isPossible 1 = .ok (.getfield 44, 3) := by decide +kernel
theorem dP_isPossible_4 : decode bP_isPossible 4 = .ok (.ifCond .gt 11, 3) := by decide +kernel
theorem dP_isPossible_7 : decode bP_isPossible 7 = .ok (.aload_n 0, 1) := by decide +kernel
theorem dP_isPossible_8 : decode bP_isPossible 8 = .ok (.getfield 15, 3) := by decide +kernel
theorem dP_isPossible_11 : decode bP_isPossible 11 = .ok (.iconst (-1), 1) := by decide +kernel
theorem dP_isPossible_12 : decode bP_isPossible 12 = .ok (.if_icmp .eq 14, 3) := by decide +kernel
theorem dP_isPossible_15 : decode bP_isPossible 15 = .ok (.aload_n 0, 1) := by decide +kernel
theorem dP_isPossible_16 : decode bP_isPossible 16 = .ok (.invokevirtual 47, 3) := by decide +kernel
theorem dP_isPossible_19 : decode bP_isPossible 19 = .ok (.ifCond .le 7, 3) := by decide +kernel
theorem dP_isPossible_22 : decode bP_isPossible 22 = .ok (.iconst 1, 1) := by decide +kernel
theorem dP_isPossible_23 : decode bP_isPossible 23 = .ok (.goto 4, 3) := by decide +kernel
theorem dP_isPossible_26 : decode bP_isPossible 26 = .ok (.iconst 0, 1) := by decide +kernel
theorem dP_isPossible_27 : decode bP_isPossible 27 = .ok (.ireturn, 1) := by decide +kernel
theorem dP_leastCost_0 : decode bP_leastCost 0 = .ok (.aload_n 0, 1) := by decide +kernel
theorem dP_leastCost_1 : decode bP_leastCost 1 = .ok (.getfield 24, 3) := by decide +kernel
theorem dP_leastCost_4 : decode bP_leastCost 4 = .ok (.aload_n 0, 1) := by decide +kernel
theorem dP_leastCost_5 : decode bP_leastCost 5 = .ok (.invokevirtual 51, 3) := by decide +kernel
theorem dP_leastCost_8 : decode bP_leastCost 8 = .ok (.invokestatic 54, 3) := by decide +kernel
theorem dP_leastCost_11 : decode bP_leastCost 11 = .ok (.iaload, 1) := by decide +kernel
theorem dP_leastCost_12 : decode bP_leastCost 12 = .ok (.ireturn, 1) := by decide +kernel
theorem dP_mayPlay_0 : decode bP_mayPlay 0 = .ok (.iload_n 1, 1) := by decide +kernel
theorem dP_mayPlay_1 : decode bP_mayPlay 1 = .ok (.iload_n 3, 1) := by decide +kernel
theorem dP_mayPlay_2 : decode bP_mayPlay 2 = .ok (.ishr, 1) := by decide +kernel
theorem dP_mayPlay_3 : decode bP_mayPlay 3 = .ok (.iconst 1, 1) := by decide +kernel
theorem dP_mayPlay_4 : decode bP_mayPlay 4 = .ok (.iand, 1) := by decide +kernel
theorem dP_mayPlay_5 : decode bP_mayPlay 5 = .ok (.iconst 1, 1) := by decide +kernel
theorem dP_mayPlay_6 : decode bP_mayPlay 6 = .ok (.if_icmp .ne 19, 3) := by decide +kernel
theorem dP_mayPlay_9 : decode bP_mayPlay 9 = .ok (.aload_n 0, 1) := by decide +kernel
theorem dP_mayPlay_10 : decode bP_mayPlay 10 = .ok (.getfield 21, 3) := by decide +kernel
theorem dP_mayPlay_13 : decode bP_mayPlay 13 = .ok (.iload_n 2, 1) := by decide +kernel
theorem dP_mayPlay_14 : decode bP_mayPlay 14 = .ok (.aaload, 1) := by decide +kernel
theorem dP_mayPlay_15 : decode bP_mayPlay 15 = .ok (.iload_n 3, 1) := by decide +kernel
theorem dP_mayPlay_16 : decode bP_mayPlay 16 = .ok (.iaload, 1) := by decide +kernel
theorem dP_mayPlay_17 : decode bP_mayPlay 17 = .ok (.iconst (-1), 1) := by decide +kernel
theorem dP_mayPlay_18 : decode bP_mayPlay 18 = .ok (.if_icmp .eq 7, 3) := by decide +kernel
theorem dP_mayPlay_21 : decode bP_mayPlay 21 = .ok (.iconst 1, 1) := by decide +kernel
theorem dP_mayPlay_22 : decode bP_mayPlay 22 = .ok (.goto 4, 3) := by decide +kernel
theorem dP_mayPlay_25 : decode bP_mayPlay 25 = .ok (.iconst 0, 1) := by decide +kernel
theorem dP_mayPlay_26 : decode bP_mayPlay 26 = .ok (.ireturn, 1) := by decide +kernel
theorem dP_priceGames_0 : decode bP_priceGames 0 = .ok (.iconst 0, 1) := by decide +kernel
theorem dP_priceGames_1 : decode bP_priceGames 1 = .ok (.istore 4, 2) := by decide +kernel
theorem dP_priceGames_3 : decode bP_priceGames 3 = .ok (.iload 4, 2) := by decide +kernel
theorem dP_priceGames_5 : decode bP_priceGames 5 = .ok (.aload_n 0, 1) := by decide +kernel
theorem dP_priceGames_6 : decode bP_priceGames 6 = .ok (.getfield 44, 3) := by decide +kernel
theorem dP_priceGames_9 : decode bP_priceGames 9 = .ok (.if_icmp .ge 107, 3) := by decide +kernel
theorem dP_priceGames_12 : decode bP_priceGames 12 = .ok (.aload_n 0, 1) := by decide +kernel
theorem dP_priceGames_13 : decode bP_priceGames 13 = .ok (.getfield 9, 3) := by decide +kernel
theorem dP_priceGames_16 : decode bP_priceGames 16 = .ok (.iload 4, 2) := by decide +kernel
theorem dP_priceGames_18 : decode bP_priceGames 18 = .ok (.iaload, 1) := by decide +kernel
theorem dP_priceGames_19 : decode bP_priceGames 19 = .ok (.istore 5, 2) := by decide +kernel
theorem dP_priceGames_21 : decode bP_priceGames 21 = .ok (.aload_n 1, 1) := by decide +kernel
theorem dP_priceGames_22 : decode bP_priceGames 22 = .ok (.getfield 101, 3) := by decide +kernel
theorem dP_priceGames_25 : decode bP_priceGames 25 = .ok (.iload 5, 2) := by decide +kernel
theorem dP_priceGames_27 : decode bP_priceGames 27 = .ok (.iaload, 1) := by decide +kernel
theorem dP_priceGames_28 : decode bP_priceGames 28 = .ok (.aload_n 2, 1) := by decide +kernel
theorem dP_priceGames_29 : decode bP_priceGames 29 = .ok (.iload 5, 2) := by decide +kernel
theorem dP_priceGames_31 : decode bP_priceGames 31 = .ok (.iaload, 1) := by decide +kernel
theorem dP_priceGames_32 : decode bP_priceGames 32 = .ok (.ior, 1) := by decide +kernel
theorem dP_priceGames_33 : decode bP_priceGames 33 = .ok (.istore 6, 2) := by decide +kernel
theorem dP_priceGames_35 : decode bP_priceGames 35 = .ok (.iload 4, 2) := by decide +kernel
theorem dP_priceGames_37 : decode bP_priceGames 37 = .ok (.iconst 1, 1) := by decide +kernel
theorem dP_priceGames_38 : decode bP_priceGames 38 = .ok (.iadd, 1) := by decide +kernel
theorem dP_priceGames_39 : decode bP_priceGames 39 = .ok (.istore 7, 2) := by decide +kernel
theorem dP_priceGames_41 : decode bP_priceGames 41 = .ok (.iload 7, 2) := by decide +kernel
theorem dP_priceGames_43 : decode bP_priceGames 43 = .ok (.aload_n 0, 1) := by decide +kernel
theorem dP_priceGames_44 : decode bP_priceGames 44 = .ok (.getfield 44, 3) := by decide +kernel
theorem dP_priceGames_47 : decode bP_priceGames 47 = .ok (.if_icmp .ge 63, 3) := by decide +kernel
theorem dP_priceGames_50 : decode bP_priceGames 50 = .ok (.aload_n 0, 1) := by decide +kernel
theorem dP_priceGames_51 : decode bP_priceGames 51 = .ok (.getfield 9, 3) := by decide +kernel
theorem dP_priceGames_54 : decode bP_priceGames 54 = .ok (.iload 7, 2) := by decide +kernel
theorem dP_priceGames_56 : decode bP_priceGames 56 = .ok (.iaload, 1) := by decide +kernel
theorem dP_priceGames_57 : decode bP_priceGames 57 = .ok (.istore 8, 2) := by decide +kernel
theorem dP_priceGames_59 : decode bP_priceGames 59 = .ok (.iload 6, 2) := by decide +kernel
theorem dP_priceGames_61 : decode bP_priceGames 61 = .ok (.iload 8, 2) := by decide +kernel
theorem dP_priceGames_63 : decode bP_priceGames 63 = .ok (.ishr, 1) := by decide +kernel
theorem dP_priceGames_64 : decode bP_priceGames 64 = .ok (.iconst 1, 1) := by decide +kernel
theorem dP_priceGames_65 : decode bP_priceGames 65 = .ok (.iand, 1) := by decide +kernel
theorem dP_priceGames_66 : decode bP_priceGames 66 = .ok (.ifCond .ne 7, 3) := by decide +kernel
theorem dP_priceGames_69 : decode bP_priceGames 69 = .ok (.iconst 1, 1) := by decide +kernel
theorem dP_priceGames_70 : decode bP_priceGames 70 = .ok (.goto 4, 3) := by decide +kernel
theorem dP_priceGames_73 : decode bP_priceGames 73 = .ok (.iconst 0, 1) := by decide +kernel
theorem dP_priceGames_74 : decode bP_priceGames 74 = .ok (.istore 9, 2) := by decide +kernel
theorem dP_priceGames_76 : decode bP_priceGames 76 = .ok (.aload_n 0, 1) := by decide +kernel
theorem dP_priceGames_77 : decode bP_priceGames 77 = .ok (.getfield 21, 3) := by decide +kernel
theorem dP_priceGames_80 : decode bP_priceGames 80 = .ok (.iload 4, 2) := by decide +kernel
theorem dP_priceGames_82 : decode bP_priceGames 82 = .ok (.aaload, 1) := by decide +kernel
theorem dP_priceGames_83 : decode bP_priceGames 83 = .ok (.iload 7, 2) := by decide +kernel
theorem dP_priceGames_85 : decode bP_priceGames 85 = .ok (.iload 9, 2) := by decide +kernel
theorem dP_priceGames_87 : decode bP_priceGames 87 = .ok (.ifCond .eq 15, 3) := by decide +kernel
theorem dP_priceGames_90 : decode bP_priceGames 90 = .ok (.aload_n 1, 1) := by decide +kernel
theorem dP_priceGames_91 : decode bP_priceGames 91 = .ok (.iload 5, 2) := by decide +kernel
theorem dP_priceGames_93 : decode bP_priceGames 93 = .ok (.iload 8, 2) := by decide +kernel
theorem dP_priceGames_95 : decode bP_priceGames 95 = .ok (.iload_n 3, 1) := by decide +kernel
theorem dP_priceGames_96 : decode bP_priceGames 96 = .ok (.invokevirtual 104, 3) := by decide +kernel
theorem dP_priceGames_99 : decode bP_priceGames 99 = .ok (.goto 4, 3) := by decide +kernel
theorem dP_priceGames_102 : decode bP_priceGames 102 = .ok (.iconst (-1), 1) := by decide +kernel
theorem dP_priceGames_103 : decode bP_priceGames 103 = .ok (.iastore, 1) := by decide +kernel
theorem dP_priceGames_104 : decode bP_priceGames 104 = .ok (.iinc 7 1, 3) := by decide +kernel
theorem dP_priceGames_107 : decode bP_priceGames 107 = .ok (.goto (-66), 3) := by decide +kernel
theorem dP_priceGames_110 : decode bP_priceGames 110 = .ok (.iinc 4 1, 3) := by decide +kernel
theorem dP_priceGames_113 : decode bP_priceGames 113 = .ok (.goto (-110), 3) := by decide +kernel
theorem dP_priceGames_116 : decode bP_priceGames 116 = .ok (.return_, 1) := by decide +kernel
theorem dP_seatOne_0 : decode bP_seatOne 0 = .ok (.aload_n 0, 1) := by decide +kernel
theorem dP_seatOne_1 : decode bP_seatOne 1 = .ok (.getfield 44, 3) := by decide +kernel
theorem dP_seatOne_4 : decode bP_seatOne 4 = .ok (.istore_n 3, 1) := by decide +kernel
theorem dP_seatOne_5 : decode bP_seatOne 5 = .ok (.iload_n 3, 1) := by decide +kernel
theorem dP_seatOne_6 : decode bP_seatOne 6 = .ok (.ifCond .le 39, 3) := by decide +kernel
theorem dP_seatOne_9 : decode bP_seatOne 9 = .ok (.aload_n 1, 1) := by decide +kernel
theorem dP_seatOne_10 : decode bP_seatOne 10 = .ok (.iload_n 2, 1) := by decide +kernel
theorem dP_seatOne_11 : decode bP_seatOne 11 = .ok (.aload_n 0, 1) := by decide +kernel
theorem dP_seatOne_12 : decode bP_seatOne 12 = .ok (.getfield 9, 3) := by decide +kernel
theorem dP_seatOne_15 : decode bP_seatOne 15 = .ok (.iload_n 3, 1) := by decide +kernel
theorem dP_seatOne_16 : decode bP_seatOne 16 = .ok (.iconst 1, 1) := by decide +kernel
theorem dP_seatOne_17 : decode bP_seatOne 17 = .ok (.isub, 1) := by decide +kernel
theorem dP_seatOne_18 : decode bP_seatOne 18 = .ok (.iaload, 1) := by decide +kernel
theorem dP_seatOne_19 : decode bP_seatOne 19 = .ok (.invokevirtual 98, 3) := by decide +kernel
theorem dP_seatOne_22 : decode bP_seatOne 22 = .ok (.ifCond .eq 23, 3) := by decide +kernel
theorem dP_seatOne_25 : decode bP_seatOne 25 = .ok (.aload_n 0, 1) := by decide +kernel
theorem dP_seatOne_26 : decode bP_seatOne 26 = .ok (.getfield 9, 3) := by decide +kernel
theorem dP_seatOne_29 : decode bP_seatOne 29 = .ok (.iload_n 3, 1) := by decide +kernel
theorem dP_seatOne_30 : decode bP_seatOne 30 = .ok (.aload_n 0, 1) := by decide +kernel
theorem dP_seatOne_31 : decode bP_seatOne 31 = .ok (.getfield 9, 3) := by decide +kernel
theorem dP_seatOne_34 : decode bP_seatOne 34 = .ok (.iload_n 3, 1) := by decide +kernel
theorem dP_seatOne_35 : decode bP_seatOne 35 = .ok (.iconst 1, 1) := by decide +kernel
theorem dP_seatOne_36 : decode bP_seatOne 36 = .ok (.isub, 1) := by decide +kernel
theorem dP_seatOne_37 : decode bP_seatOne 37 = .ok (.iaload, 1) := by decide +kernel
theorem dP_seatOne_38 : decode bP_seatOne 38 = .ok (.iastore, 1) := by decide +kernel
theorem dP_seatOne_39 : decode bP_seatOne 39 = .ok (.iinc 3 (-1), 3) := by decide +kernel
theorem dP_seatOne_42 : decode bP_seatOne 42 = .ok (.goto (-37), 3) := by decide +kernel
theorem dP_seatOne_45 : decode bP_seatOne 45 = .ok (.aload_n 0, 1) := by decide +kernel
theorem dP_seatOne_46 : decode bP_seatOne 46 = .ok (.getfield 9, 3) := by decide +kernel
theorem dP_seatOne_49 : decode bP_seatOne 49 = .ok (.iload_n 3, 1) := by decide +kernel
theorem dP_seatOne_50 : decode bP_seatOne 50 = .ok (.iload_n 2, 1) := by decide +kernel
theorem dP_seatOne_51 : decode bP_seatOne 51 = .ok (.iastore, 1) := by decide +kernel
theorem dP_seatOne_52 : decode bP_seatOne 52 = .ok (.aload_n 0, 1) := by decide +kernel
theorem dP_seatOne_53 : decode bP_seatOne 53 = .ok (.dup, 1) := by decide +kernel
theorem dP_seatOne_54 : decode bP_seatOne 54 = .ok (.getfield 44, 3) := by decide +kernel
theorem dP_seatOne_57 : decode bP_seatOne 57 = .ok (.iconst 1, 1) := by decide +kernel
theorem dP_seatOne_58 : decode bP_seatOne 58 = .ok (.iadd, 1) := by decide +kernel
theorem dP_seatOne_59 : decode bP_seatOne 59 = .ok (.putfield 44, 3) := by decide +kernel
theorem dP_seatOne_62 : decode bP_seatOne 62 = .ok (.return_, 1) := by decide +kernel
theorem dP_seatPlayers_0 : decode bP_seatPlayers 0 = .ok (.aload_n 0, 1) := by decide +kernel
theorem dP_seatPlayers_1 : decode bP_seatPlayers 1 = .ok (.iconst 0, 1) := by decide +kernel
theorem dP_seatPlayers_2 : decode bP_seatPlayers 2 = .ok (.putfield 44, 3) := by decide +kernel
theorem dP_seatPlayers_5 : decode bP_seatPlayers 5 = .ok (.iconst 0, 1) := by decide +kernel
theorem dP_seatPlayers_6 : decode bP_seatPlayers 6 = .ok (.istore_n 3, 1) := by decide +kernel
theorem dP_seatPlayers_7 : decode bP_seatPlayers 7 = .ok (.iload_n 3, 1) := by decide +kernel
theorem dP_seatPlayers_8 : decode bP_seatPlayers 8 = .ok (.bipush 12, 2) := by decide +kernel
theorem dP_seatPlayers_10 : decode bP_seatPlayers 10 = .ok (.if_icmp .ge 29, 3) := by decide +kernel
theorem dP_seatPlayers_13 : decode bP_seatPlayers 13 = .ok (.aload_n 2, 1) := by decide +kernel
theorem dP_seatPlayers_14 : decode bP_seatPlayers 14 = .ok (.iload_n 3, 1) := by decide +kernel
theorem dP_seatPlayers_15 : decode bP_seatPlayers 15 = .ok (.baload, 1) := by decide +kernel
theorem dP_seatPlayers_16 : decode bP_seatPlayers 16 = .ok (.ifCond .eq 17, 3) := by decide +kernel
theorem dP_seatPlayers_19 : decode bP_seatPlayers 19 = .ok (.iload_n 3, 1) := by decide +kernel
theorem dP_seatPlayers_20 : decode bP_seatPlayers 20 = .ok (.aload_n 0, 1) := by decide +kernel
theorem dP_seatPlayers_21 : decode bP_seatPlayers 21 = .ok (.getfield 15, 3) := by decide +kernel
theorem dP_seatPlayers_24 : decode bP_seatPlayers 24 = .ok (.if_icmp .eq 9, 3) := by decide +kernel
theorem dP_seatPlayers_27 : decode bP_seatPlayers 27 = .ok (.aload_n 0, 1) := by decide +kernel
theorem dP_seatPlayers_28 : decode bP_seatPlayers 28 = .ok (.aload_n 1, 1) := by decide +kernel
theorem dP_seatPlayers_29 : decode bP_seatPlayers 29 = .ok (.iload_n 3, 1) := by decide +kernel
theorem dP_seatPlayers_30 : decode bP_seatPlayers 30 = .ok (.invokevirtual 94, 3) := by decide +kernel
theorem dP_seatPlayers_33 : decode bP_seatPlayers 33 = .ok (.iinc 3 1, 3) := by decide +kernel
theorem dP_seatPlayers_36 : decode bP_seatPlayers 36 = .ok (.goto (-29), 3) := by decide +kernel
theorem dP_seatPlayers_39 : decode bP_seatPlayers 39 = .ok (.return_, 1) := by decide +kernel
theorem dP_solve_0 : decode bP_solve 0 = .ok (.aload_n 0, 1) := by decide +kernel
theorem dP_solve_1 : decode bP_solve 1 = .ok (.getfield 24, 3) := by decide +kernel
theorem dP_solve_4 : decode bP_solve 4 = .ok (.iconst 0, 1) := by decide +kernel
theorem dP_solve_5 : decode bP_solve 5 = .ok (.iconst 0, 1) := by decide +kernel
theorem dP_solve_6 : decode bP_solve 6 = .ok (.iastore, 1) := by decide +kernel
theorem dP_solve_7 : decode bP_solve 7 = .ok (.aload_n 0, 1) := by decide +kernel
theorem dP_solve_8 : decode bP_solve 8 = .ok (.getfield 27, 3) := by decide +kernel
theorem dP_solve_11 : decode bP_solve 11 = .ok (.iconst 0, 1) := by decide +kernel
theorem dP_solve_12 : decode bP_solve 12 = .ok (.iconst 1, 1) := by decide +kernel
theorem dP_solve_13 : decode bP_solve 13 = .ok (.iastore, 1) := by decide +kernel
theorem dP_solve_14 : decode bP_solve 14 = .ok (.aload_n 0, 1) := by decide +kernel
theorem dP_solve_15 : decode bP_solve 15 = .ok (.getfield 44, 3) := by decide +kernel
theorem dP_solve_18 : decode bP_solve 18 = .ok (.ifCond .ne 7, 3) := by decide +kernel
theorem dP_solve_21 : decode bP_solve 21 = .ok (.iconst 1, 1) := by decide +kernel
theorem dP_solve_22 : decode bP_solve 22 = .ok (.goto 11, 3) := by decide +kernel
theorem dP_solve_25 : decode bP_solve 25 = .ok (.iconst 1, 1) := by decide +kernel
theorem dP_solve_26 : decode bP_solve 26 = .ok (.aload_n 0, 1) := by decide +kernel
theorem dP_solve_27 : decode bP_solve 27 = .ok (.getfield 44, 3) := by decide +kernel
theorem dP_solve_30 : decode bP_solve 30 = .ok (.iconst 1, 1) := by decide +kernel
theorem dP_solve_31 : decode bP_solve 31 = .ok (.isub, 1) := by decide +kernel
theorem dP_solve_32 : decode bP_solve 32 = .ok (.ishl, 1) := by decide +kernel
theorem dP_solve_33 : decode bP_solve 33 = .ok (.istore_n 1, 1) := by decide +kernel
theorem dP_solve_34 : decode bP_solve 34 = .ok (.iconst 1, 1) := by decide +kernel
theorem dP_solve_35 : decode bP_solve 35 = .ok (.istore_n 2, 1) := by decide +kernel
theorem dP_solve_36 : decode bP_solve 36 = .ok (.iload_n 2, 1) := by decide +kernel
theorem dP_solve_37 : decode bP_solve 37 = .ok (.iload_n 1, 1) := by decide +kernel
theorem dP_solve_38 : decode bP_solve 38 = .ok (.if_icmp .ge 27, 3) := by decide +kernel
theorem dP_solve_41 : decode bP_solve 41 = .ok (.iload_n 2, 1) := by decide +kernel
theorem dP_solve_42 : decode bP_solve 42 = .ok (.invokestatic 107, 3) := by decide +kernel
theorem dP_solve_45 : decode bP_solve 45 = .ok (.istore_n 3, 1) := by decide +kernel
theorem dP_solve_46 : decode bP_solve 46 = .ok (.aload_n 0, 1) := by decide +kernel
theorem dP_solve_47 : decode bP_solve 47 = .ok (.iload_n 3, 1) := by decide +kernel
theorem dP_solve_48 : decode bP_solve 48 = .ok (.invokevirtual 110, 3) := by decide +kernel
theorem dP_solve_51 : decode bP_solve 51 = .ok (.ifCond .eq 8, 3) := by decide +kernel
theorem dP_solve_54 : decode bP_solve 54 = .ok (.aload_n 0, 1) := by decide +kernel
theorem dP_solve_55 : decode bP_solve 55 = .ok (.iload_n 3, 1) := by decide +kernel
theorem dP_solve_56 : decode bP_solve 56 = .ok (.invokevirtual 114, 3) := by decide +kernel
theorem dP_solve_59 : decode bP_solve 59 = .ok (.iinc 2 1, 3) := by decide +kernel
theorem dP_solve_62 : decode bP_solve 62 = .ok (.goto (-26), 3) := by decide +kernel
theorem dP_solve_65 : decode bP_solve 65 = .ok (.return_, 1) := by decide +kernel
theorem dP_solveSet_0 : decode bP_solveSet 0 = .ok (.iload_n 1, 1) := by decide +kernel
theorem dP_solveSet_1 : decode bP_solveSet 1 = .ok (.invokestatic 69, 3) := by decide +kernel
theorem dP_solveSet_4 : decode bP_solveSet 4 = .ok (.istore_n 2, 1) := by decide +kernel
theorem dP_solveSet_5 : decode bP_solveSet 5 = .ok (.iconst 0, 1) := by decide +kernel
theorem dP_solveSet_6 : decode bP_solveSet 6 = .ok (.istore_n 3, 1) := by decide +kernel
theorem dP_solveSet_7 : decode bP_solveSet 7 = .ok (.iconst 0, 1) := by decide +kernel
theorem dP_solveSet_8 : decode bP_solveSet 8 = .ok (.istore 4, 2) := by decide +kernel
theorem dP_solveSet_10 : decode bP_solveSet 10 = .ok (.iload_n 2, 1) := by decide +kernel
theorem dP_solveSet_11 : decode bP_solveSet 11 = .ok (.iconst 1, 1) := by decide +kernel
theorem dP_solveSet_12 : decode bP_solveSet 12 = .ok (.iadd, 1) := by decide +kernel
theorem dP_solveSet_13 : decode bP_solveSet 13 = .ok (.istore 5, 2) := by decide +kernel
theorem dP_solveSet_15 : decode bP_solveSet 15 = .ok (.iload 5, 2) := by decide +kernel
theorem dP_solveSet_17 : decode bP_solveSet 17 = .ok (.aload_n 0, 1) := by decide +kernel
theorem dP_solveSet_18 : decode bP_solveSet 18 = .ok (.getfield 44, 3) := by decide +kernel
theorem dP_solveSet_21 : decode bP_solveSet 21 = .ok (.if_icmp .ge 90, 3) := by decide +kernel
theorem dP_solveSet_24 : decode bP_solveSet 24 = .ok (.iload_n 1, 1) := by decide +kernel
theorem dP_solveSet_25 : decode bP_solveSet 25 = .ok (.iload_n 2, 1) := by decide +kernel
theorem dP_solveSet_26 : decode bP_solveSet 26 = .ok (.iload 5, 2) := by decide +kernel
theorem dP_solveSet_28 : decode bP_solveSet 28 = .ok (.invokestatic 87, 3) := by decide +kernel
theorem dP_solveSet_31 : decode bP_solveSet 31 = .ok (.invokestatic 54, 3) := by decide +kernel
theorem dP_solveSet_34 : decode bP_solveSet 34 = .ok (.istore 6, 2) := by decide +kernel
theorem dP_solveSet_36 : decode bP_solveSet 36 = .ok (.aload_n 0, 1) := by decide +kernel
theorem dP_solveSet_37 : decode bP_solveSet 37 = .ok (.iload_n 1, 1) := by decide +kernel
theorem dP_solveSet_38 : decode bP_solveSet 38 = .ok (.iload_n 2, 1) := by decide +kernel
theorem dP_solveSet_39 : decode bP_solveSet 39 = .ok (.iload 5, 2) := by decide +kernel
theorem dP_solveSet_41 : decode bP_solveSet 41 = .ok (.invokevirtual 118, 3) := by decide +kernel
theorem dP_solveSet_44 : decode bP_solveSet 44 = .ok (.ifCond .eq 61, 3) := by decide +kernel
theorem dP_solveSet_47 : decode bP_solveSet 47 = .ok (.aload_n 0, 1) := by decide +kernel
theorem dP_solveSet_48 : decode bP_solveSet 48 = .ok (.getfield 27, 3) := by decide +kernel
theorem dP_solveSet_51 : decode bP_solveSet 51 = .ok (.iload 6, 2) := by decide +kernel
theorem dP_solveSet_53 : decode bP_solveSet 53 = .ok (.iaload, 1) := by decide +kernel
theorem dP_solveSet_54 : decode bP_solveSet 54 = .ok (.ifCond .le 51, 3) := by decide +kernel
theorem dP_solveSet_57 : decode bP_solveSet 57 = .ok (.aload_n 0, 1) := by decide +kernel
theorem dP_solveSet_58 : decode bP_solveSet 58 = .ok (.getfield 21, 3) := by decide +kernel
theorem dP_solveSet_61 : decode bP_solveSet 61 = .ok (.iload_n 2, 1) := by decide +kernel
theorem dP_solveSet_62 : decode bP_solveSet 62 = .ok (.aaload, 1) := by decide +kernel
theorem dP_solveSet_63 : decode bP_solveSet 63 = .ok (.iload 5, 2) := by decide +kernel
theorem dP_solveSet_65 : decode bP_solveSet 65 = .ok (.iaload, 1) := by decide +kernel
theorem dP_solveSet_66 : decode bP_solveSet 66 = .ok (.aload_n 0, 1) := by decide +kernel
theorem dP_solveSet_67 : decode bP_solveSet 67 = .ok (.getfield 24, 3) := by decide +kernel
theorem dP_solveSet_70 : decode bP_solveSet 70 = .ok (.iload 6, 2) := by decide +kernel
theorem dP_solveSet_72 : decode bP_solveSet 72 = .ok (.iaload, 1) := by decide +kernel
theorem dP_solveSet_73 : decode bP_solveSet 73 = .ok (.iadd, 1) := by decide +kernel
theorem dP_solveSet_74 : decode bP_solveSet 74 = .ok (.istore 7, 2) := by decide +kernel
theorem dP_solveSet_76 : decode bP_solveSet 76 = .ok (.iload 4, 2) := by decide +kernel
theorem dP_solveSet_78 : decode bP_solveSet 78 = .ok (.ifCond .ne 8, 3) := by decide +kernel
theorem dP_solveSet_81 : decode bP_solveSet 81 = .ok (.iload 7, 2) := by decide +kernel
theorem dP_solveSet_83 : decode bP_solveSet 83 = .ok (.goto 9, 3) := by decide +kernel
theorem dP_solveSet_86 : decode bP_solveSet 86 = .ok (.iload_n 3, 1) := by decide +kernel
theorem dP_solveSet_87 : decode bP_solveSet 87 = .ok (.iload 7, 2) := by decide +kernel
theorem dP_solveSet_89 : decode bP_solveSet 89 = .ok (.invokestatic 122, 3) := by decide +kernel
theorem dP_solveSet_92 : decode bP_solveSet 92 = .ok (.istore_n 3, 1) := by decide +kernel
theorem dP_solveSet_93 : decode bP_solveSet 93 = .ok (.iload 4, 2) := by decide +kernel
theorem dP_solveSet_95 : decode bP_solveSet 95 = .ok (.aload_n 0, 1) := by decide +kernel
theorem dP_solveSet_96 : decode bP_solveSet 96 = .ok (.getfield 27, 3) := by decide +kernel
theorem dP_solveSet_99 : decode bP_solveSet 99 = .ok (.iload 6, 2) := by decide +kernel
theorem dP_solveSet_101 : decode bP_solveSet 101 = .ok (.iaload, 1) := by decide +kernel
theorem dP_solveSet_102 : decode bP_solveSet 102 = .ok (.iadd, 1) := by decide +kernel
theorem dP_solveSet_103 : decode bP_solveSet 103 = .ok (.istore 4, 2) := by decide +kernel
theorem dP_solveSet_105 : decode bP_solveSet 105 = .ok (.iinc 5 1, 3) := by decide +kernel
theorem dP_solveSet_108 : decode bP_solveSet 108 = .ok (.goto (-93), 3) := by decide +kernel
theorem dP_solveSet_111 : decode bP_solveSet 111 = .ok (.aload_n 0, 1) := by decide +kernel
theorem dP_solveSet_112 : decode bP_solveSet 112 = .ok (.getfield 24, 3) := by decide +kernel
theorem dP_solveSet_115 : decode bP_solveSet 115 = .ok (.iload_n 1, 1) := by decide +kernel
theorem dP_solveSet_116 : decode bP_solveSet 116 = .ok (.invokestatic 54, 3) := by decide +kernel
theorem dP_solveSet_119 : decode bP_solveSet 119 = .ok (.iload_n 3, 1) := by decide +kernel
theorem dP_solveSet_120 : decode bP_solveSet 120 = .ok (.iastore, 1) := by decide +kernel
theorem dP_solveSet_121 : decode bP_solveSet 121 = .ok (.aload_n 0, 1) := by decide +kernel
theorem dP_solveSet_122 : decode bP_solveSet 122 = .ok (.getfield 27, 3) := by decide +kernel
theorem dP_solveSet_125 : decode bP_solveSet 125 = .ok (.iload_n 1, 1) := by decide +kernel
theorem dP_solveSet_126 : decode bP_solveSet 126 = .ok (.invokestatic 54, 3) := by decide +kernel
theorem dP_solveSet_129 : decode bP_solveSet 129 = .ok (.iload 4, 2) := by decide +kernel
theorem dP_solveSet_131 : decode bP_solveSet 131 = .ok (.iastore, 1) := by decide +kernel
theorem dP_solveSet_132 : decode bP_solveSet 132 = .ok (.return_, 1) := by decide +kernel
theorem dP_without_0 : decode bP_without 0 = .ok (.iload_n 0, 1) := by decide +kernel
theorem dP_without_1 : decode bP_without 1 = .ok (.iconst 1, 1) := by decide +kernel
theorem dP_without_2 : decode bP_without 2 = .ok (.iload_n 1, 1) := by decide +kernel
theorem dP_without_3 : decode bP_without 3 = .ok (.ishl, 1) := by decide +kernel
theorem dP_without_4 : decode bP_without 4 = .ok (.iconst 1, 1) := by decide +kernel
theorem dP_without_5 : decode bP_without 5 = .ok (.iload_n 2, 1) := by decide +kernel
theorem dP_without_6 : decode bP_without 6 = .ok (.ishl, 1) := by decide +kernel
theorem dP_without_7 : decode bP_without 7 = .ok (.ior, 1) := by decide +kernel
theorem dP_without_8 : decode bP_without 8 = .ok (.iconst (-1), 1) := by decide +kernel
theorem dP_without_9 : decode bP_without 9 = .ok (.ixor, 1) := by decide +kernel
theorem dP_without_10 : decode bP_without 10 = .ok (.iand, 1) := by decide +kernel
theorem dP_without_11 : decode bP_without 11 = .ok (.ireturn, 1) := by decide +kernel
theorem dP_workOut_0 : decode bP_workOut 0 = .ok (.aload_n 0, 1) := by decide +kernel
theorem dP_workOut_1 : decode bP_workOut 1 = .ok (.aload_n 1, 1) := by decide +kernel
theorem dP_workOut_2 : decode bP_workOut 2 = .ok (.aload_n 2, 1) := by decide +kernel
theorem dP_workOut_3 : decode bP_workOut 3 = .ok (.invokevirtual 30, 3) := by decide +kernel
theorem dP_workOut_6 : decode bP_workOut 6 = .ok (.aload_n 0, 1) := by decide +kernel
theorem dP_workOut_7 : decode bP_workOut 7 = .ok (.aload_n 1, 1) := by decide +kernel
theorem dP_workOut_8 : decode bP_workOut 8 = .ok (.aload_n 2, 1) := by decide +kernel
theorem dP_workOut_9 : decode bP_workOut 9 = .ok (.invokevirtual 34, 3) := by decide +kernel
theorem dP_workOut_12 : decode bP_workOut 12 = .ok (.aload_n 0, 1) := by decide +kernel
theorem dP_workOut_13 : decode bP_workOut 13 = .ok (.aload_n 1, 1) := by decide +kernel
theorem dP_workOut_14 : decode bP_workOut 14 = .ok (.aload_n 3, 1) := by decide +kernel
theorem dP_workOut_15 : decode bP_workOut 15 = .ok (.iload 4, 2) := by decide +kernel
theorem dP_workOut_17 : decode bP_workOut 17 = .ok (.invokevirtual 37, 3) := by decide +kernel
theorem dP_workOut_20 : decode bP_workOut 20 = .ok (.aload_n 0, 1) := by decide +kernel
theorem dP_workOut_21 : decode bP_workOut 21 = .ok (.invokevirtual 41, 3) := by decide +kernel
theorem dP_workOut_24 : decode bP_workOut 24 = .ok (.return_, 1) := by decide +kernel
theorem dP_writeTo_0 : decode bP_writeTo 0 = .ok (.aload_n 1, 1) := by decide +kernel
theorem dP_writeTo_1 : decode bP_writeTo 1 = .ok (.iconst (-1), 1) := by decide +kernel
theorem dP_writeTo_2 : decode bP_writeTo 2 = .ok (.invokestatic 58, 3) := by decide +kernel
theorem dP_writeTo_5 : decode bP_writeTo 5 = .ok (.aload_n 0, 1) := by decide +kernel
theorem dP_writeTo_6 : decode bP_writeTo 6 = .ok (.getfield 15, 3) := by decide +kernel
theorem dP_writeTo_9 : decode bP_writeTo 9 = .ok (.iconst (-1), 1) := by decide +kernel
theorem dP_writeTo_10 : decode bP_writeTo 10 = .ok (.if_icmp .eq 11, 3) := by decide +kernel
theorem dP_writeTo_13 : decode bP_writeTo 13 = .ok (.aload_n 1, 1) := by decide +kernel
theorem dP_writeTo_14 : decode bP_writeTo 14 = .ok (.aload_n 0, 1) := by decide +kernel
theorem dP_writeTo_15 : decode bP_writeTo 15 = .ok (.getfield 15, 3) := by decide +kernel
theorem dP_writeTo_18 : decode bP_writeTo 18 = .ok (.bipush 76, 2) := by decide +kernel
theorem dP_writeTo_20 : decode bP_writeTo 20 = .ok (.iastore, 1) := by decide +kernel
theorem dP_writeTo_21 : decode bP_writeTo 21 = .ok (.aload_n 0, 1) := by decide +kernel
theorem dP_writeTo_22 : decode bP_writeTo 22 = .ok (.invokevirtual 51, 3) := by decide +kernel
theorem dP_writeTo_25 : decode bP_writeTo 25 = .ok (.istore 4, 2) := by decide +kernel
theorem dP_writeTo_27 : decode bP_writeTo 27 = .ok (.iconst 0, 1) := by decide +kernel
theorem dP_writeTo_28 : decode bP_writeTo 28 = .ok (.istore 5, 2) := by decide +kernel
theorem dP_writeTo_30 : decode bP_writeTo 30 = .ok (.iload 5, 2) := by decide +kernel
theorem dP_writeTo_32 : decode bP_writeTo 32 = .ok (.aload_n 0, 1) := by decide +kernel
theorem dP_writeTo_33 : decode bP_writeTo 33 = .ok (.invokevirtual 66, 3) := by decide +kernel
theorem dP_writeTo_36 : decode bP_writeTo 36 = .ok (.if_icmp .ge 89, 3) := by decide +kernel
theorem dP_writeTo_39 : decode bP_writeTo 39 = .ok (.iload 4, 2) := by decide +kernel
theorem dP_writeTo_41 : decode bP_writeTo 41 = .ok (.invokestatic 69, 3) := by decide +kernel
theorem dP_writeTo_44 : decode bP_writeTo 44 = .ok (.istore 6, 2) := by decide +kernel
theorem dP_writeTo_46 : decode bP_writeTo 46 = .ok (.aload_n 0, 1) := by decide +kernel
theorem dP_writeTo_47 : decode bP_writeTo 47 = .ok (.iload 4, 2) := by decide +kernel
theorem dP_writeTo_49 : decode bP_writeTo 49 = .ok (.iload 6, 2) := by decide +kernel
theorem dP_writeTo_51 : decode bP_writeTo 51 = .ok (.invokevirtual 74, 3) := by decide +kernel
theorem dP_writeTo_54 : decode bP_writeTo 54 = .ok (.istore 7, 2) := by decide +kernel
theorem dP_writeTo_56 : decode bP_writeTo 56 = .ok (.aload_n 0, 1) := by decide +kernel
theorem dP_writeTo_57 : decode bP_writeTo 57 = .ok (.getfield 9, 3) := by decide +kernel
theorem dP_writeTo_60 : decode bP_writeTo 60 = .ok (.iload 6, 2) := by decide +kernel
theorem dP_writeTo_62 : decode bP_writeTo 62 = .ok (.iaload, 1) := by decide +kernel
theorem dP_writeTo_63 : decode bP_writeTo 63 = .ok (.istore 8, 2) := by decide +kernel
theorem dP_writeTo_65 : decode bP_writeTo 65 = .ok (.aload_n 0, 1) := by decide +kernel
theorem dP_writeTo_66 : decode bP_writeTo 66 = .ok (.getfield 9, 3) := by decide +kernel
theorem dP_writeTo_69 : decode bP_writeTo 69 = .ok (.iload 7, 2) := by decide +kernel
theorem dP_writeTo_71 : decode bP_writeTo 71 = .ok (.iaload, 1) := by decide +kernel
theorem dP_writeTo_72 : decode bP_writeTo 72 = .ok (.istore 9, 2) := by decide +kernel
theorem dP_writeTo_74 : decode bP_writeTo 74 = .ok (.aload_n 2, 1) := by decide +kernel
theorem dP_writeTo_75 : decode bP_writeTo 75 = .ok (.iload 8, 2) := by decide +kernel
theorem dP_writeTo_77 : decode bP_writeTo 77 = .ok (.iload 9, 2) := by decide +kernel
theorem dP_writeTo_79 : decode bP_writeTo 79 = .ok (.iload_n 3, 1) := by decide +kernel
theorem dP_writeTo_80 : decode bP_writeTo 80 = .ok (.invokevirtual 78, 3) := by decide +kernel
theorem dP_writeTo_83 : decode bP_writeTo 83 = .ok (.istore 10, 2) := by decide +kernel
theorem dP_writeTo_85 : decode bP_writeTo 85 = .ok (.aload_n 1, 1) := by decide +kernel
theorem dP_writeTo_86 : decode bP_writeTo 86 = .ok (.iload 8, 2) := by decide +kernel
theorem dP_writeTo_88 : decode bP_writeTo 88 = .ok (.iload 9, 2) := by decide +kernel
theorem dP_writeTo_90 : decode bP_writeTo 90 = .ok (.iload 10, 2) := by decide +kernel
theorem dP_writeTo_92 : decode bP_writeTo 92 = .ok (.invokestatic 84, 3) := by decide +kernel
theorem dP_writeTo_95 : decode bP_writeTo 95 = .ok (.iastore, 1) := by decide +kernel
theorem dP_writeTo_96 : decode bP_writeTo 96 = .ok (.aload_n 1, 1) := by decide +kernel
theorem dP_writeTo_97 : decode bP_writeTo 97 = .ok (.iload 9, 2) := by decide +kernel
theorem dP_writeTo_99 : decode bP_writeTo 99 = .ok (.iload 8, 2) := by decide +kernel
theorem dP_writeTo_101 : decode bP_writeTo 101 = .ok (.iload 10, 2) := by decide +kernel
theorem dP_writeTo_103 : decode bP_writeTo 103 = .ok (.ineg, 1) := by decide +kernel
theorem dP_writeTo_104 : decode bP_writeTo 104 = .ok (.invokestatic 84, 3) := by decide +kernel
theorem dP_writeTo_107 : decode bP_writeTo 107 = .ok (.iastore, 1) := by decide +kernel
theorem dP_writeTo_108 : decode bP_writeTo 108 = .ok (.iload 4, 2) := by decide +kernel
theorem dP_writeTo_110 : decode bP_writeTo 110 = .ok (.iload 6, 2) := by decide +kernel
theorem dP_writeTo_112 : decode bP_writeTo 112 = .ok (.iload 7, 2) := by decide +kernel
theorem dP_writeTo_114 : decode bP_writeTo 114 = .ok (.invokestatic 87, 3) := by decide +kernel
theorem dP_writeTo_117 : decode bP_writeTo 117 = .ok (.istore 4, 2) := by decide +kernel
theorem dP_writeTo_119 : decode bP_writeTo 119 = .ok (.iinc 5 1, 3) := by decide +kernel
theorem dP_writeTo_122 : decode bP_writeTo 122 = .ok (.goto (-92), 3) := by decide +kernel
theorem dP_writeTo_125 : decode bP_writeTo 125 = .ok (.return_, 1) := by decide +kernel
