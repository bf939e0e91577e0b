/-! names -/
abbrev bA_fill : ByteArray := prog_16_method_103_code
def yA_fill : MethodName := ⟨"java/util/Arrays", "fill", "([II)V"⟩
abbrev bC_colourIn : ByteArray := prog_2_method_7_code
def yC_colourIn : MethodName := ⟨"PairedField$Cell", "colourIn", "(I)I"⟩
abbrev bC_isGame : ByteArray := prog_2_method_4_code
def yC_isGame : MethodName := ⟨"PairedField$Cell", "isGame", "(I)Z"⟩
abbrev bC_isUntold : ByteArray := prog_2_method_5_code
def yC_isUntold : MethodName := ⟨"PairedField$Cell", "isUntold", "(I)Z"⟩
abbrev bC_opponentIn : ByteArray := prog_2_method_6_code
def yC_opponentIn : MethodName := ⟨"PairedField$Cell", "opponentIn", "(I)I"⟩
abbrev bC_resultIn : ByteArray := prog_2_method_8_code
def yC_resultIn : MethodName := ⟨"PairedField$Cell", "resultIn", "(I)I"⟩
abbrev bC_untoldGame : ByteArray := prog_2_method_2_code
def yC_untoldGame : MethodName := ⟨"PairedField$Cell", "untoldGame", "(II)I"⟩
abbrev bC_withResult : ByteArray := prog_2_method_3_code
def yC_withResult : MethodName := ⟨"PairedField$Cell", "withResult", "(II)I"⟩
abbrev bF_apart : ByteArray := prog_1_method_4_code
def yF_apart : MethodName := ⟨"PairedField", "apart", "(IIZ)Z"⟩
abbrev bF_back : ByteArray := prog_1_method_13_code
def yF_back : MethodName := ⟨"PairedField", "back", "()I"⟩
abbrev bF_close : ByteArray := prog_1_method_12_code
def yF_close : MethodName := ⟨"PairedField", "close", "()I"⟩
abbrev bF_closeRound : ByteArray := prog_1_method_27_code
def yF_closeRound : MethodName := ⟨"PairedField", "closeRound", "()V"⟩
abbrev bF_cost : ByteArray := prog_1_method_6_code
def yF_cost : MethodName := ⟨"PairedField", "cost", "()I"⟩
abbrev bF_countUntold : ByteArray := prog_1_method_30_code
def yF_countUntold : MethodName := ⟨"PairedField", "countUntold", "()I"⟩
abbrev bF_enter : ByteArray := prog_1_method_2_code
def yF_enter : MethodName := ⟨"PairedField", "enter", "()I"⟩
abbrev bF_had : ByteArray := prog_1_method_19_code
def yF_had : MethodName := ⟨"PairedField", "had", "(II)I"⟩
abbrev bF_init : ByteArray := prog_1_method_1_code
def yF_init : MethodName := ⟨"PairedField", "<init>", "(I)V"⟩
abbrev bF_isIn : ByteArray := prog_1_method_17_code
def yF_isIn : MethodName := ⟨"PairedField", "isIn", "(I)Z"⟩
abbrev bF_isPlayer : ByteArray := prog_1_method_21_code
def yF_isPlayer : MethodName := ⟨"PairedField", "isPlayer", "(I)Z"⟩
abbrev bF_isWhite : ByteArray := prog_1_method_9_code
def yF_isWhite : MethodName := ⟨"PairedField", "isWhite", "(I)Z"⟩
abbrev bF_leave : ByteArray := prog_1_method_3_code
def yF_leave : MethodName := ⟨"PairedField", "leave", "(I)V"⟩
abbrev bF_missing : ByteArray := prog_1_method_11_code
def yF_missing : MethodName := ⟨"PairedField", "missing", "()I"⟩
abbrev bF_noteResult : ByteArray := prog_1_method_28_code
def yF_noteResult : MethodName := ⟨"PairedField", "noteResult", "(II)V"⟩
abbrev bF_noteResultsByNumber : ByteArray := prog_1_method_29_code
def yF_noteResultsByNumber : MethodName := ⟨"PairedField", "noteResultsByNumber", "()V"⟩
abbrev bF_openNextRound : ByteArray := prog_1_method_26_code
def yF_openNextRound : MethodName := ⟨"PairedField", "openNextRound", "()Z"⟩
abbrev bF_opponent : ByteArray := prog_1_method_8_code
def yF_opponent : MethodName := ⟨"PairedField", "opponent", "(I)I"⟩
abbrev bF_pair : ByteArray := prog_1_method_5_code
def yF_pair : MethodName := ⟨"PairedField", "pair", "()I"⟩
abbrev bF_play : ByteArray := prog_1_method_14_code
def yF_play : MethodName := ⟨"PairedField", "play", "(I)I"⟩
abbrev bF_players : ByteArray := prog_1_method_15_code
def yF_players : MethodName := ⟨"PairedField", "players", "()I"⟩
abbrev bF_refuseNoPlayer : ByteArray := prog_1_method_22_code
def yF_refuseNoPlayer : MethodName := ⟨"PairedField", "refuseNoPlayer", "(I)V"⟩
abbrev bF_refuseNoRound : ByteArray := prog_1_method_24_code
def yF_refuseNoRound : MethodName := ⟨"PairedField", "refuseNoRound", "()V"⟩
abbrev bF_refuseOpenRound : ByteArray := prog_1_method_23_code
def yF_refuseOpenRound : MethodName := ⟨"PairedField", "refuseOpenRound", "()V"⟩
abbrev bF_report : ByteArray := prog_1_method_10_code
def yF_report : MethodName := ⟨"PairedField", "report", "(II)V"⟩
abbrev bF_rounds : ByteArray := prog_1_method_16_code
def yF_rounds : MethodName := ⟨"PairedField", "rounds", "()I"⟩
abbrev bF_table : ByteArray := prog_1_method_20_code
def yF_table : MethodName := ⟨"PairedField", "table", "(I)I"⟩
abbrev bF_tell : ByteArray := prog_1_method_18_code
def yF_tell : MethodName := ⟨"PairedField", "tell", "(II)I"⟩
abbrev bF_ways : ByteArray := prog_1_method_7_code
def yF_ways : MethodName := ⟨"PairedField", "ways", "()I"⟩
abbrev bF_workOutPairing : ByteArray := prog_1_method_25_code
def yF_workOutPairing : MethodName := ⟨"PairedField", "workOutPairing", "()V"⟩
abbrev bH_max : ByteArray := prog_12_method_65_code
def yH_max : MethodName := ⟨"java/lang/Math", "max", "(II)I"⟩
abbrev bH_min : ByteArray := prog_12_method_69_code
def yH_min : MethodName := ⟨"java/lang/Math", "min", "(II)I"⟩
abbrev bI_bitCount : ByteArray := prog_11_method_49_code
def yI_bitCount : MethodName := ⟨"java/lang/Integer", "bitCount", "(I)I"⟩
abbrev bI_numberOfTrailingZeros : ByteArray := prog_11_method_48_code
def yI_numberOfTrailingZeros : MethodName := ⟨"java/lang/Integer", "numberOfTrailingZeros", "(I)I"⟩
abbrev bL_apart : ByteArray := method_5_code
def yL_apart : MethodName := ⟨"PairedFieldLaw", "apart", "(LPairedField;IIZ[J)I"⟩
abbrev bL_back : ByteArray := method_13_code
def yL_back : MethodName := ⟨"PairedFieldLaw", "back", "(LPairedField;[J)I"⟩
abbrev bL_cell : ByteArray := method_2_code
def yL_cell : MethodName := ⟨"PairedFieldLaw", "cell", "([II)I"⟩
abbrev bL_close : ByteArray := method_12_code
def yL_close : MethodName := ⟨"PairedFieldLaw", "close", "(LPairedField;[J)I"⟩
abbrev bL_cost : ByteArray := method_7_code
def yL_cost : MethodName := ⟨"PairedFieldLaw", "cost", "(LPairedField;[J)I"⟩
abbrev bL_enter : ByteArray := method_3_code
def yL_enter : MethodName := ⟨"PairedFieldLaw", "enter", "(LPairedField;[J)I"⟩
abbrev bL_had : ByteArray := method_16_code
def yL_had : MethodName := ⟨"PairedFieldLaw", "had", "(LPairedField;II[J)I"⟩
abbrev bL_isWhite : ByteArray := method_9_code
def yL_isWhite : MethodName := ⟨"PairedFieldLaw", "isWhite", "(LPairedField;I[J)I"⟩
abbrev bL_leave : ByteArray := method_4_code
def yL_leave : MethodName := ⟨"PairedFieldLaw", "leave", "(LPairedField;I)I"⟩
abbrev bL_missing : ByteArray := method_11_code
def yL_missing : MethodName := ⟨"PairedFieldLaw", "missing", "(LPairedField;[J)I"⟩
abbrev bL_opponent : ByteArray := method_8_code
def yL_opponent : MethodName := ⟨"PairedFieldLaw", "opponent", "(LPairedField;I[J)I"⟩
abbrev bL_pair : ByteArray := method_6_code
def yL_pair : MethodName := ⟨"PairedFieldLaw", "pair", "(LPairedField;[J)I"⟩
abbrev bL_play : ByteArray := method_14_code
def yL_play : MethodName := ⟨"PairedFieldLaw", "play", "(LPairedField;I[J)I"⟩
abbrev bL_report : ByteArray := method_10_code
def yL_report : MethodName := ⟨"PairedFieldLaw", "report", "(LPairedField;II)I"⟩
abbrev bL_table : ByteArray := method_17_code
def yL_table : MethodName := ⟨"PairedFieldLaw", "table", "(LPairedField;I[J)I"⟩
abbrev bL_tell : ByteArray := method_15_code
def yL_tell : MethodName := ⟨"PairedFieldLaw", "tell", "(LPairedField;II[J)I"⟩
abbrev bM_apart : ByteArray := prog_6_method_7_code
def yM_apart : MethodName := ⟨"PairedFieldModel", "apart", "(IIZ)Z"⟩
abbrev bM_back : ByteArray := prog_6_method_37_code
def yM_back : MethodName := ⟨"PairedFieldModel", "back", "()I"⟩
abbrev bM_balanceOf : ByteArray := prog_6_method_10_code
def yM_balanceOf : MethodName := ⟨"PairedFieldModel", "balanceOf", "(I)I"⟩
abbrev bM_bergerOf : ByteArray := prog_6_method_16_code
def yM_bergerOf : MethodName := ⟨"PairedFieldModel", "bergerOf", "(I)I"⟩
abbrev bM_buchholzOf : ByteArray := prog_6_method_15_code
def yM_buchholzOf : MethodName := ⟨"PairedFieldModel", "buchholzOf", "(I)I"⟩
abbrev bM_byesOf : ByteArray := prog_6_method_12_code
def yM_byesOf : MethodName := ⟨"PairedFieldModel", "byesOf", "(I)I"⟩
abbrev bM_canPair : ByteArray := prog_6_method_26_code
def yM_canPair : MethodName := ⟨"PairedFieldModel", "canPair", "()Z"⟩
abbrev bM_clashes : ByteArray := prog_6_method_19_code
def yM_clashes : MethodName := ⟨"PairedFieldModel", "clashes", "(II)I"⟩
abbrev bM_close : ByteArray := prog_6_method_36_code
def yM_close : MethodName := ⟨"PairedFieldModel", "close", "()I"⟩
abbrev bM_colourOf : ByteArray := prog_6_method_11_code
def yM_colourOf : MethodName := ⟨"PairedFieldModel", "colourOf", "(II)I"⟩
abbrev bM_cost : ByteArray := prog_6_method_29_code
def yM_cost : MethodName := ⟨"PairedFieldModel", "cost", "()I"⟩
abbrev bM_costOf : ByteArray := prog_6_method_20_code
def yM_costOf : MethodName := ⟨"PairedFieldModel", "costOf", "(II)I"⟩
abbrev bM_enter : ByteArray := prog_6_method_5_code
def yM_enter : MethodName := ⟨"PairedFieldModel", "enter", "()I"⟩
abbrev bM_findBye : ByteArray := prog_6_method_22_code
def yM_findBye : MethodName := ⟨"PairedFieldModel", "findBye", "()I"⟩
abbrev bM_gamesOf : ByteArray := prog_6_method_14_code
def yM_gamesOf : MethodName := ⟨"PairedFieldModel", "gamesOf", "(I)I"⟩
abbrev bM_had : ByteArray := prog_6_method_43_code
def yM_had : MethodName := ⟨"PairedFieldModel", "had", "(II)I"⟩
abbrev bM_hadEachOther : ByteArray := prog_6_method_17_code
def yM_hadEachOther : MethodName := ⟨"PairedFieldModel", "hadEachOther", "(II)Z"⟩
abbrev bM_hadGame : ByteArray := prog_6_method_8_code
def yM_hadGame : MethodName := ⟨"PairedFieldModel", "hadGame", "(II)Z"⟩
abbrev bM_inMany : ByteArray := prog_6_method_21_code
def yM_inMany : MethodName := ⟨"PairedFieldModel", "inMany", "()I"⟩
abbrev bM_init : ByteArray := prog_6_method_1_code
def yM_init : MethodName := ⟨"PairedFieldModel", "<init>", "(I)V"⟩
abbrev bM_isBefore : ByteArray := prog_6_method_44_code
def yM_isBefore : MethodName := ⟨"PairedFieldModel", "isBefore", "(II)Z"⟩
abbrev bM_isFirstWhite : ByteArray := prog_6_method_18_code
def yM_isFirstWhite : MethodName := ⟨"PairedFieldModel", "isFirstWhite", "(II)Z"⟩
abbrev bM_isIn : ByteArray := prog_6_method_41_code
def yM_isIn : MethodName := ⟨"PairedFieldModel", "isIn", "(I)Z"⟩
abbrev bM_isPlayer : ByteArray := prog_6_method_3_code
def yM_isPlayer : MethodName := ⟨"PairedFieldModel", "isPlayer", "(I)Z"⟩
abbrev bM_isWhite : ByteArray := prog_6_method_32_code
def yM_isWhite : MethodName := ⟨"PairedFieldModel", "isWhite", "(I)Z"⟩
abbrev bM_leave : ByteArray := prog_6_method_6_code
def yM_leave : MethodName := ⟨"PairedFieldModel", "leave", "(I)V"⟩
abbrev bM_lineUp : ByteArray := prog_6_method_23_code
def yM_lineUp : MethodName := ⟨"PairedFieldModel", "lineUp", "()V"⟩
abbrev bM_missing : ByteArray := prog_6_method_35_code
def yM_missing : MethodName := ⟨"PairedFieldModel", "missing", "()I"⟩
abbrev bM_openRound : ByteArray := prog_6_method_27_code
def yM_openRound : MethodName := ⟨"PairedFieldModel", "openRound", "()I"⟩
abbrev bM_opponent : ByteArray := prog_6_method_31_code
def yM_opponent : MethodName := ⟨"PairedFieldModel", "opponent", "(I)I"⟩
abbrev bM_pair : ByteArray := prog_6_method_28_code
def yM_pair : MethodName := ⟨"PairedFieldModel", "pair", "()I"⟩
abbrev bM_play : ByteArray := prog_6_method_38_code
def yM_play : MethodName := ⟨"PairedFieldModel", "play", "(I)I"⟩
abbrev bM_players : ByteArray := prog_6_method_39_code
def yM_players : MethodName := ⟨"PairedFieldModel", "players", "()I"⟩
abbrev bM_refused : ByteArray := prog_6_method_4_code
def yM_refused : MethodName := ⟨"PairedFieldModel", "refused", "(ZZZ)Z"⟩
abbrev bM_report : ByteArray := prog_6_method_33_code
def yM_report : MethodName := ⟨"PairedFieldModel", "report", "(II)V"⟩
abbrev bM_rounds : ByteArray := prog_6_method_40_code
def yM_rounds : MethodName := ⟨"PairedFieldModel", "rounds", "()I"⟩
abbrev bM_scoreOf : ByteArray := prog_6_method_9_code
def yM_scoreOf : MethodName := ⟨"PairedFieldModel", "scoreOf", "(I)I"⟩
abbrev bM_table : ByteArray := prog_6_method_45_code
def yM_table : MethodName := ⟨"PairedFieldModel", "table", "(I)I"⟩
abbrev bM_tell : ByteArray := prog_6_method_42_code
def yM_tell : MethodName := ⟨"PairedFieldModel", "tell", "(II)I"⟩
abbrev bM_thrown : ByteArray := prog_6_method_2_code
def yM_thrown : MethodName := ⟨"PairedFieldModel", "thrown", "()I"⟩
abbrev bM_untold : ByteArray := prog_6_method_34_code
def yM_untold : MethodName := ⟨"PairedFieldModel", "untold", "()I"⟩
abbrev bM_ways : ByteArray := prog_6_method_30_code
def yM_ways : MethodName := ⟨"PairedFieldModel", "ways", "()I"⟩
abbrev bM_whole : ByteArray := prog_6_method_25_code
def yM_whole : MethodName := ⟨"PairedFieldModel", "whole", "()I"⟩
abbrev bM_wonOf : ByteArray := prog_6_method_13_code
def yM_wonOf : MethodName := ⟨"PairedFieldModel", "wonOf", "(I)I"⟩
abbrev bM_work : ByteArray := prog_6_method_24_code
def yM_work : MethodName := ⟨"PairedFieldModel", "work", "()V"⟩
abbrev bP_allSeats : ByteArray := prog_3_method_17_code
def yP_allSeats : MethodName := ⟨"PairedField$Pairing", "allSeats", "()I"⟩
abbrev bP_bestPartner : ByteArray := prog_3_method_14_code
def yP_bestPartner : MethodName := ⟨"PairedField$Pairing", "bestPartner", "(II)I"⟩
abbrev bP_canBeLeft : ByteArray := prog_3_method_16_code
def yP_canBeLeft : MethodName := ⟨"PairedField$Pairing", "canBeLeft", "(I)Z"⟩
abbrev bP_chooseBye : ByteArray := prog_3_method_8_code
def yP_chooseBye : MethodName := ⟨"PairedField$Pairing", "chooseBye", "(LPairedField$Standing;[Z)V"⟩
abbrev bP_count : ByteArray := prog_3_method_6_code
def yP_count : MethodName := ⟨"PairedField$Pairing", "count", "()I"⟩
abbrev bP_evenSet : ByteArray := prog_3_method_20_code
def yP_evenSet : MethodName := ⟨"PairedField$Pairing", "evenSet", "(I)I"⟩
abbrev bP_games : ByteArray := prog_3_method_4_code
def yP_games : MethodName := ⟨"PairedField$Pairing", "games", "()I"⟩
abbrev bP_indexOf : ByteArray := prog_3_method_19_code
def yP_indexOf : MethodName := ⟨"PairedField$Pairing", "indexOf", "(I)I"⟩
abbrev bP_init : ByteArray := prog_3_method_1_code
def yP_init : MethodName := ⟨"PairedField$Pairing", "<init>", "()V"⟩
abbrev bP_isPossible : ByteArray := prog_3_method_3_code
def yP_isPossible : MethodName := ⟨"PairedField$Pairing", "isPossible", "()Z"⟩
abbrev bP_leastCost : ByteArray := prog_3_method_5_code
def yP_leastCost : MethodName := ⟨"PairedField$Pairing", "leastCost", "()I"⟩
abbrev bP_mayPlay : ByteArray := prog_3_method_15_code
def yP_mayPlay : MethodName := ⟨"PairedField$Pairing", "mayPlay", "(III)Z"⟩
abbrev bP_priceGames : ByteArray := prog_3_method_11_code
def yP_priceGames : MethodName := ⟨"PairedField$Pairing", "priceGames", "(LPairedField$Standing;[II)V"⟩
abbrev bP_seatOne : ByteArray := prog_3_method_10_code
def yP_seatOne : MethodName := ⟨"PairedField$Pairing", "seatOne", "(LPairedField$Standing;I)V"⟩
abbrev bP_seatPlayers : ByteArray := prog_3_method_9_code
def yP_seatPlayers : MethodName := ⟨"PairedField$Pairing", "seatPlayers", "(LPairedField$Standing;[Z)V"⟩
abbrev bP_solve : ByteArray := prog_3_method_12_code
def yP_solve : MethodName := ⟨"PairedField$Pairing", "solve", "()V"⟩
abbrev bP_solveSet : ByteArray := prog_3_method_13_code
def yP_solveSet : MethodName := ⟨"PairedField$Pairing", "solveSet", "(I)V"⟩
abbrev bP_without : ByteArray := prog_3_method_18_code
def yP_without : MethodName := ⟨"PairedField$Pairing", "without", "(III)I"⟩
abbrev bP_workOut : ByteArray := prog_3_method_2_code
def yP_workOut : MethodName := ⟨"PairedField$Pairing", "workOut", "(LPairedField$Standing;[Z[II)V"⟩
abbrev bP_writeTo : ByteArray := prog_3_method_7_code
def yP_writeTo : MethodName := ⟨"PairedField$Pairing", "writeTo", "([ILPairedField$Standing;I)V"⟩
abbrev bS_clashes : ByteArray := prog_4_method_12_code
def yS_clashes : MethodName := ⟨"PairedField$Standing", "clashes", "(II)I"⟩
abbrev bS_clear : ByteArray := prog_4_method_3_code
def yS_clear : MethodName := ⟨"PairedField$Standing", "clear", "()V"⟩
abbrev bS_colourOfFirst : ByteArray := prog_4_method_10_code
def yS_colourOfFirst : MethodName := ⟨"PairedField$Standing", "colourOfFirst", "(III)I"⟩
abbrev bS_costOfGame : ByteArray := prog_4_method_11_code
def yS_costOfGame : MethodName := ⟨"PairedField$Standing", "costOfGame", "(III)I"⟩
abbrev bS_countCell : ByteArray := prog_4_method_4_code
def yS_countCell : MethodName := ⟨"PairedField$Standing", "countCell", "(II)V"⟩
abbrev bS_countOpponent : ByteArray := prog_4_method_5_code
def yS_countOpponent : MethodName := ⟨"PairedField$Standing", "countOpponent", "(II)V"⟩
abbrev bS_getsByeBefore : ByteArray := prog_4_method_9_code
def yS_getsByeBefore : MethodName := ⟨"PairedField$Standing", "getsByeBefore", "(II)Z"⟩
abbrev bS_init : ByteArray := prog_4_method_1_code
def yS_init : MethodName := ⟨"PairedField$Standing", "<init>", "()V"⟩
abbrev bS_isBeforeInOrder : ByteArray := prog_4_method_6_code
def yS_isBeforeInOrder : MethodName := ⟨"PairedField$Standing", "isBeforeInOrder", "(II)Z"⟩
abbrev bS_isBeforeInTable : ByteArray := prog_4_method_7_code
def yS_isBeforeInTable : MethodName := ⟨"PairedField$Standing", "isBeforeInTable", "(II)Z"⟩
abbrev bS_playerAt : ByteArray := prog_4_method_8_code
def yS_playerAt : MethodName := ⟨"PairedField$Standing", "playerAt", "(II)I"⟩
abbrev bS_recount : ByteArray := prog_4_method_2_code
def yS_recount : MethodName := ⟨"PairedField$Standing", "recount", "([[II)V"⟩
def R_F : String := "PairedField"
def T_F : u_T := fun k => match k with
  | 0 => ("PairedField", "cells", "[[I", true)
  | 1 => ("PairedField", "present", "[Z", true)
  | 2 => ("PairedField", "apartFrom", "[I", true)
  | 3 => ("PairedField", "standing", "LPairedField$Standing;", true)
  | 4 => ("PairedField", "pairing", "LPairedField$Pairing;", true)
  | 5 => ("PairedField", "playerCount", "I", false)
  | 6 => ("PairedField", "closedRounds", "I", false)
  | _ => ("PairedField", "open", "Z", false)
def ty_F : Nat → FieldType := fun k => match k with
  | 0 => .array (.array .int)
  | 1 => .array .boolean
  | 2 => .array .int
  | 3 => .object "PairedField$Standing"
  | 4 => .object "PairedField$Pairing"
  | 5 => .int
  | 6 => .int
  | _ => .boolean
theorem nm_F : ∀ a, a < 8 → ∀ b, b < 8 → a ≠ b → (T_F a).2.1 ≠ (T_F b).2.1 := by decide +kernel
theorem tk_F : ∀ k, k < 8 → parseFieldDescriptor (T_F k).2.2.1 = some (ty_F k) := by decide +kernel
theorem in_F : ∀ x ∈ u_ws R_F T_F 8, x ∈ Ttab := by
  intro x hx
  have h : x ∈ ([.laysFinal "PairedField" "PairedField" "cells" "[[I", .laysFinal "PairedField" "PairedField" "present" "[Z", .laysFinal "PairedField" "PairedField" "apartFrom" "[I", .laysFinal "PairedField" "PairedField" "standing" "LPairedField$Standing;", .laysFinal "PairedField" "PairedField" "pairing" "LPairedField$Pairing;", .lays "PairedField" "PairedField" "playerCount" "I", .lays "PairedField" "PairedField" "closedRounds" "I", .lays "PairedField" "PairedField" "open" "Z"] : List Cond) := hx
  simp only [List.mem_cons, List.not_mem_nil, or_false] at h
  rcases h with rfl | rfl | rfl | rfl | rfl | rfl | rfl | rfl
  · exact t1_mem 113 rfl rfl
  · exact t1_mem 115 rfl rfl
  · exact t1_mem 117 rfl rfl
  · exact t1_mem 119 rfl rfl
  · exact t1_mem 121 rfl rfl
  · exact t1_mem 123 rfl rfl
  · exact t1_mem 125 rfl rfl
  · exact t1_mem 127 rfl rfl
def R_S : String := "PairedField$Standing"
def T_S : u_T := fun k => match k with
  | 0 => ("PairedField$Standing", "score", "[I", true)
  | 1 => ("PairedField$Standing", "balance", "[I", true)
  | 2 => ("PairedField$Standing", "buchholz", "[I", true)
  | 3 => ("PairedField$Standing", "berger", "[I", true)
  | 4 => ("PairedField$Standing", "wins", "[I", true)
  | 5 => ("PairedField$Standing", "byes", "[I", true)
  | 6 => ("PairedField$Standing", "games", "[I", true)
  | 7 => ("PairedField$Standing", "latest", "[I", true)
  | 8 => ("PairedField$Standing", "lastButOne", "[I", true)
  | _ => ("PairedField$Standing", "met", "[I", true)
def ty_S : Nat → FieldType := fun k => match k with
  | 0 => .array .int
  | 1 => .array .int
  | 2 => .array .int
  | 3 => .array .int
  | 4 => .array .int
  | 5 => .array .int
  | 6 => .array .int
  | 7 => .array .int
  | 8 => .array .int
  | _ => .array .int
theorem nm_S : ∀ a, a < 10 → ∀ b, b < 10 → a ≠ b → (T_S a).2.1 ≠ (T_S b).2.1 := by decide +kernel
theorem tk_S : ∀ k, k < 10 → parseFieldDescriptor (T_S k).2.2.1 = some (ty_S k) := by decide +kernel
theorem in_S : ∀ x ∈ u_ws R_S T_S 10, x ∈ Ttab := by
  intro x hx
  have h : x ∈ ([.laysFinal "PairedField$Standing" "PairedField$Standing" "score" "[I", .laysFinal "PairedField$Standing" "PairedField$Standing" "balance" "[I", .laysFinal "PairedField$Standing" "PairedField$Standing" "buchholz" "[I", .laysFinal "PairedField$Standing" "PairedField$Standing" "berger" "[I", .laysFinal "PairedField$Standing" "PairedField$Standing" "wins" "[I", .laysFinal "PairedField$Standing" "PairedField$Standing" "byes" "[I", .laysFinal "PairedField$Standing" "PairedField$Standing" "games" "[I", .laysFinal "PairedField$Standing" "PairedField$Standing" "latest" "[I", .laysFinal "PairedField$Standing" "PairedField$Standing" "lastButOne" "[I", .laysFinal "PairedField$Standing" "PairedField$Standing" "met" "[I"] : List Cond) := hx
  simp only [List.mem_cons, List.not_mem_nil, or_false] at h
  rcases h with rfl | rfl | rfl | rfl | rfl | rfl | rfl | rfl | rfl | rfl
  · exact t1_mem 50 rfl rfl
  · exact t1_mem 52 rfl rfl
  · exact t1_mem 54 rfl rfl
  · exact t1_mem 56 rfl rfl
  · exact t1_mem 58 rfl rfl
  · exact t1_mem 60 rfl rfl
  · exact t1_mem 62 rfl rfl
  · exact t1_mem 64 rfl rfl
  · exact t1_mem 66 rfl rfl
  · exact t1_mem 68 rfl rfl
def R_P : String := "PairedField$Pairing"
def T_P : u_T := fun k => match k with
  | 0 => ("PairedField$Pairing", "seated", "[I", true)
  | 1 => ("PairedField$Pairing", "seats", "I", false)
  | 2 => ("PairedField$Pairing", "byePlayer", "I", false)
  | 3 => ("PairedField$Pairing", "price", "[[I", true)
  | 4 => ("PairedField$Pairing", "least", "[I", true)
  | _ => ("PairedField$Pairing", "counted", "[I", true)
def ty_P : Nat → FieldType := fun k => match k with
  | 0 => .array .int
  | 1 => .int
  | 2 => .int
  | 3 => .array (.array .int)
  | 4 => .array .int
  | _ => .array .int
theorem nm_P : ∀ a, a < 6 → ∀ b, b < 6 → a ≠ b → (T_P a).2.1 ≠ (T_P b).2.1 := by decide +kernel
theorem tk_P : ∀ k, k < 6 → parseFieldDescriptor (T_P k).2.2.1 = some (ty_P k) := by decide +kernel
theorem in_P : ∀ x ∈ u_ws R_P T_P 6, x ∈ Ttab := by
  intro x hx
  have h : x ∈ ([.laysFinal "PairedField$Pairing" "PairedField$Pairing" "seated" "[I", .lays "PairedField$Pairing" "PairedField$Pairing" "seats" "I", .lays "PairedField$Pairing" "PairedField$Pairing" "byePlayer" "I", .laysFinal "PairedField$Pairing" "PairedField$Pairing" "price" "[[I", .laysFinal "PairedField$Pairing" "PairedField$Pairing" "least" "[I", .laysFinal "PairedField$Pairing" "PairedField$Pairing" "counted" "[I"] : List Cond) := hx
  simp only [List.mem_cons, List.not_mem_nil, or_false] at h
  rcases h with rfl | rfl | rfl | rfl | rfl | rfl
  · exact t1_mem 86 rfl rfl
  · exact t1_mem 88 rfl rfl
  · exact t1_mem 90 rfl rfl
  · exact t1_mem 92 rfl rfl
  · exact t1_mem 94 rfl rfl
  · exact t1_mem 96 rfl rfl
def R_M : String := "PairedFieldModel"
def T_M : u_T := fun k => match k with
  | 0 => ("PairedFieldModel", "thrown", "I", false)
  | 1 => ("PairedFieldModel", "players", "I", false)
  | 2 => ("PairedFieldModel", "in", "[Z", true)
  | 3 => ("PairedFieldModel", "kept", "[Z", true)
  | 4 => ("PairedFieldModel", "closed", "I", false)
  | 5 => ("PairedFieldModel", "open", "Z", false)
  | 6 => ("PairedFieldModel", "opponents", "[I", true)
  | 7 => ("PairedFieldModel", "whites", "[Z", true)
  | 8 => ("PairedFieldModel", "results", "[I", true)
  | 9 => ("PairedFieldModel", "many", "I", false)
  | 10 => ("PairedFieldModel", "order", "[I", true)
  | 11 => ("PairedFieldModel", "bye", "I", false)
  | 12 => ("PairedFieldModel", "costs", "[I", true)
  | 13 => ("PairedFieldModel", "best", "[I", true)
  | 14 => ("PairedFieldModel", "pick", "[I", true)
  | 15 => ("PairedFieldModel", "waysOf", "[I", true)
  | _ => ("PairedFieldModel", "places", "[I", true)
def ty_M : Nat → FieldType := fun k => match k with
  | 0 => .int
  | 1 => .int
  | 2 => .array .boolean
  | 3 => .array .boolean
  | 4 => .int
  | 5 => .boolean
  | 6 => .array .int
  | 7 => .array .boolean
  | 8 => .array .int
  | 9 => .int
  | 10 => .array .int
  | 11 => .int
  | 12 => .array .int
  | 13 => .array .int
  | 14 => .array .int
  | 15 => .array .int
  | _ => .array .int
theorem nm_M : ∀ a, a < 17 → ∀ b, b < 17 → a ≠ b → (T_M a).2.1 ≠ (T_M b).2.1 := by decide +kernel
theorem tk_M : ∀ k, k < 17 → parseFieldDescriptor (T_M k).2.2.1 = some (ty_M k) := by decide +kernel
theorem in_M : ∀ x ∈ u_ws R_M T_M 17, x ∈ Ttab := by
  intro x hx
  have h : x ∈ ([.lays "PairedFieldModel" "PairedFieldModel" "thrown" "I", .lays "PairedFieldModel" "PairedFieldModel" "players" "I", .laysFinal "PairedFieldModel" "PairedFieldModel" "in" "[Z", .laysFinal "PairedFieldModel" "PairedFieldModel" "kept" "[Z", .lays "PairedFieldModel" "PairedFieldModel" "closed" "I", .lays "PairedFieldModel" "PairedFieldModel" "open" "Z", .laysFinal "PairedFieldModel" "PairedFieldModel" "opponents" "[I", .laysFinal "PairedFieldModel" "PairedFieldModel" "whites" "[Z", .laysFinal "PairedFieldModel" "PairedFieldModel" "results" "[I", .lays "PairedFieldModel" "PairedFieldModel" "many" "I", .laysFinal "PairedFieldModel" "PairedFieldModel" "order" "[I", .lays "PairedFieldModel" "PairedFieldModel" "bye" "I", .laysFinal "PairedFieldModel" "PairedFieldModel" "costs" "[I", .laysFinal "PairedFieldModel" "PairedFieldModel" "best" "[I", .laysFinal "PairedFieldModel" "PairedFieldModel" "pick" "[I", .laysFinal "PairedFieldModel" "PairedFieldModel" "waysOf" "[I", .laysFinal "PairedFieldModel" "PairedFieldModel" "places" "[I"] : List Cond) := hx
  simp only [List.mem_cons, List.not_mem_nil, or_false] at h
  rcases h with rfl | rfl | rfl | rfl | rfl | rfl | rfl | rfl | rfl | rfl | rfl | rfl | rfl | rfl | rfl | rfl | rfl
  · exact t3_mem 132 rfl rfl
  · exact t3_mem 134 rfl rfl
  · exact t3_mem 136 rfl rfl
  · exact t3_mem 138 rfl rfl
  · exact t3_mem 140 rfl rfl
  · exact t3_mem 142 rfl rfl
  · exact t3_mem 144 rfl rfl
  · exact t3_mem 146 rfl rfl
  · exact t3_mem 148 rfl rfl
  · exact t3_mem 150 rfl rfl
  · exact t3_mem 152 rfl rfl
  · exact t3_mem 154 rfl rfl
  · exact t3_mem 156 rfl rfl
  · exact t3_mem 158 rfl rfl
  · exact t3_mem 160 rfl rfl
  · exact t3_mem 162 rfl rfl
  · exact t3_mem 164 rfl rfl
abbrev classes : List vw_C := [(R_F, T_F, 8), (R_S, T_S, 10), (R_P, T_P, 6), (R_M, T_M, 17)]
/-- where the cells stand; class numbers and slots; the array classes of int, boolean, int[], long -/
abbrev GG : Type := (Nat → Nat) × va_G × (ClassId × ClassId × ClassId × ClassId)
abbrev tysOf (g : GG) : List (ClassId × FieldType) := [(g.2.2.1, .int), (g.2.2.2.1, .boolean), (g.2.2.2.2.1, .array .int), (g.2.2.2.2.2, .long)]
abbrev Wd : Type := Nat → Nat → Int32
abbrev NC : Nat := 61
/-- how long an array of ints is; 0: the cell is none -/
def lenI (q : Nat) : Nat := if 2 ≤ q ∧ q < 18 then 12 else if q = 19 then 12 else if 21 ≤ q ∧ q < 31 then 12 else if q = 32 then 12 else if 34 ≤ q ∧ q < 46 then 12 else if q = 46 ∨ q = 47 then 2048 else if q = 51 ∨ q = 53 then 204 else if q = 54 ∨ q = 59 then 12 else if q = 55 then 144 else if q = 56 ∨ q = 57 ∨ q = 58 then 4096 else 0
def lenZ (q : Nat) : Nat := if q = 18 ∨ q = 49 then 12 else if q = 50 then 144 else if q = 52 then 204 else 0
def lenA (q : Nat) : Nat := if q = 1 then 16 else if q = 33 then 12 else 0
/-- what a cell is -/
def ent (g : GG) (f : Nat → Int32) (q : Nat) : va_E :=
  if 0 < lenI q then .inl (g.2.2.1, lenI q, .inl f)
  else if 0 < lenZ q then .inl (g.2.2.2.1, lenZ q, .inl f)
  else if 0 < lenA q then .inl (g.2.2.2.2.1, lenA q, .inr (.inr (.inr (.inr (fun j => some (g.1 (q + 1 + j)))))))
  else if q = 0 then .inr (0, [.ref (g.1 1), .ref (g.1 18), .ref (g.1 19), .ref (g.1 20), .ref (g.1 31), .int (f 5), .int (f 6), .int (f 7)])
  else if q = 20 then .inr (1, [.ref (g.1 21), .ref (g.1 22), .ref (g.1 23), .ref (g.1 24), .ref (g.1 25), .ref (g.1 26), .ref (g.1 27), .ref (g.1 28), .ref (g.1 29), .ref (g.1 30)])
  else if q = 31 then .inr (2, [.ref (g.1 32), .int (f 1), .int (f 2), .ref (g.1 33), .ref (g.1 46), .ref (g.1 47)])
  else if q = 48 then .inr (3, [.int (f 0), .int (f 1), .ref (g.1 49), .ref (g.1 50), .int (f 4), .int (f 5), .ref (g.1 51), .ref (g.1 52), .ref (g.1 53), .int (f 9), .ref (g.1 54), .int (f 11), .ref (g.1 55), .ref (g.1 56), .ref (g.1 57), .ref (g.1 58), .ref (g.1 59)])
  else .inl (g.2.2.2.2.2, 1, .inr (.inl (fun i => (f i).toInt64)))
def cellsOf (g : GG) (w : Wd) : va_W := (List.range NC).map (fun k => (g.1 k, ent g (w k) k))
theorem lenI_lt {q : Nat} (h : 0 < lenI q) : q < NC := by
  unfold lenI at h
  unfold NC
  split at h
  · omega
  · repeat (split at h; omega)
    exact absurd h (Nat.lt_irrefl 0)
theorem lenI_le (q : Nat) : lenI q ≤ 4096 := by
  unfold lenI
  repeat (split; omega)
  omega
theorem lenZ_le (q : Nat) : lenZ q ≤ 204 := by
  unfold lenZ
  repeat (split; omega)
  omega
theorem lenZ_lt {q : Nat} (h : 0 < lenZ q) : q < NC ∧ lenI q = 0 := by
  have hq : q = 18 ∨ q = 49 ∨ q = 50 ∨ q = 52 := by
    unfold lenZ at h
    split at h
    · omega
    · repeat (split at h; omega)
      exact absurd h (Nat.lt_irrefl 0)
  rcases hq with rfl | rfl | rfl | rfl <;> exact ⟨by decide, by decide⟩
theorem lenA_lt {q : Nat} (h : 0 < lenA q) : q < NC ∧ lenI q = 0 ∧ lenZ q = 0 := by
  have hq : q = 1 ∨ q = 33 := by
    unfold lenA at h
    split at h
    · omega
    · repeat (split at h; omega)
      exact absurd h (Nat.lt_irrefl 0)
  rcases hq with rfl | rfl <;> exact ⟨by decide, by decide, by decide⟩
theorem ent_I {q : Nat} (h : 0 < lenI q) (g : GG) (f : Nat → Int32) : q < NC ∧ ent g f q = .inl (g.2.2.1, lenI q, .inl f) := ⟨lenI_lt h, by unfold ent; rw [if_pos h]⟩
theorem ent_Z {q : Nat} (h : 0 < lenZ q) (g : GG) (f : Nat → Int32) : q < NC ∧ ent g f q = .inl (g.2.2.2.1, lenZ q, .inl f) := by
  obtain ⟨h1, h2⟩ := lenZ_lt h
  refine ⟨h1, ?_⟩
  unfold ent
  rw [if_neg (by omega), if_pos h]
theorem ent_A {q : Nat} (h : 0 < lenA q) (g : GG) (f : Nat → Int32) : q < NC ∧ ent g f q = .inl (g.2.2.2.2.1, lenA q, .inr (.inr (.inr (.inr (fun j => some (g.1 (q + 1 + j))))))) := by
  obtain ⟨h1, h2, h3⟩ := lenA_lt h
  refine ⟨h1, ?_⟩
  unfold ent
  rw [if_neg (by omega), if_neg (by omega), if_pos h]
theorem ent_F (g : GG) (f : Nat → Int32) : ent g f 0 = .inr (0, [.ref (g.1 1), .ref (g.1 18), .ref (g.1 19), .ref (g.1 20), .ref (g.1 31), .int (f 5), .int (f 6), .int (f 7)]) := rfl
theorem ent_S (g : GG) (f : Nat → Int32) : ent g f 20 = .inr (1, [.ref (g.1 21), .ref (g.1 22), .ref (g.1 23), .ref (g.1 24), .ref (g.1 25), .ref (g.1 26), .ref (g.1 27), .ref (g.1 28), .ref (g.1 29), .ref (g.1 30)]) := rfl
theorem ent_P (g : GG) (f : Nat → Int32) : ent g f 31 = .inr (2, [.ref (g.1 32), .int (f 1), .int (f 2), .ref (g.1 33), .ref (g.1 46), .ref (g.1 47)]) := rfl
theorem ent_M (g : GG) (f : Nat → Int32) : ent g f 48 = .inr (3, [.int (f 0), .int (f 1), .ref (g.1 49), .ref (g.1 50), .int (f 4), .int (f 5), .ref (g.1 51), .ref (g.1 52), .ref (g.1 53), .int (f 9), .ref (g.1 54), .int (f 11), .ref (g.1 55), .ref (g.1 56), .ref (g.1 57), .ref (g.1 58), .ref (g.1 59)]) := rfl
theorem ent_out (g : GG) (f : Nat → Int32) : ent g f 60 = .inl (g.2.2.2.2.2, 1, .inr (.inl (fun i => (f i).toInt64))) := rfl
