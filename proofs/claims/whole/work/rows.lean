section
-- ===== PART A: goes FIRST, ahead of the names: the tables' words, and 'selects' of the private methods out of them =====
/-- a private method of a class that the tables say can be made, by its rows of tables_1 -/
def lw_okq (q : MethodName × Nat) : Prop := (q.1.cls ≠ "java/lang/invoke/MethodHandle" ∧ q.1.cls ≠ "java/lang/invoke/VarHandle") ∧ Cond.instantiable q.1.cls q.2 ∈ tables_1 ∧ Cond.privateMethod q.1 ∈ tables_1 ∧ Cond.instanceMethod q.1 ∈ tables_1
theorem lw_p0 : lw_okq (⟨"PairedField", "workOutPairing", "()V"⟩, 8) := ⟨⟨by decide +kernel, by decide +kernel⟩, List.mem_of_getElem? (i := 17) (by decide +kernel), List.mem_of_getElem? (i := 135) (by decide +kernel), List.mem_of_getElem? (i := 136) (by decide +kernel)⟩
theorem lw_p1 : lw_okq (⟨"PairedField$Pairing", "chooseBye", "(LPairedField$Standing;[Z)V"⟩, 6) := ⟨⟨by decide +kernel, by decide +kernel⟩, List.mem_of_getElem? (i := 74) (by decide +kernel), List.mem_of_getElem? (i := 143) (by decide +kernel), List.mem_of_getElem? (i := 144) (by decide +kernel)⟩
theorem lw_p2 : lw_okq (⟨"PairedField$Pairing", "seatPlayers", "(LPairedField$Standing;[Z)V"⟩, 6) := ⟨⟨by decide +kernel, by decide +kernel⟩, List.mem_of_getElem? (i := 74) (by decide +kernel), List.mem_of_getElem? (i := 151) (by decide +kernel), List.mem_of_getElem? (i := 152) (by decide +kernel)⟩
theorem lw_p3 : lw_okq (⟨"PairedField$Pairing", "seatOne", "(LPairedField$Standing;I)V"⟩, 6) := ⟨⟨by decide +kernel, by decide +kernel⟩, List.mem_of_getElem? (i := 74) (by decide +kernel), List.mem_of_getElem? (i := 155) (by decide +kernel), List.mem_of_getElem? (i := 156) (by decide +kernel)⟩
theorem lw_p4 : lw_okq (⟨"PairedField$Pairing", "priceGames", "(LPairedField$Standing;[II)V"⟩, 6) := ⟨⟨by decide +kernel, by decide +kernel⟩, List.mem_of_getElem? (i := 74) (by decide +kernel), List.mem_of_getElem? (i := 163) (by decide +kernel), List.mem_of_getElem? (i := 164) (by decide +kernel)⟩
theorem lw_p5 : lw_okq (⟨"PairedField$Standing", "clashes", "(II)I"⟩, 10) := ⟨⟨by decide +kernel, by decide +kernel⟩, List.mem_of_getElem? (i := 27) (by decide +kernel), List.mem_of_getElem? (i := 175) (by decide +kernel), List.mem_of_getElem? (i := 176) (by decide +kernel)⟩
theorem lw_p6 : lw_okq (⟨"PairedField$Pairing", "solve", "()V"⟩, 6) := ⟨⟨by decide +kernel, by decide +kernel⟩, List.mem_of_getElem? (i := 74) (by decide +kernel), List.mem_of_getElem? (i := 179) (by decide +kernel), List.mem_of_getElem? (i := 180) (by decide +kernel)⟩
theorem lw_p7 : lw_okq (⟨"PairedField$Pairing", "canBeLeft", "(I)Z"⟩, 6) := ⟨⟨by decide +kernel, by decide +kernel⟩, List.mem_of_getElem? (i := 74) (by decide +kernel), List.mem_of_getElem? (i := 192) (by decide +kernel), List.mem_of_getElem? (i := 193) (by decide +kernel)⟩
theorem lw_p8 : lw_okq (⟨"PairedField$Pairing", "solveSet", "(I)V"⟩, 6) := ⟨⟨by decide +kernel, by decide +kernel⟩, List.mem_of_getElem? (i := 74) (by decide +kernel), List.mem_of_getElem? (i := 200) (by decide +kernel), List.mem_of_getElem? (i := 201) (by decide +kernel)⟩
theorem lw_p9 : lw_okq (⟨"PairedField$Pairing", "mayPlay", "(III)Z"⟩, 6) := ⟨⟨by decide +kernel, by decide +kernel⟩, List.mem_of_getElem? (i := 74) (by decide +kernel), List.mem_of_getElem? (i := 210) (by decide +kernel), List.mem_of_getElem? (i := 211) (by decide +kernel)⟩
theorem lw_p10 : lw_okq (⟨"PairedField$Pairing", "allSeats", "()I"⟩, 6) := ⟨⟨by decide +kernel, by decide +kernel⟩, List.mem_of_getElem? (i := 74) (by decide +kernel), List.mem_of_getElem? (i := 219) (by decide +kernel), List.mem_of_getElem? (i := 220) (by decide +kernel)⟩
theorem lw_p11 : lw_okq (⟨"PairedField", "isPlayer", "(I)Z"⟩, 8) := ⟨⟨by decide +kernel, by decide +kernel⟩, List.mem_of_getElem? (i := 17) (by decide +kernel), List.mem_of_getElem? (i := 235) (by decide +kernel), List.mem_of_getElem? (i := 236) (by decide +kernel)⟩
theorem lw_p12 : lw_okq (⟨"PairedField", "refuseOpenRound", "()V"⟩, 8) := ⟨⟨by decide +kernel, by decide +kernel⟩, List.mem_of_getElem? (i := 17) (by decide +kernel), List.mem_of_getElem? (i := 250) (by decide +kernel), List.mem_of_getElem? (i := 251) (by decide +kernel)⟩
theorem lw_p13 : lw_okq (⟨"java/lang/Throwable", "fillInStackTrace", "(I)Ljava/lang/Throwable;"⟩, 6) := ⟨⟨by decide +kernel, by decide +kernel⟩, List.mem_of_getElem? (i := 293) (by decide +kernel), List.mem_of_getElem? (i := 291) (by decide +kernel), List.mem_of_getElem? (i := 292) (by decide +kernel)⟩
theorem lw_p14 : lw_okq (⟨"PairedField", "refuseNoPlayer", "(I)V"⟩, 8) := ⟨⟨by decide +kernel, by decide +kernel⟩, List.mem_of_getElem? (i := 17) (by decide +kernel), List.mem_of_getElem? (i := 333) (by decide +kernel), List.mem_of_getElem? (i := 334) (by decide +kernel)⟩
theorem lw_p15 : lw_okq (⟨"PairedField", "openNextRound", "()Z"⟩, 8) := ⟨⟨by decide +kernel, by decide +kernel⟩, List.mem_of_getElem? (i := 17) (by decide +kernel), List.mem_of_getElem? (i := 401) (by decide +kernel), List.mem_of_getElem? (i := 402) (by decide +kernel)⟩
def lw_privs_1 : List (MethodName × Nat) := [(⟨"PairedField", "workOutPairing", "()V"⟩, 8), (⟨"PairedField$Pairing", "chooseBye", "(LPairedField$Standing;[Z)V"⟩, 6), (⟨"PairedField$Pairing", "seatPlayers", "(LPairedField$Standing;[Z)V"⟩, 6), (⟨"PairedField$Pairing", "seatOne", "(LPairedField$Standing;I)V"⟩, 6), (⟨"PairedField$Pairing", "priceGames", "(LPairedField$Standing;[II)V"⟩, 6), (⟨"PairedField$Standing", "clashes", "(II)I"⟩, 10), (⟨"PairedField$Pairing", "solve", "()V"⟩, 6), (⟨"PairedField$Pairing", "canBeLeft", "(I)Z"⟩, 6), (⟨"PairedField$Pairing", "solveSet", "(I)V"⟩, 6), (⟨"PairedField$Pairing", "mayPlay", "(III)Z"⟩, 6), (⟨"PairedField$Pairing", "allSeats", "()I"⟩, 6), (⟨"PairedField", "isPlayer", "(I)Z"⟩, 8), (⟨"PairedField", "refuseOpenRound", "()V"⟩, 8), (⟨"java/lang/Throwable", "fillInStackTrace", "(I)Ljava/lang/Throwable;"⟩, 6), (⟨"PairedField", "refuseNoPlayer", "(I)V"⟩, 8), (⟨"PairedField", "openNextRound", "()Z"⟩, 8)]
theorem lw_r1 : ∀ q ∈ lw_privs_1, lw_okq q := List.forall_mem_cons.mpr ⟨lw_p0, List.forall_mem_cons.mpr ⟨lw_p1, List.forall_mem_cons.mpr ⟨lw_p2, List.forall_mem_cons.mpr ⟨lw_p3, List.forall_mem_cons.mpr ⟨lw_p4, List.forall_mem_cons.mpr ⟨lw_p5, List.forall_mem_cons.mpr ⟨lw_p6, List.forall_mem_cons.mpr ⟨lw_p7, List.forall_mem_cons.mpr ⟨lw_p8, List.forall_mem_cons.mpr ⟨lw_p9, List.forall_mem_cons.mpr ⟨lw_p10, List.forall_mem_cons.mpr ⟨lw_p11, List.forall_mem_cons.mpr ⟨lw_p12, List.forall_mem_cons.mpr ⟨lw_p13, List.forall_mem_cons.mpr ⟨lw_p14, List.forall_mem_cons.mpr ⟨lw_p15, fun _ h => absurd h List.not_mem_nil⟩⟩⟩⟩⟩⟩⟩⟩⟩⟩⟩⟩⟩⟩⟩⟩
theorem lw_p16 : lw_okq (⟨"PairedField$Pairing", "bestPartner", "(II)I"⟩, 6) := ⟨⟨by decide +kernel, by decide +kernel⟩, List.mem_of_getElem? (i := 74) (by decide +kernel), List.mem_of_getElem? (i := 421) (by decide +kernel), List.mem_of_getElem? (i := 422) (by decide +kernel)⟩
theorem lw_p17 : lw_okq (⟨"PairedField", "refuseNoRound", "()V"⟩, 8) := ⟨⟨by decide +kernel, by decide +kernel⟩, List.mem_of_getElem? (i := 17) (by decide +kernel), List.mem_of_getElem? (i := 452) (by decide +kernel), List.mem_of_getElem? (i := 453) (by decide +kernel)⟩
theorem lw_p18 : lw_okq (⟨"PairedField", "noteResult", "(II)V"⟩, 8) := ⟨⟨by decide +kernel, by decide +kernel⟩, List.mem_of_getElem? (i := 17) (by decide +kernel), List.mem_of_getElem? (i := 489) (by decide +kernel), List.mem_of_getElem? (i := 490) (by decide +kernel)⟩
theorem lw_p19 : lw_okq (⟨"PairedField", "countUntold", "()I"⟩, 8) := ⟨⟨by decide +kernel, by decide +kernel⟩, List.mem_of_getElem? (i := 17) (by decide +kernel), List.mem_of_getElem? (i := 501) (by decide +kernel), List.mem_of_getElem? (i := 502) (by decide +kernel)⟩
theorem lw_p20 : lw_okq (⟨"PairedField", "closeRound", "()V"⟩, 8) := ⟨⟨by decide +kernel, by decide +kernel⟩, List.mem_of_getElem? (i := 17) (by decide +kernel), List.mem_of_getElem? (i := 513) (by decide +kernel), List.mem_of_getElem? (i := 514) (by decide +kernel)⟩
theorem lw_p21 : lw_okq (⟨"PairedField$Standing", "clear", "()V"⟩, 10) := ⟨⟨by decide +kernel, by decide +kernel⟩, List.mem_of_getElem? (i := 27) (by decide +kernel), List.mem_of_getElem? (i := 521) (by decide +kernel), List.mem_of_getElem? (i := 522) (by decide +kernel)⟩
theorem lw_p22 : lw_okq (⟨"PairedField$Standing", "countCell", "(II)V"⟩, 10) := ⟨⟨by decide +kernel, by decide +kernel⟩, List.mem_of_getElem? (i := 27) (by decide +kernel), List.mem_of_getElem? (i := 526) (by decide +kernel), List.mem_of_getElem? (i := 527) (by decide +kernel)⟩
theorem lw_p23 : lw_okq (⟨"PairedField$Standing", "countOpponent", "(II)V"⟩, 10) := ⟨⟨by decide +kernel, by decide +kernel⟩, List.mem_of_getElem? (i := 27) (by decide +kernel), List.mem_of_getElem? (i := 534) (by decide +kernel), List.mem_of_getElem? (i := 535) (by decide +kernel)⟩
theorem lw_p24 : lw_okq (⟨"PairedField", "noteResultsByNumber", "()V"⟩, 8) := ⟨⟨by decide +kernel, by decide +kernel⟩, List.mem_of_getElem? (i := 17) (by decide +kernel), List.mem_of_getElem? (i := 554) (by decide +kernel), List.mem_of_getElem? (i := 555) (by decide +kernel)⟩
theorem lw_p25 : lw_okq (⟨"PairedField$Standing", "isBeforeInTable", "(II)Z"⟩, 10) := ⟨⟨by decide +kernel, by decide +kernel⟩, List.mem_of_getElem? (i := 27) (by decide +kernel), List.mem_of_getElem? (i := 586) (by decide +kernel), List.mem_of_getElem? (i := 587) (by decide +kernel)⟩
theorem lw_p26 : lw_okq (⟨"PairedFieldModel", "refused", "(ZZZ)Z"⟩, 17) := ⟨⟨by decide +kernel, by decide +kernel⟩, List.mem_of_getElem? (i := 590) (by decide +kernel), List.mem_of_getElem? (i := 656) (by decide +kernel), List.mem_of_getElem? (i := 657) (by decide +kernel)⟩
theorem lw_p27 : lw_okq (⟨"PairedFieldModel", "isPlayer", "(I)Z"⟩, 17) := ⟨⟨by decide +kernel, by decide +kernel⟩, List.mem_of_getElem? (i := 590) (by decide +kernel), List.mem_of_getElem? (i := 664) (by decide +kernel), List.mem_of_getElem? (i := 665) (by decide +kernel)⟩
theorem lw_p28 : lw_okq (⟨"PairedFieldModel", "canPair", "()Z"⟩, 17) := ⟨⟨by decide +kernel, by decide +kernel⟩, List.mem_of_getElem? (i := 590) (by decide +kernel), List.mem_of_getElem? (i := 676) (by decide +kernel), List.mem_of_getElem? (i := 677) (by decide +kernel)⟩
theorem lw_p29 : lw_okq (⟨"PairedFieldModel", "work", "()V"⟩, 17) := ⟨⟨by decide +kernel, by decide +kernel⟩, List.mem_of_getElem? (i := 590) (by decide +kernel), List.mem_of_getElem? (i := 680) (by decide +kernel), List.mem_of_getElem? (i := 681) (by decide +kernel)⟩
theorem lw_p30 : lw_okq (⟨"PairedFieldModel", "lineUp", "()V"⟩, 17) := ⟨⟨by decide +kernel, by decide +kernel⟩, List.mem_of_getElem? (i := 590) (by decide +kernel), List.mem_of_getElem? (i := 684) (by decide +kernel), List.mem_of_getElem? (i := 685) (by decide +kernel)⟩
theorem lw_p31 : lw_okq (⟨"PairedFieldModel", "inMany", "()I"⟩, 17) := ⟨⟨by decide +kernel, by decide +kernel⟩, List.mem_of_getElem? (i := 590) (by decide +kernel), List.mem_of_getElem? (i := 688) (by decide +kernel), List.mem_of_getElem? (i := 689) (by decide +kernel)⟩
def lw_privs_2 : List (MethodName × Nat) := [(⟨"PairedField$Pairing", "bestPartner", "(II)I"⟩, 6), (⟨"PairedField", "refuseNoRound", "()V"⟩, 8), (⟨"PairedField", "noteResult", "(II)V"⟩, 8), (⟨"PairedField", "countUntold", "()I"⟩, 8), (⟨"PairedField", "closeRound", "()V"⟩, 8), (⟨"PairedField$Standing", "clear", "()V"⟩, 10), (⟨"PairedField$Standing", "countCell", "(II)V"⟩, 10), (⟨"PairedField$Standing", "countOpponent", "(II)V"⟩, 10), (⟨"PairedField", "noteResultsByNumber", "()V"⟩, 8), (⟨"PairedField$Standing", "isBeforeInTable", "(II)Z"⟩, 10), (⟨"PairedFieldModel", "refused", "(ZZZ)Z"⟩, 17), (⟨"PairedFieldModel", "isPlayer", "(I)Z"⟩, 17), (⟨"PairedFieldModel", "canPair", "()Z"⟩, 17), (⟨"PairedFieldModel", "work", "()V"⟩, 17), (⟨"PairedFieldModel", "lineUp", "()V"⟩, 17), (⟨"PairedFieldModel", "inMany", "()I"⟩, 17)]
theorem lw_r2 : ∀ q ∈ lw_privs_2, lw_okq q := List.forall_mem_cons.mpr ⟨lw_p16, List.forall_mem_cons.mpr ⟨lw_p17, List.forall_mem_cons.mpr ⟨lw_p18, List.forall_mem_cons.mpr ⟨lw_p19, List.forall_mem_cons.mpr ⟨lw_p20, List.forall_mem_cons.mpr ⟨lw_p21, List.forall_mem_cons.mpr ⟨lw_p22, List.forall_mem_cons.mpr ⟨lw_p23, List.forall_mem_cons.mpr ⟨lw_p24, List.forall_mem_cons.mpr ⟨lw_p25, List.forall_mem_cons.mpr ⟨lw_p26, List.forall_mem_cons.mpr ⟨lw_p27, List.forall_mem_cons.mpr ⟨lw_p28, List.forall_mem_cons.mpr ⟨lw_p29, List.forall_mem_cons.mpr ⟨lw_p30, List.forall_mem_cons.mpr ⟨lw_p31, fun _ h => absurd h List.not_mem_nil⟩⟩⟩⟩⟩⟩⟩⟩⟩⟩⟩⟩⟩⟩⟩⟩
theorem lw_p32 : lw_okq (⟨"PairedFieldModel", "findBye", "()I"⟩, 17) := ⟨⟨by decide +kernel, by decide +kernel⟩, List.mem_of_getElem? (i := 590) (by decide +kernel), List.mem_of_getElem? (i := 692) (by decide +kernel), List.mem_of_getElem? (i := 693) (by decide +kernel)⟩
theorem lw_p33 : lw_okq (⟨"PairedFieldModel", "byesOf", "(I)I"⟩, 17) := ⟨⟨by decide +kernel, by decide +kernel⟩, List.mem_of_getElem? (i := 590) (by decide +kernel), List.mem_of_getElem? (i := 696) (by decide +kernel), List.mem_of_getElem? (i := 697) (by decide +kernel)⟩
theorem lw_p34 : lw_okq (⟨"PairedFieldModel", "scoreOf", "(I)I"⟩, 17) := ⟨⟨by decide +kernel, by decide +kernel⟩, List.mem_of_getElem? (i := 590) (by decide +kernel), List.mem_of_getElem? (i := 700) (by decide +kernel), List.mem_of_getElem? (i := 701) (by decide +kernel)⟩
theorem lw_p35 : lw_okq (⟨"PairedFieldModel", "hadEachOther", "(II)Z"⟩, 17) := ⟨⟨by decide +kernel, by decide +kernel⟩, List.mem_of_getElem? (i := 590) (by decide +kernel), List.mem_of_getElem? (i := 704) (by decide +kernel), List.mem_of_getElem? (i := 705) (by decide +kernel)⟩
theorem lw_p36 : lw_okq (⟨"PairedFieldModel", "costOf", "(II)I"⟩, 17) := ⟨⟨by decide +kernel, by decide +kernel⟩, List.mem_of_getElem? (i := 590) (by decide +kernel), List.mem_of_getElem? (i := 708) (by decide +kernel), List.mem_of_getElem? (i := 709) (by decide +kernel)⟩
theorem lw_p37 : lw_okq (⟨"PairedFieldModel", "isFirstWhite", "(II)Z"⟩, 17) := ⟨⟨by decide +kernel, by decide +kernel⟩, List.mem_of_getElem? (i := 590) (by decide +kernel), List.mem_of_getElem? (i := 712) (by decide +kernel), List.mem_of_getElem? (i := 713) (by decide +kernel)⟩
theorem lw_p38 : lw_okq (⟨"PairedFieldModel", "balanceOf", "(I)I"⟩, 17) := ⟨⟨by decide +kernel, by decide +kernel⟩, List.mem_of_getElem? (i := 590) (by decide +kernel), List.mem_of_getElem? (i := 716) (by decide +kernel), List.mem_of_getElem? (i := 717) (by decide +kernel)⟩
theorem lw_p39 : lw_okq (⟨"PairedFieldModel", "hadGame", "(II)Z"⟩, 17) := ⟨⟨by decide +kernel, by decide +kernel⟩, List.mem_of_getElem? (i := 590) (by decide +kernel), List.mem_of_getElem? (i := 720) (by decide +kernel), List.mem_of_getElem? (i := 721) (by decide +kernel)⟩
theorem lw_p40 : lw_okq (⟨"PairedFieldModel", "colourOf", "(II)I"⟩, 17) := ⟨⟨by decide +kernel, by decide +kernel⟩, List.mem_of_getElem? (i := 590) (by decide +kernel), List.mem_of_getElem? (i := 724) (by decide +kernel), List.mem_of_getElem? (i := 725) (by decide +kernel)⟩
theorem lw_p41 : lw_okq (⟨"PairedFieldModel", "clashes", "(II)I"⟩, 17) := ⟨⟨by decide +kernel, by decide +kernel⟩, List.mem_of_getElem? (i := 590) (by decide +kernel), List.mem_of_getElem? (i := 728) (by decide +kernel), List.mem_of_getElem? (i := 729) (by decide +kernel)⟩
theorem lw_p42 : lw_okq (⟨"PairedFieldModel", "whole", "()I"⟩, 17) := ⟨⟨by decide +kernel, by decide +kernel⟩, List.mem_of_getElem? (i := 590) (by decide +kernel), List.mem_of_getElem? (i := 733) (by decide +kernel), List.mem_of_getElem? (i := 734) (by decide +kernel)⟩
theorem lw_p43 : lw_okq (⟨"PairedFieldModel", "openRound", "()I"⟩, 17) := ⟨⟨by decide +kernel, by decide +kernel⟩, List.mem_of_getElem? (i := 590) (by decide +kernel), List.mem_of_getElem? (i := 737) (by decide +kernel), List.mem_of_getElem? (i := 738) (by decide +kernel)⟩
theorem lw_p44 : lw_okq (⟨"PairedFieldModel", "untold", "()I"⟩, 17) := ⟨⟨by decide +kernel, by decide +kernel⟩, List.mem_of_getElem? (i := 590) (by decide +kernel), List.mem_of_getElem? (i := 765) (by decide +kernel), List.mem_of_getElem? (i := 766) (by decide +kernel)⟩
theorem lw_p45 : lw_okq (⟨"PairedFieldModel", "buchholzOf", "(I)I"⟩, 17) := ⟨⟨by decide +kernel, by decide +kernel⟩, List.mem_of_getElem? (i := 590) (by decide +kernel), List.mem_of_getElem? (i := 797) (by decide +kernel), List.mem_of_getElem? (i := 798) (by decide +kernel)⟩
theorem lw_p46 : lw_okq (⟨"PairedFieldModel", "bergerOf", "(I)I"⟩, 17) := ⟨⟨by decide +kernel, by decide +kernel⟩, List.mem_of_getElem? (i := 590) (by decide +kernel), List.mem_of_getElem? (i := 801) (by decide +kernel), List.mem_of_getElem? (i := 802) (by decide +kernel)⟩
theorem lw_p47 : lw_okq (⟨"PairedFieldModel", "wonOf", "(I)I"⟩, 17) := ⟨⟨by decide +kernel, by decide +kernel⟩, List.mem_of_getElem? (i := 590) (by decide +kernel), List.mem_of_getElem? (i := 805) (by decide +kernel), List.mem_of_getElem? (i := 806) (by decide +kernel)⟩
def lw_privs_3 : List (MethodName × Nat) := [(⟨"PairedFieldModel", "findBye", "()I"⟩, 17), (⟨"PairedFieldModel", "byesOf", "(I)I"⟩, 17), (⟨"PairedFieldModel", "scoreOf", "(I)I"⟩, 17), (⟨"PairedFieldModel", "hadEachOther", "(II)Z"⟩, 17), (⟨"PairedFieldModel", "costOf", "(II)I"⟩, 17), (⟨"PairedFieldModel", "isFirstWhite", "(II)Z"⟩, 17), (⟨"PairedFieldModel", "balanceOf", "(I)I"⟩, 17), (⟨"PairedFieldModel", "hadGame", "(II)Z"⟩, 17), (⟨"PairedFieldModel", "colourOf", "(II)I"⟩, 17), (⟨"PairedFieldModel", "clashes", "(II)I"⟩, 17), (⟨"PairedFieldModel", "whole", "()I"⟩, 17), (⟨"PairedFieldModel", "openRound", "()I"⟩, 17), (⟨"PairedFieldModel", "untold", "()I"⟩, 17), (⟨"PairedFieldModel", "buchholzOf", "(I)I"⟩, 17), (⟨"PairedFieldModel", "bergerOf", "(I)I"⟩, 17), (⟨"PairedFieldModel", "wonOf", "(I)I"⟩, 17)]
theorem lw_r3 : ∀ q ∈ lw_privs_3, lw_okq q := List.forall_mem_cons.mpr ⟨lw_p32, List.forall_mem_cons.mpr ⟨lw_p33, List.forall_mem_cons.mpr ⟨lw_p34, List.forall_mem_cons.mpr ⟨lw_p35, List.forall_mem_cons.mpr ⟨lw_p36, List.forall_mem_cons.mpr ⟨lw_p37, List.forall_mem_cons.mpr ⟨lw_p38, List.forall_mem_cons.mpr ⟨lw_p39, List.forall_mem_cons.mpr ⟨lw_p40, List.forall_mem_cons.mpr ⟨lw_p41, List.forall_mem_cons.mpr ⟨lw_p42, List.forall_mem_cons.mpr ⟨lw_p43, List.forall_mem_cons.mpr ⟨lw_p44, List.forall_mem_cons.mpr ⟨lw_p45, List.forall_mem_cons.mpr ⟨lw_p46, List.forall_mem_cons.mpr ⟨lw_p47, fun _ h => absurd h List.not_mem_nil⟩⟩⟩⟩⟩⟩⟩⟩⟩⟩⟩⟩⟩⟩⟩⟩
theorem lw_p48 : lw_okq (⟨"PairedFieldModel", "gamesOf", "(I)I"⟩, 17) := ⟨⟨by decide +kernel, by decide +kernel⟩, List.mem_of_getElem? (i := 590) (by decide +kernel), List.mem_of_getElem? (i := 809) (by decide +kernel), List.mem_of_getElem? (i := 810) (by decide +kernel)⟩
theorem lw_p49 : lw_okq (⟨"PairedFieldModel", "isBefore", "(II)Z"⟩, 17) := ⟨⟨by decide +kernel, by decide +kernel⟩, List.mem_of_getElem? (i := 590) (by decide +kernel), List.mem_of_getElem? (i := 821) (by decide +kernel), List.mem_of_getElem? (i := 822) (by decide +kernel)⟩
def lw_privs_4 : List (MethodName × Nat) := [(⟨"PairedFieldModel", "gamesOf", "(I)I"⟩, 17), (⟨"PairedFieldModel", "isBefore", "(II)Z"⟩, 17)]
theorem lw_r4 : ∀ q ∈ lw_privs_4, lw_okq q := List.forall_mem_cons.mpr ⟨lw_p48, List.forall_mem_cons.mpr ⟨lw_p49, fun _ h => absurd h List.not_mem_nil⟩⟩
def lw_privs : List (MethodName × Nat) := lw_privs_1 ++ (lw_privs_2 ++ (lw_privs_3 ++ (lw_privs_4)))
def lw_tbl : List Cond := k2_sels lw_privs ++ tables_1
theorem lw_privs_ok : ∀ q ∈ lw_privs, lw_okq q := by
  show ∀ q ∈ lw_privs_1 ++ (lw_privs_2 ++ (lw_privs_3 ++ (lw_privs_4))), lw_okq q
  exact List.forall_mem_append.mpr ⟨lw_r1, List.forall_mem_append.mpr ⟨lw_r2, List.forall_mem_append.mpr ⟨lw_r3, lw_r4⟩⟩⟩

/-! the words of the tables, by their places -/
/-- a word that stays true as the tables warm -/
def okW (w : Cond) : Bool := match w with
  | .arrayClass _ => true
  | .stringRef _ _ _ => true
  | .methodLinkNest _ _ _ _ => true
  | .fieldLinkNest _ _ _ _ _ _ => true
  | w => w.onTables && w.keepsFace
theorem okW_warm {w : Cond} (h : okW w = true) {args a' : Array Value} {s U : State} (hW : s.WarmedH U.vm) (hb : w.before args s = true) : w.before a' U = true := by
  have gen : w.onTables = true → w.keepsFace = true → w.before a' U = true := fun h1 h2 =>
    va_tabs h1 (rfl : (s.setVm U.vm).vm = U.vm) (Cond.before_shiftedFace (State.Shifted.of_warmed hW) _ h2 hb)
  cases w with
  | arrayClass ty => exact (Cond.before_shiftedFace (State.Shifted.of_warmed hW) (Cond.arrayClass ty) rfl hb : (Cond.arrayClass ty).before args (s.setVm U.vm) = true)
  | methodLinkNest a i x h => exact va_tabs rfl (rfl : (s.setVm U.vm).vm = U.vm) (Cond.methodLinkNest_warmed (args := args) hW hb)
  | fieldLinkNest a i b n d h => exact va_tabs rfl (rfl : (s.setVm U.vm).vm = U.vm) (Cond.fieldLinkNest_warmed (args := args) hW hb)
  | stringRef a i x => exact (Cond.stringRef_warmed hW hb : (Cond.stringRef a i x).before args (s.setVm U.vm) = true)
  | _ =>
    first
      | (simp only [okW, Bool.and_eq_true] at h; exact gen h.1 h.2)
      | (exfalso; revert h; simp [okW, Cond.onTables])
def Ttab : List Cond := lw_tbl.filter okW
theorem lw_mem {w : Cond} (h : w ∈ lw_tbl) (hk : okW w = true) : w ∈ Ttab := List.mem_filter.mpr ⟨h, hk⟩
theorem t1_mem {w : Cond} (i : Nat) (h : tables_1_1[i]? = some w) (hk : okW w = true) : w ∈ Ttab := lw_mem (List.mem_append_right _ (List.mem_append_left _ (List.mem_of_getElem? h))) hk
theorem t2_mem {w : Cond} (i : Nat) (h : tables_1_2[i]? = some w) (hk : okW w = true) : w ∈ Ttab := lw_mem (List.mem_append_right _ (List.mem_append_right _ (List.mem_append_left _ (List.mem_of_getElem? h)))) hk
theorem t3_mem {w : Cond} (i : Nat) (h : tables_1_3[i]? = some w) (hk : okW w = true) : w ∈ Ttab := lw_mem (List.mem_append_right _ (List.mem_append_right _ (List.mem_append_right _ (List.mem_append_left _ (List.mem_of_getElem? h))))) hk
theorem t4_mem {w : Cond} (i : Nat) (h : tables_1_4[i]? = some w) (hk : okW w = true) : w ∈ Ttab := lw_mem (List.mem_append_right _ (List.mem_append_right _ (List.mem_append_right _ (List.mem_append_right _ (List.mem_of_getElem? h))))) hk
theorem t0_mem {w : Cond} (i : Nat) (h : (k2_sels lw_privs)[i]? = some w) (hk : okW w = true) : w ∈ Ttab := lw_mem (List.mem_append_left _ (List.mem_of_getElem? h)) hk
def Tb (args : Array Value) (s : State) : Prop := ∀ w ∈ Ttab, w.before args s = true
theorem Tb.warm {args a' : Array Value} {s U : State} (hW : s.WarmedH U.vm) (h : Tb args s) : Tb a' U := fun w hw => okW_warm (List.mem_filter.mp hw).2 hW (h w hw)
end
section
/-! names -/
abbrev bA_fill : ByteArray := prog_16_method_103_code
def yA_fill : MethodName := ⟨"java/util/Arrays", "fill", "([II)V"⟩
abbrev bC_colourIn : ByteArray := prog_2_method_7_code
def yC_colourIn : MethodName := ⟨"PairedField$Cell", "colourIn", "(I)I"⟩
abbrev bC_isGame : ByteArray := prog_2_method_4_code
def yC_isGame : MethodName := ⟨"PairedField$Cell", "isGame", "(I)Z"⟩
abbrev bC_isUntold : ByteArray := prog_2_method_5_code
def yC_isUntold : MethodName := ⟨"PairedField$Cell", "isUntold", "(I)Z"⟩
abbrev bC_opponentIn : ByteArray := prog_2_method_6_code
def yC_opponentIn : MethodName := ⟨"PairedField$Cell", "opponentIn", "(I)I"⟩
abbrev bC_resultIn : ByteArray := prog_2_method_8_code
def yC_resultIn : MethodName := ⟨"PairedField$Cell", "resultIn", "(I)I"⟩
abbrev bC_untoldGame : ByteArray := prog_2_method_2_code
def yC_untoldGame : MethodName := ⟨"PairedField$Cell", "untoldGame", "(II)I"⟩
abbrev bC_withResult : ByteArray := prog_2_method_3_code
def yC_withResult : MethodName := ⟨"PairedField$Cell", "withResult", "(II)I"⟩
abbrev bF_apart : ByteArray := prog_1_method_4_code
def yF_apart : MethodName := ⟨"PairedField", "apart", "(IIZ)Z"⟩
abbrev bF_back : ByteArray := prog_1_method_13_code
def yF_back : MethodName := ⟨"PairedField", "back", "()I"⟩
abbrev bF_close : ByteArray := prog_1_method_12_code
def yF_close : MethodName := ⟨"PairedField", "close", "()I"⟩
abbrev bF_closeRound : ByteArray := prog_1_method_27_code
def yF_closeRound : MethodName := ⟨"PairedField", "closeRound", "()V"⟩
abbrev bF_cost : ByteArray := prog_1_method_6_code
def yF_cost : MethodName := ⟨"PairedField", "cost", "()I"⟩
abbrev bF_countUntold : ByteArray := prog_1_method_30_code
def yF_countUntold : MethodName := ⟨"PairedField", "countUntold", "()I"⟩
abbrev bF_enter : ByteArray := prog_1_method_2_code
def yF_enter : MethodName := ⟨"PairedField", "enter", "()I"⟩
abbrev bF_had : ByteArray := prog_1_method_19_code
def yF_had : MethodName := ⟨"PairedField", "had", "(II)I"⟩
abbrev bF_init : ByteArray := prog_1_method_1_code
def yF_init : MethodName := ⟨"PairedField", "<init>", "(I)V"⟩
abbrev bF_isIn : ByteArray := prog_1_method_17_code
def yF_isIn : MethodName := ⟨"PairedField", "isIn", "(I)Z"⟩
abbrev bF_isPlayer : ByteArray := prog_1_method_21_code
def yF_isPlayer : MethodName := ⟨"PairedField", "isPlayer", "(I)Z"⟩
abbrev bF_isWhite : ByteArray := prog_1_method_9_code
def yF_isWhite : MethodName := ⟨"PairedField", "isWhite", "(I)Z"⟩
abbrev bF_leave : ByteArray := prog_1_method_3_code
def yF_leave : MethodName := ⟨"PairedField", "leave", "(I)V"⟩
abbrev bF_missing : ByteArray := prog_1_method_11_code
def yF_missing : MethodName := ⟨"PairedField", "missing", "()I"⟩
abbrev bF_noteResult : ByteArray := prog_1_method_28_code
def yF_noteResult : MethodName := ⟨"PairedField", "noteResult", "(II)V"⟩
abbrev bF_noteResultsByNumber : ByteArray := prog_1_method_29_code
def yF_noteResultsByNumber : MethodName := ⟨"PairedField", "noteResultsByNumber", "()V"⟩
abbrev bF_openNextRound : ByteArray := prog_1_method_26_code
def yF_openNextRound : MethodName := ⟨"PairedField", "openNextRound", "()Z"⟩
abbrev bF_opponent : ByteArray := prog_1_method_8_code
def yF_opponent : MethodName := ⟨"PairedField", "opponent", "(I)I"⟩
abbrev bF_pair : ByteArray := prog_1_method_5_code
def yF_pair : MethodName := ⟨"PairedField", "pair", "()I"⟩
abbrev bF_play : ByteArray := prog_1_method_14_code
def yF_play : MethodName := ⟨"PairedField", "play", "(I)I"⟩
abbrev bF_players : ByteArray := prog_1_method_15_code
def yF_players : MethodName := ⟨"PairedField", "players", "()I"⟩
abbrev bF_refuseNoPlayer : ByteArray := prog_1_method_22_code
def yF_refuseNoPlayer : MethodName := ⟨"PairedField", "refuseNoPlayer", "(I)V"⟩
abbrev bF_refuseNoRound : ByteArray := prog_1_method_24_code
def yF_refuseNoRound : MethodName := ⟨"PairedField", "refuseNoRound", "()V"⟩
abbrev bF_refuseOpenRound : ByteArray := prog_1_method_23_code
def yF_refuseOpenRound : MethodName := ⟨"PairedField", "refuseOpenRound", "()V"⟩
abbrev bF_report : ByteArray := prog_1_method_10_code
def yF_report : MethodName := ⟨"PairedField", "report", "(II)V"⟩
abbrev bF_rounds : ByteArray := prog_1_method_16_code
def yF_rounds : MethodName := ⟨"PairedField", "rounds", "()I"⟩
abbrev bF_table : ByteArray := prog_1_method_20_code
def yF_table : MethodName := ⟨"PairedField", "table", "(I)I"⟩
abbrev bF_tell : ByteArray := prog_1_method_18_code
def yF_tell : MethodName := ⟨"PairedField", "tell", "(II)I"⟩
abbrev bF_ways : ByteArray := prog_1_method_7_code
def yF_ways : MethodName := ⟨"PairedField", "ways", "()I"⟩
abbrev bF_workOutPairing : ByteArray := prog_1_method_25_code
def yF_workOutPairing : MethodName := ⟨"PairedField", "workOutPairing", "()V"⟩
abbrev bH_max : ByteArray := prog_12_method_65_code
def yH_max : MethodName := ⟨"java/lang/Math", "max", "(II)I"⟩
abbrev bH_min : ByteArray := prog_12_method_69_code
def yH_min : MethodName := ⟨"java/lang/Math", "min", "(II)I"⟩
abbrev bI_bitCount : ByteArray := prog_11_method_49_code
def yI_bitCount : MethodName := ⟨"java/lang/Integer", "bitCount", "(I)I"⟩
abbrev bI_numberOfTrailingZeros : ByteArray := prog_11_method_48_code
def yI_numberOfTrailingZeros : MethodName := ⟨"java/lang/Integer", "numberOfTrailingZeros", "(I)I"⟩
abbrev bL_apart : ByteArray := method_5_code
def yL_apart : MethodName := ⟨"PairedFieldLaw", "apart", "(LPairedField;IIZ[J)I"⟩
abbrev bL_back : ByteArray := method_13_code
def yL_back : MethodName := ⟨"PairedFieldLaw", "back", "(LPairedField;[J)I"⟩
abbrev bL_cell : ByteArray := method_2_code
def yL_cell : MethodName := ⟨"PairedFieldLaw", "cell", "([II)I"⟩
abbrev bL_close : ByteArray := method_12_code
def yL_close : MethodName := ⟨"PairedFieldLaw", "close", "(LPairedField;[J)I"⟩
abbrev bL_cost : ByteArray := method_7_code
def yL_cost : MethodName := ⟨"PairedFieldLaw", "cost", "(LPairedField;[J)I"⟩
abbrev bL_enter : ByteArray := method_3_code
def yL_enter : MethodName := ⟨"PairedFieldLaw", "enter", "(LPairedField;[J)I"⟩
abbrev bL_had : ByteArray := method_16_code
def yL_had : MethodName := ⟨"PairedFieldLaw", "had", "(LPairedField;II[J)I"⟩
abbrev bL_isWhite : ByteArray := method_9_code
def yL_isWhite : MethodName := ⟨"PairedFieldLaw", "isWhite", "(LPairedField;I[J)I"⟩
abbrev bL_leave : ByteArray := method_4_code
def yL_leave : MethodName := ⟨"PairedFieldLaw", "leave", "(LPairedField;I)I"⟩
abbrev bL_missing : ByteArray := method_11_code
def yL_missing : MethodName := ⟨"PairedFieldLaw", "missing", "(LPairedField;[J)I"⟩
abbrev bL_opponent : ByteArray := method_8_code
def yL_opponent : MethodName := ⟨"PairedFieldLaw", "opponent", "(LPairedField;I[J)I"⟩
abbrev bL_pair : ByteArray := method_6_code
def yL_pair : MethodName := ⟨"PairedFieldLaw", "pair", "(LPairedField;[J)I"⟩
abbrev bL_play : ByteArray := method_14_code
def yL_play : MethodName := ⟨"PairedFieldLaw", "play", "(LPairedField;I[J)I"⟩
abbrev bL_report : ByteArray := method_10_code
def yL_report : MethodName := ⟨"PairedFieldLaw", "report", "(LPairedField;II)I"⟩
abbrev bL_table : ByteArray := method_17_code
def yL_table : MethodName := ⟨"PairedFieldLaw", "table", "(LPairedField;I[J)I"⟩
abbrev bL_tell : ByteArray := method_15_code
def yL_tell : MethodName := ⟨"PairedFieldLaw", "tell", "(LPairedField;II[J)I"⟩
abbrev bM_apart : ByteArray := prog_6_method_7_code
def yM_apart : MethodName := ⟨"PairedFieldModel", "apart", "(IIZ)Z"⟩
abbrev bM_back : ByteArray := prog_6_method_37_code
def yM_back : MethodName := ⟨"PairedFieldModel", "back", "()I"⟩
abbrev bM_balanceOf : ByteArray := prog_6_method_10_code
def yM_balanceOf : MethodName := ⟨"PairedFieldModel", "balanceOf", "(I)I"⟩
abbrev bM_bergerOf : ByteArray := prog_6_method_16_code
def yM_bergerOf : MethodName := ⟨"PairedFieldModel", "bergerOf", "(I)I"⟩
abbrev bM_buchholzOf : ByteArray := prog_6_method_15_code
def yM_buchholzOf : MethodName := ⟨"PairedFieldModel", "buchholzOf", "(I)I"⟩
abbrev bM_byesOf : ByteArray := prog_6_method_12_code
def yM_byesOf : MethodName := ⟨"PairedFieldModel", "byesOf", "(I)I"⟩
abbrev bM_canPair : ByteArray := prog_6_method_26_code
def yM_canPair : MethodName := ⟨"PairedFieldModel", "canPair", "()Z"⟩
abbrev bM_clashes : ByteArray := prog_6_method_19_code
def yM_clashes : MethodName := ⟨"PairedFieldModel", "clashes", "(II)I"⟩
abbrev bM_close : ByteArray := prog_6_method_36_code
def yM_close : MethodName := ⟨"PairedFieldModel", "close", "()I"⟩
abbrev bM_colourOf : ByteArray := prog_6_method_11_code
def yM_colourOf : MethodName := ⟨"PairedFieldModel", "colourOf", "(II)I"⟩
abbrev bM_cost : ByteArray := prog_6_method_29_code
def yM_cost : MethodName := ⟨"PairedFieldModel", "cost", "()I"⟩
abbrev bM_costOf : ByteArray := prog_6_method_20_code
def yM_costOf : MethodName := ⟨"PairedFieldModel", "costOf", "(II)I"⟩
abbrev bM_enter : ByteArray := prog_6_method_5_code
def yM_enter : MethodName := ⟨"PairedFieldModel", "enter", "()I"⟩
abbrev bM_findBye : ByteArray := prog_6_method_22_code
def yM_findBye : MethodName := ⟨"PairedFieldModel", "findBye", "()I"⟩
abbrev bM_gamesOf : ByteArray := prog_6_method_14_code
def yM_gamesOf : MethodName := ⟨"PairedFieldModel", "gamesOf", "(I)I"⟩
abbrev bM_had : ByteArray := prog_6_method_43_code
def yM_had : MethodName := ⟨"PairedFieldModel", "had", "(II)I"⟩
abbrev bM_hadEachOther : ByteArray := prog_6_method_17_code
def yM_hadEachOther : MethodName := ⟨"PairedFieldModel", "hadEachOther", "(II)Z"⟩
abbrev bM_hadGame : ByteArray := prog_6_method_8_code
def yM_hadGame : MethodName := ⟨"PairedFieldModel", "hadGame", "(II)Z"⟩
abbrev bM_inMany : ByteArray := prog_6_method_21_code
def yM_inMany : MethodName := ⟨"PairedFieldModel", "inMany", "()I"⟩
abbrev bM_init : ByteArray := prog_6_method_1_code
def yM_init : MethodName := ⟨"PairedFieldModel", "<init>", "(I)V"⟩
abbrev bM_isBefore : ByteArray := prog_6_method_44_code
def yM_isBefore : MethodName := ⟨"PairedFieldModel", "isBefore", "(II)Z"⟩
abbrev bM_isFirstWhite : ByteArray := prog_6_method_18_code
def yM_isFirstWhite : MethodName := ⟨"PairedFieldModel", "isFirstWhite", "(II)Z"⟩
abbrev bM_isIn : ByteArray := prog_6_method_41_code
def yM_isIn : MethodName := ⟨"PairedFieldModel", "isIn", "(I)Z"⟩
abbrev bM_isPlayer : ByteArray := prog_6_method_3_code
def yM_isPlayer : MethodName := ⟨"PairedFieldModel", "isPlayer", "(I)Z"⟩
abbrev bM_isWhite : ByteArray := prog_6_method_32_code
def yM_isWhite : MethodName := ⟨"PairedFieldModel", "isWhite", "(I)Z"⟩
abbrev bM_leave : ByteArray := prog_6_method_6_code
def yM_leave : MethodName := ⟨"PairedFieldModel", "leave", "(I)V"⟩
abbrev bM_lineUp : ByteArray := prog_6_method_23_code
def yM_lineUp : MethodName := ⟨"PairedFieldModel", "lineUp", "()V"⟩
abbrev bM_missing : ByteArray := prog_6_method_35_code
def yM_missing : MethodName := ⟨"PairedFieldModel", "missing", "()I"⟩
abbrev bM_openRound : ByteArray := prog_6_method_27_code
def yM_openRound : MethodName := ⟨"PairedFieldModel", "openRound", "()I"⟩
abbrev bM_opponent : ByteArray := prog_6_method_31_code
def yM_opponent : MethodName := ⟨"PairedFieldModel", "opponent", "(I)I"⟩
abbrev bM_pair : ByteArray := prog_6_method_28_code
def yM_pair : MethodName := ⟨"PairedFieldModel", "pair", "()I"⟩
abbrev bM_play : ByteArray := prog_6_method_38_code
def yM_play : MethodName := ⟨"PairedFieldModel", "play", "(I)I"⟩
abbrev bM_players : ByteArray := prog_6_method_39_code
def yM_players : MethodName := ⟨"PairedFieldModel", "players", "()I"⟩
abbrev bM_refused : ByteArray := prog_6_method_4_code
def yM_refused : MethodName := ⟨"PairedFieldModel", "refused", "(ZZZ)Z"⟩
abbrev bM_report : ByteArray := prog_6_method_33_code
def yM_report : MethodName := ⟨"PairedFieldModel", "report", "(II)V"⟩
abbrev bM_rounds : ByteArray := prog_6_method_40_code
def yM_rounds : MethodName := ⟨"PairedFieldModel", "rounds", "()I"⟩
abbrev bM_scoreOf : ByteArray := prog_6_method_9_code
def yM_scoreOf : MethodName := ⟨"PairedFieldModel", "scoreOf", "(I)I"⟩
abbrev bM_table : ByteArray := prog_6_method_45_code
def yM_table : MethodName := ⟨"PairedFieldModel", "table", "(I)I"⟩
abbrev bM_tell : ByteArray := prog_6_method_42_code
def yM_tell : MethodName := ⟨"PairedFieldModel", "tell", "(II)I"⟩
abbrev bM_thrown : ByteArray := prog_6_method_2_code
def yM_thrown : MethodName := ⟨"PairedFieldModel", "thrown", "()I"⟩
abbrev bM_untold : ByteArray := prog_6_method_34_code
def yM_untold : MethodName := ⟨"PairedFieldModel", "untold", "()I"⟩
abbrev bM_ways : ByteArray := prog_6_method_30_code
def yM_ways : MethodName := ⟨"PairedFieldModel", "ways", "()I"⟩
abbrev bM_whole : ByteArray := prog_6_method_25_code
def yM_whole : MethodName := ⟨"PairedFieldModel", "whole", "()I"⟩
abbrev bM_wonOf : ByteArray := prog_6_method_13_code
def yM_wonOf : MethodName := ⟨"PairedFieldModel", "wonOf", "(I)I"⟩
abbrev bM_work : ByteArray := prog_6_method_24_code
def yM_work : MethodName := ⟨"PairedFieldModel", "work", "()V"⟩
abbrev bP_allSeats : ByteArray := prog_3_method_17_code
def yP_allSeats : MethodName := ⟨"PairedField$Pairing", "allSeats", "()I"⟩
abbrev bP_bestPartner : ByteArray := prog_3_method_14_code
def yP_bestPartner : MethodName := ⟨"PairedField$Pairing", "bestPartner", "(II)I"⟩
abbrev bP_canBeLeft : ByteArray := prog_3_method_16_code
def yP_canBeLeft : MethodName := ⟨"PairedField$Pairing", "canBeLeft", "(I)Z"⟩
abbrev bP_chooseBye : ByteArray := prog_3_method_8_code
def yP_chooseBye : MethodName := ⟨"PairedField$Pairing", "chooseBye", "(LPairedField$Standing;[Z)V"⟩
abbrev bP_count : ByteArray := prog_3_method_6_code
def yP_count : MethodName := ⟨"PairedField$Pairing", "count", "()I"⟩
abbrev bP_evenSet : ByteArray := prog_3_method_20_code
def yP_evenSet : MethodName := ⟨"PairedField$Pairing", "evenSet", "(I)I"⟩
abbrev bP_games : ByteArray := prog_3_method_4_code
def yP_games : MethodName := ⟨"PairedField$Pairing", "games", "()I"⟩
abbrev bP_indexOf : ByteArray := prog_3_method_19_code
def yP_indexOf : MethodName := ⟨"PairedField$Pairing", "indexOf", "(I)I"⟩
abbrev bP_init : ByteArray := prog_3_method_1_code
def yP_init : MethodName := ⟨"PairedField$Pairing", "<init>", "()V"⟩
abbrev bP_isPossible : ByteArray := prog_3_method_3_code
def yP_isPossible : MethodName := ⟨"PairedField$Pairing", "isPossible", "()Z"⟩
abbrev bP_leastCost : ByteArray := prog_3_method_5_code
def yP_leastCost : MethodName := ⟨"PairedField$Pairing", "leastCost", "()I"⟩
abbrev bP_mayPlay : ByteArray := prog_3_method_15_code
def yP_mayPlay : MethodName := ⟨"PairedField$Pairing", "mayPlay", "(III)Z"⟩
abbrev bP_priceGames : ByteArray := prog_3_method_11_code
def yP_priceGames : MethodName := ⟨"PairedField$Pairing", "priceGames", "(LPairedField$Standing;[II)V"⟩
abbrev bP_seatOne : ByteArray := prog_3_method_10_code
def yP_seatOne : MethodName := ⟨"PairedField$Pairing", "seatOne", "(LPairedField$Standing;I)V"⟩
abbrev bP_seatPlayers : ByteArray := prog_3_method_9_code
def yP_seatPlayers : MethodName := ⟨"PairedField$Pairing", "seatPlayers", "(LPairedField$Standing;[Z)V"⟩
abbrev bP_solve : ByteArray := prog_3_method_12_code
def yP_solve : MethodName := ⟨"PairedField$Pairing", "solve", "()V"⟩
abbrev bP_solveSet : ByteArray := prog_3_method_13_code
def yP_solveSet : MethodName := ⟨"PairedField$Pairing", "solveSet", "(I)V"⟩
abbrev bP_without : ByteArray := prog_3_method_18_code
def yP_without : MethodName := ⟨"PairedField$Pairing", "without", "(III)I"⟩
abbrev bP_workOut : ByteArray := prog_3_method_2_code
def yP_workOut : MethodName := ⟨"PairedField$Pairing", "workOut", "(LPairedField$Standing;[Z[II)V"⟩
abbrev bP_writeTo : ByteArray := prog_3_method_7_code
def yP_writeTo : MethodName := ⟨"PairedField$Pairing", "writeTo", "([ILPairedField$Standing;I)V"⟩
abbrev bS_clashes : ByteArray := prog_4_method_12_code
def yS_clashes : MethodName := ⟨"PairedField$Standing", "clashes", "(II)I"⟩
abbrev bS_clear : ByteArray := prog_4_method_3_code
def yS_clear : MethodName := ⟨"PairedField$Standing", "clear", "()V"⟩
abbrev bS_colourOfFirst : ByteArray := prog_4_method_10_code
def yS_colourOfFirst : MethodName := ⟨"PairedField$Standing", "colourOfFirst", "(III)I"⟩
abbrev bS_costOfGame : ByteArray := prog_4_method_11_code
def yS_costOfGame : MethodName := ⟨"PairedField$Standing", "costOfGame", "(III)I"⟩
abbrev bS_countCell : ByteArray := prog_4_method_4_code
def yS_countCell : MethodName := ⟨"PairedField$Standing", "countCell", "(II)V"⟩
abbrev bS_countOpponent : ByteArray := prog_4_method_5_code
def yS_countOpponent : MethodName := ⟨"PairedField$Standing", "countOpponent", "(II)V"⟩
abbrev bS_getsByeBefore : ByteArray := prog_4_method_9_code
def yS_getsByeBefore : MethodName := ⟨"PairedField$Standing", "getsByeBefore", "(II)Z"⟩
abbrev bS_init : ByteArray := prog_4_method_1_code
def yS_init : MethodName := ⟨"PairedField$Standing", "<init>", "()V"⟩
abbrev bS_isBeforeInOrder : ByteArray := prog_4_method_6_code
def yS_isBeforeInOrder : MethodName := ⟨"PairedField$Standing", "isBeforeInOrder", "(II)Z"⟩
abbrev bS_isBeforeInTable : ByteArray := prog_4_method_7_code
def yS_isBeforeInTable : MethodName := ⟨"PairedField$Standing", "isBeforeInTable", "(II)Z"⟩
abbrev bS_playerAt : ByteArray := prog_4_method_8_code
def yS_playerAt : MethodName := ⟨"PairedField$Standing", "playerAt", "(II)I"⟩
abbrev bS_recount : ByteArray := prog_4_method_2_code
def yS_recount : MethodName := ⟨"PairedField$Standing", "recount", "([[II)V"⟩
def R_F : String := "PairedField"
def T_F : u_T := fun k => match k with
  | 0 => ("PairedField", "cells", "[[I", true)
  | 1 => ("PairedField", "present", "[Z", true)
  | 2 => ("PairedField", "apartFrom", "[I", true)
  | 3 => ("PairedField", "standing", "LPairedField$Standing;", true)
  | 4 => ("PairedField", "pairing", "LPairedField$Pairing;", true)
  | 5 => ("PairedField", "playerCount", "I", false)
  | 6 => ("PairedField", "closedRounds", "I", false)
  | _ => ("PairedField", "open", "Z", false)
def ty_F : Nat → FieldType := fun k => match k with
  | 0 => .array (.array .int)
  | 1 => .array .boolean
  | 2 => .array .int
  | 3 => .object "PairedField$Standing"
  | 4 => .object "PairedField$Pairing"
  | 5 => .int
  | 6 => .int
  | _ => .boolean
theorem nm_F : ∀ a, a < 8 → ∀ b, b < 8 → a ≠ b → (T_F a).2.1 ≠ (T_F b).2.1 := by decide +kernel
theorem tk_F : ∀ k, k < 8 → parseFieldDescriptor (T_F k).2.2.1 = some (ty_F k) := by decide +kernel
theorem in_F : ∀ x ∈ u_ws R_F T_F 8, x ∈ Ttab := by
  intro x hx
  have h : x ∈ ([.laysFinal "PairedField" "PairedField" "cells" "[[I", .laysFinal "PairedField" "PairedField" "present" "[Z", .laysFinal "PairedField" "PairedField" "apartFrom" "[I", .laysFinal "PairedField" "PairedField" "standing" "LPairedField$Standing;", .laysFinal "PairedField" "PairedField" "pairing" "LPairedField$Pairing;", .lays "PairedField" "PairedField" "playerCount" "I", .lays "PairedField" "PairedField" "closedRounds" "I", .lays "PairedField" "PairedField" "open" "Z"] : List Cond) := hx
  simp only [List.mem_cons, List.not_mem_nil, or_false] at h
  rcases h with rfl | rfl | rfl | rfl | rfl | rfl | rfl | rfl
  · exact t1_mem 113 rfl rfl
  · exact t1_mem 115 rfl rfl
  · exact t1_mem 117 rfl rfl
  · exact t1_mem 119 rfl rfl
  · exact t1_mem 121 rfl rfl
  · exact t1_mem 123 rfl rfl
  · exact t1_mem 125 rfl rfl
  · exact t1_mem 127 rfl rfl
def R_S : String := "PairedField$Standing"
def T_S : u_T := fun k => match k with
  | 0 => ("PairedField$Standing", "score", "[I", true)
  | 1 => ("PairedField$Standing", "balance", "[I", true)
  | 2 => ("PairedField$Standing", "buchholz", "[I", true)
  | 3 => ("PairedField$Standing", "berger", "[I", true)
  | 4 => ("PairedField$Standing", "wins", "[I", true)
  | 5 => ("PairedField$Standing", "byes", "[I", true)
  | 6 => ("PairedField$Standing", "games", "[I", true)
  | 7 => ("PairedField$Standing", "latest", "[I", true)
  | 8 => ("PairedField$Standing", "lastButOne", "[I", true)
  | _ => ("PairedField$Standing", "met", "[I", true)
def ty_S : Nat → FieldType := fun k => match k with
  | 0 => .array .int
  | 1 => .array .int
  | 2 => .array .int
  | 3 => .array .int
  | 4 => .array .int
  | 5 => .array .int
  | 6 => .array .int
  | 7 => .array .int
  | 8 => .array .int
  | _ => .array .int
theorem nm_S : ∀ a, a < 10 → ∀ b, b < 10 → a ≠ b → (T_S a).2.1 ≠ (T_S b).2.1 := by decide +kernel
theorem tk_S : ∀ k, k < 10 → parseFieldDescriptor (T_S k).2.2.1 = some (ty_S k) := by decide +kernel
theorem in_S : ∀ x ∈ u_ws R_S T_S 10, x ∈ Ttab := by
  intro x hx
  have h : x ∈ ([.laysFinal "PairedField$Standing" "PairedField$Standing" "score" "[I", .laysFinal "PairedField$Standing" "PairedField$Standing" "balance" "[I", .laysFinal "PairedField$Standing" "PairedField$Standing" "buchholz" "[I", .laysFinal "PairedField$Standing" "PairedField$Standing" "berger" "[I", .laysFinal "PairedField$Standing" "PairedField$Standing" "wins" "[I", .laysFinal "PairedField$Standing" "PairedField$Standing" "byes" "[I", .laysFinal "PairedField$Standing" "PairedField$Standing" "games" "[I", .laysFinal "PairedField$Standing" "PairedField$Standing" "latest" "[I", .laysFinal "PairedField$Standing" "PairedField$Standing" "lastButOne" "[I", .laysFinal "PairedField$Standing" "PairedField$Standing" "met" "[I"] : List Cond) := hx
  simp only [List.mem_cons, List.not_mem_nil, or_false] at h
  rcases h with rfl | rfl | rfl | rfl | rfl | rfl | rfl | rfl | rfl | rfl
  · exact t1_mem 50 rfl rfl
  · exact t1_mem 52 rfl rfl
  · exact t1_mem 54 rfl rfl
  · exact t1_mem 56 rfl rfl
  · exact t1_mem 58 rfl rfl
  · exact t1_mem 60 rfl rfl
  · exact t1_mem 62 rfl rfl
  · exact t1_mem 64 rfl rfl
  · exact t1_mem 66 rfl rfl
  · exact t1_mem 68 rfl rfl
def R_P : String := "PairedField$Pairing"
def T_P : u_T := fun k => match k with
  | 0 => ("PairedField$Pairing", "seated", "[I", true)
  | 1 => ("PairedField$Pairing", "seats", "I", false)
  | 2 => ("PairedField$Pairing", "byePlayer", "I", false)
  | 3 => ("PairedField$Pairing", "price", "[[I", true)
  | 4 => ("PairedField$Pairing", "least", "[I", true)
  | _ => ("PairedField$Pairing", "counted", "[I", true)
def ty_P : Nat → FieldType := fun k => match k with
  | 0 => .array .int
  | 1 => .int
  | 2 => .int
  | 3 => .array (.array .int)
  | 4 => .array .int
  | _ => .array .int
theorem nm_P : ∀ a, a < 6 → ∀ b, b < 6 → a ≠ b → (T_P a).2.1 ≠ (T_P b).2.1 := by decide +kernel
theorem tk_P : ∀ k, k < 6 → parseFieldDescriptor (T_P k).2.2.1 = some (ty_P k) := by decide +kernel
theorem in_P : ∀ x ∈ u_ws R_P T_P 6, x ∈ Ttab := by
  intro x hx
  have h : x ∈ ([.laysFinal "PairedField$Pairing" "PairedField$Pairing" "seated" "[I", .lays "PairedField$Pairing" "PairedField$Pairing" "seats" "I", .lays "PairedField$Pairing" "PairedField$Pairing" "byePlayer" "I", .laysFinal "PairedField$Pairing" "PairedField$Pairing" "price" "[[I", .laysFinal "PairedField$Pairing" "PairedField$Pairing" "least" "[I", .laysFinal "PairedField$Pairing" "PairedField$Pairing" "counted" "[I"] : List Cond) := hx
  simp only [List.mem_cons, List.not_mem_nil, or_false] at h
  rcases h with rfl | rfl | rfl | rfl | rfl | rfl
  · exact t1_mem 86 rfl rfl
  · exact t1_mem 88 rfl rfl
  · exact t1_mem 90 rfl rfl
  · exact t1_mem 92 rfl rfl
  · exact t1_mem 94 rfl rfl
  · exact t1_mem 96 rfl rfl
def R_M : String := "PairedFieldModel"
def T_M : u_T := fun k => match k with
  | 0 => ("PairedFieldModel", "thrown", "I", false)
  | 1 => ("PairedFieldModel", "players", "I", false)
  | 2 => ("PairedFieldModel", "in", "[Z", true)
  | 3 => ("PairedFieldModel", "kept", "[Z", true)
  | 4 => ("PairedFieldModel", "closed", "I", false)
  | 5 => ("PairedFieldModel", "open", "Z", false)
  | 6 => ("PairedFieldModel", "opponents", "[I", true)
  | 7 => ("PairedFieldModel", "whites", "[Z", true)
  | 8 => ("PairedFieldModel", "results", "[I", true)
  | 9 => ("PairedFieldModel", "many", "I", false)
  | 10 => ("PairedFieldModel", "order", "[I", true)
  | 11 => ("PairedFieldModel", "bye", "I", false)
  | 12 => ("PairedFieldModel", "costs", "[I", true)
  | 13 => ("PairedFieldModel", "best", "[I", true)
  | 14 => ("PairedFieldModel", "pick", "[I", true)
  | 15 => ("PairedFieldModel", "waysOf", "[I", true)
  | _ => ("PairedFieldModel", "places", "[I", true)
def ty_M : Nat → FieldType := fun k => match k with
  | 0 => .int
  | 1 => .int
  | 2 => .array .boolean
  | 3 => .array .boolean
  | 4 => .int
  | 5 => .boolean
  | 6 => .array .int
  | 7 => .array .boolean
  | 8 => .array .int
  | 9 => .int
  | 10 => .array .int
  | 11 => .int
  | 12 => .array .int
  | 13 => .array .int
  | 14 => .array .int
  | 15 => .array .int
  | _ => .array .int
theorem nm_M : ∀ a, a < 17 → ∀ b, b < 17 → a ≠ b → (T_M a).2.1 ≠ (T_M b).2.1 := by decide +kernel
theorem tk_M : ∀ k, k < 17 → parseFieldDescriptor (T_M k).2.2.1 = some (ty_M k) := by decide +kernel
theorem in_M : ∀ x ∈ u_ws R_M T_M 17, x ∈ Ttab := by
  intro x hx
  have h : x ∈ ([.lays "PairedFieldModel" "PairedFieldModel" "thrown" "I", .lays "PairedFieldModel" "PairedFieldModel" "players" "I", .laysFinal "PairedFieldModel" "PairedFieldModel" "in" "[Z", .laysFinal "PairedFieldModel" "PairedFieldModel" "kept" "[Z", .lays "PairedFieldModel" "PairedFieldModel" "closed" "I", .lays "PairedFieldModel" "PairedFieldModel" "open" "Z", .laysFinal "PairedFieldModel" "PairedFieldModel" "opponents" "[I", .laysFinal "PairedFieldModel" "PairedFieldModel" "whites" "[Z", .laysFinal "PairedFieldModel" "PairedFieldModel" "results" "[I", .lays "PairedFieldModel" "PairedFieldModel" "many" "I", .laysFinal "PairedFieldModel" "PairedFieldModel" "order" "[I", .lays "PairedFieldModel" "PairedFieldModel" "bye" "I", .laysFinal "PairedFieldModel" "PairedFieldModel" "costs" "[I", .laysFinal "PairedFieldModel" "PairedFieldModel" "best" "[I", .laysFinal "PairedFieldModel" "PairedFieldModel" "pick" "[I", .laysFinal "PairedFieldModel" "PairedFieldModel" "waysOf" "[I", .laysFinal "PairedFieldModel" "PairedFieldModel" "places" "[I"] : List Cond) := hx
  simp only [List.mem_cons, List.not_mem_nil, or_false] at h
  rcases h with rfl | rfl | rfl | rfl | rfl | rfl | rfl | rfl | rfl | rfl | rfl | rfl | rfl | rfl | rfl | rfl | rfl
  · exact t3_mem 132 rfl rfl
  · exact t3_mem 134 rfl rfl
  · exact t3_mem 136 rfl rfl
  · exact t3_mem 138 rfl rfl
  · exact t3_mem 140 rfl rfl
  · exact t3_mem 142 rfl rfl
  · exact t3_mem 144 rfl rfl
  · exact t3_mem 146 rfl rfl
  · exact t3_mem 148 rfl rfl
  · exact t3_mem 150 rfl rfl
  · exact t3_mem 152 rfl rfl
  · exact t3_mem 154 rfl rfl
  · exact t3_mem 156 rfl rfl
  · exact t3_mem 158 rfl rfl
  · exact t3_mem 160 rfl rfl
  · exact t3_mem 162 rfl rfl
  · exact t3_mem 164 rfl rfl
abbrev classes : List vw_C := [(R_F, T_F, 8), (R_S, T_S, 10), (R_P, T_P, 6), (R_M, T_M, 17)]
/-- where the cells stand; class numbers and slots; the array classes of int, boolean, int[], long -/
abbrev GG : Type := (Nat → Nat) × va_G × (ClassId × ClassId × ClassId × ClassId)
abbrev tysOf (g : GG) : List (ClassId × FieldType) := [(g.2.2.1, .int), (g.2.2.2.1, .boolean), (g.2.2.2.2.1, .array .int), (g.2.2.2.2.2, .long)]
abbrev Wd : Type := Nat → Nat → Int32
abbrev NC : Nat := 61
/-- how long an array of ints is; 0: the cell is none -/
def lenI (q : Nat) : Nat := if 2 ≤ q ∧ q < 18 then 12 else if q = 19 then 12 else if 21 ≤ q ∧ q < 31 then 12 else if q = 32 then 12 else if 34 ≤ q ∧ q < 46 then 12 else if q = 46 ∨ q = 47 then 2048 else if q = 51 ∨ q = 53 then 204 else if q = 54 ∨ q = 59 then 12 else if q = 55 then 144 else if q = 56 ∨ q = 57 ∨ q = 58 then 4096 else 0
def lenZ (q : Nat) : Nat := if q = 18 ∨ q = 49 then 12 else if q = 50 then 144 else if q = 52 then 204 else 0
def lenA (q : Nat) : Nat := if q = 1 then 16 else if q = 33 then 12 else 0
/-- what a cell is -/
def ent (g : GG) (f : Nat → Int32) (q : Nat) : va_E :=
  if 0 < lenI q then .inl (g.2.2.1, lenI q, .inl f)
  else if 0 < lenZ q then .inl (g.2.2.2.1, lenZ q, .inl f)
  else if 0 < lenA q then .inl (g.2.2.2.2.1, lenA q, .inr (.inr (.inr (.inr (fun j => some (g.1 (q + 1 + j)))))))
  else if q = 0 then .inr (0, [.ref (g.1 1), .ref (g.1 18), .ref (g.1 19), .ref (g.1 20), .ref (g.1 31), .int (f 5), .int (f 6), .int (f 7)])
  else if q = 20 then .inr (1, [.ref (g.1 21), .ref (g.1 22), .ref (g.1 23), .ref (g.1 24), .ref (g.1 25), .ref (g.1 26), .ref (g.1 27), .ref (g.1 28), .ref (g.1 29), .ref (g.1 30)])
  else if q = 31 then .inr (2, [.ref (g.1 32), .int (f 1), .int (f 2), .ref (g.1 33), .ref (g.1 46), .ref (g.1 47)])
  else if q = 48 then .inr (3, [.int (f 0), .int (f 1), .ref (g.1 49), .ref (g.1 50), .int (f 4), .int (f 5), .ref (g.1 51), .ref (g.1 52), .ref (g.1 53), .int (f 9), .ref (g.1 54), .int (f 11), .ref (g.1 55), .ref (g.1 56), .ref (g.1 57), .ref (g.1 58), .ref (g.1 59)])
  else .inl (g.2.2.2.2.2, 1, .inr (.inl (fun i => (f i).toInt64)))
def cellsOf (g : GG) (w : Wd) : va_W := (List.range NC).map (fun k => (g.1 k, ent g (w k) k))
theorem lenI_lt {q : Nat} (h : 0 < lenI q) : q < NC := by
  unfold lenI at h
  unfold NC
  split at h
  · omega
  · repeat (split at h; omega)
    exact absurd h (Nat.lt_irrefl 0)
theorem lenI_le (q : Nat) : lenI q ≤ 4096 := by
  unfold lenI
  repeat (split; omega)
  omega
theorem lenZ_le (q : Nat) : lenZ q ≤ 204 := by
  unfold lenZ
  repeat (split; omega)
  omega
theorem lenZ_lt {q : Nat} (h : 0 < lenZ q) : q < NC ∧ lenI q = 0 := by
  have hq : q = 18 ∨ q = 49 ∨ q = 50 ∨ q = 52 := by
    unfold lenZ at h
    split at h
    · omega
    · repeat (split at h; omega)
      exact absurd h (Nat.lt_irrefl 0)
  rcases hq with rfl | rfl | rfl | rfl <;> exact ⟨by decide, by decide⟩
theorem lenA_lt {q : Nat} (h : 0 < lenA q) : q < NC ∧ lenI q = 0 ∧ lenZ q = 0 := by
  have hq : q = 1 ∨ q = 33 := by
    unfold lenA at h
    split at h
    · omega
    · repeat (split at h; omega)
      exact absurd h (Nat.lt_irrefl 0)
  rcases hq with rfl | rfl <;> exact ⟨by decide, by decide, by decide⟩
theorem ent_I {q : Nat} (h : 0 < lenI q) (g : GG) (f : Nat → Int32) : q < NC ∧ ent g f q = .inl (g.2.2.1, lenI q, .inl f) := ⟨lenI_lt h, by unfold ent; rw [if_pos h]⟩
theorem ent_Z {q : Nat} (h : 0 < lenZ q) (g : GG) (f : Nat → Int32) : q < NC ∧ ent g f q = .inl (g.2.2.2.1, lenZ q, .inl f) := by
  obtain ⟨h1, h2⟩ := lenZ_lt h
  refine ⟨h1, ?_⟩
  unfold ent
  rw [if_neg (by omega), if_pos h]
theorem ent_A {q : Nat} (h : 0 < lenA q) (g : GG) (f : Nat → Int32) : q < NC ∧ ent g f q = .inl (g.2.2.2.2.1, lenA q, .inr (.inr (.inr (.inr (fun j => some (g.1 (q + 1 + j))))))) := by
  obtain ⟨h1, h2, h3⟩ := lenA_lt h
  refine ⟨h1, ?_⟩
  unfold ent
  rw [if_neg (by omega), if_neg (by omega), if_pos h]
theorem ent_F (g : GG) (f : Nat → Int32) : ent g f 0 = .inr (0, [.ref (g.1 1), .ref (g.1 18), .ref (g.1 19), .ref (g.1 20), .ref (g.1 31), .int (f 5), .int (f 6), .int (f 7)]) := rfl
theorem ent_S (g : GG) (f : Nat → Int32) : ent g f 20 = .inr (1, [.ref (g.1 21), .ref (g.1 22), .ref (g.1 23), .ref (g.1 24), .ref (g.1 25), .ref (g.1 26), .ref (g.1 27), .ref (g.1 28), .ref (g.1 29), .ref (g.1 30)]) := rfl
theorem ent_P (g : GG) (f : Nat → Int32) : ent g f 31 = .inr (2, [.ref (g.1 32), .int (f 1), .int (f 2), .ref (g.1 33), .ref (g.1 46), .ref (g.1 47)]) := rfl
theorem ent_M (g : GG) (f : Nat → Int32) : ent g f 48 = .inr (3, [.int (f 0), .int (f 1), .ref (g.1 49), .ref (g.1 50), .int (f 4), .int (f 5), .ref (g.1 51), .ref (g.1 52), .ref (g.1 53), .int (f 9), .ref (g.1 54), .int (f 11), .ref (g.1 55), .ref (g.1 56), .ref (g.1 57), .ref (g.1 58), .ref (g.1 59)]) := rfl
theorem ent_out (g : GG) (f : Nat → Int32) : ent g f 60 = .inl (g.2.2.2.2.2, 1, .inr (.inl (fun i => (f i).toInt64))) := rfl
end
section
/-! The judgement Go: a walk over a world of numbers. A world gives for each cell (by its number) and each place an Int32; references never change once the objects stand. -/
/-- a locals' list by places -/
def pl_has (ls : Array Slot) (nL : Nat) (lp : List (Option Value)) : Prop := ls.size = nL ∧ lv_wf ls ∧ lp.length ≤ nL ∧ ∀ (i : Nat) (v : Value), lp[i]? = some (some v) → ls[i]? = some (.val v) ∧ v.category = 1
theorem pl_le {ls : Array Slot} {nL : Nat} {lp : List (Option Value)} (h : pl_has ls nL lp) : lp.length ≤ nL := h.2.2.1
theorem pl_at {ls : Array Slot} {nL : Nat} {lp : List (Option Value)} (h : pl_has ls nL lp) {i : Nat} {v : Value} (hv : lp[i]? = some (some v)) : ls[i]? = some (.val v) := (h.2.2.2 i v hv).1
theorem pl_store {ls : Array Slot} {nL : Nat} {lp : List (Option Value)} {i : Nat} {v : Value} (h : pl_has ls nL lp) (hi : i < nL) (hc : v.category = 1) : ∃ ls', storeLocals ls i v = some ls' ∧ pl_has ls' nL (lp.set i (some v)) := by
  obtain ⟨h1, h2, h4, h3⟩ := h
  obtain ⟨ls', e, hs, hw, hv⟩ := lv_store1 (l := []) (i := i) (v := v) ⟨h1, h2, fun q hq => by cases hq⟩ hi hc
  refine ⟨ls', e, hs, hw, by rw [List.length_set]; exact h4, fun j u hj => ?_⟩
  by_cases hji : j = i
  · subst hji
    have hl : j < (lp.set j (some v)).length := (List.getElem?_eq_some_iff.mp hj).1
    rw [List.length_set] at hl
    rw [List.getElem?_set_self hl] at hj
    have : v = u := by simpa using hj
    subst this
    exact ⟨hv (j, v) List.mem_cons_self, hc⟩
  · rw [List.getElem?_set_ne (Ne.symm hji)] at hj
    obtain ⟨q1, q2⟩ := h3 j u hj
    obtain ⟨ls2, e2, hh⟩ := lv_store1 (l := [(j, u)]) (i := i) (v := v) ⟨h1, h2, fun q hq => by rw [List.mem_singleton] at hq; subst hq; exact q1⟩ hi hc
    rw [e] at e2
    cases e2
    exact ⟨hh.2.2 (j, u) (List.mem_cons_of_mem _ (List.mem_filter.mpr ⟨List.mem_singleton.mpr rfl, by simp [hji, q2]⟩)), q2⟩
theorem pl_weak {ls : Array Slot} {nL : Nat} {lp lp' : List (Option Value)} (h : pl_has ls nL lp) (hl : lp'.length ≤ lp.length) (hh : ∀ (i : Nat) (v : Value), lp'[i]? = some (some v) → lp[i]? = some (some v)) : pl_has ls nL lp' := ⟨h.1, h.2.1, Nat.le_trans hl h.2.2.1, fun i v hv => h.2.2.2 i v (hh i v hv)⟩
/-- the locals' list at a method's entry -/
def lp_of (nL : Nat) (av : List Value) : List (Option Value) := av.map some ++ List.replicate (nL - av.length) none
theorem lv_args_mem : ∀ (av : List Value) (k : Nat), (∀ v ∈ av, v.category = 1) → ∀ (i : Nat) (v : Value), av[i]? = some v → (k + i, v) ∈ lv_args k av
  | [], _, _, i, v, h => by simp at h
  | u :: us, k, hc, i, v, h => by
    have h2 : ¬ u.category = 2 := by rw [hc u List.mem_cons_self]; decide
    rw [lv_args, if_neg h2]
    cases i with
    | zero =>
      have : u = v := by simpa using h
      subst this
      exact List.mem_cons_self
    | succ i =>
      rw [List.getElem?_cons_succ] at h
      have := lv_args_mem us (k + 1) (fun x hx => hc x (List.mem_cons_of_mem _ hx)) i v h
      rw [show k + (i + 1) = k + 1 + i by omega]
      exact List.mem_cons_of_mem _ this
theorem lg_sl_len : ∀ (av : List Value), (∀ v ∈ av, v.category = 1) → (lg_sl av).length = av.length
  | [], _ => rfl
  | u :: us, hc => by
    have h2 : ¬ u.category = 2 := by rw [hc u List.mem_cons_self]; decide
    have ih := lg_sl_len us (fun x hx => hc x (List.mem_cons_of_mem _ hx))
    unfold lg_sl at ih ⊢
    rw [List.flatMap_cons, List.length_append, ih, if_neg h2]
    simp
    omega
theorem pl_entry {av : List Value} {nL : Nat} (hc : ∀ v ∈ av, v.category = 1) (hn : av.length ≤ nL) : pl_has ((lg_sl av ++ List.replicate (nL - (lg_sl av).length) Slot.unset).toArray) nL (lp_of nL av) := by
  have hl := lv_entry av (n := nL) (by rw [lg_sl_len av hc]; exact hn)
  refine ⟨hl.1, hl.2.1, by simp [lp_of]; omega, fun i v hv => ?_⟩
  have hv' : av[i]? = some v := by
    unfold lp_of at hv
    by_cases hi : i < (av.map some).length
    · rw [List.getElem?_append_left hi, List.getElem?_map] at hv
      cases h9 : av[i]? with
      | none => rw [h9] at hv; cases hv
      | some z => rw [h9] at hv; simpa using hv
    · rw [List.getElem?_append_right (by omega)] at hv
      have := List.eq_of_mem_replicate (List.mem_of_getElem? hv)
      cases this
  refine ⟨?_, hc v (List.mem_of_getElem? hv')⟩
  have := hl.2.2 (0 + i, v) (lv_args_mem av 0 hc i v hv')
  simpa using this
/-- a number is written at a place of a cell -/
def wu (w : Wd) (k i : Nat) (x : Int32) : Wd := fun j => if j = k then upd (w k) i x else w j
theorem wu_self (w : Wd) (k i : Nat) (x : Int32) : wu w k i x k = upd (w k) i x := by simp [wu]
theorem wu_ne {w : Wd} {k j i : Nat} {x : Int32} (h : j ≠ k) : wu w k i x j = w j := by simp [wu, h]
theorem cells_len (g : GG) (w : Wd) : (cellsOf g w).length = NC := by simp [cellsOf]
theorem cells_get (g : GG) (w : Wd) {q : Nat} (hq : q < NC) : (cellsOf g w)[q]? = some (g.1 q, ent g (w q) q) := by
  unfold cellsOf
  rw [List.getElem?_map, List.getElem?_range hq]
  rfl
theorem cells_some {g : GG} {w : Wd} {q : Nat} {x : Nat × va_E} (h : (cellsOf g w)[q]? = some x) : q < NC ∧ x = (g.1 q, ent g (w q) q) := by
  have hq : q < NC := by rw [← cells_len g w]; exact (List.getElem?_eq_some_iff.mp h).1
  rw [cells_get g w hq] at h
  exact ⟨hq, (Option.some.inj h).symm⟩
theorem cells_set {g : GG} {w : Wd} {q i : Nat} {x : Int32} {e : va_E} (hq : q < NC) (he : e = ent g (upd (w q) i x) q) : (cellsOf g w).set q (g.1 q, e) = cellsOf g (wu w q i x) := by
  apply List.ext_getElem?
  intro j
  by_cases hj : j = q
  · subst hj
    rw [List.getElem?_set_self (by rw [cells_len]; exact hq), cells_get g _ hq, wu_self, he]
  · rw [List.getElem?_set_ne (Ne.symm hj)]
    by_cases hn : j < NC
    · rw [cells_get g _ hn, cells_get g _ hn, wu_ne hj]
    · rw [List.getElem?_eq_none (by rw [cells_len]; omega), List.getElem?_eq_none (by rw [cells_len]; omega)]
/-- the cells are apart -/
def AD (g : GG) : Prop := ∀ i j : Nat, i < NC → j < NC → g.1 i = g.1 j → i = j
/-- what a walk may change: the world's cells, and new ones -/
def AA (g : GG) (s : State) : Nat → Prop := fun q => (∃ k, k < NC ∧ g.1 k = q) ∨ s.heap.size ≤ q
theorem cells_D {g : GG} (h : AD g) (s : State) (w : Wd) : va_D (AA g s) (cellsOf g w) := by
  refine ⟨fun i j p q hp hq e => ?_, fun k q hk => ?_⟩
  · obtain ⟨a1, rfl⟩ := cells_some hp
    obtain ⟨a2, rfl⟩ := cells_some hq
    exact h i j a1 a2 e
  · obtain ⟨a1, rfl⟩ := cells_some hk
    exact Or.inl ⟨k, a1, rfl⟩
abbrev Cxt : Type := Program × Launch × Env × Room × State × MethodId × Array Value × List Frame × Method × Code
/-- the walk from pc, with the locals lp and the operand stack st, over any heap that holds the world w -/
def Go : Cxt → GG → Nat → Nat → (State → Prop) → Wd → Nat → List (Option Value) → List Value → Prop
  | (p, l, e, R, s, m, args, below, meth, c), g, kc, ks, Q, w, pc, lp, st =>
    ∀ (ls : Array Slot) (H : Heap) (locs : List Loc), pl_has ls c.maxLocals lp → va_P g.2.1 classes (cellsOf g w) H → va_S (AA g s) s.heap H locs → W p l e R s m args below meth c H locs kc ks Q (F0 m pc ls st)
/-- what a walk stands on -/
def Ok : Cxt → GG → ByteArray → String → Option FieldType → List (Nat × Nat × Nat × Nat) → Nat → Prop
  | (p, l, e, R, s, m, args, below, meth, c), g, cc, own, ret, hx, d =>
    p.tables.exec = Jvm.exec ∧ c.code = cc ∧ s.vm.findClass own = some m.cls ∧ Tb args s ∧ va_K g.2.1 classes (tysOf g) s ∧ AD g ∧ meth.locks = false ∧ meth.sig.returnType = ret ∧
      c.exceptionTable.toList.map (fun h => (h.startPc, h.endPc, h.handlerPc, h.catchType)) = hx ∧ d ≤ R.frames ∧ 30 * d ≤ R.locals ∧ l.stackTraces = false
abbrev Rt : Type := Option Value ⊕ String
/-- how a method has ended -/
def OcIs (s : State) (r : Rt) (oc : Outcome) (t : State) : Prop := match r with
  | .inl v => oc = .returned v
  | .inr cn => ∃ (x : Nat) (cell : Cell), oc = .threw x ∧ t.heap[x]? = some cell ∧ s.vm.findClass cn = some cell.cls ∧ cell.vm = .none ∧ s.heap.size ≤ x
def Fen : Cxt → GG → Nat → Nat → (Rt → Wd → Prop) → State → Prop
  | (_, _, _, _, s, _, _, below, _, _), g, k, n, P, t =>
    ∃ (r : Rt) (w : Wd) (oc : Outcome) (L : List Loc), P r w ∧ t.status = .running ∧ Ended t below oc ∧ OcIs s r oc t ∧ va_P g.2.1 classes (cellsOf g w) t.heap ∧ va_F (AA g s) s t ∧ s.WarmedH t.vm ∧ s.sameButNew ({ t with vm := s.vm } : State) L k n ∧ ∀ q ∈ L, AA g s q.base
/-- a method's contract: from arguments av and the world w it ends with an answer r and a world w' of which P says something; at most k cells of n slots are new -/
def Con (l : Launch) (g : GG) (y : MethodName) (cc : ByteArray) (nL : Nat) (ret : Option FieldType) (hx : List (Nat × Nat × Nat × Nat)) (d k n : Nat) (av : List Value) (w : Wd) (P : Rt → Wd → Prop) : Prop :=
  ∀ X : Cxt, X.2.1 = l → X.2.2.2.2.2.2.1 = av.toArray → X.2.2.2.2.2.2.2.2.2.maxLocals = nL → k ≤ X.2.2.2.1.cells → n ≤ X.2.2.2.1.slots → Ok X g cc y.cls ret hx d → Go X g 0 0 (Fen X g k n P) w 0 (lp_of nL av) []
theorem Go.weak {X : Cxt} {g : GG} {kc ks : Nat} {Q : State → Prop} {w : Wd} {pc : Nat} {lp lp' : List (Option Value)} {st : List Value} (hl : lp'.length ≤ lp.length) (hh : ∀ (i : Nat) (v : Value), lp'[i]? = some (some v) → lp[i]? = some (some v)) (k : Go X g kc ks Q w pc lp' st) : Go X g kc ks Q w pc lp st := by
  obtain ⟨p, l, e, R, s, m, args, below, meth, c⟩ := X
  intro ls H locs h1 h2 h3
  exact k ls H locs (pl_weak h1 hl hh) h2 h3
theorem Go.widen {X : Cxt} {g : GG} {kc ks kc' ks' : Nat} {Q : State → Prop} {w : Wd} {pc : Nat} {lp : List (Option Value)} {st : List Value} (h1 : kc ≤ kc') (h2 : ks ≤ ks') (k : Go X g kc' ks' Q w pc lp st) : Go X g kc ks Q w pc lp st := by
  obtain ⟨p, l, e, R, s, m, args, below, meth, c⟩ := X
  intro ls H locs q1 q2 q3
  exact W.widen h1 h2 (k ls H locs q1 q2 q3)
theorem Go.cast {X : Cxt} {g : GG} {kc ks : Nat} {Q : State → Prop} {w w' : Wd} {pc : Nat} {lp lp' : List (Option Value)} {st st' : List Value} (hw : w = w') (hl : lp = lp') (hs : st = st') (k : Go X g kc ks Q w' pc lp' st') : Go X g kc ks Q w pc lp st := by
  subst hw; subst hl; subst hs; exact k
theorem r_iadd {X : Cxt} {g : GG} {cc : ByteArray} {own : String} {ret : Option FieldType} {hx : List (Nat × Nat × Nat × Nat)} {d kc ks : Nat} {Q : State → Prop} {w : Wd} {pc : Nat} {lp : List (Option Value)} {st : List Value} {x y : Int32} (hc : Ok X g cc own ret hx d) (hd : decode cc pc = .ok (.iadd, 1)) (k : Go X g kc ks Q w (pc + 1) lp (.int (x + y) :: st)) : Go X g kc ks Q w pc lp (.int y :: .int x :: st) := by
  obtain ⟨p, l, e, R, s, m, args, below, meth, c⟩ := X
  intro ls H locs h1 h2 h3
  exact lv_iadd hc.1 hc.2.1 hd (k ls H locs h1 h2 h3)
theorem r_isub {X : Cxt} {g : GG} {cc : ByteArray} {own : String} {ret : Option FieldType} {hx : List (Nat × Nat × Nat × Nat)} {d kc ks : Nat} {Q : State → Prop} {w : Wd} {pc : Nat} {lp : List (Option Value)} {st : List Value} {x y : Int32} (hc : Ok X g cc own ret hx d) (hd : decode cc pc = .ok (.isub, 1)) (k : Go X g kc ks Q w (pc + 1) lp (.int (x - y) :: st)) : Go X g kc ks Q w pc lp (.int y :: .int x :: st) := by
  obtain ⟨p, l, e, R, s, m, args, below, meth, c⟩ := X
  intro ls H locs h1 h2 h3
  exact lv_isub hc.1 hc.2.1 hd (k ls H locs h1 h2 h3)
theorem r_imul {X : Cxt} {g : GG} {cc : ByteArray} {own : String} {ret : Option FieldType} {hx : List (Nat × Nat × Nat × Nat)} {d kc ks : Nat} {Q : State → Prop} {w : Wd} {pc : Nat} {lp : List (Option Value)} {st : List Value} {x y : Int32} (hc : Ok X g cc own ret hx d) (hd : decode cc pc = .ok (.imul, 1)) (k : Go X g kc ks Q w (pc + 1) lp (.int (x * y) :: st)) : Go X g kc ks Q w pc lp (.int y :: .int x :: st) := by
  obtain ⟨p, l, e, R, s, m, args, below, meth, c⟩ := X
  intro ls H locs h1 h2 h3
  exact lv_imul hc.1 hc.2.1 hd (k ls H locs h1 h2 h3)
theorem r_iand {X : Cxt} {g : GG} {cc : ByteArray} {own : String} {ret : Option FieldType} {hx : List (Nat × Nat × Nat × Nat)} {d kc ks : Nat} {Q : State → Prop} {w : Wd} {pc : Nat} {lp : List (Option Value)} {st : List Value} {x y : Int32} (hc : Ok X g cc own ret hx d) (hd : decode cc pc = .ok (.iand, 1)) (k : Go X g kc ks Q w (pc + 1) lp (.int (x &&& y) :: st)) : Go X g kc ks Q w pc lp (.int y :: .int x :: st) := by
  obtain ⟨p, l, e, R, s, m, args, below, meth, c⟩ := X
  intro ls H locs h1 h2 h3
  exact lv_iand hc.1 hc.2.1 hd (k ls H locs h1 h2 h3)
theorem r_ior {X : Cxt} {g : GG} {cc : ByteArray} {own : String} {ret : Option FieldType} {hx : List (Nat × Nat × Nat × Nat)} {d kc ks : Nat} {Q : State → Prop} {w : Wd} {pc : Nat} {lp : List (Option Value)} {st : List Value} {x y : Int32} (hc : Ok X g cc own ret hx d) (hd : decode cc pc = .ok (.ior, 1)) (k : Go X g kc ks Q w (pc + 1) lp (.int (x ||| y) :: st)) : Go X g kc ks Q w pc lp (.int y :: .int x :: st) := by
  obtain ⟨p, l, e, R, s, m, args, below, meth, c⟩ := X
  intro ls H locs h1 h2 h3
  exact lv_ior hc.1 hc.2.1 hd (k ls H locs h1 h2 h3)
theorem r_ixor {X : Cxt} {g : GG} {cc : ByteArray} {own : String} {ret : Option FieldType} {hx : List (Nat × Nat × Nat × Nat)} {d kc ks : Nat} {Q : State → Prop} {w : Wd} {pc : Nat} {lp : List (Option Value)} {st : List Value} {x y : Int32} (hc : Ok X g cc own ret hx d) (hd : decode cc pc = .ok (.ixor, 1)) (k : Go X g kc ks Q w (pc + 1) lp (.int (x ^^^ y) :: st)) : Go X g kc ks Q w pc lp (.int y :: .int x :: st) := by
  obtain ⟨p, l, e, R, s, m, args, below, meth, c⟩ := X
  intro ls H locs h1 h2 h3
  exact lv_ixor hc.1 hc.2.1 hd (k ls H locs h1 h2 h3)
theorem r_idiv {X : Cxt} {g : GG} {cc : ByteArray} {own : String} {ret : Option FieldType} {hx : List (Nat × Nat × Nat × Nat)} {d kc ks : Nat} {Q : State → Prop} {w : Wd} {pc : Nat} {lp : List (Option Value)} {st : List Value} {x y : Int32} (hc : Ok X g cc own ret hx d) (hd : decode cc pc = .ok (.idiv, 1)) (hne : ¬ y = 0) (k : Go X g kc ks Q w (pc + 1) lp (.int (x / y) :: st)) : Go X g kc ks Q w pc lp (.int y :: .int x :: st) := by
  obtain ⟨p, l, e, R, s, m, args, below, meth, c⟩ := X
  intro ls H locs h1 h2 h3
  exact lv_idiv hc.1 hc.2.1 hd hne (k ls H locs h1 h2 h3)
theorem r_irem {X : Cxt} {g : GG} {cc : ByteArray} {own : String} {ret : Option FieldType} {hx : List (Nat × Nat × Nat × Nat)} {d kc ks : Nat} {Q : State → Prop} {w : Wd} {pc : Nat} {lp : List (Option Value)} {st : List Value} {x y : Int32} (hc : Ok X g cc own ret hx d) (hd : decode cc pc = .ok (.irem, 1)) (hne : ¬ y = 0) (k : Go X g kc ks Q w (pc + 1) lp (.int (x - x / y * y) :: st)) : Go X g kc ks Q w pc lp (.int y :: .int x :: st) := by
  obtain ⟨p, l, e, R, s, m, args, below, meth, c⟩ := X
  intro ls H locs h1 h2 h3
  exact lv_irem hc.1 hc.2.1 hd hne (k ls H locs h1 h2 h3)
theorem r_ishl {X : Cxt} {g : GG} {cc : ByteArray} {own : String} {ret : Option FieldType} {hx : List (Nat × Nat × Nat × Nat)} {d kc ks : Nat} {Q : State → Prop} {w : Wd} {pc : Nat} {lp : List (Option Value)} {st : List Value} {x y : Int32} (hc : Ok X g cc own ret hx d) (hd : decode cc pc = .ok (.ishl, 1)) (k : Go X g kc ks Q w (pc + 1) lp (.int (x <<< (y &&& 31)) :: st)) : Go X g kc ks Q w pc lp (.int y :: .int x :: st) := by
  obtain ⟨p, l, e, R, s, m, args, below, meth, c⟩ := X
  intro ls H locs h1 h2 h3
  exact lv_ishl hc.1 hc.2.1 hd (k ls H locs h1 h2 h3)
theorem r_ishr {X : Cxt} {g : GG} {cc : ByteArray} {own : String} {ret : Option FieldType} {hx : List (Nat × Nat × Nat × Nat)} {d kc ks : Nat} {Q : State → Prop} {w : Wd} {pc : Nat} {lp : List (Option Value)} {st : List Value} {x y : Int32} (hc : Ok X g cc own ret hx d) (hd : decode cc pc = .ok (.ishr, 1)) (k : Go X g kc ks Q w (pc + 1) lp (.int (x >>> (y &&& 31)) :: st)) : Go X g kc ks Q w pc lp (.int y :: .int x :: st) := by
  obtain ⟨p, l, e, R, s, m, args, below, meth, c⟩ := X
  intro ls H locs h1 h2 h3
  exact lv_ishr hc.1 hc.2.1 hd (k ls H locs h1 h2 h3)
theorem r_iushr {X : Cxt} {g : GG} {cc : ByteArray} {own : String} {ret : Option FieldType} {hx : List (Nat × Nat × Nat × Nat)} {d kc ks : Nat} {Q : State → Prop} {w : Wd} {pc : Nat} {lp : List (Option Value)} {st : List Value} {x y : Int32} (hc : Ok X g cc own ret hx d) (hd : decode cc pc = .ok (.iushr, 1)) (k : Go X g kc ks Q w (pc + 1) lp (.int (x.toUInt32 >>> (y.toUInt32 &&& Int32.toUInt32 31)).toInt32 :: st)) : Go X g kc ks Q w pc lp (.int y :: .int x :: st) := by
  obtain ⟨p, l, e, R, s, m, args, below, meth, c⟩ := X
  intro ls H locs h1 h2 h3
  exact lv_iushr hc.1 hc.2.1 hd rfl (k ls H locs h1 h2 h3)
theorem r_ineg {X : Cxt} {g : GG} {cc : ByteArray} {own : String} {ret : Option FieldType} {hx : List (Nat × Nat × Nat × Nat)} {d kc ks : Nat} {Q : State → Prop} {w : Wd} {pc : Nat} {lp : List (Option Value)} {st : List Value} {x : Int32} (hc : Ok X g cc own ret hx d) (hd : decode cc pc = .ok (.ineg, 1)) (k : Go X g kc ks Q w (pc + 1) lp (.int (-x) :: st)) : Go X g kc ks Q w pc lp (.int x :: st) := by
  obtain ⟨p, l, e, R, s, m, args, below, meth, c⟩ := X
  intro ls H locs h1 h2 h3
  exact lv_ineg hc.1 hc.2.1 hd (k ls H locs h1 h2 h3)
theorem r_i2l {X : Cxt} {g : GG} {cc : ByteArray} {own : String} {ret : Option FieldType} {hx : List (Nat × Nat × Nat × Nat)} {d kc ks : Nat} {Q : State → Prop} {w : Wd} {pc : Nat} {lp : List (Option Value)} {st : List Value} {x : Int32} (hc : Ok X g cc own ret hx d) (hd : decode cc pc = .ok (.i2l, 1)) (k : Go X g kc ks Q w (pc + 1) lp (.long x.toInt64 :: st)) : Go X g kc ks Q w pc lp (.int x :: st) := by
  obtain ⟨p, l, e, R, s, m, args, below, meth, c⟩ := X
  intro ls H locs h1 h2 h3
  exact lv_i2l hc.1 hc.2.1 hd rfl (k ls H locs h1 h2 h3)
theorem r_iconst {X : Cxt} {g : GG} {cc : ByteArray} {own : String} {ret : Option FieldType} {hx : List (Nat × Nat × Nat × Nat)} {d kc ks : Nat} {Q : State → Prop} {w : Wd} {pc : Nat} {lp : List (Option Value)} {st : List Value} {n : Int} (hc : Ok X g cc own ret hx d) (hd : decode cc pc = .ok (.iconst n, 1)) (v : Int32) (hv : Int32.ofInt n = v) (k : Go X g kc ks Q w (pc + 1) lp (.int v :: st)) : Go X g kc ks Q w pc lp st := by
  obtain ⟨p, l, e, R, s, m, args, below, meth, c⟩ := X
  intro ls H locs h1 h2 h3
  exact lv_iconst hc.1 hc.2.1 hd hv (k ls H locs h1 h2 h3)
theorem r_bipush {X : Cxt} {g : GG} {cc : ByteArray} {own : String} {ret : Option FieldType} {hx : List (Nat × Nat × Nat × Nat)} {d kc ks : Nat} {Q : State → Prop} {w : Wd} {pc : Nat} {lp : List (Option Value)} {st : List Value} {n : Int} (hc : Ok X g cc own ret hx d) (hd : decode cc pc = .ok (.bipush n, 2)) (v : Int32) (hv : (Int8.ofInt n).toInt32 = v) (k : Go X g kc ks Q w (pc + 2) lp (.int v :: st)) : Go X g kc ks Q w pc lp st := by
  obtain ⟨p, l, e, R, s, m, args, below, meth, c⟩ := X
  intro ls H locs h1 h2 h3
  exact lv_bipush hc.1 hc.2.1 hd hv (k ls H locs h1 h2 h3)
theorem r_sipush {X : Cxt} {g : GG} {cc : ByteArray} {own : String} {ret : Option FieldType} {hx : List (Nat × Nat × Nat × Nat)} {d kc ks : Nat} {Q : State → Prop} {w : Wd} {pc : Nat} {lp : List (Option Value)} {st : List Value} {n : Int} (hc : Ok X g cc own ret hx d) (hd : decode cc pc = .ok (.sipush n, 3)) (v : Int32) (hv : (Int16.ofInt n).toInt32 = v) (k : Go X g kc ks Q w (pc + 3) lp (.int v :: st)) : Go X g kc ks Q w pc lp st := by
  obtain ⟨p, l, e, R, s, m, args, below, meth, c⟩ := X
  intro ls H locs h1 h2 h3
  exact lv_sipush hc.1 hc.2.1 hd hv (k ls H locs h1 h2 h3)
theorem r_lconst {X : Cxt} {g : GG} {cc : ByteArray} {own : String} {ret : Option FieldType} {hx : List (Nat × Nat × Nat × Nat)} {d kc ks : Nat} {Q : State → Prop} {w : Wd} {pc : Nat} {lp : List (Option Value)} {st : List Value} {n : Fin 2} (hc : Ok X g cc own ret hx d) (hd : decode cc pc = .ok (.lconst n, 1)) (v : Int64) (hv : Int64.ofNat (n : Nat) = v) (k : Go X g kc ks Q w (pc + 1) lp (.long v :: st)) : Go X g kc ks Q w pc lp st := by
  obtain ⟨p, l, e, R, s, m, args, below, meth, c⟩ := X
  intro ls H locs h1 h2 h3
  exact lv_lconst hc.1 hc.2.1 hd hv (k ls H locs h1 h2 h3)
theorem r_iload_n {X : Cxt} {g : GG} {cc : ByteArray} {own : String} {ret : Option FieldType} {hx : List (Nat × Nat × Nat × Nat)} {d kc ks : Nat} {Q : State → Prop} {w : Wd} {pc : Nat} {lp : List (Option Value)} {st : List Value} {j : Fin 4} {x : Int32} (hc : Ok X g cc own ret hx d) (hd : decode cc pc = .ok (.iload_n j, 1)) (hl : lp[(j : Nat)]? = some (some (.int x))) (k : Go X g kc ks Q w (pc + 1) lp (.int x :: st)) : Go X g kc ks Q w pc lp st := by
  obtain ⟨p, l, e, R, s, m, args, below, meth, c⟩ := X
  intro ls H locs h1 h2 h3
  exact lv_iload_n hc.1 hc.2.1 hd rfl (pl_at h1 hl) (k ls H locs h1 h2 h3)
theorem r_iload {X : Cxt} {g : GG} {cc : ByteArray} {own : String} {ret : Option FieldType} {hx : List (Nat × Nat × Nat × Nat)} {d kc ks : Nat} {Q : State → Prop} {w : Wd} {pc : Nat} {lp : List (Option Value)} {st : List Value} {j : Nat} {x : Int32} (hc : Ok X g cc own ret hx d) (hd : decode cc pc = .ok (.iload j, 2)) (hl : lp[j]? = some (some (.int x))) (k : Go X g kc ks Q w (pc + 2) lp (.int x :: st)) : Go X g kc ks Q w pc lp st := by
  obtain ⟨p, l, e, R, s, m, args, below, meth, c⟩ := X
  intro ls H locs h1 h2 h3
  exact lv_iload hc.1 hc.2.1 hd (pl_at h1 hl) (k ls H locs h1 h2 h3)
theorem r_aload_n {X : Cxt} {g : GG} {cc : ByteArray} {own : String} {ret : Option FieldType} {hx : List (Nat × Nat × Nat × Nat)} {d kc ks : Nat} {Q : State → Prop} {w : Wd} {pc : Nat} {lp : List (Option Value)} {st : List Value} {j : Fin 4} {x : Nat} (hc : Ok X g cc own ret hx d) (hd : decode cc pc = .ok (.aload_n j, 1)) (hl : lp[(j : Nat)]? = some (some (.ref x))) (k : Go X g kc ks Q w (pc + 1) lp (.ref x :: st)) : Go X g kc ks Q w pc lp st := by
  obtain ⟨p, l, e, R, s, m, args, below, meth, c⟩ := X
  intro ls H locs h1 h2 h3
  exact lv_aload_n hc.1 hc.2.1 hd rfl (pl_at h1 hl) (k ls H locs h1 h2 h3)
theorem r_aload {X : Cxt} {g : GG} {cc : ByteArray} {own : String} {ret : Option FieldType} {hx : List (Nat × Nat × Nat × Nat)} {d kc ks : Nat} {Q : State → Prop} {w : Wd} {pc : Nat} {lp : List (Option Value)} {st : List Value} {j : Nat} {x : Nat} (hc : Ok X g cc own ret hx d) (hd : decode cc pc = .ok (.aload j, 2)) (hl : lp[j]? = some (some (.ref x))) (k : Go X g kc ks Q w (pc + 2) lp (.ref x :: st)) : Go X g kc ks Q w pc lp st := by
  obtain ⟨p, l, e, R, s, m, args, below, meth, c⟩ := X
  intro ls H locs h1 h2 h3
  exact lv_aload hc.1 hc.2.1 hd (pl_at h1 hl) (k ls H locs h1 h2 h3)
theorem r_istore_n {X : Cxt} {g : GG} {cc : ByteArray} {own : String} {ret : Option FieldType} {hx : List (Nat × Nat × Nat × Nat)} {d kc ks : Nat} {Q : State → Prop} {w : Wd} {pc : Nat} {lp : List (Option Value)} {st : List Value} {j : Fin 4} {x : Int32} (hc : Ok X g cc own ret hx d) (hd : decode cc pc = .ok (.istore_n j, 1)) (hj : (j : Nat) < lp.length) (k : Go X g kc ks Q w (pc + 1) (lp.set (j : Nat) (some (.int x))) st) : Go X g kc ks Q w pc lp (.int x :: st) := by
  obtain ⟨p, l, e, R, s, m, args, below, meth, c⟩ := X
  intro ls H locs h1 h2 h3
  obtain ⟨ls', e', h'⟩ := pl_store (v := .int x) h1 (Nat.lt_of_lt_of_le hj (pl_le h1)) rfl
  intro T hT X
  obtain ⟨t, a, b⟩ := k ls' H locs h' h2 h3 T hT X
  refine ⟨t, ?_, b⟩
  jvm_step X.here [X.here.top, ↓top_set X.here.top, hc.1, hc.2.1, hd, e']
  exact a
theorem r_istore {X : Cxt} {g : GG} {cc : ByteArray} {own : String} {ret : Option FieldType} {hx : List (Nat × Nat × Nat × Nat)} {d kc ks : Nat} {Q : State → Prop} {w : Wd} {pc : Nat} {lp : List (Option Value)} {st : List Value} {j : Nat} {x : Int32} (hc : Ok X g cc own ret hx d) (hd : decode cc pc = .ok (.istore j, 2)) (hj : j < lp.length) (k : Go X g kc ks Q w (pc + 2) (lp.set j (some (.int x))) st) : Go X g kc ks Q w pc lp (.int x :: st) := by
  obtain ⟨p, l, e, R, s, m, args, below, meth, c⟩ := X
  intro ls H locs h1 h2 h3
  obtain ⟨ls', e', h'⟩ := pl_store (v := .int x) h1 (Nat.lt_of_lt_of_le hj (pl_le h1)) rfl
  intro T hT X
  obtain ⟨t, a, b⟩ := k ls' H locs h' h2 h3 T hT X
  refine ⟨t, ?_, b⟩
  jvm_step X.here [X.here.top, ↓top_set X.here.top, hc.1, hc.2.1, hd, e']
  exact a
theorem r_astore_n {X : Cxt} {g : GG} {cc : ByteArray} {own : String} {ret : Option FieldType} {hx : List (Nat × Nat × Nat × Nat)} {d kc ks : Nat} {Q : State → Prop} {w : Wd} {pc : Nat} {lp : List (Option Value)} {st : List Value} {j : Fin 4} {x : Nat} (hc : Ok X g cc own ret hx d) (hd : decode cc pc = .ok (.astore_n j, 1)) (hj : (j : Nat) < lp.length) (k : Go X g kc ks Q w (pc + 1) (lp.set (j : Nat) (some (.ref x))) st) : Go X g kc ks Q w pc lp (.ref x :: st) := by
  obtain ⟨p, l, e, R, s, m, args, below, meth, c⟩ := X
  intro ls H locs h1 h2 h3
  obtain ⟨ls', e', h'⟩ := pl_store (v := .ref x) h1 (Nat.lt_of_lt_of_le hj (pl_le h1)) rfl
  intro T hT X
  obtain ⟨t, a, b⟩ := k ls' H locs h' h2 h3 T hT X
  refine ⟨t, ?_, b⟩
  jvm_step X.here [X.here.top, ↓top_set X.here.top, hc.1, hc.2.1, hd, e']
  exact ⟨rfl, a⟩
theorem r_astore {X : Cxt} {g : GG} {cc : ByteArray} {own : String} {ret : Option FieldType} {hx : List (Nat × Nat × Nat × Nat)} {d kc ks : Nat} {Q : State → Prop} {w : Wd} {pc : Nat} {lp : List (Option Value)} {st : List Value} {j : Nat} {x : Nat} (hc : Ok X g cc own ret hx d) (hd : decode cc pc = .ok (.astore j, 2)) (hj : j < lp.length) (k : Go X g kc ks Q w (pc + 2) (lp.set j (some (.ref x))) st) : Go X g kc ks Q w pc lp (.ref x :: st) := by
  obtain ⟨p, l, e, R, s, m, args, below, meth, c⟩ := X
  intro ls H locs h1 h2 h3
  obtain ⟨ls', e', h'⟩ := pl_store (v := .ref x) h1 (Nat.lt_of_lt_of_le hj (pl_le h1)) rfl
  intro T hT X
  obtain ⟨t, a, b⟩ := k ls' H locs h' h2 h3 T hT X
  refine ⟨t, ?_, b⟩
  jvm_step X.here [X.here.top, ↓top_set X.here.top, hc.1, hc.2.1, hd, e']
  exact ⟨rfl, a⟩
theorem r_iinc {X : Cxt} {g : GG} {cc : ByteArray} {own : String} {ret : Option FieldType} {hx : List (Nat × Nat × Nat × Nat)} {d kc ks : Nat} {Q : State → Prop} {w : Wd} {pc : Nat} {lp : List (Option Value)} {st : List Value} {j : Nat} {n : Int} {x : Int32} (hc : Ok X g cc own ret hx d) (hd : decode cc pc = .ok (.iinc j n, 3)) (hl : lp[j]? = some (some (.int x))) (k : Go X g kc ks Q w (pc + 3) (lp.set j (some (.int (x + Int32.ofInt n)))) st) : Go X g kc ks Q w pc lp st := by
  obtain ⟨p, l, e, R, s, m, args, below, meth, c⟩ := X
  intro ls H locs h1 h2 h3
  have hj : j < lp.length := (List.getElem?_eq_some_iff.mp hl).1
  have hg := (pl_at h1 hl)
  obtain ⟨ls', e', h'⟩ := pl_store (v := .int (x + Int32.ofInt n)) h1 (Nat.lt_of_lt_of_le hj (pl_le h1)) rfl
  intro T hT X
  obtain ⟨t, a, b⟩ := k ls' H locs h' h2 h3 T hT X
  refine ⟨t, ?_, b⟩
  jvm_step X.here [X.here.top, ↓top_set X.here.top, hc.1, hc.2.1, hd, hg, e']
  exact a
theorem r_dup {X : Cxt} {g : GG} {cc : ByteArray} {own : String} {ret : Option FieldType} {hx : List (Nat × Nat × Nat × Nat)} {d kc ks : Nat} {Q : State → Prop} {w : Wd} {pc : Nat} {lp : List (Option Value)} {st : List Value} {va : Value} (hc : Ok X g cc own ret hx d) (hd : decode cc pc = .ok (.dup, 1)) (hva : va.category = 1) (k : Go X g kc ks Q w (pc + 1) lp (va :: va :: st)) : Go X g kc ks Q w pc lp (va :: st) := by
  obtain ⟨p, l, e, R, s, m, args, below, meth, c⟩ := X
  intro ls H locs h1 h2 h3
  exact lv_dup hc.1 hc.2.1 hd hva (k ls H locs h1 h2 h3)
theorem r_pop {X : Cxt} {g : GG} {cc : ByteArray} {own : String} {ret : Option FieldType} {hx : List (Nat × Nat × Nat × Nat)} {d kc ks : Nat} {Q : State → Prop} {w : Wd} {pc : Nat} {lp : List (Option Value)} {st : List Value} {va : Value} (hc : Ok X g cc own ret hx d) (hd : decode cc pc = .ok (.pop, 1)) (hva : va.category = 1) (k : Go X g kc ks Q w (pc + 1) lp st) : Go X g kc ks Q w pc lp (va :: st) := by
  obtain ⟨p, l, e, R, s, m, args, below, meth, c⟩ := X
  intro ls H locs h1 h2 h3
  exact lv_pop hc.1 hc.2.1 hd hva (k ls H locs h1 h2 h3)
theorem r_dup_x1 {X : Cxt} {g : GG} {cc : ByteArray} {own : String} {ret : Option FieldType} {hx : List (Nat × Nat × Nat × Nat)} {d kc ks : Nat} {Q : State → Prop} {w : Wd} {pc : Nat} {lp : List (Option Value)} {st : List Value} {va vb : Value} (hc : Ok X g cc own ret hx d) (hd : decode cc pc = .ok (.dup_x1, 1)) (hva : va.category = 1) (hvb : vb.category = 1) (k : Go X g kc ks Q w (pc + 1) lp (va :: vb :: va :: st)) : Go X g kc ks Q w pc lp (va :: vb :: st) := by
  obtain ⟨p, l, e, R, s, m, args, below, meth, c⟩ := X
  intro ls H locs h1 h2 h3
  exact lv_dup_x1 hc.1 hc.2.1 hd hva hvb (k ls H locs h1 h2 h3)
theorem r_dup2 {X : Cxt} {g : GG} {cc : ByteArray} {own : String} {ret : Option FieldType} {hx : List (Nat × Nat × Nat × Nat)} {d kc ks : Nat} {Q : State → Prop} {w : Wd} {pc : Nat} {lp : List (Option Value)} {st : List Value} {va vb : Value} (hc : Ok X g cc own ret hx d) (hd : decode cc pc = .ok (.dup2, 1)) (hva : va.category = 1) (hvb : vb.category = 1) (k : Go X g kc ks Q w (pc + 1) lp (va :: vb :: va :: vb :: st)) : Go X g kc ks Q w pc lp (va :: vb :: st) := by
  obtain ⟨p, l, e, R, s, m, args, below, meth, c⟩ := X
  intro ls H locs h1 h2 h3
  exact lv_dup2_11 hc.1 hc.2.1 hd hva hvb (k ls H locs h1 h2 h3)
theorem r_if_eq {X : Cxt} {g : GG} {cc : ByteArray} {own : String} {ret : Option FieldType} {hx : List (Nat × Nat × Nat × Nat)} {d kc ks : Nat} {Q : State → Prop} {w : Wd} {pc : Nat} {lp : List (Option Value)} {st : List Value} {x : Int32} {off : Int} {tgt : Nat} (hc : Ok X g cc own ret hx d) (hd : decode cc pc = .ok (.ifCond .eq off, 3)) (ht : (pc : Int) + off = (tgt : Int)) (kt : x = 0 → Go X g kc ks Q w tgt lp st) (kf : ¬ x = 0 → Go X g kc ks Q w (pc + 3) lp st) : Go X g kc ks Q w pc lp (.int x :: st) := by
  obtain ⟨p, l, e, R, s, m, args, below, meth, c⟩ := X
  intro ls H locs h1 h2 h3
  exact lv_if_eq hc.1 hc.2.1 hd ht (fun q => kt q ls H locs h1 h2 h3) (fun q => kf q ls H locs h1 h2 h3)
theorem r_if_ne {X : Cxt} {g : GG} {cc : ByteArray} {own : String} {ret : Option FieldType} {hx : List (Nat × Nat × Nat × Nat)} {d kc ks : Nat} {Q : State → Prop} {w : Wd} {pc : Nat} {lp : List (Option Value)} {st : List Value} {x : Int32} {off : Int} {tgt : Nat} (hc : Ok X g cc own ret hx d) (hd : decode cc pc = .ok (.ifCond .ne off, 3)) (ht : (pc : Int) + off = (tgt : Int)) (kt : ¬ x = 0 → Go X g kc ks Q w tgt lp st) (kf : x = 0 → Go X g kc ks Q w (pc + 3) lp st) : Go X g kc ks Q w pc lp (.int x :: st) := by
  obtain ⟨p, l, e, R, s, m, args, below, meth, c⟩ := X
  intro ls H locs h1 h2 h3
  exact lv_if_ne hc.1 hc.2.1 hd ht (fun q => kt q ls H locs h1 h2 h3) (fun q => kf q ls H locs h1 h2 h3)
theorem r_if_lt {X : Cxt} {g : GG} {cc : ByteArray} {own : String} {ret : Option FieldType} {hx : List (Nat × Nat × Nat × Nat)} {d kc ks : Nat} {Q : State → Prop} {w : Wd} {pc : Nat} {lp : List (Option Value)} {st : List Value} {x : Int32} {off : Int} {tgt : Nat} (hc : Ok X g cc own ret hx d) (hd : decode cc pc = .ok (.ifCond .lt off, 3)) (ht : (pc : Int) + off = (tgt : Int)) (kt : x < 0 → Go X g kc ks Q w tgt lp st) (kf : ¬ x < 0 → Go X g kc ks Q w (pc + 3) lp st) : Go X g kc ks Q w pc lp (.int x :: st) := by
  obtain ⟨p, l, e, R, s, m, args, below, meth, c⟩ := X
  intro ls H locs h1 h2 h3
  exact lv_if_lt hc.1 hc.2.1 hd ht (fun q => kt q ls H locs h1 h2 h3) (fun q => kf q ls H locs h1 h2 h3)
theorem r_if_ge {X : Cxt} {g : GG} {cc : ByteArray} {own : String} {ret : Option FieldType} {hx : List (Nat × Nat × Nat × Nat)} {d kc ks : Nat} {Q : State → Prop} {w : Wd} {pc : Nat} {lp : List (Option Value)} {st : List Value} {x : Int32} {off : Int} {tgt : Nat} (hc : Ok X g cc own ret hx d) (hd : decode cc pc = .ok (.ifCond .ge off, 3)) (ht : (pc : Int) + off = (tgt : Int)) (kt : 0 ≤ x → Go X g kc ks Q w tgt lp st) (kf : ¬ 0 ≤ x → Go X g kc ks Q w (pc + 3) lp st) : Go X g kc ks Q w pc lp (.int x :: st) := by
  obtain ⟨p, l, e, R, s, m, args, below, meth, c⟩ := X
  intro ls H locs h1 h2 h3
  exact lv_if_ge hc.1 hc.2.1 hd ht (fun q => kt q ls H locs h1 h2 h3) (fun q => kf q ls H locs h1 h2 h3)
theorem r_if_gt {X : Cxt} {g : GG} {cc : ByteArray} {own : String} {ret : Option FieldType} {hx : List (Nat × Nat × Nat × Nat)} {d kc ks : Nat} {Q : State → Prop} {w : Wd} {pc : Nat} {lp : List (Option Value)} {st : List Value} {x : Int32} {off : Int} {tgt : Nat} (hc : Ok X g cc own ret hx d) (hd : decode cc pc = .ok (.ifCond .gt off, 3)) (ht : (pc : Int) + off = (tgt : Int)) (kt : 0 < x → Go X g kc ks Q w tgt lp st) (kf : ¬ 0 < x → Go X g kc ks Q w (pc + 3) lp st) : Go X g kc ks Q w pc lp (.int x :: st) := by
  obtain ⟨p, l, e, R, s, m, args, below, meth, c⟩ := X
  intro ls H locs h1 h2 h3
  exact lv_if_gt hc.1 hc.2.1 hd ht (fun q => kt q ls H locs h1 h2 h3) (fun q => kf q ls H locs h1 h2 h3)
theorem r_if_le {X : Cxt} {g : GG} {cc : ByteArray} {own : String} {ret : Option FieldType} {hx : List (Nat × Nat × Nat × Nat)} {d kc ks : Nat} {Q : State → Prop} {w : Wd} {pc : Nat} {lp : List (Option Value)} {st : List Value} {x : Int32} {off : Int} {tgt : Nat} (hc : Ok X g cc own ret hx d) (hd : decode cc pc = .ok (.ifCond .le off, 3)) (ht : (pc : Int) + off = (tgt : Int)) (kt : x ≤ 0 → Go X g kc ks Q w tgt lp st) (kf : ¬ x ≤ 0 → Go X g kc ks Q w (pc + 3) lp st) : Go X g kc ks Q w pc lp (.int x :: st) := by
  obtain ⟨p, l, e, R, s, m, args, below, meth, c⟩ := X
  intro ls H locs h1 h2 h3
  exact lv_if_le hc.1 hc.2.1 hd ht (fun q => kt q ls H locs h1 h2 h3) (fun q => kf q ls H locs h1 h2 h3)
theorem r_ic_eq {X : Cxt} {g : GG} {cc : ByteArray} {own : String} {ret : Option FieldType} {hx : List (Nat × Nat × Nat × Nat)} {d kc ks : Nat} {Q : State → Prop} {w : Wd} {pc : Nat} {lp : List (Option Value)} {st : List Value} {x y : Int32} {off : Int} {tgt : Nat} (hc : Ok X g cc own ret hx d) (hd : decode cc pc = .ok (.if_icmp .eq off, 3)) (ht : (pc : Int) + off = (tgt : Int)) (kt : x = y → Go X g kc ks Q w tgt lp st) (kf : ¬ x = y → Go X g kc ks Q w (pc + 3) lp st) : Go X g kc ks Q w pc lp (.int y :: .int x :: st) := by
  obtain ⟨p, l, e, R, s, m, args, below, meth, c⟩ := X
  intro ls H locs h1 h2 h3
  exact lv_icmp_eq hc.1 hc.2.1 hd ht (fun q => kt q ls H locs h1 h2 h3) (fun q => kf q ls H locs h1 h2 h3)
theorem r_ic_ne {X : Cxt} {g : GG} {cc : ByteArray} {own : String} {ret : Option FieldType} {hx : List (Nat × Nat × Nat × Nat)} {d kc ks : Nat} {Q : State → Prop} {w : Wd} {pc : Nat} {lp : List (Option Value)} {st : List Value} {x y : Int32} {off : Int} {tgt : Nat} (hc : Ok X g cc own ret hx d) (hd : decode cc pc = .ok (.if_icmp .ne off, 3)) (ht : (pc : Int) + off = (tgt : Int)) (kt : ¬ x = y → Go X g kc ks Q w tgt lp st) (kf : x = y → Go X g kc ks Q w (pc + 3) lp st) : Go X g kc ks Q w pc lp (.int y :: .int x :: st) := by
  obtain ⟨p, l, e, R, s, m, args, below, meth, c⟩ := X
  intro ls H locs h1 h2 h3
  exact lv_icmp_ne hc.1 hc.2.1 hd ht (fun q => kt q ls H locs h1 h2 h3) (fun q => kf q ls H locs h1 h2 h3)
theorem r_ic_lt {X : Cxt} {g : GG} {cc : ByteArray} {own : String} {ret : Option FieldType} {hx : List (Nat × Nat × Nat × Nat)} {d kc ks : Nat} {Q : State → Prop} {w : Wd} {pc : Nat} {lp : List (Option Value)} {st : List Value} {x y : Int32} {off : Int} {tgt : Nat} (hc : Ok X g cc own ret hx d) (hd : decode cc pc = .ok (.if_icmp .lt off, 3)) (ht : (pc : Int) + off = (tgt : Int)) (kt : x < y → Go X g kc ks Q w tgt lp st) (kf : ¬ x < y → Go X g kc ks Q w (pc + 3) lp st) : Go X g kc ks Q w pc lp (.int y :: .int x :: st) := by
  obtain ⟨p, l, e, R, s, m, args, below, meth, c⟩ := X
  intro ls H locs h1 h2 h3
  exact lv_icmp_lt hc.1 hc.2.1 hd ht (fun q => kt q ls H locs h1 h2 h3) (fun q => kf q ls H locs h1 h2 h3)
theorem r_ic_ge {X : Cxt} {g : GG} {cc : ByteArray} {own : String} {ret : Option FieldType} {hx : List (Nat × Nat × Nat × Nat)} {d kc ks : Nat} {Q : State → Prop} {w : Wd} {pc : Nat} {lp : List (Option Value)} {st : List Value} {x y : Int32} {off : Int} {tgt : Nat} (hc : Ok X g cc own ret hx d) (hd : decode cc pc = .ok (.if_icmp .ge off, 3)) (ht : (pc : Int) + off = (tgt : Int)) (kt : y ≤ x → Go X g kc ks Q w tgt lp st) (kf : ¬ y ≤ x → Go X g kc ks Q w (pc + 3) lp st) : Go X g kc ks Q w pc lp (.int y :: .int x :: st) := by
  obtain ⟨p, l, e, R, s, m, args, below, meth, c⟩ := X
  intro ls H locs h1 h2 h3
  exact lv_icmp_ge hc.1 hc.2.1 hd ht (fun q => kt q ls H locs h1 h2 h3) (fun q => kf q ls H locs h1 h2 h3)
theorem r_ic_gt {X : Cxt} {g : GG} {cc : ByteArray} {own : String} {ret : Option FieldType} {hx : List (Nat × Nat × Nat × Nat)} {d kc ks : Nat} {Q : State → Prop} {w : Wd} {pc : Nat} {lp : List (Option Value)} {st : List Value} {x y : Int32} {off : Int} {tgt : Nat} (hc : Ok X g cc own ret hx d) (hd : decode cc pc = .ok (.if_icmp .gt off, 3)) (ht : (pc : Int) + off = (tgt : Int)) (kt : y < x → Go X g kc ks Q w tgt lp st) (kf : ¬ y < x → Go X g kc ks Q w (pc + 3) lp st) : Go X g kc ks Q w pc lp (.int y :: .int x :: st) := by
  obtain ⟨p, l, e, R, s, m, args, below, meth, c⟩ := X
  intro ls H locs h1 h2 h3
  exact lv_icmp_gt hc.1 hc.2.1 hd ht (fun q => kt q ls H locs h1 h2 h3) (fun q => kf q ls H locs h1 h2 h3)
theorem r_ic_le {X : Cxt} {g : GG} {cc : ByteArray} {own : String} {ret : Option FieldType} {hx : List (Nat × Nat × Nat × Nat)} {d kc ks : Nat} {Q : State → Prop} {w : Wd} {pc : Nat} {lp : List (Option Value)} {st : List Value} {x y : Int32} {off : Int} {tgt : Nat} (hc : Ok X g cc own ret hx d) (hd : decode cc pc = .ok (.if_icmp .le off, 3)) (ht : (pc : Int) + off = (tgt : Int)) (kt : x ≤ y → Go X g kc ks Q w tgt lp st) (kf : ¬ x ≤ y → Go X g kc ks Q w (pc + 3) lp st) : Go X g kc ks Q w pc lp (.int y :: .int x :: st) := by
  obtain ⟨p, l, e, R, s, m, args, below, meth, c⟩ := X
  intro ls H locs h1 h2 h3
  exact lv_icmp_le hc.1 hc.2.1 hd ht (fun q => kt q ls H locs h1 h2 h3) (fun q => kf q ls H locs h1 h2 h3)
theorem r_goto {X : Cxt} {g : GG} {cc : ByteArray} {own : String} {ret : Option FieldType} {hx : List (Nat × Nat × Nat × Nat)} {d kc ks : Nat} {Q : State → Prop} {w : Wd} {pc : Nat} {lp : List (Option Value)} {st : List Value} {off : Int} {tgt : Nat} (hc : Ok X g cc own ret hx d) (hd : decode cc pc = .ok (.goto off, 3)) (ht : (pc : Int) + off = (tgt : Int)) (k : Go X g kc ks Q w tgt lp st) : Go X g kc ks Q w pc lp st := by
  obtain ⟨p, l, e, R, s, m, args, below, meth, c⟩ := X
  intro ls H locs h1 h2 h3
  exact lv_goto hc.1 hc.2.1 hd ht (k ls H locs h1 h2 h3)
theorem r_lcmp {X : Cxt} {g : GG} {cc : ByteArray} {own : String} {ret : Option FieldType} {hx : List (Nat × Nat × Nat × Nat)} {d kc ks : Nat} {Q : State → Prop} {w : Wd} {pc : Nat} {lp : List (Option Value)} {st : List Value} {x y : Int64} (hc : Ok X g cc own ret hx d) (hd : decode cc pc = .ok (.lcmp, 1)) (k : Go X g kc ks Q w (pc + 1) lp (.int (lg_cmp x y) :: st)) : Go X g kc ks Q w pc lp (.long y :: .long x :: st) := by
  obtain ⟨p, l, e, R, s, m, args, below, meth, c⟩ := X
  intro ls H locs h1 h2 h3
  exact W.lcmp hc.1 hc.2.1 hd (k ls H locs h1 h2 h3)
end
section
section GMEM
variable {X : Cxt} {g : GG} {cc : ByteArray} {own : String} {ret : Option FieldType} {hx : List (Nat × Nat × Nat × Nat)} {d kc ks : Nat} {Q : State → Prop} {w : Wd} {pc : Nat} {lp : List (Option Value)} {st : List Value}
theorem lt_of_in {i : Int32} {n : Nat} (h : vp_in i n) : 0 < n := Nat.pos_of_ne_zero (fun q => by subst q; exact h (Or.inr (Nat.zero_le _)))
theorem r_iald (hc : Ok X g cc own ret hx d) (hd : decode cc pc = .ok (.iaload, 1)) {q : Nat} {i : Int32} (hin : vp_in i (lenI q)) (k : Go X g kc ks Q w (pc + 1) lp (.int (w q i.toNatClampNeg) :: st)) : Go X g kc ks Q w pc lp (.int i :: .ref (g.1 q) :: st) := by
  obtain ⟨p, l, e, R, s, m, args, below, meth, c⟩ := X
  intro ls H locs h1 h2 h3
  obtain ⟨hq, he⟩ := ent_I (lt_of_in hin) g (w q)
  exact va_iald (D := g.2.1) (cl := classes) (tys := tysOf g) hc.1 hc.2.1 hc.2.2.2.2.1 h2 q 0 (by rw [cells_get g w hq, he]) rfl hin hd (k ls H locs h1 h2 h3)
theorem r_iast (hc : Ok X g cc own ret hx d) (hd : decode cc pc = .ok (.iastore, 1)) {q : Nat} {i x : Int32} (hin : vp_in i (lenI q)) (k : Go X g kc ks Q (wu w q i.toNatClampNeg x) (pc + 1) lp st) : Go X g kc ks Q w pc lp (.int x :: .int i :: .ref (g.1 q) :: st) := by
  obtain ⟨p, l, e, R, s, m, args, below, meth, c⟩ := X
  intro ls H locs h1 h2 h3
  obtain ⟨hq, he⟩ := ent_I (lt_of_in hin) g (w q)
  obtain ⟨-, he2⟩ := ent_I (lt_of_in hin) g (upd (w q) i.toNatClampNeg x)
  refine va_iast (D := g.2.1) (cl := classes) (tys := tysOf g) hc.1 hc.2.1 hc.2.2.2.2.1 h2 (cells_D hc.2.2.2.2.2.1 s w) h3 q 0 (by rw [cells_get g w hq, he]) rfl hin hd (fun H1 locs1 a1 _ a3 => ?_)
  rw [cells_set (i := i.toNatClampNeg) (x := x) hq he2.symm] at a1
  exact k ls H1 locs1 h1 a1 a3
theorem r_zald (hc : Ok X g cc own ret hx d) (hd : decode cc pc = .ok (.baload, 1)) {q : Nat} {i : Int32} (hin : vp_in i (lenZ q)) (k : Go X g kc ks Q w (pc + 1) lp (.int (w q i.toNatClampNeg) :: st)) : Go X g kc ks Q w pc lp (.int i :: .ref (g.1 q) :: st) := by
  obtain ⟨p, l, e, R, s, m, args, below, meth, c⟩ := X
  intro ls H locs h1 h2 h3
  obtain ⟨hq, he⟩ := ent_Z (lt_of_in hin) g (w q)
  exact va_zald (D := g.2.1) (cl := classes) (tys := tysOf g) hc.1 hc.2.1 hc.2.2.2.2.1 h2 q 1 (by rw [cells_get g w hq, he]) rfl hin hd (k ls H locs h1 h2 h3)
theorem r_zast (hc : Ok X g cc own ret hx d) (hd : decode cc pc = .ok (.bastore, 1)) {q : Nat} {i x : Int32} (hin : vp_in i (lenZ q)) (hx1 : vp_nar .boolean x = x) (k : Go X g kc ks Q (wu w q i.toNatClampNeg x) (pc + 1) lp st) : Go X g kc ks Q w pc lp (.int x :: .int i :: .ref (g.1 q) :: st) := by
  obtain ⟨p, l, e, R, s, m, args, below, meth, c⟩ := X
  intro ls H locs h1 h2 h3
  obtain ⟨hq, he⟩ := ent_Z (lt_of_in hin) g (w q)
  obtain ⟨-, he2⟩ := ent_Z (lt_of_in hin) g (upd (w q) i.toNatClampNeg x)
  refine va_zast (D := g.2.1) (cl := classes) (tys := tysOf g) hc.1 hc.2.1 hc.2.2.2.2.1 h2 (cells_D hc.2.2.2.2.2.1 s w) h3 q 1 (by rw [cells_get g w hq, he]) rfl hin hd (fun H1 locs1 a1 _ a3 => ?_)
  rw [hx1, cells_set (i := i.toNatClampNeg) (x := x) hq he2.symm] at a1
  exact k ls H1 locs1 h1 a1 a3
theorem r_aald (hc : Ok X g cc own ret hx d) (hd : decode cc pc = .ok (.aaload, 1)) {q : Nat} {i : Int32} (hin : vp_in i (lenA q)) (k : Go X g kc ks Q w (pc + 1) lp (.ref (g.1 (q + 1 + i.toNatClampNeg)) :: st)) : Go X g kc ks Q w pc lp (.int i :: .ref (g.1 q) :: st) := by
  obtain ⟨p, l, e, R, s, m, args, below, meth, c⟩ := X
  intro ls H locs h1 h2 h3
  obtain ⟨hq, he⟩ := ent_A (lt_of_in hin) g (w q)
  have ha : (cellsOf g w)[q]? = some (g.1 q, .inl (g.2.2.2.2.1, lenA q, .inr (.inr (.inr (.inr (fun j => some (g.1 (q + 1 + j)))))))) := by rw [cells_get g w hq, he]
  have hlt : i.toNatClampNeg < lenA q := Nat.not_le.mp fun z => hin (Or.inr z)
  exact W.aald (v := .ref (g.1 (q + 1 + i.toNatClampNeg))) (ty := .array .int) hc.1 hc.2.1 (h2 q _ ha) ((hc.2.2.2.2.1.2 2 _ rfl).1 (lenA q) (fun j => va_rf (some (g.1 (q + 1 + j))))) rfl (fun z => by cases z) (by show ¬ (i < 0 ∨ (arrV _ _ _).slots.size ≤ _); rw [arrV_size]; exact hin) (by show (arrV _ _ _).slots[_]? = _; rw [arrV_read _ _ hlt]; rfl) rfl rfl hd (k ls H locs h1 h2 h3)
theorem r_alen (hc : Ok X g cc own ret hx d) (hd : decode cc pc = .ok (.arraylength, 1)) {q : Nat} (hq0 : 0 < lenI q) (k : Go X g kc ks Q w (pc + 1) lp (.int (nI (lenI q)) :: st)) : Go X g kc ks Q w pc lp (.ref (g.1 q) :: st) := by
  obtain ⟨p, l, e, R, s, m, args, below, meth, c⟩ := X
  intro ls H locs h1 h2 h3
  obtain ⟨hq, he⟩ := ent_I hq0 g (w q)
  exact va_alen (D := g.2.1) (cl := classes) (tys := tysOf g) (x := (lenI q, .inl (w q))) hc.1 hc.2.1 hc.2.2.2.2.1 h2 q 0 (by rw [cells_get g w hq, he]) rfl rfl hd (k ls H locs h1 h2 h3)
theorem r_getf (hc : Ok X g cc own ret hx d) (q ci j : Nat) {C : String} {T : u_T} {N idx : Nat} {fs : List Value} {v : Value} (hd : decode cc pc = .ok (.getfield idx, 3)) (hq : q < NC) (he : ent g (w q) q = .inr (ci, fs)) (hci : classes[ci]? = some (C, T, N)) (hj : j < N) (hin : ∀ x ∈ u_ws C T N, x ∈ Ttab) (hT : (T j).1 = C)
    (hl : Cond.fieldLink own idx C (T j).2.1 (T j).2.2.1 ∈ Ttab) (hv : fs[j]? = some v) (k : Go X g kc ks Q w (pc + 3) lp (v :: st)) : Go X g kc ks Q w pc lp (.ref (g.1 q) :: st) := by
  obtain ⟨p, l, e, R, s, m, args, below, meth, c⟩ := X
  intro ls H locs h1 h2 h3
  exact va_get (D := g.2.1) (cl := classes) (tys := tysOf g) hc.1 hc.2.1 hc.2.2.2.1 hin hc.2.2.1 hc.2.2.2.2.1 h2 q (by rw [cells_get g w hq, he]) hci j hj (hc.2.2.2.1 _ hl) (fun x h => by rw [hT] at h; exact h) hv hd (k ls H locs h1 h2 h3)
theorem r_putf (hc : Ok X g cc own ret hx d) (q ci j : Nat) {C : String} {T : u_T} {N idx : Nat} {fs : List Value} {x : Int32} {ty0 : Nat → FieldType} {ty : FieldType} (hd : decode cc pc = .ok (.putfield idx, 3)) (hq : q < NC) (he : ent g (w q) q = .inr (ci, fs)) (hci : classes[ci]? = some (C, T, N)) (hj : j < N) (hin : ∀ x ∈ u_ws C T N, x ∈ Ttab) (hT : (T j).1 = C)
    (hty : ∀ k, k < N → parseFieldDescriptor (T k).2.2.1 = some (ty0 k)) (hnm : ∀ a, a < N → ∀ b, b < N → a ≠ b → (T a).2.1 ≠ (T b).2.1) (hfin : (T j).2.2.2 = false) (htj : parseFieldDescriptor (T j).2.2.1 = some ty) (hnr : narrow ty (.int x) = .int x) (hfit : fits ty (.int x) = true) (hlen : j < fs.length)
    (hl : Cond.fieldLink own idx C (T j).2.1 (T j).2.2.1 ∈ Ttab) (he2 : .inr (ci, fs.set j (.int x)) = ent g (upd (w q) j x) q) (k : Go X g kc ks Q (wu w q j x) (pc + 3) lp st) : Go X g kc ks Q w pc lp (.int x :: .ref (g.1 q) :: st) := by
  obtain ⟨p, l, e, R, s, m, args, below, meth, c⟩ := X
  intro ls H locs h1 h2 h3
  refine va_put (D := g.2.1) (cl := classes) (tys := tysOf g) hc.1 hc.2.1 hc.2.2.2.1 hin ty0 hty hnm hc.2.2.1 hc.2.2.2.2.1 h2 (cells_D hc.2.2.2.2.2.1 s w) h3 q (by rw [cells_get g w hq, he]) hci j hj (hc.2.2.2.1 _ hl) (fun x h => by rw [hT] at h; exact h) hfin htj hnr hfit hlen hd (fun H1 locs1 a1 _ a3 => ?_)
  rw [cells_set (i := j) (x := x) hq he2] at a1
  exact k ls H1 locs1 h1 a1 a3
theorem r_iret {v : Int32} {P : Rt → Wd → Prop} (hc : Ok X g cc own (some .int) hx d) (hd : decode cc pc = .ok (.ireturn, 1)) (hP : P (.inl (some (.int v))) w) : Go X g kc ks (Fen X g kc ks P) w pc lp [.int v] := by
  obtain ⟨p, l, e, R, s, m, args, below, meth, c⟩ := X
  intro ls H locs h1 h2 h3
  have hlk : meth.locks = false := hc.2.2.2.2.2.2.1
  have k := W.iret (p := p) (l := l) (e := e) (R := R) (s := s) (m := m) (args := args) (below := below) (meth := meth) (c := c) (H := H) (locs := locs) (cells := kc) (slots := ks) (ls := ls) (pc := pc) (v := v) (Qc := fun _ _ oc t => oc = .returned (some (.int v)) ∧ t.heap = H) (free := AA g s) hc.1 hc.2.1 hc.2.2.2.2.2.2.2.1 (fun t ht _ => ⟨rfl, ht⟩) h3.2.2 hd
  intro T hT Y
  obtain ⟨t, a, oc, b1, b2, ⟨b3, b4⟩, L, ⟨-, hW, hsame⟩, hL⟩ := k T hT Y
  exact ⟨t, a, .inl (some (.int v)), w, oc, L, hP, b1, b2, b3, by rw [b4]; exact h2, h3.F b4, hW, hsame, hL⟩
theorem r_zret {v : Int32} {P : Rt → Wd → Prop} (hc : Ok X g cc own (some .boolean) hx d) (hd : decode cc pc = .ok (.ireturn, 1)) (hn : narrow .boolean (.int v) = .int v) (hP : P (.inl (some (.int v))) w) : Go X g kc ks (Fen X g kc ks P) w pc lp [.int v] := by
  obtain ⟨p, l, e, R, s, m, args, below, meth, c⟩ := X
  intro ls H locs h1 h2 h3
  have hlk : meth.locks = false := hc.2.2.2.2.2.2.1
  have k := W.zret (p := p) (l := l) (e := e) (R := R) (s := s) (m := m) (args := args) (below := below) (meth := meth) (c := c) (H := H) (locs := locs) (cells := kc) (slots := ks) (ls := ls) (pc := pc) (v := v) (ty := .boolean) (Qc := fun _ _ oc t => oc = .returned (some (.int v)) ∧ t.heap = H) (free := AA g s) hc.1 hc.2.1 hc.2.2.2.2.2.2.2.1 hn (fun t ht _ => ⟨rfl, ht⟩) h3.2.2 hd
  intro T hT Y
  obtain ⟨t, a, oc, b1, b2, ⟨b3, b4⟩, L, ⟨-, hW, hsame⟩, hL⟩ := k T hT Y
  exact ⟨t, a, .inl (some (.int v)), w, oc, L, hP, b1, b2, b3, by rw [b4]; exact h2, h3.F b4, hW, hsame, hL⟩
theorem r_vret {P : Rt → Wd → Prop} (hc : Ok X g cc own none hx d) (hd : decode cc pc = .ok (.return_, 1)) (hP : P (.inl none) w) : Go X g kc ks (Fen X g kc ks P) w pc lp [] := by
  obtain ⟨p, l, e, R, s, m, args, below, meth, c⟩ := X
  intro ls H locs h1 h2 h3
  have hlk : meth.locks = false := hc.2.2.2.2.2.2.1
  have k := W.vret (p := p) (l := l) (e := e) (R := R) (s := s) (m := m) (args := args) (below := below) (meth := meth) (c := c) (H := H) (locs := locs) (cells := kc) (slots := ks) (ls := ls) (pc := pc) (Qc := fun _ _ oc t => oc = .returned none ∧ t.heap = H) (free := AA g s) hc.1 hc.2.1 hc.2.2.2.2.2.2.2.1 (fun t ht _ => ⟨rfl, ht⟩) h3.2.2 hd
  intro T hT Y
  obtain ⟨t, a, oc, b1, b2, ⟨b3, b4⟩, L, ⟨-, hW, hsame⟩, hL⟩ := k T hT Y
  exact ⟨t, a, .inl none, w, oc, L, hP, b1, b2, b3, by rw [b4]; exact h2, h3.F b4, hW, hsame, hL⟩
end GMEM
end
section
theorem steps_weaken {tb : Tables} {e : Env} {mid below : List Frame} {a b : State} (h : Steps tb e (mid ++ below) a b) : Steps tb e below a b := by
  obtain ⟨n, hn, w⟩ := h
  exact ⟨n, hn, fun k hk => (w k hk).weaken⟩
theorem AA_mono {g : GG} {s s1 : State} {H : Heap} {locs : List Loc} (hS : va_S (AA g s) s.heap H locs) (h1 : s1.heap = H) {q : Nat} (h : AA g s1 q) : AA g s q := by
  rcases h with h | h
  · exact Or.inl h
  · exact Or.inr (Nat.le_trans hS.1 (by rw [← h1]; exact h))
/-- what a callee's frame does to the caller's -/
theorem S_join {g : GG} {s s1 t : State} {H : Heap} {locs L : List Loc} (hS : va_S (AA g s) s.heap H locs) (h1 : s1.heap = H) (hF : va_F (AA g s1) s1 t) (hL : ∀ q ∈ L, AA g s1 q.base) : va_S (AA g s) s.heap t.heap (locs ++ L) := by
  refine ⟨Nat.le_trans hS.1 (by rw [← h1]; exact hF.1), fun q q1 q2 => ?_, fun q hq => ?_⟩
  · have hlt : q < s1.heap.size := by rw [h1]; exact Nat.lt_of_lt_of_le q1 hS.1
    rw [hF.2 q hlt (fun h => q2 (AA_mono hS h1 h)), h1]
    exact hS.2.1 q q1 q2
  · rcases List.mem_append.mp hq with h | h
    · exact hS.2.2 q h
    · exact AA_mono hS h1 (hL q h)
section GCALL
variable {p : Program} {l : Launch} {e : Env} {R : Room} {s : State} {m : MethodId} {args : Array Value} {below : List Frame} {meth : Method} {c : Code} {U : State} {locs : List Loc} {kc ks : Nat}
variable {g : GG} {cc : ByteArray} {own : String} {ret : Option FieldType} {hx : List (Nat × Nat × Nat × Nat)} {d0 : Nat}
variable {y : MethodName} {cc' : ByteArray} {nL' : Nat} {ret' : Option FieldType} {hx' : List (Nat × Nat × Nat × Nat)} {d k n : Nat} {av : List Value} {w : Wd} {P : Rt → Wd → Prop}
theorem call_core (X : Stand p l e R s m args below meth c U locs kc ks) (hc : Ok (p, l, e, R, s, m, args, below, meth, c) g cc own ret hx d0) (hcon : Con l g y cc' nL' ret' hx' d k n av w P)
    {f : JFrame} (hf : f.method = m) (hsize : f.locals.size = c.maxLocals) {ig : Instr} {len : Nat} (hdg : decode c.code f.pc = .ok (ig, len))
    {mk : MethodId} {methk : Method} {ck : Code} (hn : s.methodNamed? y = some mk) (hmk : s.vm.method? mk = some methk) (hck : methk.code = some ck) (hb : ck.code = cc') (hml : ck.maxLocals = nL') (hre : methk.sig.returnType = ret') (hlk : methk.locks = false)
    (hh : ck.exceptionTable.toList.map (fun h => (h.startPc, h.endPc, h.handlerPc, h.catchType)) = hx') (hpl : plainFor y = true) (hav : ∀ v ∈ av, v.category = 1) (hal : av.length ≤ nL')
    (hw : 2 * f.monitorRoom + (f.stack.map fun v => v.category).sum ≤ 8) (hfr : d + 1 ≤ R.frames) (hlo : 8 + (nL' + 11) + 30 * d ≤ R.locals) (hcells : kc + k ≤ R.cells) (hslots : ks + n ≤ R.slots)
    (hP : va_P g.2.1 classes (cellsOf g w) U.heap) (hS : va_S (AA g s) s.heap U.heap locs) :
    ∃ (r : Rt) (w' : Wd), P r w' ∧
      ((∃ v, r = .inl v ∧ ∃ (T' : State) (locs' : List Loc), Stand p l e R s m args below meth c T' locs' (kc + k) (ks + n) ∧ va_P g.2.1 classes (cellsOf g w') T'.heap ∧ va_S (AA g s) s.heap T'.heap locs' ∧
          Steps p.tables e below (doInvoke e (U.setTop f) [] mk av.toArray).1 (T'.setTop { f with pc := f.pc + len, stack := v.toList ++ f.stack })) ∨
        (∃ cn, r = .inr cn ∧ ∃ (T' : State) (locs' : List Loc) (x : Nat) (cell : Cell), Stand p l e R s m args below meth c T' locs' (kc + k) (ks + n) ∧ va_P g.2.1 classes (cellsOf g w') T'.heap ∧ va_S (AA g s) s.heap T'.heap locs' ∧
          T'.heap[x]? = some cell ∧ s.vm.findClass cn = some cell.cls ∧ cell.vm = .none ∧ s.heap.size ≤ x ∧
          Steps p.tables e below (doInvoke e (U.setTop f) [] mk av.toArray).1 ((T'.setTop f).pushFrame (.throwing x)))) := by
  obtain ⟨c1, -, -, c4, c5, c6, -, -, -, -, -, c12⟩ := hc
  have hmk' : U.vm.method? mk = some methk := by rw [X.warmed.alike.method?]; exact hmk
  have hn' : U.methodNamed? y = some mk := X.named hn
  have hplain : U.plainMethod mk := State.plainMethod.of_named hpl hn' hmk'
  obtain ⟨Y, hst⟩ := X.into hf hsize hdg av.toArray (R' := { frames := d, cells := k, slots := n, locals := 30 * d }) hmk' hck hlk hplain hfr (by rw [hml]; show _ + _ + (nL' + 11) + 30 * d ≤ _; omega) hcells hslots
  have hOk : Ok (p, l, e, { frames := d, cells := k, slots := n, locals := 30 * d }, U.calling f mk av.toArray, mk, av.toArray, .java f :: below, methk, ck) g cc' y.cls ret' hx' d :=
    ⟨c1, hb, findClass_of_methodNamed hn', Tb.warm (U := U.calling f mk av.toArray) X.warmed c4, va_K.moved (u := s) (U := U.calling f mk av.toArray) X.warmed.alike c5, c6, hlk, hre, hh, Nat.le_refl _, Nat.le_refl _, c12⟩
  have hgo := hcon _ rfl rfl hml (Nat.le_refl _) (Nat.le_refl _) hOk
  have hW := hgo _ U.heap [] (by rw [hml]; exact pl_entry hav hal) hP (va_S.rf (A := AA g (U.calling f mk av.toArray)) (H0 := U.heap))
  rw [← lg_entry_eq, ← hml] at hW
  obtain ⟨t, hsteps, r, w', oc, L, q1, q2, q3, q4, q5, q6, q7, q8, q9⟩ := hW ((U.setTop f).pushFrame (.java (entryFrame mk av.toArray ck.maxLocals))) rfl Y
  have hst0 := hst []
  have hheap1 : (U.calling f mk av.toArray).heap = U.heap := rfl
  refine ⟨r, w', q1, ?_⟩
  cases r with
  | inl v =>
    have q4 : oc = .returned v := q4
    subst q4
    obtain ⟨T', X', -, -, ht⟩ := X.outOf hf hdg q3 q7 q8
    have hh1 : t.heap = T'.heap := by rw [ht]; rfl
    refine Or.inl ⟨v, rfl, T', locs ++ L, X', by rw [← hh1]; exact q5, by rw [← hh1]; exact S_join hS hheap1 q6 q9, ?_⟩
    rw [hst0, ← ht]
    exact steps_weaken (mid := [.java f]) hsteps
  | inr cn =>
    obtain ⟨x, cell, e1, e2, e3, e4, e5⟩ := q4
    subst e1
    obtain ⟨T', X', -, -, ht⟩ := X.outOfThrown hf q3 q7 q8
    have hh1 : t.heap = T'.heap := by rw [ht]; rfl
    refine Or.inr ⟨cn, rfl, T', locs ++ L, x, cell, X', by rw [← hh1]; exact q5, by rw [← hh1]; exact S_join hS hheap1 q6 q9, by rw [← hh1]; exact e2, ?_, e4, Nat.le_trans hS.1 (by rw [← hheap1]; exact e5), ?_⟩
    · have e3' : U.vm.findClass cn = some cell.cls := e3
      rw [← X.warmed.alike.findClass]
      exact e3'
    · rw [hst0, ← ht]
      exact steps_weaken (mid := [.java f]) hsteps
end GCALL
section GCL
variable {X : Cxt} {g : GG} {cc : ByteArray} {own : String} {ret : Option FieldType} {hx : List (Nat × Nat × Nat × Nat)} {d kc ks : Nat} {Q : State → Prop} {w : Wd} {pc : Nat} {lp : List (Option Value)} {st : List Value}
variable {y : MethodName} {cc' : ByteArray} {nL' : Nat} {ret' : Option FieldType} {hx' : List (Nat × Nat × Nat × Nat)} {d' k n idx : Nat} {av : List Value} {P : Rt → Wd → Prop}
/-- an exception is on its way through the walked method -/
def GoX : Cxt → GG → Nat → Nat → (State → Prop) → Wd → Nat → List (Option Value) → String → Prop
  | (p, l, e, R, s, m, args, below, meth, c), g, kc, ks, Q, w, pc, lp, cn =>
    ∀ (ls : Array Slot) (T : State) (locs : List Loc) (x : Nat) (cell : Cell) (st : List Value), pl_has ls c.maxLocals lp → Stand p l e R s m args below meth c T locs kc ks → va_P g.2.1 classes (cellsOf g w) T.heap → va_S (AA g s) s.heap T.heap locs →
      T.heap[x]? = some cell → s.vm.findClass cn = some cell.cls → cell.vm = .none → s.heap.size ≤ x → ∃ t, Steps p.tables e below ((T.setTop (F0 m pc ls st)).pushFrame (.throwing x)) t ∧ Q t
/-- no handler: the method ends with it -/
theorem x_out {cn : String} (hc : Ok X g cc own ret [] d) (hP : P (.inr cn) w) : GoX X g kc ks (Fen X g kc ks P) w pc lp cn := by
  obtain ⟨p, l, e, R, s, m, args, below, meth, c⟩ := X
  intro ls T locs x cell st h1 Y h2 h3 h4 h5 h6 h7
  have hno : c.exceptionTable.toList = [] := List.map_eq_nil_iff.mp hc.2.2.2.2.2.2.2.2.1
  have hlk : meth.locks = false := hc.2.2.2.2.2.2.1
  obtain ⟨a1, a2, a3, a4, a5⟩ := Y.leaveThrown x (g := F0 m pc ls st) rfl rfl rfl (fun z hz => by rw [hno] at hz; cases hz) hlk
  exact ⟨_, a1, .inr cn, w, .threw x, locs, hP, a2, a3, ⟨x, cell, rfl, h4, h5, h6, h7⟩, h2, h3.F rfl, a4, a5, h3.2.2⟩
theorem ex_nil {c : Code} (h : c.exceptionTable.isEmpty = true) : c.exceptionTable.toList.map (fun h => (h.startPc, h.endPc, h.handlerPc, h.catchType)) = [] := by
  have : c.exceptionTable = #[] := by simpa using h
  rw [this]
  rfl
theorem r_callv {q ci : Nat} {C : String} {Tc : u_T} {N : Nat} {fs : List Value} (hc : Ok X g cc own ret hx d) (hd : decode cc pc = .ok (.invokevirtual idx, 3)) (hcon : Con X.2.1 g y cc' nL' ret' [] d' k n (.ref (g.1 q) :: av) w P)
    (hl : Cond.methodLink own idx y ∈ Ttab) (hin : Cond.instanceMethod y ∈ Ttab) (hsel : Cond.selects C y y ∈ Ttab) (hcode : Cond.code y cc' nL' ret' ∈ Ttab) (hy : y.cls ≠ "java/lang/invoke/MethodHandle" ∧ y.cls ≠ "java/lang/invoke/VarHandle") (hpl : plainFor y = true) (hnum : (parseMethodDescriptor y.desc).map (fun d => d.parameters.length) = some av.length)
    (hq : q < NC) (hob : ent g (w q) q = .inr (ci, fs)) (hci : classes[ci]? = some (C, Tc, N)) (hdd : d' + 1 ≤ d) (hnl : nL' ≤ 11) (hav : ∀ v ∈ av, v.category = 1) (hal : av.length + 1 ≤ nL') (hst : (st.map fun v => v.category).sum ≤ 8) (hcells : kc + k ≤ X.2.2.2.1.cells) (hslots : ks + n ≤ X.2.2.2.1.slots)
    (hret : ∀ (v : Option Value) (w' : Wd), P (.inl v) w' → Go X g (kc + k) (ks + n) Q w' (pc + 3) lp (v.toList ++ st)) (hthr : ∀ (cn : String) (w' : Wd), P (.inr cn) w' → GoX X g (kc + k) (ks + n) Q w' pc lp cn) : Go X g kc ks Q w pc lp (av.reverse ++ .ref (g.1 q) :: st) := by
  obtain ⟨p, l, e, R, s, m, args, below, meth, c⟩ := X
  intro ls H locs h1 h2 h3 T hT Y
  have hts := hc.2.2.2.1
  obtain ⟨mk, methM, hnamed, hmethM, hstM, habM⟩ := Cond.instanceMethod_spec (hts _ hin)
  obtain ⟨methM', cM, hmethM', hck, hb, hml, hre, hlk, hex, hsigM⟩ := Cond.code_spec hnamed (hts _ hcode)
  cases hmethM.symm.trans hmethM'
  obtain ⟨c2, r2, m2, q1, q2, q3, q4, kP, hkP, hkPi⟩ := Cond.selects_spec (hts _ hsel)
  obtain ⟨r0, e1, cellB, b1, b2, b3, b4⟩ := h2 q _ (by rw [cells_get g w hq, hob])
  have hr0 : r0 = (C, Tc, N) := Option.some.inj (e1.symm.trans hci)
  subst hr0
  have hcls : s.vm.findClass C = some cellB.cls := by rw [b2]; exact (hc.2.2.2.2.1.1 ci _ hci).2.1
  cases hcls.symm.trans q1
  cases (State.methodFound?_of_named hnamed hy).symm.trans q2
  cases hnamed.symm.trans q3
  have hselP : selectMethod e.platform s.vm cellB.cls mk = .method mk := by rw [Launch.admits_selectMethod Y.admits]; exact q4
  obtain ⟨vm₁, X₁, hstep₁⟩ := Y.invokevirtual hc.1 hc.2.2.1 (hts _ hl) hnamed hmethM hstM hkP hkPi hy (a := g.1 q) (cell := cellB) (by rw [hT]; exact b1)
    (fun z h => by rw [b3] at h; cases h) hselP hmethM habM hkP hkPi (g := F0 m pc ls (av.reverse ++ .ref (g.1 q) :: st)) rfl (argsL := av) (rest := st) (by have h9 := hnum; rw [hsigM] at h9; exact (Option.some.inj h9).symm) rfl (by rw [hc.2.1]; exact hd)
  have hK := call_core (f := F0 m pc ls st) X₁ hc hcon rfl h1.1 (by rw [hc.2.1]; exact hd) hnamed hmethM hck hb hml hre hlk (ex_nil hex) hpl (fun v hv => by rcases List.mem_cons.mp hv with rfl | hv; exact rfl; exact hav v hv) (by simpa using hal) (by show 2 * 0 + (st.map fun v => v.category).sum ≤ 8; omega) (Nat.le_trans hdd hc.2.2.2.2.2.2.2.2.2.1) (by have := hc.2.2.2.2.2.2.2.2.2.2.1; omega) hcells hslots (by show va_P _ _ _ T.heap; rw [hT]; exact h2) (by show va_S _ _ T.heap _; rw [hT]; exact h3)
  obtain ⟨r, w', hP, hres⟩ := hK
  rcases hres with ⟨v, rfl, T', locs', X', a1, a2, a3⟩ | ⟨cn, rfl, T', locs', x, cl, X', a1, a2, b4, b5, b6, b7, a3⟩
  · obtain ⟨t, t1, t2⟩ := hret v w' hP ls T'.heap locs' h1 a1 a2 T' rfl X'
    exact ⟨t, hstep₁ _ (fun acts => by rw [doInvoke_state]; exact a3.trans t1), t2⟩
  · obtain ⟨t, t1, t2⟩ := hthr cn w' hP ls T' locs' x cl st h1 X' a1 a2 b4 b5 b6 b7
    exact ⟨t, hstep₁ _ (fun acts => by rw [doInvoke_state]; exact a3.trans t1), t2⟩
theorem r_callvN {host : String} {q ci : Nat} {C : String} {Tc : u_T} {N : Nat} {fs : List Value} (hc : Ok X g cc own ret hx d) (hd : decode cc pc = .ok (.invokevirtual idx, 3)) (hcon : Con X.2.1 g y cc' nL' ret' [] d' k n (.ref (g.1 q) :: av) w P)
    (hl : Cond.methodLinkNest own idx y host ∈ Ttab) (hin : Cond.instanceMethod y ∈ Ttab) (hsel : Cond.selects C y y ∈ Ttab) (hcode : Cond.code y cc' nL' ret' ∈ Ttab) (hy : y.cls ≠ "java/lang/invoke/MethodHandle" ∧ y.cls ≠ "java/lang/invoke/VarHandle") (hpl : plainFor y = true) (hnum : (parseMethodDescriptor y.desc).map (fun d => d.parameters.length) = some av.length)
    (hq : q < NC) (hob : ent g (w q) q = .inr (ci, fs)) (hci : classes[ci]? = some (C, Tc, N)) (hdd : d' + 1 ≤ d) (hnl : nL' ≤ 11) (hav : ∀ v ∈ av, v.category = 1) (hal : av.length + 1 ≤ nL') (hst : (st.map fun v => v.category).sum ≤ 8) (hcells : kc + k ≤ X.2.2.2.1.cells) (hslots : ks + n ≤ X.2.2.2.1.slots)
    (hret : ∀ (v : Option Value) (w' : Wd), P (.inl v) w' → Go X g (kc + k) (ks + n) Q w' (pc + 3) lp (v.toList ++ st)) (hthr : ∀ (cn : String) (w' : Wd), P (.inr cn) w' → GoX X g (kc + k) (ks + n) Q w' pc lp cn) : Go X g kc ks Q w pc lp (av.reverse ++ .ref (g.1 q) :: st) := by
  obtain ⟨p, l, e, R, s, m, args, below, meth, c⟩ := X
  intro ls H locs h1 h2 h3 T hT Y
  have hts := hc.2.2.2.1
  obtain ⟨mk, methM, hnamed, hmethM, hstM, habM⟩ := Cond.instanceMethod_spec (hts _ hin)
  obtain ⟨methM', cM, hmethM', hck, hb, hml, hre, hlk, hex, hsigM⟩ := Cond.code_spec hnamed (hts _ hcode)
  cases hmethM.symm.trans hmethM'
  obtain ⟨c2, r2, m2, q1, q2, q3, q4, kP, hkP, hkPi⟩ := Cond.selects_spec (hts _ hsel)
  obtain ⟨r0, e1, cellB, b1, b2, b3, b4⟩ := h2 q _ (by rw [cells_get g w hq, hob])
  have hr0 : r0 = (C, Tc, N) := Option.some.inj (e1.symm.trans hci)
  subst hr0
  have hcls : s.vm.findClass C = some cellB.cls := by rw [b2]; exact (hc.2.2.2.2.1.1 ci _ hci).2.1
  cases hcls.symm.trans q1
  cases (State.methodFound?_of_named hnamed hy).symm.trans q2
  cases hnamed.symm.trans q3
  have hselP : selectMethod e.platform s.vm cellB.cls mk = .method mk := by rw [Launch.admits_selectMethod Y.admits]; exact q4
  obtain ⟨vm₁, X₁, hstep₁⟩ := Y.invokevirtualNest hc.1 hc.2.2.1 (hts _ hl) hnamed hmethM hstM hkP hkPi hy (a := g.1 q) (cell := cellB) (by rw [hT]; exact b1)
    (fun z h => by rw [b3] at h; cases h) hselP hmethM habM hkP hkPi (g := F0 m pc ls (av.reverse ++ .ref (g.1 q) :: st)) rfl (argsL := av) (rest := st) (by have h9 := hnum; rw [hsigM] at h9; exact (Option.some.inj h9).symm) rfl (by rw [hc.2.1]; exact hd)
  have hK := call_core (f := F0 m pc ls st) X₁ hc hcon rfl h1.1 (by rw [hc.2.1]; exact hd) hnamed hmethM hck hb hml hre hlk (ex_nil hex) hpl (fun v hv => by rcases List.mem_cons.mp hv with rfl | hv; exact rfl; exact hav v hv) (by simpa using hal) (by show 2 * 0 + (st.map fun v => v.category).sum ≤ 8; omega) (Nat.le_trans hdd hc.2.2.2.2.2.2.2.2.2.1) (by have := hc.2.2.2.2.2.2.2.2.2.2.1; omega) hcells hslots (by show va_P _ _ _ T.heap; rw [hT]; exact h2) (by show va_S _ _ T.heap _; rw [hT]; exact h3)
  obtain ⟨r, w', hP, hres⟩ := hK
  rcases hres with ⟨v, rfl, T', locs', X', a1, a2, a3⟩ | ⟨cn, rfl, T', locs', x, cl, X', a1, a2, b4, b5, b6, b7, a3⟩
  · obtain ⟨t, t1, t2⟩ := hret v w' hP ls T'.heap locs' h1 a1 a2 T' rfl X'
    exact ⟨t, hstep₁ _ (fun acts => by rw [doInvoke_state]; exact a3.trans t1), t2⟩
  · obtain ⟨t, t1, t2⟩ := hthr cn w' hP ls T' locs' x cl st h1 X' a1 a2 b4 b5 b6 b7
    exact ⟨t, hstep₁ _ (fun acts => by rw [doInvoke_state]; exact a3.trans t1), t2⟩
theorem r_calls (hc : Ok X g cc own ret hx d) (hd : decode cc pc = .ok (.invokestatic idx, 3)) (hcon : Con X.2.1 g y cc' nL' ret' [] d' k n av w P)
    (hl : Cond.methodLink own idx y ∈ Ttab) (hsta : Cond.static y ∈ Ttab) (hini : Cond.initialized y.cls ∈ Ttab) (hcode : Cond.code y cc' nL' ret' ∈ Ttab) (hy : y.cls ≠ "java/lang/invoke/MethodHandle" ∧ y.cls ≠ "java/lang/invoke/VarHandle") (hpl : plainFor y = true) (hnum : (parseMethodDescriptor y.desc).map (fun d => d.parameters.length) = some av.length)
    (hdd : d' + 1 ≤ d) (hnl : nL' ≤ 11) (hav : ∀ v ∈ av, v.category = 1) (hal : av.length ≤ nL') (hst : (st.map fun v => v.category).sum ≤ 8) (hcells : kc + k ≤ X.2.2.2.1.cells) (hslots : ks + n ≤ X.2.2.2.1.slots)
    (hret : ∀ (v : Option Value) (w' : Wd), P (.inl v) w' → Go X g (kc + k) (ks + n) Q w' (pc + 3) lp (v.toList ++ st)) (hthr : ∀ (cn : String) (w' : Wd), P (.inr cn) w' → GoX X g (kc + k) (ks + n) Q w' pc lp cn) : Go X g kc ks Q w pc lp (av.reverse ++ st) := by
  obtain ⟨p, l, e, R, s, m, args, below, meth, c⟩ := X
  intro ls H locs h1 h2 h3 T hT Y
  have hts := hc.2.2.2.1
  obtain ⟨mk, hnamed⟩ := Cond.code_named (hts _ hcode)
  obtain ⟨methM, cM, hmethM, hck, hb, hml, hre, hlk, hex, hsigM⟩ := Cond.code_spec hnamed (hts _ hcode)
  have hstatic : methM.isStatic = true := Cond.static_spec hnamed hmethM (hts _ hsta)
  obtain ⟨kP, hkP, -⟩ := className_of_methodNamed hnamed
  have hinitP : kP.init = .initialized := Cond.initialized_spec (findClass_of_methodNamed hnamed) hkP (hts _ hini)
  obtain ⟨vm₁, X₁, hstep₁⟩ := Y.invokestatic hc.1 hc.2.2.1 (hts _ hl) hnamed hmethM hstatic hkP hinitP hy (g := F0 m pc ls (av.reverse ++ st)) rfl (argsL := av) (rest := st) (by have h9 := hnum; rw [hsigM] at h9; exact (Option.some.inj h9).symm) rfl (by rw [hc.2.1]; exact hd)
  have hK := call_core (f := F0 m pc ls st) X₁ hc hcon rfl h1.1 (by rw [hc.2.1]; exact hd) hnamed hmethM hck hb hml hre hlk (ex_nil hex) hpl hav hal (by show 2 * 0 + (st.map fun v => v.category).sum ≤ 8; omega) (Nat.le_trans hdd hc.2.2.2.2.2.2.2.2.2.1) (by have := hc.2.2.2.2.2.2.2.2.2.2.1; omega) hcells hslots (by show va_P _ _ _ T.heap; rw [hT]; exact h2) (by show va_S _ _ T.heap _; rw [hT]; exact h3)
  obtain ⟨r, w', hP, hres⟩ := hK
  rcases hres with ⟨v, rfl, T', locs', X', a1, a2, a3⟩ | ⟨cn, rfl, T', locs', x, cl, X', a1, a2, b4, b5, b6, b7, a3⟩
  · obtain ⟨t, t1, t2⟩ := hret v w' hP ls T'.heap locs' h1 a1 a2 T' rfl X'
    exact ⟨t, hstep₁ _ (fun acts => by rw [doInvoke_state]; exact a3.trans t1), t2⟩
  · obtain ⟨t, t1, t2⟩ := hthr cn w' hP ls T' locs' x cl st h1 X' a1 a2 b4 b5 b6 b7
    exact ⟨t, hstep₁ _ (fun acts => by rw [doInvoke_state]; exact a3.trans t1), t2⟩
theorem r_callsN {host : String} (hc : Ok X g cc own ret hx d) (hd : decode cc pc = .ok (.invokestatic idx, 3)) (hcon : Con X.2.1 g y cc' nL' ret' [] d' k n av w P)
    (hl : Cond.methodLinkNest own idx y host ∈ Ttab) (hsta : Cond.static y ∈ Ttab) (hini : Cond.initialized y.cls ∈ Ttab) (hcode : Cond.code y cc' nL' ret' ∈ Ttab) (hy : y.cls ≠ "java/lang/invoke/MethodHandle" ∧ y.cls ≠ "java/lang/invoke/VarHandle") (hpl : plainFor y = true) (hnum : (parseMethodDescriptor y.desc).map (fun d => d.parameters.length) = some av.length)
    (hdd : d' + 1 ≤ d) (hnl : nL' ≤ 11) (hav : ∀ v ∈ av, v.category = 1) (hal : av.length ≤ nL') (hst : (st.map fun v => v.category).sum ≤ 8) (hcells : kc + k ≤ X.2.2.2.1.cells) (hslots : ks + n ≤ X.2.2.2.1.slots)
    (hret : ∀ (v : Option Value) (w' : Wd), P (.inl v) w' → Go X g (kc + k) (ks + n) Q w' (pc + 3) lp (v.toList ++ st)) (hthr : ∀ (cn : String) (w' : Wd), P (.inr cn) w' → GoX X g (kc + k) (ks + n) Q w' pc lp cn) : Go X g kc ks Q w pc lp (av.reverse ++ st) := by
  obtain ⟨p, l, e, R, s, m, args, below, meth, c⟩ := X
  intro ls H locs h1 h2 h3 T hT Y
  have hts := hc.2.2.2.1
  obtain ⟨mk, hnamed⟩ := Cond.code_named (hts _ hcode)
  obtain ⟨methM, cM, hmethM, hck, hb, hml, hre, hlk, hex, hsigM⟩ := Cond.code_spec hnamed (hts _ hcode)
  have hstatic : methM.isStatic = true := Cond.static_spec hnamed hmethM (hts _ hsta)
  obtain ⟨kP, hkP, -⟩ := className_of_methodNamed hnamed
  have hinitP : kP.init = .initialized := Cond.initialized_spec (findClass_of_methodNamed hnamed) hkP (hts _ hini)
  obtain ⟨vm₁, X₁, hstep₁⟩ := Y.invokestaticNest hc.1 hc.2.2.1 (hts _ hl) hnamed hmethM hstatic hkP hinitP hy (g := F0 m pc ls (av.reverse ++ st)) rfl (argsL := av) (rest := st) (by have h9 := hnum; rw [hsigM] at h9; exact (Option.some.inj h9).symm) rfl (by rw [hc.2.1]; exact hd)
  have hK := call_core (f := F0 m pc ls st) X₁ hc hcon rfl h1.1 (by rw [hc.2.1]; exact hd) hnamed hmethM hck hb hml hre hlk (ex_nil hex) hpl hav hal (by show 2 * 0 + (st.map fun v => v.category).sum ≤ 8; omega) (Nat.le_trans hdd hc.2.2.2.2.2.2.2.2.2.1) (by have := hc.2.2.2.2.2.2.2.2.2.2.1; omega) hcells hslots (by show va_P _ _ _ T.heap; rw [hT]; exact h2) (by show va_S _ _ T.heap _; rw [hT]; exact h3)
  obtain ⟨r, w', hP, hres⟩ := hK
  rcases hres with ⟨v, rfl, T', locs', X', a1, a2, a3⟩ | ⟨cn, rfl, T', locs', x, cl, X', a1, a2, b4, b5, b6, b7, a3⟩
  · obtain ⟨t, t1, t2⟩ := hret v w' hP ls T'.heap locs' h1 a1 a2 T' rfl X'
    exact ⟨t, hstep₁ _ (fun acts => by rw [doInvoke_state]; exact a3.trans t1), t2⟩
  · obtain ⟨t, t1, t2⟩ := hthr cn w' hP ls T' locs' x cl st h1 X' a1 a2 b4 b5 b6 b7
    exact ⟨t, hstep₁ _ (fun acts => by rw [doInvoke_state]; exact a3.trans t1), t2⟩
end GCL
end
