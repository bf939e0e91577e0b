section
-- ===== PART A: goes FIRST, ahead of the names: the tables' words, and 'selects' of the private methods out of them =====
/-- a private method of a class that the tables say can be made, by its rows of tables_1 -/
def lw_okq (q : MethodName × Nat) : Prop := (q.1.cls ≠ "java/lang/invoke/MethodHandle" ∧ q.1.cls ≠ "java/lang/invoke/VarHandle") ∧ Cond.instantiable q.1.cls q.2 ∈ tables_1 ∧ Cond.privateMethod q.1 ∈ tables_1 ∧ Cond.instanceMethod q.1 ∈ tables_1
theorem lw_p0 : lw_okq (⟨"PairedField", "workOutPairing", "()V"⟩, 8) := ⟨⟨by decide +kernel, by decide +kernel⟩, List.mem_of_getElem? (i := 17) (by decide +kernel), List.mem_of_getElem? (i := 135) (by decide +kernel), List.mem_of_getElem? (i := 136) (by decide +kernel)⟩
theorem lw_p1 : lw_okq (⟨"PairedField$Pairing", "chooseBye", "(LPairedField$Standing;[Z)V"⟩, 6) := ⟨⟨by decide +kernel, by decide +kernel⟩, List.mem_of_getElem? (i := 74) (by decide +kernel), List.mem_of_getElem? (i := 143) (by decide +kernel), List.mem_of_getElem? (i := 144) (by decide +kernel)⟩
theorem lw_p2 : lw_okq (⟨"PairedField$Pairing", "seatPlayers", "(LPairedField$Standing;[Z)V"⟩, 6) := ⟨⟨by decide +kernel, by decide +kernel⟩, List.mem_of_getElem? (i := 74) (by decide +kernel), List.mem_of_getElem? (i := 151) (by decide +kernel), List.mem_of_getElem? (i := 152) (by decide +kernel)⟩
theorem lw_p3 : lw_okq (⟨"PairedField$Pairing", "seatOne", "(LPairedField$Standing;I)V"⟩, 6) := ⟨⟨by decide +kernel, by decide +kernel⟩, List.mem_of_getElem? (i := 74) (by decide +kernel), List.mem_of_getElem? (i := 155) (by decide +kernel), List.mem_of_getElem? (i := 156) (by decide +kernel)⟩
theorem lw_p4 : lw_okq (⟨"PairedField$Pairing", "priceGames", "(LPairedField$Standing;[II)V"⟩, 6) := ⟨⟨by decide +kernel, by decide +kernel⟩, List.mem_of_getElem? (i := 74) (by decide +kernel), List.mem_of_getElem? (i := 163) (by decide +kernel), List.mem_of_getElem? (i := 164) (by decide +kernel)⟩
theorem lw_p5 : lw_okq (⟨"PairedField$Standing", "clashes", "(II)I"⟩, 10) := ⟨⟨by decide +kernel, by decide +kernel⟩, List.mem_of_getElem? (i := 27) (by decide +kernel), List.mem_of_getElem? (i := 175) (by decide +kernel), List.mem_of_getElem? (i := 176) (by decide +kernel)⟩
theorem lw_p6 : lw_okq (⟨"PairedField$Pairing", "solve", "()V"⟩, 6) := ⟨⟨by decide +kernel, by decide +kernel⟩, List.mem_of_getElem? (i := 74) (by decide +kernel), List.mem_of_getElem? (i := 179) (by decide +kernel), List.mem_of_getElem? (i := 180) (by decide +kernel)⟩
theorem lw_p7 : lw_okq (⟨"PairedField$Pairing", "canBeLeft", "(I)Z"⟩, 6) := ⟨⟨by decide +kernel, by decide +kernel⟩, List.mem_of_getElem? (i := 74) (by decide +kernel), List.mem_of_getElem? (i := 192) (by decide +kernel), List.mem_of_getElem? (i := 193) (by decide +kernel)⟩
theorem lw_p8 : lw_okq (⟨"PairedField$Pairing", "solveSet", "(I)V"⟩, 6) := ⟨⟨by decide +kernel, by decide +kernel⟩, List.mem_of_getElem? (i := 74) (by decide +kernel), List.mem_of_getElem? (i := 200) (by decide +kernel), List.mem_of_getElem? (i := 201) (by decide +kernel)⟩
theorem lw_p9 : lw_okq (⟨"PairedField$Pairing", "mayPlay", "(III)Z"⟩, 6) := ⟨⟨by decide +kernel, by decide +kernel⟩, List.mem_of_getElem? (i := 74) (by decide +kernel), List.mem_of_getElem? (i := 210) (by decide +kernel), List.mem_of_getElem? (i := 211) (by decide +kernel)⟩
theorem lw_p10 : lw_okq (⟨"PairedField$Pairing", "allSeats", "()I"⟩, 6) := ⟨⟨by decide +kernel, by decide +kernel⟩, List.mem_of_getElem? (i := 74) (by decide +kernel), List.mem_of_getElem? (i := 219) (by decide +kernel), List.mem_of_getElem? (i := 220) (by decide +kernel)⟩
theorem lw_p11 : lw_okq (⟨"PairedField", "isPlayer", "(I)Z"⟩, 8) := ⟨⟨by decide +kernel, by decide +kernel⟩, List.mem_of_getElem? (i := 17) (by decide +kernel), List.mem_of_getElem? (i := 235) (by decide +kernel), List.mem_of_getElem? (i := 236) (by decide +kernel)⟩
theorem lw_p12 : lw_okq (⟨"PairedField", "refuseOpenRound", "()V"⟩, 8) := ⟨⟨by decide +kernel, by decide +kernel⟩, List.mem_of_getElem? (i := 17) (by decide +kernel), List.mem_of_getElem? (i := 250) (by decide +kernel), List.mem_of_getElem? (i := 251) (by decide +kernel)⟩
theorem lw_p13 : lw_okq (⟨"java/lang/Throwable", "fillInStackTrace", "(I)Ljava/lang/Throwable;"⟩, 6) := ⟨⟨by decide +kernel, by decide +kernel⟩, List.mem_of_getElem? (i := 293) (by decide +kernel), List.mem_of_getElem? (i := 291) (by decide +kernel), List.mem_of_getElem? (i := 292) (by decide +kernel)⟩
theorem lw_p14 : lw_okq (⟨"PairedField", "refuseNoPlayer", "(I)V"⟩, 8) := ⟨⟨by decide +kernel, by decide +kernel⟩, List.mem_of_getElem? (i := 17) (by decide +kernel), List.mem_of_getElem? (i := 333) (by decide +kernel), List.mem_of_getElem? (i := 334) (by decide +kernel)⟩
theorem lw_p15 : lw_okq (⟨"PairedField", "openNextRound", "()Z"⟩, 8) := ⟨⟨by decide +kernel, by decide +kernel⟩, List.mem_of_getElem? (i := 17) (by decide +kernel), List.mem_of_getElem? (i := 401) (by decide +kernel), List.mem_of_getElem? (i := 402) (by decide +kernel)⟩
def lw_privs_1 : List (MethodName × Nat) := [(⟨"PairedField", "workOutPairing", "()V"⟩, 8), (⟨"PairedField$Pairing", "chooseBye", "(LPairedField$Standing;[Z)V"⟩, 6), (⟨"PairedField$Pairing", "seatPlayers", "(LPairedField$Standing;[Z)V"⟩, 6), (⟨"PairedField$Pairing", "seatOne", "(LPairedField$Standing;I)V"⟩, 6), (⟨"PairedField$Pairing", "priceGames", "(LPairedField$Standing;[II)V"⟩, 6), (⟨"PairedField$Standing", "clashes", "(II)I"⟩, 10), (⟨"PairedField$Pairing", "solve", "()V"⟩, 6), (⟨"PairedField$Pairing", "canBeLeft", "(I)Z"⟩, 6), (⟨"PairedField$Pairing", "solveSet", "(I)V"⟩, 6), (⟨"PairedField$Pairing", "mayPlay", "(III)Z"⟩, 6), (⟨"PairedField$Pairing", "allSeats", "()I"⟩, 6), (⟨"PairedField", "isPlayer", "(I)Z"⟩, 8), (⟨"PairedField", "refuseOpenRound", "()V"⟩, 8), (⟨"java/lang/Throwable", "fillInStackTrace", "(I)Ljava/lang/Throwable;"⟩, 6), (⟨"PairedField", "refuseNoPlayer", "(I)V"⟩, 8), (⟨"PairedField", "openNextRound", "()Z"⟩, 8)]
theorem lw_r1 : ∀ q ∈ lw_privs_1, lw_okq q := List.forall_mem_cons.mpr ⟨lw_p0, List.forall_mem_cons.mpr ⟨lw_p1, List.forall_mem_cons.mpr ⟨lw_p2, List.forall_mem_cons.mpr ⟨lw_p3, List.forall_mem_cons.mpr ⟨lw_p4, List.forall_mem_cons.mpr ⟨lw_p5, List.forall_mem_cons.mpr ⟨lw_p6, List.forall_mem_cons.mpr ⟨lw_p7, List.forall_mem_cons.mpr ⟨lw_p8, List.forall_mem_cons.mpr ⟨lw_p9, List.forall_mem_cons.mpr ⟨lw_p10, List.forall_mem_cons.mpr ⟨lw_p11, List.forall_mem_cons.mpr ⟨lw_p12, List.forall_mem_cons.mpr ⟨lw_p13, List.forall_mem_cons.mpr ⟨lw_p14, List.forall_mem_cons.mpr ⟨lw_p15, fun _ h => absurd h List.not_mem_nil⟩⟩⟩⟩⟩⟩⟩⟩⟩⟩⟩⟩⟩⟩⟩⟩
theorem lw_p16 : lw_okq (⟨"PairedField$Pairing", "bestPartner", "(II)I"⟩, 6) := ⟨⟨by decide +kernel, by decide +kernel⟩, List.mem_of_getElem? (i := 74) (by decide +kernel), List.mem_of_getElem? (i := 421) (by decide +kernel), List.mem_of_getElem? (i := 422) (by decide +kernel)⟩
theorem lw_p17 : lw_okq (⟨"PairedField", "refuseNoRound", "()V"⟩, 8) := ⟨⟨by decide +kernel, by decide +kernel⟩, List.mem_of_getElem? (i := 17) (by decide +kernel), List.mem_of_getElem? (i := 452) (by decide +kernel), List.mem_of_getElem? (i := 453) (by decide +kernel)⟩
theorem lw_p18 : lw_okq (⟨"PairedField", "noteResult", "(II)V"⟩, 8) := ⟨⟨by decide +kernel, by decide +kernel⟩, List.mem_of_getElem? (i := 17) (by decide +kernel), List.mem_of_getElem? (i := 489) (by decide +kernel), List.mem_of_getElem? (i := 490) (by decide +kernel)⟩
theorem lw_p19 : lw_okq (⟨"PairedField", "countUntold", "()I"⟩, 8) := ⟨⟨by decide +kernel, by decide +kernel⟩, List.mem_of_getElem? (i := 17) (by decide +kernel), List.mem_of_getElem? (i := 501) (by decide +kernel), List.mem_of_getElem? (i := 502) (by decide +kernel)⟩
theorem lw_p20 : lw_okq (⟨"PairedField", "closeRound", "()V"⟩, 8) := ⟨⟨by decide +kernel, by decide +kernel⟩, List.mem_of_getElem? (i := 17) (by decide +kernel), List.mem_of_getElem? (i := 513) (by decide +kernel), List.mem_of_getElem? (i := 514) (by decide +kernel)⟩
theorem lw_p21 : lw_okq (⟨"PairedField$Standing", "clear", "()V"⟩, 10) := ⟨⟨by decide +kernel, by decide +kernel⟩, List.mem_of_getElem? (i := 27) (by decide +kernel), List.mem_of_getElem? (i := 521) (by decide +kernel), List.mem_of_getElem? (i := 522) (by decide +kernel)⟩
theorem lw_p22 : lw_okq (⟨"PairedField$Standing", "countCell", "(II)V"⟩, 10) := ⟨⟨by decide +kernel, by decide +kernel⟩, List.mem_of_getElem? (i := 27) (by decide +kernel), List.mem_of_getElem? (i := 526) (by decide +kernel), List.mem_of_getElem? (i := 527) (by decide +kernel)⟩
theorem lw_p23 : lw_okq (⟨"PairedField$Standing", "countOpponent", "(II)V"⟩, 10) := ⟨⟨by decide +kernel, by decide +kernel⟩, List.mem_of_getElem? (i := 27) (by decide +kernel), List.mem_of_getElem? (i := 534) (by decide +kernel), List.mem_of_getElem? (i := 535) (by decide +kernel)⟩
theorem lw_p24 : lw_okq (⟨"PairedField", "noteResultsByNumber", "()V"⟩, 8) := ⟨⟨by decide +kernel, by decide +kernel⟩, List.mem_of_getElem? (i := 17) (by decide +kernel), List.mem_of_getElem? (i := 554) (by decide +kernel), List.mem_of_getElem? (i := 555) (by decide +kernel)⟩
theorem lw_p25 : lw_okq (⟨"PairedField$Standing", "isBeforeInTable", "(II)Z"⟩, 10) := ⟨⟨by decide +kernel, by decide +kernel⟩, List.mem_of_getElem? (i := 27) (by decide +kernel), List.mem_of_getElem? (i := 586) (by decide +kernel), List.mem_of_getElem? (i := 587) (by decide +kernel)⟩
theorem lw_p26 : lw_okq (⟨"PairedFieldModel", "refused", "(ZZZ)Z"⟩, 17) := ⟨⟨by decide +kernel, by decide +kernel⟩, List.mem_of_getElem? (i := 590) (by decide +kernel), List.mem_of_getElem? (i := 656) (by decide +kernel), List.mem_of_getElem? (i := 657) (by decide +kernel)⟩
theorem lw_p27 : lw_okq (⟨"PairedFieldModel", "isPlayer", "(I)Z"⟩, 17) := ⟨⟨by decide +kernel, by decide +kernel⟩, List.mem_of_getElem? (i := 590) (by decide +kernel), List.mem_of_getElem? (i := 664) (by decide +kernel), List.mem_of_getElem? (i := 665) (by decide +kernel)⟩
theorem lw_p28 : lw_okq (⟨"PairedFieldModel", "canPair", "()Z"⟩, 17) := ⟨⟨by decide +kernel, by decide +kernel⟩, List.mem_of_getElem? (i := 590) (by decide +kernel), List.mem_of_getElem? (i := 676) (by decide +kernel), List.mem_of_getElem? (i := 677) (by decide +kernel)⟩
theorem lw_p29 : lw_okq (⟨"PairedFieldModel", "work", "()V"⟩, 17) := ⟨⟨by decide +kernel, by decide +kernel⟩, List.mem_of_getElem? (i := 590) (by decide +kernel), List.mem_of_getElem? (i := 680) (by decide +kernel), List.mem_of_getElem? (i := 681) (by decide +kernel)⟩
theorem lw_p30 : lw_okq (⟨"PairedFieldModel", "lineUp", "()V"⟩, 17) := ⟨⟨by decide +kernel, by decide +kernel⟩, List.mem_of_getElem? (i := 590) (by decide +kernel), List.mem_of_getElem? (i := 684) (by decide +kernel), List.mem_of_getElem? (i := 685) (by decide +kernel)⟩
theorem lw_p31 : lw_okq (⟨"PairedFieldModel", "inMany", "()I"⟩, 17) := ⟨⟨by decide +kernel, by decide +kernel⟩, List.mem_of_getElem? (i := 590) (by decide +kernel), List.mem_of_getElem? (i := 688) (by decide +kernel), List.mem_of_getElem? (i := 689) (by decide +kernel)⟩
def lw_privs_2 : List (MethodName × Nat) := [(⟨"PairedField$Pairing", "bestPartner", "(II)I"⟩, 6), (⟨"PairedField", "refuseNoRound", "()V"⟩, 8), (⟨"PairedField", "noteResult", "(II)V"⟩, 8), (⟨"PairedField", "countUntold", "()I"⟩, 8), (⟨"PairedField", "closeRound", "()V"⟩, 8), (⟨"PairedField$Standing", "clear", "()V"⟩, 10), (⟨"PairedField$Standing", "countCell", "(II)V"⟩, 10), (⟨"PairedField$Standing", "countOpponent", "(II)V"⟩, 10), (⟨"PairedField", "noteResultsByNumber", "()V"⟩, 8), (⟨"PairedField$Standing", "isBeforeInTable", "(II)Z"⟩, 10), (⟨"PairedFieldModel", "refused", "(ZZZ)Z"⟩, 17), (⟨"PairedFieldModel", "isPlayer", "(I)Z"⟩, 17), (⟨"PairedFieldModel", "canPair", "()Z"⟩, 17), (⟨"PairedFieldModel", "work", "()V"⟩, 17), (⟨"PairedFieldModel", "lineUp", "()V"⟩, 17), (⟨"PairedFieldModel", "inMany", "()I"⟩, 17)]
theorem lw_r2 : ∀ q ∈ lw_privs_2, lw_okq q := List.forall_mem_cons.mpr ⟨lw_p16, List.forall_mem_cons.mpr ⟨lw_p17, List.forall_mem_cons.mpr ⟨lw_p18, List.forall_mem_cons.mpr ⟨lw_p19, List.forall_mem_cons.mpr ⟨lw_p20, List.forall_mem_cons.mpr ⟨lw_p21, List.forall_mem_cons.mpr ⟨lw_p22, List.forall_mem_cons.mpr ⟨lw_p23, List.forall_mem_cons.mpr ⟨lw_p24, List.forall_mem_cons.mpr ⟨lw_p25, List.forall_mem_cons.mpr ⟨lw_p26, List.forall_mem_cons.mpr ⟨lw_p27, List.forall_mem_cons.mpr ⟨lw_p28, List.forall_mem_cons.mpr ⟨lw_p29, List.forall_mem_cons.mpr ⟨lw_p30, List.forall_mem_cons.mpr ⟨lw_p31, fun _ h => absurd h List.not_mem_nil⟩⟩⟩⟩⟩⟩⟩⟩⟩⟩⟩⟩⟩⟩⟩⟩
theorem lw_p32 : lw_okq (⟨"PairedFieldModel", "findBye", "()I"⟩, 17) := ⟨⟨by decide +kernel, by decide +kernel⟩, List.mem_of_getElem? (i := 590) (by decide +kernel), List.mem_of_getElem? (i := 692) (by decide +kernel), List.mem_of_getElem? (i := 693) (by decide +kernel)⟩
theorem lw_p33 : lw_okq (⟨"PairedFieldModel", "byesOf", "(I)I"⟩, 17) := ⟨⟨by decide +kernel, by decide +kernel⟩, List.mem_of_getElem? (i := 590) (by decide +kernel), List.mem_of_getElem? (i := 696) (by decide +kernel), List.mem_of_getElem? (i := 697) (by decide +kernel)⟩
theorem lw_p34 : lw_okq (⟨"PairedFieldModel", "scoreOf", "(I)I"⟩, 17) := ⟨⟨by decide +kernel, by decide +kernel⟩, List.mem_of_getElem? (i := 590) (by decide +kernel), List.mem_of_getElem? (i := 700) (by decide +kernel), List.mem_of_getElem? (i := 701) (by decide +kernel)⟩
theorem lw_p35 : lw_okq (⟨"PairedFieldModel", "hadEachOther", "(II)Z"⟩, 17) := ⟨⟨by decide +kernel, by decide +kernel⟩, List.mem_of_getElem? (i := 590) (by decide +kernel), List.mem_of_getElem? (i := 704) (by decide +kernel), List.mem_of_getElem? (i := 705) (by decide +kernel)⟩
theorem lw_p36 : lw_okq (⟨"PairedFieldModel", "costOf", "(II)I"⟩, 17) := ⟨⟨by decide +kernel, by decide +kernel⟩, List.mem_of_getElem? (i := 590) (by decide +kernel), List.mem_of_getElem? (i := 708) (by decide +kernel), List.mem_of_getElem? (i := 709) (by decide +kernel)⟩
theorem lw_p37 : lw_okq (⟨"PairedFieldModel", "isFirstWhite", "(II)Z"⟩, 17) := ⟨⟨by decide +kernel, by decide +kernel⟩, List.mem_of_getElem? (i := 590) (by decide +kernel), List.mem_of_getElem? (i := 712) (by decide +kernel), List.mem_of_getElem? (i := 713) (by decide +kernel)⟩
theorem lw_p38 : lw_okq (⟨"PairedFieldModel", "balanceOf", "(I)I"⟩, 17) := ⟨⟨by decide +kernel, by decide +kernel⟩, List.mem_of_getElem? (i := 590) (by decide +kernel), List.mem_of_getElem? (i := 716) (by decide +kernel), List.mem_of_getElem? (i := 717) (by decide +kernel)⟩
theorem lw_p39 : lw_okq (⟨"PairedFieldModel", "hadGame", "(II)Z"⟩, 17) := ⟨⟨by decide +kernel, by decide +kernel⟩, List.mem_of_getElem? (i := 590) (by decide +kernel), List.mem_of_getElem? (i := 720) (by decide +kernel), List.mem_of_getElem? (i := 721) (by decide +kernel)⟩
theorem lw_p40 : lw_okq (⟨"PairedFieldModel", "colourOf", "(II)I"⟩, 17) := ⟨⟨by decide +kernel, by decide +kernel⟩, List.mem_of_getElem? (i := 590) (by decide +kernel), List.mem_of_getElem? (i := 724) (by decide +kernel), List.mem_of_getElem? (i := 725) (by decide +kernel)⟩
theorem lw_p41 : lw_okq (⟨"PairedFieldModel", "clashes", "(II)I"⟩, 17) := ⟨⟨by decide +kernel, by decide +kernel⟩, List.mem_of_getElem? (i := 590) (by decide +kernel), List.mem_of_getElem? (i := 728) (by decide +kernel), List.mem_of_getElem? (i := 729) (by decide +kernel)⟩
theorem lw_p42 : lw_okq (⟨"PairedFieldModel", "whole", "()I"⟩, 17) := ⟨⟨by decide +kernel, by decide +kernel⟩, List.mem_of_getElem? (i := 590) (by decide +kernel), List.mem_of_getElem? (i := 733) (by decide +kernel), List.mem_of_getElem? (i := 734) (by decide +kernel)⟩
theorem lw_p43 : lw_okq (⟨"PairedFieldModel", "openRound", "()I"⟩, 17) := ⟨⟨by decide +kernel, by decide +kernel⟩, List.mem_of_getElem? (i := 590) (by decide +kernel), List.mem_of_getElem? (i := 737) (by decide +kernel), List.mem_of_getElem? (i := 738) (by decide +kernel)⟩
theorem lw_p44 : lw_okq (⟨"PairedFieldModel", "untold", "()I"⟩, 17) := ⟨⟨by decide +kernel, by decide +kernel⟩, List.mem_of_getElem? (i := 590) (by decide +kernel), List.mem_of_getElem? (i := 765) (by decide +kernel), List.mem_of_getElem? (i := 766) (by decide +kernel)⟩
theorem lw_p45 : lw_okq (⟨"PairedFieldModel", "buchholzOf", "(I)I"⟩, 17) := ⟨⟨by decide +kernel, by decide +kernel⟩, List.mem_of_getElem? (i := 590) (by decide +kernel), List.mem_of_getElem? (i := 797) (by decide +kernel), List.mem_of_getElem? (i := 798) (by decide +kernel)⟩
theorem lw_p46 : lw_okq (⟨"PairedFieldModel", "bergerOf", "(I)I"⟩, 17) := ⟨⟨by decide +kernel, by decide +kernel⟩, List.mem_of_getElem? (i := 590) (by decide +kernel), List.mem_of_getElem? (i := 801) (by decide +kernel), List.mem_of_getElem? (i := 802) (by decide +kernel)⟩
theorem lw_p47 : lw_okq (⟨"PairedFieldModel", "wonOf", "(I)I"⟩, 17) := ⟨⟨by decide +kernel, by decide +kernel⟩, List.mem_of_getElem? (i := 590) (by decide +kernel), List.mem_of_getElem? (i := 805) (by decide +kernel), List.mem_of_getElem? (i := 806) (by decide +kernel)⟩
def lw_privs_3 : List (MethodName × Nat) := [(⟨"PairedFieldModel", "findBye", "()I"⟩, 17), (⟨"PairedFieldModel", "byesOf", "(I)I"⟩, 17), (⟨"PairedFieldModel", "scoreOf", "(I)I"⟩, 17), (⟨"PairedFieldModel", "hadEachOther", "(II)Z"⟩, 17), (⟨"PairedFieldModel", "costOf", "(II)I"⟩, 17), (⟨"PairedFieldModel", "isFirstWhite", "(II)Z"⟩, 17), (⟨"PairedFieldModel", "balanceOf", "(I)I"⟩, 17), (⟨"PairedFieldModel", "hadGame", "(II)Z"⟩, 17), (⟨"PairedFieldModel", "colourOf", "(II)I"⟩, 17), (⟨"PairedFieldModel", "clashes", "(II)I"⟩, 17), (⟨"PairedFieldModel", "whole", "()I"⟩, 17), (⟨"PairedFieldModel", "openRound", "()I"⟩, 17), (⟨"PairedFieldModel", "untold", "()I"⟩, 17), (⟨"PairedFieldModel", "buchholzOf", "(I)I"⟩, 17), (⟨"PairedFieldModel", "bergerOf", "(I)I"⟩, 17), (⟨"PairedFieldModel", "wonOf", "(I)I"⟩, 17)]
theorem lw_r3 : ∀ q ∈ lw_privs_3, lw_okq q := List.forall_mem_cons.mpr ⟨lw_p32, List.forall_mem_cons.mpr ⟨lw_p33, List.forall_mem_cons.mpr ⟨lw_p34, List.forall_mem_cons.mpr ⟨lw_p35, List.forall_mem_cons.mpr ⟨lw_p36, List.forall_mem_cons.mpr ⟨lw_p37, List.forall_mem_cons.mpr ⟨lw_p38, List.forall_mem_cons.mpr ⟨lw_p39, List.forall_mem_cons.mpr ⟨lw_p40, List.forall_mem_cons.mpr ⟨lw_p41, List.forall_mem_cons.mpr ⟨lw_p42, List.forall_mem_cons.mpr ⟨lw_p43, List.forall_mem_cons.mpr ⟨lw_p44, List.forall_mem_cons.mpr ⟨lw_p45, List.forall_mem_cons.mpr ⟨lw_p46, List.forall_mem_cons.mpr ⟨lw_p47, fun _ h => absurd h List.not_mem_nil⟩⟩⟩⟩⟩⟩⟩⟩⟩⟩⟩⟩⟩⟩⟩⟩
theorem lw_p48 : lw_okq (⟨"PairedFieldModel", "gamesOf", "(I)I"⟩, 17) := ⟨⟨by decide +kernel, by decide +kernel⟩, List.mem_of_getElem? (i := 590) (by decide +kernel), List.mem_of_getElem? (i := 809) (by decide +kernel), List.mem_of_getElem? (i := 810) (by decide +kernel)⟩
theorem lw_p49 : lw_okq (⟨"PairedFieldModel", "isBefore", "(II)Z"⟩, 17) := ⟨⟨by decide +kernel, by decide +kernel⟩, List.mem_of_getElem? (i := 590) (by decide +kernel), List.mem_of_getElem? (i := 821) (by decide +kernel), List.mem_of_getElem? (i := 822) (by decide +kernel)⟩
def lw_privs_4 : List (MethodName × Nat) := [(⟨"PairedFieldModel", "gamesOf", "(I)I"⟩, 17), (⟨"PairedFieldModel", "isBefore", "(II)Z"⟩, 17)]
theorem lw_r4 : ∀ q ∈ lw_privs_4, lw_okq q := List.forall_mem_cons.mpr ⟨lw_p48, List.forall_mem_cons.mpr ⟨lw_p49, fun _ h => absurd h List.not_mem_nil⟩⟩
def lw_privs : List (MethodName × Nat) := lw_privs_1 ++ (lw_privs_2 ++ (lw_privs_3 ++ (lw_privs_4)))
def lw_tbl : List Cond := k2_sels lw_privs ++ tables_1
theorem lw_privs_ok : ∀ q ∈ lw_privs, lw_okq q := by
  show ∀ q ∈ lw_privs_1 ++ (lw_privs_2 ++ (lw_privs_3 ++ (lw_privs_4))), lw_okq q
  exact List.forall_mem_append.mpr ⟨lw_r1, List.forall_mem_append.mpr ⟨lw_r2, List.forall_mem_append.mpr ⟨lw_r3, lw_r4⟩⟩⟩

/-! the words of the tables, by their places -/
/-- a word that stays true as the tables warm -/
def okW (w : Cond) : Bool := match w with
  | .arrayClass _ => true
  | .stringRef _ _ _ => true
  | .methodLinkNest _ _ _ _ => true
  | .fieldLinkNest _ _ _ _ _ _ => true
  | w => w.onTables && w.keepsFace
theorem okW_warm {w : Cond} (h : okW w = true) {args a' : Array Value} {s U : State} (hW : s.WarmedH U.vm) (hb : w.before args s = true) : w.before a' U = true := by
  have gen : w.onTables = true → w.keepsFace = true → w.before a' U = true := fun h1 h2 =>
    va_tabs h1 (rfl : (s.setVm U.vm).vm = U.vm) (Cond.before_shiftedFace (State.Shifted.of_warmed hW) _ h2 hb)
  cases w with
  | arrayClass ty => exact (Cond.before_shiftedFace (State.Shifted.of_warmed hW) (Cond.arrayClass ty) rfl hb : (Cond.arrayClass ty).before args (s.setVm U.vm) = true)
  | methodLinkNest a i x h => exact va_tabs rfl (rfl : (s.setVm U.vm).vm = U.vm) (Cond.methodLinkNest_warmed (args := args) hW hb)
  | fieldLinkNest a i b n d h => exact va_tabs rfl (rfl : (s.setVm U.vm).vm = U.vm) (Cond.fieldLinkNest_warmed (args := args) hW hb)
  | stringRef a i x => exact (Cond.stringRef_warmed hW hb : (Cond.stringRef a i x).before args (s.setVm U.vm) = true)
  | _ =>
    first
      | (simp only [okW, Bool.and_eq_true] at h; exact gen h.1 h.2)
      | (exfalso; revert h; simp [okW, Cond.onTables])
def Ttab : List Cond := lw_tbl.filter okW
theorem lw_mem {w : Cond} (h : w ∈ lw_tbl) (hk : okW w = true) : w ∈ Ttab := List.mem_filter.mpr ⟨h, hk⟩
theorem t1_mem {w : Cond} (i : Nat) (h : tables_1_1[i]? = some w) (hk : okW w = true) : w ∈ Ttab := lw_mem (List.mem_append_right _ (List.mem_append_left _ (List.mem_of_getElem? h))) hk
theorem t2_mem {w : Cond} (i : Nat) (h : tables_1_2[i]? = some w) (hk : okW w = true) : w ∈ Ttab := lw_mem (List.mem_append_right _ (List.mem_append_right _ (List.mem_append_left _ (List.mem_of_getElem? h)))) hk
theorem t3_mem {w : Cond} (i : Nat) (h : tables_1_3[i]? = some w) (hk : okW w = true) : w ∈ Ttab := lw_mem (List.mem_append_right _ (List.mem_append_right _ (List.mem_append_right _ (List.mem_append_left _ (List.mem_of_getElem? h))))) hk
theorem t4_mem {w : Cond} (i : Nat) (h : tables_1_4[i]? = some w) (hk : okW w = true) : w ∈ Ttab := lw_mem (List.mem_append_right _ (List.mem_append_right _ (List.mem_append_right _ (List.mem_append_right _ (List.mem_of_getElem? h))))) hk
theorem t0_mem {w : Cond} (i : Nat) (h : (k2_sels lw_privs)[i]? = some w) (hk : okW w = true) : w ∈ Ttab := lw_mem (List.mem_append_left _ (List.mem_of_getElem? h)) hk
def Tb (args : Array Value) (s : State) : Prop := ∀ w ∈ Ttab, w.before args s = true
theorem Tb.warm {args a' : Array Value} {s U : State} (hW : s.WarmedH U.vm) (h : Tb args s) : Tb a' U := fun w hw => okW_warm (List.mem_filter.mp hw).2 hW (h w hw)
end
section
/-! names -/
abbrev bA_fill : ByteArray := prog_16_method_103_code
def yA_fill : MethodName := ⟨"java/util/Arrays", "fill", "([II)V"⟩
abbrev bC_colourIn : ByteArray := prog_2_method_7_code
def yC_colourIn : MethodName := ⟨"PairedField$Cell", "colourIn", "(I)I"⟩
abbrev bC_isGame : ByteArray := prog_2_method_4_code
def yC_isGame : MethodName := ⟨"PairedField$Cell", "isGame", "(I)Z"⟩
abbrev bC_isUntold : ByteArray := prog_2_method_5_code
def yC_isUntold : MethodName := ⟨"PairedField$Cell", "isUntold", "(I)Z"⟩
abbrev bC_opponentIn : ByteArray := prog_2_method_6_code
def yC_opponentIn : MethodName := ⟨"PairedField$Cell", "opponentIn", "(I)I"⟩
abbrev bC_resultIn : ByteArray := prog_2_method_8_code
def yC_resultIn : MethodName := ⟨"PairedField$Cell", "resultIn", "(I)I"⟩
abbrev bC_untoldGame : ByteArray := prog_2_method_2_code
def yC_untoldGame : MethodName := ⟨"PairedField$Cell", "untoldGame", "(II)I"⟩
abbrev bC_withResult : ByteArray := prog_2_method_3_code
def yC_withResult : MethodName := ⟨"PairedField$Cell", "withResult", "(II)I"⟩
abbrev bF_apart : ByteArray := prog_1_method_4_code
def yF_apart : MethodName := ⟨"PairedField", "apart", "(IIZ)Z"⟩
abbrev bF_back : ByteArray := prog_1_method_13_code
def yF_back : MethodName := ⟨"PairedField", "back", "()I"⟩
abbrev bF_close : ByteArray := prog_1_method_12_code
def yF_close : MethodName := ⟨"PairedField", "close", "()I"⟩
abbrev bF_closeRound : ByteArray := prog_1_method_27_code
def yF_closeRound : MethodName := ⟨"PairedField", "closeRound", "()V"⟩
abbrev bF_cost : ByteArray := prog_1_method_6_code
def yF_cost : MethodName := ⟨"PairedField", "cost", "()I"⟩
abbrev bF_countUntold : ByteArray := prog_1_method_30_code
def yF_countUntold : MethodName := ⟨"PairedField", "countUntold", "()I"⟩
abbrev bF_enter : ByteArray := prog_1_method_2_code
def yF_enter : MethodName := ⟨"PairedField", "enter", "()I"⟩
abbrev bF_had : ByteArray := prog_1_method_19_code
def yF_had : MethodName := ⟨"PairedField", "had", "(II)I"⟩
abbrev bF_init : ByteArray := prog_1_method_1_code
def yF_init : MethodName := ⟨"PairedField", "<init>", "(I)V"⟩
abbrev bF_isIn : ByteArray := prog_1_method_17_code
def yF_isIn : MethodName := ⟨"PairedField", "isIn", "(I)Z"⟩
abbrev bF_isPlayer : ByteArray := prog_1_method_21_code
def yF_isPlayer : MethodName := ⟨"PairedField", "isPlayer", "(I)Z"⟩
abbrev bF_isWhite : ByteArray := prog_1_method_9_code
def yF_isWhite : MethodName := ⟨"PairedField", "isWhite", "(I)Z"⟩
abbrev bF_leave : ByteArray := prog_1_method_3_code
def yF_leave : MethodName := ⟨"PairedField", "leave", "(I)V"⟩
abbrev bF_missing : ByteArray := prog_1_method_11_code
def yF_missing : MethodName := ⟨"PairedField", "missing", "()I"⟩
abbrev bF_noteResult : ByteArray := prog_1_method_28_code
def yF_noteResult : MethodName := ⟨"PairedField", "noteResult", "(II)V"⟩
abbrev bF_noteResultsByNumber : ByteArray := prog_1_method_29_code
def yF_noteResultsByNumber : MethodName := ⟨"PairedField", "noteResultsByNumber", "()V"⟩
abbrev bF_openNextRound : ByteArray := prog_1_method_26_code
def yF_openNextRound : MethodName := ⟨"PairedField", "openNextRound", "()Z"⟩
abbrev bF_opponent : ByteArray := prog_1_method_8_code
def yF_opponent : MethodName := ⟨"PairedField", "opponent", "(I)I"⟩
abbrev bF_pair : ByteArray := prog_1_method_5_code
def yF_pair : MethodName := ⟨"PairedField", "pair", "()I"⟩
abbrev bF_play : ByteArray := prog_1_method_14_code
def yF_play : MethodName := ⟨"PairedField", "play", "(I)I"⟩
abbrev bF_players : ByteArray := prog_1_method_15_code
def yF_players : MethodName := ⟨"PairedField", "players", "()I"⟩
abbrev bF_refuseNoPlayer : ByteArray := prog_1_method_22_code
def yF_refuseNoPlayer : MethodName := ⟨"PairedField", "refuseNoPlayer", "(I)V"⟩
abbrev bF_refuseNoRound : ByteArray := prog_1_method_24_code
def yF_refuseNoRound : MethodName := ⟨"PairedField", "refuseNoRound", "()V"⟩
abbrev bF_refuseOpenRound : ByteArray := prog_1_method_23_code
def yF_refuseOpenRound : MethodName := ⟨"PairedField", "refuseOpenRound", "()V"⟩
abbrev bF_report : ByteArray := prog_1_method_10_code
def yF_report : MethodName := ⟨"PairedField", "report", "(II)V"⟩
abbrev bF_rounds : ByteArray := prog_1_method_16_code
def yF_rounds : MethodName := ⟨"PairedField", "rounds", "()I"⟩
abbrev bF_table : ByteArray := prog_1_method_20_code
def yF_table : MethodName := ⟨"PairedField", "table", "(I)I"⟩
abbrev bF_tell : ByteArray := prog_1_method_18_code
def yF_tell : MethodName := ⟨"PairedField", "tell", "(II)I"⟩
abbrev bF_ways : ByteArray := prog_1_method_7_code
def yF_ways : MethodName := ⟨"PairedField", "ways", "()I"⟩
abbrev bF_workOutPairing : ByteArray := prog_1_method_25_code
def yF_workOutPairing : MethodName := ⟨"PairedField", "workOutPairing", "()V"⟩
abbrev bH_max : ByteArray := prog_12_method_65_code
def yH_max : MethodName := ⟨"java/lang/Math", "max", "(II)I"⟩
abbrev bH_min : ByteArray := prog_12_method_69_code
def yH_min : MethodName := ⟨"java/lang/Math", "min", "(II)I"⟩
abbrev bI_bitCount : ByteArray := prog_11_method_49_code
def yI_bitCount : MethodName := ⟨"java/lang/Integer", "bitCount", "(I)I"⟩
abbrev bI_numberOfTrailingZeros : ByteArray := prog_11_method_48_code
def yI_numberOfTrailingZeros : MethodName := ⟨"java/lang/Integer", "numberOfTrailingZeros", "(I)I"⟩
abbrev bL_apart : ByteArray := method_5_code
def yL_apart : MethodName := ⟨"PairedFieldLaw", "apart", "(LPairedField;IIZ[J)I"⟩
abbrev bL_back : ByteArray := method_13_code
def yL_back : MethodName := ⟨"PairedFieldLaw", "back", "(LPairedField;[J)I"⟩
abbrev bL_cell : ByteArray := method_2_code
def yL_cell : MethodName := ⟨"PairedFieldLaw", "cell", "([II)I"⟩
abbrev bL_close : ByteArray := method_12_code
def yL_close : MethodName := ⟨"PairedFieldLaw", "close", "(LPairedField;[J)I"⟩
abbrev bL_cost : ByteArray := method_7_code
def yL_cost : MethodName := ⟨"PairedFieldLaw", "cost", "(LPairedField;[J)I"⟩
abbrev bL_enter : ByteArray := method_3_code
def yL_enter : MethodName := ⟨"PairedFieldLaw", "enter", "(LPairedField;[J)I"⟩
abbrev bL_had : ByteArray := method_16_code
def yL_had : MethodName := ⟨"PairedFieldLaw", "had", "(LPairedField;II[J)I"⟩
abbrev bL_isWhite : ByteArray := method_9_code
def yL_isWhite : MethodName := ⟨"PairedFieldLaw", "isWhite", "(LPairedField;I[J)I"⟩
abbrev bL_leave : ByteArray := method_4_code
def yL_leave : MethodName := ⟨"PairedFieldLaw", "leave", "(LPairedField;I)I"⟩
abbrev bL_missing : ByteArray := method_11_code
def yL_missing : MethodName := ⟨"PairedFieldLaw", "missing", "(LPairedField;[J)I"⟩
abbrev bL_opponent : ByteArray := method_8_code
def yL_opponent : MethodName := ⟨"PairedFieldLaw", "opponent", "(LPairedField;I[J)I"⟩
abbrev bL_pair : ByteArray := method_6_code
def yL_pair : MethodName := ⟨"PairedFieldLaw", "pair", "(LPairedField;[J)I"⟩
abbrev bL_play : ByteArray := method_14_code
def yL_play : MethodName := ⟨"PairedFieldLaw", "play", "(LPairedField;I[J)I"⟩
abbrev bL_report : ByteArray := method_10_code
def yL_report : MethodName := ⟨"PairedFieldLaw", "report", "(LPairedField;II)I"⟩
abbrev bL_table : ByteArray := method_17_code
def yL_table : MethodName := ⟨"PairedFieldLaw", "table", "(LPairedField;I[J)I"⟩
abbrev bL_tell : ByteArray := method_15_code
def yL_tell : MethodName := ⟨"PairedFieldLaw", "tell", "(LPairedField;II[J)I"⟩
abbrev bM_apart : ByteArray := prog_6_method_7_code
def yM_apart : MethodName := ⟨"PairedFieldModel", "apart", "(IIZ)Z"⟩
abbrev bM_back : ByteArray := prog_6_method_37_code
def yM_back : MethodName := ⟨"PairedFieldModel", "back", "()I"⟩
abbrev bM_balanceOf : ByteArray := prog_6_method_10_code
def yM_balanceOf : MethodName := ⟨"PairedFieldModel", "balanceOf", "(I)I"⟩
abbrev bM_bergerOf : ByteArray := prog_6_method_16_code
def yM_bergerOf : MethodName := ⟨"PairedFieldModel", "bergerOf", "(I)I"⟩
abbrev bM_buchholzOf : ByteArray := prog_6_method_15_code
def yM_buchholzOf : MethodName := ⟨"PairedFieldModel", "buchholzOf", "(I)I"⟩
abbrev bM_byesOf : ByteArray := prog_6_method_12_code
def yM_byesOf : MethodName := ⟨"PairedFieldModel", "byesOf", "(I)I"⟩
abbrev bM_canPair : ByteArray := prog_6_method_26_code
def yM_canPair : MethodName := ⟨"PairedFieldModel", "canPair", "()Z"⟩
abbrev bM_clashes : ByteArray := prog_6_method_19_code
def yM_clashes : MethodName := ⟨"PairedFieldModel", "clashes", "(II)I"⟩
abbrev bM_close : ByteArray := prog_6_method_36_code
def yM_close : MethodName := ⟨"PairedFieldModel", "close", "()I"⟩
abbrev bM_colourOf : ByteArray := prog_6_method_11_code
def yM_colourOf : MethodName := ⟨"PairedFieldModel", "colourOf", "(II)I"⟩
abbrev bM_cost : ByteArray := prog_6_method_29_code
def yM_cost : MethodName := ⟨"PairedFieldModel", "cost", "()I"⟩
abbrev bM_costOf : ByteArray := prog_6_method_20_code
def yM_costOf : MethodName := ⟨"PairedFieldModel", "costOf", "(II)I"⟩
abbrev bM_enter : ByteArray := prog_6_method_5_code
def yM_enter : MethodName := ⟨"PairedFieldModel", "enter", "()I"⟩
abbrev bM_findBye : ByteArray := prog_6_method_22_code
def yM_findBye : MethodName := ⟨"PairedFieldModel", "findBye", "()I"⟩
abbrev bM_gamesOf : ByteArray := prog_6_method_14_code
def yM_gamesOf : MethodName := ⟨"PairedFieldModel", "gamesOf", "(I)I"⟩
abbrev bM_had : ByteArray := prog_6_method_43_code
def yM_had : MethodName := ⟨"PairedFieldModel", "had", "(II)I"⟩
abbrev bM_hadEachOther : ByteArray := prog_6_method_17_code
def yM_hadEachOther : MethodName := ⟨"PairedFieldModel", "hadEachOther", "(II)Z"⟩
abbrev bM_hadGame : ByteArray := prog_6_method_8_code
def yM_hadGame : MethodName := ⟨"PairedFieldModel", "hadGame", "(II)Z"⟩
abbrev bM_inMany : ByteArray := prog_6_method_21_code
def yM_inMany : MethodName := ⟨"PairedFieldModel", "inMany", "()I"⟩
abbrev bM_init : ByteArray := prog_6_method_1_code
def yM_init : MethodName := ⟨"PairedFieldModel", "<init>", "(I)V"⟩
abbrev bM_isBefore : ByteArray := prog_6_method_44_code
def yM_isBefore : MethodName := ⟨"PairedFieldModel", "isBefore", "(II)Z"⟩
abbrev bM_isFirstWhite : ByteArray := prog_6_method_18_code
def yM_isFirstWhite : MethodName := ⟨"PairedFieldModel", "isFirstWhite", "(II)Z"⟩
abbrev bM_isIn : ByteArray := prog_6_method_41_code
def yM_isIn : MethodName := ⟨"PairedFieldModel", "isIn", "(I)Z"⟩
abbrev bM_isPlayer : ByteArray := prog_6_method_3_code
def yM_isPlayer : MethodName := ⟨"PairedFieldModel", "isPlayer", "(I)Z"⟩
abbrev bM_isWhite : ByteArray := prog_6_method_32_code
def yM_isWhite : MethodName := ⟨"PairedFieldModel", "isWhite", "(I)Z"⟩
abbrev bM_leave : ByteArray := prog_6_method_6_code
def yM_leave : MethodName := ⟨"PairedFieldModel", "leave", "(I)V"⟩
abbrev bM_lineUp : ByteArray := prog_6_method_23_code
def yM_lineUp : MethodName := ⟨"PairedFieldModel", "lineUp", "()V"⟩
abbrev bM_missing : ByteArray := prog_6_method_35_code
def yM_missing : MethodName := ⟨"PairedFieldModel", "missing", "()I"⟩
abbrev bM_openRound : ByteArray := prog_6_method_27_code
def yM_openRound : MethodName := ⟨"PairedFieldModel", "openRound", "()I"⟩
abbrev bM_opponent : ByteArray := prog_6_method_31_code
def yM_opponent : MethodName := ⟨"PairedFieldModel", "opponent", "(I)I"⟩
abbrev bM_pair : ByteArray := prog_6_method_28_code
def yM_pair : MethodName := ⟨"PairedFieldModel", "pair", "()I"⟩
abbrev bM_play : ByteArray := prog_6_method_38_code
def yM_play : MethodName := ⟨"PairedFieldModel", "play", "(I)I"⟩
abbrev bM_players : ByteArray := prog_6_method_39_code
def yM_players : MethodName := ⟨"PairedFieldModel", "players", "()I"⟩
abbrev bM_refused : ByteArray := prog_6_method_4_code
def yM_refused : MethodName := ⟨"PairedFieldModel", "refused", "(ZZZ)Z"⟩
abbrev bM_report : ByteArray := prog_6_method_33_code
def yM_report : MethodName := ⟨"PairedFieldModel", "report", "(II)V"⟩
abbrev bM_rounds : ByteArray := prog_6_method_40_code
def yM_rounds : MethodName := ⟨"PairedFieldModel", "rounds", "()I"⟩
abbrev bM_scoreOf : ByteArray := prog_6_method_9_code
def yM_scoreOf : MethodName := ⟨"PairedFieldModel", "scoreOf", "(I)I"⟩
abbrev bM_table : ByteArray := prog_6_method_45_code
def yM_table : MethodName := ⟨"PairedFieldModel", "table", "(I)I"⟩
abbrev bM_tell : ByteArray := prog_6_method_42_code
def yM_tell : MethodName := ⟨"PairedFieldModel", "tell", "(II)I"⟩
abbrev bM_thrown : ByteArray := prog_6_method_2_code
def yM_thrown : MethodName := ⟨"PairedFieldModel", "thrown", "()I"⟩
abbrev bM_untold : ByteArray := prog_6_method_34_code
def yM_untold : MethodName := ⟨"PairedFieldModel", "untold", "()I"⟩
abbrev bM_ways : ByteArray := prog_6_method_30_code
def yM_ways : MethodName := ⟨"PairedFieldModel", "ways", "()I"⟩
abbrev bM_whole : ByteArray := prog_6_method_25_code
def yM_whole : MethodName := ⟨"PairedFieldModel", "whole", "()I"⟩
abbrev bM_wonOf : ByteArray := prog_6_method_13_code
def yM_wonOf : MethodName := ⟨"PairedFieldModel", "wonOf", "(I)I"⟩
abbrev bM_work : ByteArray := prog_6_method_24_code
def yM_work : MethodName := ⟨"PairedFieldModel", "work", "()V"⟩
abbrev bP_allSeats : ByteArray := prog_3_method_17_code
def yP_allSeats : MethodName := ⟨"PairedField$Pairing", "allSeats", "()I"⟩
abbrev bP_bestPartner : ByteArray := prog_3_method_14_code
def yP_bestPartner : MethodName := ⟨"PairedField$Pairing", "bestPartner", "(II)I"⟩
abbrev bP_canBeLeft : ByteArray := prog_3_method_16_code
def yP_canBeLeft : MethodName := ⟨"PairedField$Pairing", "canBeLeft", "(I)Z"⟩
abbrev bP_chooseBye : ByteArray := prog_3_method_8_code
def yP_chooseBye : MethodName := ⟨"PairedField$Pairing", "chooseBye", "(LPairedField$Standing;[Z)V"⟩
abbrev bP_count : ByteArray := prog_3_method_6_code
def yP_count : MethodName := ⟨"PairedField$Pairing", "count", "()I"⟩
abbrev bP_evenSet : ByteArray := prog_3_method_20_code
def yP_evenSet : MethodName := ⟨"PairedField$Pairing", "evenSet", "(I)I"⟩
abbrev bP_games : ByteArray := prog_3_method_4_code
def yP_games : MethodName := ⟨"PairedField$Pairing", "games", "()I"⟩
abbrev bP_indexOf : ByteArray := prog_3_method_19_code
def yP_indexOf : MethodName := ⟨"PairedField$Pairing", "indexOf", "(I)I"⟩
abbrev bP_init : ByteArray := prog_3_method_1_code
def yP_init : MethodName := ⟨"PairedField$Pairing", "<init>", "()V"⟩
abbrev bP_isPossible : ByteArray := prog_3_method_3_code
def yP_isPossible : MethodName := ⟨"PairedField$Pairing", "isPossible", "()Z"⟩
abbrev bP_leastCost : ByteArray := prog_3_method_5_code
def yP_leastCost : MethodName := ⟨"PairedField$Pairing", "leastCost", "()I"⟩
abbrev bP_mayPlay : ByteArray := prog_3_method_15_code
def yP_mayPlay : MethodName := ⟨"PairedField$Pairing", "mayPlay", "(III)Z"⟩
abbrev bP_priceGames : ByteArray := prog_3_method_11_code
def yP_priceGames : MethodName := ⟨"PairedField$Pairing", "priceGames", "(LPairedField$Standing;[II)V"⟩
abbrev bP_seatOne : ByteArray := prog_3_method_10_code
def yP_seatOne : MethodName := ⟨"PairedField$Pairing", "seatOne", "(LPairedField$Standing;I)V"⟩
abbrev bP_seatPlayers : ByteArray := prog_3_method_9_code
def yP_seatPlayers : MethodName := ⟨"PairedField$Pairing", "seatPlayers", "(LPairedField$Standing;[Z)V"⟩
abbrev bP_solve : ByteArray := prog_3_method_12_code
def yP_solve : MethodName := ⟨"PairedField$Pairing", "solve", "()V"⟩
abbrev bP_solveSet : ByteArray := prog_3_method_13_code
def yP_solveSet : MethodName := ⟨"PairedField$Pairing", "solveSet", "(I)V"⟩
abbrev bP_without : ByteArray := prog_3_method_18_code
def yP_without : MethodName := ⟨"PairedField$Pairing", "without", "(III)I"⟩
abbrev bP_workOut : ByteArray := prog_3_method_2_code
def yP_workOut : MethodName := ⟨"PairedField$Pairing", "workOut", "(LPairedField$Standing;[Z[II)V"⟩
abbrev bP_writeTo : ByteArray := prog_3_method_7_code
def yP_writeTo : MethodName := ⟨"PairedField$Pairing", "writeTo", "([ILPairedField$Standing;I)V"⟩
abbrev bS_clashes : ByteArray := prog_4_method_12_code
def yS_clashes : MethodName := ⟨"PairedField$Standing", "clashes", "(II)I"⟩
abbrev bS_clear : ByteArray := prog_4_method_3_code
def yS_clear : MethodName := ⟨"PairedField$Standing", "clear", "()V"⟩
abbrev bS_colourOfFirst : ByteArray := prog_4_method_10_code
def yS_colourOfFirst : MethodName := ⟨"PairedField$Standing", "colourOfFirst", "(III)I"⟩
abbrev bS_costOfGame : ByteArray := prog_4_method_11_code
def yS_costOfGame : MethodName := ⟨"PairedField$Standing", "costOfGame", "(III)I"⟩
abbrev bS_countCell : ByteArray := prog_4_method_4_code
def yS_countCell : MethodName := ⟨"PairedField$Standing", "countCell", "(II)V"⟩
abbrev bS_countOpponent : ByteArray := prog_4_method_5_code
def yS_countOpponent : MethodName := ⟨"PairedField$Standing", "countOpponent", "(II)V"⟩
abbrev bS_getsByeBefore : ByteArray := prog_4_method_9_code
def yS_getsByeBefore : MethodName := ⟨"PairedField$Standing", "getsByeBefore", "(II)Z"⟩
abbrev bS_init : ByteArray := prog_4_method_1_code
def yS_init : MethodName := ⟨"PairedField$Standing", "<init>", "()V"⟩
abbrev bS_isBeforeInOrder : ByteArray := prog_4_method_6_code
def yS_isBeforeInOrder : MethodName := ⟨"PairedField$Standing", "isBeforeInOrder", "(II)Z"⟩
abbrev bS_isBeforeInTable : ByteArray := prog_4_method_7_code
def yS_isBeforeInTable : MethodName := ⟨"PairedField$Standing", "isBeforeInTable", "(II)Z"⟩
abbrev bS_playerAt : ByteArray := prog_4_method_8_code
def yS_playerAt : MethodName := ⟨"PairedField$Standing", "playerAt", "(II)I"⟩
abbrev bS_recount : ByteArray := prog_4_method_2_code
def yS_recount : MethodName := ⟨"PairedField$Standing", "recount", "([[II)V"⟩
def R_F : String := "PairedField"
def T_F : u_T := fun k => match k with
  | 0 => ("PairedField", "cells", "[[I", true)
  | 1 => ("PairedField", "present", "[Z", true)
  | 2 => ("PairedField", "apartFrom", "[I", true)
  | 3 => ("PairedField", "standing", "LPairedField$Standing;", true)
  | 4 => ("PairedField", "pairing", "LPairedField$Pairing;", true)
  | 5 => ("PairedField", "playerCount", "I", false)
  | 6 => ("PairedField", "closedRounds", "I", false)
  | _ => ("PairedField", "open", "Z", false)
def ty_F : Nat → FieldType := fun k => match k with
  | 0 => .array (.array .int)
  | 1 => .array .boolean
  | 2 => .array .int
  | 3 => .object "PairedField$Standing"
  | 4 => .object "PairedField$Pairing"
  | 5 => .int
  | 6 => .int
  | _ => .boolean
theorem nm_F : ∀ a, a < 8 → ∀ b, b < 8 → a ≠ b → (T_F a).2.1 ≠ (T_F b).2.1 := by decide +kernel
theorem tk_F : ∀ k, k < 8 → parseFieldDescriptor (T_F k).2.2.1 = some (ty_F k) := by decide +kernel
theorem in_F : ∀ x ∈ u_ws R_F T_F 8, x ∈ Ttab := by
  intro x hx
  have h : x ∈ ([.laysFinal "PairedField" "PairedField" "cells" "[[I", .laysFinal "PairedField" "PairedField" "present" "[Z", .laysFinal "PairedField" "PairedField" "apartFrom" "[I", .laysFinal "PairedField" "PairedField" "standing" "LPairedField$Standing;", .laysFinal "PairedField" "PairedField" "pairing" "LPairedField$Pairing;", .lays "PairedField" "PairedField" "playerCount" "I", .lays "PairedField" "PairedField" "closedRounds" "I", .lays "PairedField" "PairedField" "open" "Z"] : List Cond) := hx
  simp only [List.mem_cons, List.not_mem_nil, or_false] at h
  rcases h with rfl | rfl | rfl | rfl | rfl | rfl | rfl | rfl
  · exact t1_mem 113 rfl rfl
  · exact t1_mem 115 rfl rfl
  · exact t1_mem 117 rfl rfl
  · exact t1_mem 119 rfl rfl
  · exact t1_mem 121 rfl rfl
  · exact t1_mem 123 rfl rfl
  · exact t1_mem 125 rfl rfl
  · exact t1_mem 127 rfl rfl
def R_S : String := "PairedField$Standing"
def T_S : u_T := fun k => match k with
  | 0 => ("PairedField$Standing", "score", "[I", true)
  | 1 => ("PairedField$Standing", "balance", "[I", true)
  | 2 => ("PairedField$Standing", "buchholz", "[I", true)
  | 3 => ("PairedField$Standing", "berger", "[I", true)
  | 4 => ("PairedField$Standing", "wins", "[I", true)
  | 5 => ("PairedField$Standing", "byes", "[I", true)
  | 6 => ("PairedField$Standing", "games", "[I", true)
  | 7 => ("PairedField$Standing", "latest", "[I", true)
  | 8 => ("PairedField$Standing", "lastButOne", "[I", true)
  | _ => ("PairedField$Standing", "met", "[I", true)
def ty_S : Nat → FieldType := fun k => match k with
  | 0 => .array .int
  | 1 => .array .int
  | 2 => .array .int
  | 3 => .array .int
  | 4 => .array .int
  | 5 => .array .int
  | 6 => .array .int
  | 7 => .array .int
  | 8 => .array .int
  | _ => .array .int
theorem nm_S : ∀ a, a < 10 → ∀ b, b < 10 → a ≠ b → (T_S a).2.1 ≠ (T_S b).2.1 := by decide +kernel
theorem tk_S : ∀ k, k < 10 → parseFieldDescriptor (T_S k).2.2.1 = some (ty_S k) := by decide +kernel
theorem in_S : ∀ x ∈ u_ws R_S T_S 10, x ∈ Ttab := by
  intro x hx
  have h : x ∈ ([.laysFinal "PairedField$Standing" "PairedField$Standing" "score" "[I", .laysFinal "PairedField$Standing" "PairedField$Standing" "balance" "[I", .laysFinal "PairedField$Standing" "PairedField$Standing" "buchholz" "[I", .laysFinal "PairedField$Standing" "PairedField$Standing" "berger" "[I", .laysFinal "PairedField$Standing" "PairedField$Standing" "wins" "[I", .laysFinal "PairedField$Standing" "PairedField$Standing" "byes" "[I", .laysFinal "PairedField$Standing" "PairedField$Standing" "games" "[I", .laysFinal "PairedField$Standing" "PairedField$Standing" "latest" "[I", .laysFinal "PairedField$Standing" "PairedField$Standing" "lastButOne" "[I", .laysFinal "PairedField$Standing" "PairedField$Standing" "met" "[I"] : List Cond) := hx
  simp only [List.mem_cons, List.not_mem_nil, or_false] at h
  rcases h with rfl | rfl | rfl | rfl | rfl | rfl | rfl | rfl | rfl | rfl
  · exact t1_mem 50 rfl rfl
  · exact t1_mem 52 rfl rfl
  · exact t1_mem 54 rfl rfl
  · exact t1_mem 56 rfl rfl
  · exact t1_mem 58 rfl rfl
  · exact t1_mem 60 rfl rfl
  · exact t1_mem 62 rfl rfl
  · exact t1_mem 64 rfl rfl
  · exact t1_mem 66 rfl rfl
  · exact t1_mem 68 rfl rfl
def R_P : String := "PairedField$Pairing"
def T_P : u_T := fun k => match k with
  | 0 => ("PairedField$Pairing", "seated", "[I", true)
  | 1 => ("PairedField$Pairing", "seats", "I", false)
  | 2 => ("PairedField$Pairing", "byePlayer", "I", false)
  | 3 => ("PairedField$Pairing", "price", "[[I", true)
  | 4 => ("PairedField$Pairing", "least", "[I", true)
  | _ => ("PairedField$Pairing", "counted", "[I", true)
def ty_P : Nat → FieldType := fun k => match k with
  | 0 => .array .int
  | 1 => .int
  | 2 => .int
  | 3 => .array (.array .int)
  | 4 => .array .int
  | _ => .array .int
theorem nm_P : ∀ a, a < 6 → ∀ b, b < 6 → a ≠ b → (T_P a).2.1 ≠ (T_P b).2.1 := by decide +kernel
theorem tk_P : ∀ k, k < 6 → parseFieldDescriptor (T_P k).2.2.1 = some (ty_P k) := by decide +kernel
theorem in_P : ∀ x ∈ u_ws R_P T_P 6, x ∈ Ttab := by
  intro x hx
  have h : x ∈ ([.laysFinal "PairedField$Pairing" "PairedField$Pairing" "seated" "[I", .lays "PairedField$Pairing" "PairedField$Pairing" "seats" "I", .lays "PairedField$Pairing" "PairedField$Pairing" "byePlayer" "I", .laysFinal "PairedField$Pairing" "PairedField$Pairing" "price" "[[I", .laysFinal "PairedField$Pairing" "PairedField$Pairing" "least" "[I", .laysFinal "PairedField$Pairing" "PairedField$Pairing" "counted" "[I"] : List Cond) := hx
  simp only [List.mem_cons, List.not_mem_nil, or_false] at h
  rcases h with rfl | rfl | rfl | rfl | rfl | rfl
  · exact t1_mem 86 rfl rfl
  · exact t1_mem 88 rfl rfl
  · exact t1_mem 90 rfl rfl
  · exact t1_mem 92 rfl rfl
  · exact t1_mem 94 rfl rfl
  · exact t1_mem 96 rfl rfl
def R_M : String := "PairedFieldModel"
def T_M : u_T := fun k => match k with
  | 0 => ("PairedFieldModel", "thrown", "I", false)
  | 1 => ("PairedFieldModel", "players", "I", false)
  | 2 => ("PairedFieldModel", "in", "[Z", true)
  | 3 => ("PairedFieldModel", "kept", "[Z", true)
  | 4 => ("PairedFieldModel", "closed", "I", false)
  | 5 => ("PairedFieldModel", "open", "Z", false)
  | 6 => ("PairedFieldModel", "opponents", "[I", true)
  | 7 => ("PairedFieldModel", "whites", "[Z", true)
  | 8 => ("PairedFieldModel", "results", "[I", true)
  | 9 => ("PairedFieldModel", "many", "I", false)
  | 10 => ("PairedFieldModel", "order", "[I", true)
  | 11 => ("PairedFieldModel", "bye", "I", false)
  | 12 => ("PairedFieldModel", "costs", "[I", true)
  | 13 => ("PairedFieldModel", "best", "[I", true)
  | 14 => ("PairedFieldModel", "pick", "[I", true)
  | 15 => ("PairedFieldModel", "waysOf", "[I", true)
  | _ => ("PairedFieldModel", "places", "[I", true)
def ty_M : Nat → FieldType := fun k => match k with
  | 0 => .int
  | 1 => .int
  | 2 => .array .boolean
  | 3 => .array .boolean
  | 4 => .int
  | 5 => .boolean
  | 6 => .array .int
  | 7 => .array .boolean
  | 8 => .array .int
  | 9 => .int
  | 10 => .array .int
  | 11 => .int
  | 12 => .array .int
  | 13 => .array .int
  | 14 => .array .int
  | 15 => .array .int
  | _ => .array .int
theorem nm_M : ∀ a, a < 17 → ∀ b, b < 17 → a ≠ b → (T_M a).2.1 ≠ (T_M b).2.1 := by decide +kernel
theorem tk_M : ∀ k, k < 17 → parseFieldDescriptor (T_M k).2.2.1 = some (ty_M k) := by decide +kernel
theorem in_M : ∀ x ∈ u_ws R_M T_M 17, x ∈ Ttab := by
  intro x hx
  have h : x ∈ ([.lays "PairedFieldModel" "PairedFieldModel" "thrown" "I", .lays "PairedFieldModel" "PairedFieldModel" "players" "I", .laysFinal "PairedFieldModel" "PairedFieldModel" "in" "[Z", .laysFinal "PairedFieldModel" "PairedFieldModel" "kept" "[Z", .lays "PairedFieldModel" "PairedFieldModel" "closed" "I", .lays "PairedFieldModel" "PairedFieldModel" "open" "Z", .laysFinal "PairedFieldModel" "PairedFieldModel" "opponents" "[I", .laysFinal "PairedFieldModel" "PairedFieldModel" "whites" "[Z", .laysFinal "PairedFieldModel" "PairedFieldModel" "results" "[I", .lays "PairedFieldModel" "PairedFieldModel" "many" "I", .laysFinal "PairedFieldModel" "PairedFieldModel" "order" "[I", .lays "PairedFieldModel" "PairedFieldModel" "bye" "I", .laysFinal "PairedFieldModel" "PairedFieldModel" "costs" "[I", .laysFinal "PairedFieldModel" "PairedFieldModel" "best" "[I", .laysFinal "PairedFieldModel" "PairedFieldModel" "pick" "[I", .laysFinal "PairedFieldModel" "PairedFieldModel" "waysOf" "[I", .laysFinal "PairedFieldModel" "PairedFieldModel" "places" "[I"] : List Cond) := hx
  simp only [List.mem_cons, List.not_mem_nil, or_false] at h
  rcases h with rfl | rfl | rfl | rfl | rfl | rfl | rfl | rfl | rfl | rfl | rfl | rfl | rfl | rfl | rfl | rfl | rfl
  · exact t3_mem 132 rfl rfl
  · exact t3_mem 134 rfl rfl
  · exact t3_mem 136 rfl rfl
  · exact t3_mem 138 rfl rfl
  · exact t3_mem 140 rfl rfl
  · exact t3_mem 142 rfl rfl
  · exact t3_mem 144 rfl rfl
  · exact t3_mem 146 rfl rfl
  · exact t3_mem 148 rfl rfl
  · exact t3_mem 150 rfl rfl
  · exact t3_mem 152 rfl rfl
  · exact t3_mem 154 rfl rfl
  · exact t3_mem 156 rfl rfl
  · exact t3_mem 158 rfl rfl
  · exact t3_mem 160 rfl rfl
  · exact t3_mem 162 rfl rfl
  · exact t3_mem 164 rfl rfl
abbrev classes : List vw_C := [(R_F, T_F, 8), (R_S, T_S, 10), (R_P, T_P, 6), (R_M, T_M, 17)]
/-- where the cells stand; class numbers and slots; the array classes of int, boolean, int[], long -/
abbrev GG : Type := (Nat → Nat) × va_G × (ClassId × ClassId × ClassId × ClassId)
abbrev tysOf (g : GG) : List (ClassId × FieldType) := [(g.2.2.1, .int), (g.2.2.2.1, .boolean), (g.2.2.2.2.1, .array .int), (g.2.2.2.2.2, .long)]
abbrev Wd : Type := Nat → Nat → Int32
abbrev NC : Nat := 61
/-- how long an array of ints is; 0: the cell is none -/
def lenI (q : Nat) : Nat := if 2 ≤ q ∧ q < 18 then 12 else if q = 19 then 12 else if 21 ≤ q ∧ q < 31 then 12 else if q = 32 then 12 else if 34 ≤ q ∧ q < 46 then 12 else if q = 46 ∨ q = 47 then 2048 else if q = 51 ∨ q = 53 then 204 else if q = 54 ∨ q = 59 then 12 else if q = 55 then 144 else if q = 56 ∨ q = 57 ∨ q = 58 then 4096 else 0
def lenZ (q : Nat) : Nat := if q = 18 ∨ q = 49 then 12 else if q = 50 then 144 else if q = 52 then 204 else 0
def lenA (q : Nat) : Nat := if q = 1 then 16 else if q = 33 then 12 else 0
/-- what a cell is -/
def ent (g : GG) (f : Nat → Int32) (q : Nat) : va_E :=
  if 0 < lenI q then .inl (g.2.2.1, lenI q, .inl f)
  else if 0 < lenZ q then .inl (g.2.2.2.1, lenZ q, .inl f)
  else if 0 < lenA q then .inl (g.2.2.2.2.1, lenA q, .inr (.inr (.inr (.inr (fun j => some (g.1 (q + 1 + j)))))))
  else if q = 0 then .inr (0, [.ref (g.1 1), .ref (g.1 18), .ref (g.1 19), .ref (g.1 20), .ref (g.1 31), .int (f 5), .int (f 6), .int (f 7)])
  else if q = 20 then .inr (1, [.ref (g.1 21), .ref (g.1 22), .ref (g.1 23), .ref (g.1 24), .ref (g.1 25), .ref (g.1 26), .ref (g.1 27), .ref (g.1 28), .ref (g.1 29), .ref (g.1 30)])
  else if q = 31 then .inr (2, [.ref (g.1 32), .int (f 1), .int (f 2), .ref (g.1 33), .ref (g.1 46), .ref (g.1 47)])
  else if q = 48 then .inr (3, [.int (f 0), .int (f 1), .ref (g.1 49), .ref (g.1 50), .int (f 4), .int (f 5), .ref (g.1 51), .ref (g.1 52), .ref (g.1 53), .int (f 9), .ref (g.1 54), .int (f 11), .ref (g.1 55), .ref (g.1 56), .ref (g.1 57), .ref (g.1 58), .ref (g.1 59)])
  else .inl (g.2.2.2.2.2, 1, .inr (.inl (fun i => (f i).toInt64)))
def cellsOf (g : GG) (w : Wd) : va_W := (List.range NC).map (fun k => (g.1 k, ent g (w k) k))
theorem lenI_lt {q : Nat} (h : 0 < lenI q) : q < NC := by
  unfold lenI at h
  unfold NC
  split at h
  · omega
  · repeat (split at h; omega)
    exact absurd h (Nat.lt_irrefl 0)
theorem lenI_le (q : Nat) : lenI q ≤ 4096 := by
  unfold lenI
  repeat (split; omega)
  omega
theorem lenZ_le (q : Nat) : lenZ q ≤ 204 := by
  unfold lenZ
  repeat (split; omega)
  omega
theorem lenZ_lt {q : Nat} (h : 0 < lenZ q) : q < NC ∧ lenI q = 0 := by
  have hq : q = 18 ∨ q = 49 ∨ q = 50 ∨ q = 52 := by
    unfold lenZ at h
    split at h
    · omega
    · repeat (split at h; omega)
      exact absurd h (Nat.lt_irrefl 0)
  rcases hq with rfl | rfl | rfl | rfl <;> exact ⟨by decide, by decide⟩
theorem lenA_lt {q : Nat} (h : 0 < lenA q) : q < NC ∧ lenI q = 0 ∧ lenZ q = 0 := by
  have hq : q = 1 ∨ q = 33 := by
    unfold lenA at h
    split at h
    · omega
    · repeat (split at h; omega)
      exact absurd h (Nat.lt_irrefl 0)
  rcases hq with rfl | rfl <;> exact ⟨by decide, by decide, by decide⟩
theorem ent_I {q : Nat} (h : 0 < lenI q) (g : GG) (f : Nat → Int32) : q < NC ∧ ent g f q = .inl (g.2.2.1, lenI q, .inl f) := ⟨lenI_lt h, by unfold ent; rw [if_pos h]⟩
theorem ent_Z {q : Nat} (h : 0 < lenZ q) (g : GG) (f : Nat → Int32) : q < NC ∧ ent g f q = .inl (g.2.2.2.1, lenZ q, .inl f) := by
  obtain ⟨h1, h2⟩ := lenZ_lt h
  refine ⟨h1, ?_⟩
  unfold ent
  rw [if_neg (by omega), if_pos h]
theorem ent_A {q : Nat} (h : 0 < lenA q) (g : GG) (f : Nat → Int32) : q < NC ∧ ent g f q = .inl (g.2.2.2.2.1, lenA q, .inr (.inr (.inr (.inr (fun j => some (g.1 (q + 1 + j))))))) := by
  obtain ⟨h1, h2, h3⟩ := lenA_lt h
  refine ⟨h1, ?_⟩
  unfold ent
  rw [if_neg (by omega), if_neg (by omega), if_pos h]
theorem ent_F (g : GG) (f : Nat → Int32) : ent g f 0 = .inr (0, [.ref (g.1 1), .ref (g.1 18), .ref (g.1 19), .ref (g.1 20), .ref (g.1 31), .int (f 5), .int (f 6), .int (f 7)]) := rfl
theorem ent_S (g : GG) (f : Nat → Int32) : ent g f 20 = .inr (1, [.ref (g.1 21), .ref (g.1 22), .ref (g.1 23), .ref (g.1 24), .ref (g.1 25), .ref (g.1 26), .ref (g.1 27), .ref (g.1 28), .ref (g.1 29), .ref (g.1 30)]) := rfl
theorem ent_P (g : GG) (f : Nat → Int32) : ent g f 31 = .inr (2, [.ref (g.1 32), .int (f 1), .int (f 2), .ref (g.1 33), .ref (g.1 46), .ref (g.1 47)]) := rfl
theorem ent_M (g : GG) (f : Nat → Int32) : ent g f 48 = .inr (3, [.int (f 0), .int (f 1), .ref (g.1 49), .ref (g.1 50), .int (f 4), .int (f 5), .ref (g.1 51), .ref (g.1 52), .ref (g.1 53), .int (f 9), .ref (g.1 54), .int (f 11), .ref (g.1 55), .ref (g.1 56), .ref (g.1 57), .ref (g.1 58), .ref (g.1 59)]) := rfl
theorem ent_out (g : GG) (f : Nat → Int32) : ent g f 60 = .inl (g.2.2.2.2.2, 1, .inr (.inl (fun i => (f i).toInt64))) := rfl
end
section
/-! The judgement Go: a walk over a world of numbers. A world gives for each cell (by its number) and each place an Int32; references never change once the objects stand. -/
/-- a locals' list by places -/
def pl_has (ls : Array Slot) (nL : Nat) (lp : List (Option Value)) : Prop := ls.size = nL ∧ lv_wf ls ∧ lp.length ≤ nL ∧ ∀ (i : Nat) (v : Value), lp[i]? = some (some v) → ls[i]? = some (.val v) ∧ v.category = 1
theorem pl_le {ls : Array Slot} {nL : Nat} {lp : List (Option Value)} (h : pl_has ls nL lp) : lp.length ≤ nL := h.2.2.1
theorem pl_at {ls : Array Slot} {nL : Nat} {lp : List (Option Value)} (h : pl_has ls nL lp) {i : Nat} {v : Value} (hv : lp[i]? = some (some v)) : ls[i]? = some (.val v) := (h.2.2.2 i v hv).1
theorem pl_store {ls : Array Slot} {nL : Nat} {lp : List (Option Value)} {i : Nat} {v : Value} (h : pl_has ls nL lp) (hi : i < nL) (hc : v.category = 1) : ∃ ls', storeLocals ls i v = some ls' ∧ pl_has ls' nL (lp.set i (some v)) := by
  obtain ⟨h1, h2, h4, h3⟩ := h
  obtain ⟨ls', e, hs, hw, hv⟩ := lv_store1 (l := []) (i := i) (v := v) ⟨h1, h2, fun q hq => by cases hq⟩ hi hc
  refine ⟨ls', e, hs, hw, by rw [List.length_set]; exact h4, fun j u hj => ?_⟩
  by_cases hji : j = i
  · subst hji
    have hl : j < (lp.set j (some v)).length := (List.getElem?_eq_some_iff.mp hj).1
    rw [List.length_set] at hl
    rw [List.getElem?_set_self hl] at hj
    have : v = u := by simpa using hj
    subst this
    exact ⟨hv (j, v) List.mem_cons_self, hc⟩
  · rw [List.getElem?_set_ne (Ne.symm hji)] at hj
    obtain ⟨q1, q2⟩ := h3 j u hj
    obtain ⟨ls2, e2, hh⟩ := lv_store1 (l := [(j, u)]) (i := i) (v := v) ⟨h1, h2, fun q hq => by rw [List.mem_singleton] at hq; subst hq; exact q1⟩ hi hc
    rw [e] at e2
    cases e2
    exact ⟨hh.2.2 (j, u) (List.mem_cons_of_mem _ (List.mem_filter.mpr ⟨List.mem_singleton.mpr rfl, by simp [hji, q2]⟩)), q2⟩
theorem pl_weak {ls : Array Slot} {nL : Nat} {lp lp' : List (Option Value)} (h : pl_has ls nL lp) (hl : lp'.length ≤ lp.length) (hh : ∀ (i : Nat) (v : Value), lp'[i]? = some (some v) → lp[i]? = some (some v)) : pl_has ls nL lp' := ⟨h.1, h.2.1, Nat.le_trans hl h.2.2.1, fun i v hv => h.2.2.2 i v (hh i v hv)⟩
/-- the locals' list at a method's entry -/
def lp_of (nL : Nat) (av : List Value) : List (Option Value) := av.map some ++ List.replicate (nL - av.length) none
theorem lv_args_mem : ∀ (av : List Value) (k : Nat), (∀ v ∈ av, v.category = 1) → ∀ (i : Nat) (v : Value), av[i]? = some v → (k + i, v) ∈ lv_args k av
  | [], _, _, i, v, h => by simp at h
  | u :: us, k, hc, i, v, h => by
    have h2 : ¬ u.category = 2 := by rw [hc u List.mem_cons_self]; decide
    rw [lv_args, if_neg h2]
    cases i with
    | zero =>
      have : u = v := by simpa using h
      subst this
      exact List.mem_cons_self
    | succ i =>
      rw [List.getElem?_cons_succ] at h
      have := lv_args_mem us (k + 1) (fun x hx => hc x (List.mem_cons_of_mem _ hx)) i v h
      rw [show k + (i + 1) = k + 1 + i by omega]
      exact List.mem_cons_of_mem _ this
theorem lg_sl_len : ∀ (av : List Value), (∀ v ∈ av, v.category = 1) → (lg_sl av).length = av.length
  | [], _ => rfl
  | u :: us, hc => by
    have h2 : ¬ u.category = 2 := by rw [hc u List.mem_cons_self]; decide
    have ih := lg_sl_len us (fun x hx => hc x (List.mem_cons_of_mem _ hx))
    unfold lg_sl at ih ⊢
    rw [List.flatMap_cons, List.length_append, ih, if_neg h2]
    simp
    omega
theorem pl_entry {av : List Value} {nL : Nat} (hc : ∀ v ∈ av, v.category = 1) (hn : av.length ≤ nL) : pl_has ((lg_sl av ++ List.replicate (nL - (lg_sl av).length) Slot.unset).toArray) nL (lp_of nL av) := by
  have hl := lv_entry av (n := nL) (by rw [lg_sl_len av hc]; exact hn)
  refine ⟨hl.1, hl.2.1, by simp [lp_of]; omega, fun i v hv => ?_⟩
  have hv' : av[i]? = some v := by
    unfold lp_of at hv
    by_cases hi : i < (av.map some).length
    · rw [List.getElem?_append_left hi, List.getElem?_map] at hv
      cases h9 : av[i]? with
      | none => rw [h9] at hv; cases hv
      | some z => rw [h9] at hv; simpa using hv
    · rw [List.getElem?_append_right (by omega)] at hv
      have := List.eq_of_mem_replicate (List.mem_of_getElem? hv)
      cases this
  refine ⟨?_, hc v (List.mem_of_getElem? hv')⟩
  have := hl.2.2 (0 + i, v) (lv_args_mem av 0 hc i v hv')
  simpa using this
/-- a number is written at a place of a cell -/
def wu (w : Wd) (k i : Nat) (x : Int32) : Wd := fun j => if j = k then upd (w k) i x else w j
theorem wu_self (w : Wd) (k i : Nat) (x : Int32) : wu w k i x k = upd (w k) i x := by simp [wu]
theorem wu_ne {w : Wd} {k j i : Nat} {x : Int32} (h : j ≠ k) : wu w k i x j = w j := by simp [wu, h]
theorem cells_len (g : GG) (w : Wd) : (cellsOf g w).length = NC := by simp [cellsOf]
theorem cells_get (g : GG) (w : Wd) {q : Nat} (hq : q < NC) : (cellsOf g w)[q]? = some (g.1 q, ent g (w q) q) := by
  unfold cellsOf
  rw [List.getElem?_map, List.getElem?_range hq]
  rfl
theorem cells_some {g : GG} {w : Wd} {q : Nat} {x : Nat × va_E} (h : (cellsOf g w)[q]? = some x) : q < NC ∧ x = (g.1 q, ent g (w q) q) := by
  have hq : q < NC := by rw [← cells_len g w]; exact (List.getElem?_eq_some_iff.mp h).1
  rw [cells_get g w hq] at h
  exact ⟨hq, (Option.some.inj h).symm⟩
theorem cells_set {g : GG} {w : Wd} {q i : Nat} {x : Int32} {e : va_E} (hq : q < NC) (he : e = ent g (upd (w q) i x) q) : (cellsOf g w).set q (g.1 q, e) = cellsOf g (wu w q i x) := by
  apply List.ext_getElem?
  intro j
  by_cases hj : j = q
  · subst hj
    rw [List.getElem?_set_self (by rw [cells_len]; exact hq), cells_get g _ hq, wu_self, he]
  · rw [List.getElem?_set_ne (Ne.symm hj)]
    by_cases hn : j < NC
    · rw [cells_get g _ hn, cells_get g _ hn, wu_ne hj]
    · rw [List.getElem?_eq_none (by rw [cells_len]; omega), List.getElem?_eq_none (by rw [cells_len]; omega)]
/-- the cells are apart -/
def AD (g : GG) : Prop := ∀ i j : Nat, i < NC → j < NC → g.1 i = g.1 j → i = j
/-- what a walk may change: the world's cells, and new ones -/
def AA (g : GG) (s : State) : Nat → Prop := fun q => (∃ k, k < NC ∧ g.1 k = q) ∨ s.heap.size ≤ q
theorem cells_D {g : GG} (h : AD g) (s : State) (w : Wd) : va_D (AA g s) (cellsOf g w) := by
  refine ⟨fun i j p q hp hq e => ?_, fun k q hk => ?_⟩
  · obtain ⟨a1, rfl⟩ := cells_some hp
    obtain ⟨a2, rfl⟩ := cells_some hq
    exact h i j a1 a2 e
  · obtain ⟨a1, rfl⟩ := cells_some hk
    exact Or.inl ⟨k, a1, rfl⟩
abbrev Cxt : Type := Program × Launch × Env × Room × State × MethodId × Array Value × List Frame × Method × Code
/-- the walk from pc, with the locals lp and the operand stack st, over any heap that holds the world w -/
def Go : Cxt → GG → Nat → Nat → (State → Prop) → Wd → Nat → List (Option Value) → List Value → Prop
  | (p, l, e, R, s, m, args, below, meth, c), g, kc, ks, Q, w, pc, lp, st =>
    ∀ (ls : Array Slot) (H : Heap) (locs : List Loc), pl_has ls c.maxLocals lp → va_P g.2.1 classes (cellsOf g w) H → va_S (AA g s) s.heap H locs → W p l e R s m args below meth c H locs kc ks Q (F0 m pc ls st)
/-- what a walk stands on -/
def Ok : Cxt → GG → ByteArray → String → Option FieldType → List (Nat × Nat × Nat × Nat) → Nat → Prop
  | (p, l, e, R, s, m, args, below, meth, c), g, cc, own, ret, hx, d =>
    p.tables.exec = Jvm.exec ∧ c.code = cc ∧ s.vm.findClass own = some m.cls ∧ Tb args s ∧ va_K g.2.1 classes (tysOf g) s ∧ AD g ∧ meth.locks = false ∧ meth.sig.returnType = ret ∧
      c.exceptionTable.toList.map (fun h => (h.startPc, h.endPc, h.handlerPc, h.catchType)) = hx ∧ d ≤ R.frames ∧ 30 * d ≤ R.locals ∧ l.stackTraces = false
abbrev Rt : Type := Option Value ⊕ String
/-- how a method has ended -/
def OcIs (s : State) (r : Rt) (oc : Outcome) (t : State) : Prop := match r with
  | .inl v => oc = .returned v
  | .inr cn => ∃ (x : Nat) (cell : Cell), oc = .threw x ∧ t.heap[x]? = some cell ∧ s.vm.findClass cn = some cell.cls ∧ cell.vm = .none ∧ s.heap.size ≤ x
def Fen : Cxt → GG → Nat → Nat → (Rt → Wd → Prop) → State → Prop
  | (_, _, _, _, s, _, _, below, _, _), g, k, n, P, t =>
    ∃ (r : Rt) (w : Wd) (oc : Outcome) (L : List Loc), P r w ∧ t.status = .running ∧ Ended t below oc ∧ OcIs s r oc t ∧ va_P g.2.1 classes (cellsOf g w) t.heap ∧ va_F (AA g s) s t ∧ s.WarmedH t.vm ∧ s.sameButNew ({ t with vm := s.vm } : State) L k n ∧ ∀ q ∈ L, AA g s q.base
/-- a method's contract: from arguments av and the world w it ends with an answer r and a world w' of which P says something; at most k cells of n slots are new -/
def Con (l : Launch) (g : GG) (y : MethodName) (cc : ByteArray) (nL : Nat) (ret : Option FieldType) (hx : List (Nat × Nat × Nat × Nat)) (d k n : Nat) (av : List Value) (w : Wd) (P : Rt → Wd → Prop) : Prop :=
  ∀ X : Cxt, X.2.1 = l → X.2.2.2.2.2.2.1 = av.toArray → X.2.2.2.2.2.2.2.2.2.maxLocals = nL → k ≤ X.2.2.2.1.cells → n ≤ X.2.2.2.1.slots → Ok X g cc y.cls ret hx d → Go X g 0 0 (Fen X g k n P) w 0 (lp_of nL av) []
theorem Go.weak {X : Cxt} {g : GG} {kc ks : Nat} {Q : State → Prop} {w : Wd} {pc : Nat} {lp lp' : List (Option Value)} {st : List Value} (hl : lp'.length ≤ lp.length) (hh : ∀ (i : Nat) (v : Value), lp'[i]? = some (some v) → lp[i]? = some (some v)) (k : Go X g kc ks Q w pc lp' st) : Go X g kc ks Q w pc lp st := by
  obtain ⟨p, l, e, R, s, m, args, below, meth, c⟩ := X
  intro ls H locs h1 h2 h3
  exact k ls H locs (pl_weak h1 hl hh) h2 h3
theorem Go.widen {X : Cxt} {g : GG} {kc ks kc' ks' : Nat} {Q : State → Prop} {w : Wd} {pc : Nat} {lp : List (Option Value)} {st : List Value} (h1 : kc ≤ kc') (h2 : ks ≤ ks') (k : Go X g kc' ks' Q w pc lp st) : Go X g kc ks Q w pc lp st := by
  obtain ⟨p, l, e, R, s, m, args, below, meth, c⟩ := X
  intro ls H locs q1 q2 q3
  exact W.widen h1 h2 (k ls H locs q1 q2 q3)
theorem Go.cast {X : Cxt} {g : GG} {kc ks : Nat} {Q : State → Prop} {w w' : Wd} {pc : Nat} {lp lp' : List (Option Value)} {st st' : List Value} (hw : w = w') (hl : lp = lp') (hs : st = st') (k : Go X g kc ks Q w' pc lp' st') : Go X g kc ks Q w pc lp st := by
  subst hw; subst hl; subst hs; exact k
theorem r_iadd {X : Cxt} {g : GG} {cc : ByteArray} {own : String} {ret : Option FieldType} {hx : List (Nat × Nat × Nat × Nat)} {d kc ks : Nat} {Q : State → Prop} {w : Wd} {pc : Nat} {lp : List (Option Value)} {st : List Value} {x y : Int32} (hc : Ok X g cc own ret hx d) (hd : decode cc pc = .ok (.iadd, 1)) (k : Go X g kc ks Q w (pc + 1) lp (.int (x + y) :: st)) : Go X g kc ks Q w pc lp (.int y :: .int x :: st) := by
  obtain ⟨p, l, e, R, s, m, args, below, meth, c⟩ := X
  intro ls H locs h1 h2 h3
  exact lv_iadd hc.1 hc.2.1 hd (k ls H locs h1 h2 h3)
theorem r_isub {X : Cxt} {g : GG} {cc : ByteArray} {own : String} {ret : Option FieldType} {hx : List (Nat × Nat × Nat × Nat)} {d kc ks : Nat} {Q : State → Prop} {w : Wd} {pc : Nat} {lp : List (Option Value)} {st : List Value} {x y : Int32} (hc : Ok X g cc own ret hx d) (hd : decode cc pc = .ok (.isub, 1)) (k : Go X g kc ks Q w (pc + 1) lp (.int (x - y) :: st)) : Go X g kc ks Q w pc lp (.int y :: .int x :: st) := by
  obtain ⟨p, l, e, R, s, m, args, below, meth, c⟩ := X
  intro ls H locs h1 h2 h3
  exact lv_isub hc.1 hc.2.1 hd (k ls H locs h1 h2 h3)
theorem r_imul {X : Cxt} {g : GG} {cc : ByteArray} {own : String} {ret : Option FieldType} {hx : List (Nat × Nat × Nat × Nat)} {d kc ks : Nat} {Q : State → Prop} {w : Wd} {pc : Nat} {lp : List (Option Value)} {st : List Value} {x y : Int32} (hc : Ok X g cc own ret hx d) (hd : decode cc pc = .ok (.imul, 1)) (k : Go X g kc ks Q w (pc + 1) lp (.int (x * y) :: st)) : Go X g kc ks Q w pc lp (.int y :: .int x :: st) := by
  obtain ⟨p, l, e, R, s, m, args, below, meth, c⟩ := X
  intro ls H locs h1 h2 h3
  exact lv_imul hc.1 hc.2.1 hd (k ls H locs h1 h2 h3)
theorem r_iand {X : Cxt} {g : GG} {cc : ByteArray} {own : String} {ret : Option FieldType} {hx : List (Nat × Nat × Nat × Nat)} {d kc ks : Nat} {Q : State → Prop} {w : Wd} {pc : Nat} {lp : List (Option Value)} {st : List Value} {x y : Int32} (hc : Ok X g cc own ret hx d) (hd : decode cc pc = .ok (.iand, 1)) (k : Go X g kc ks Q w (pc + 1) lp (.int (x &&& y) :: st)) : Go X g kc ks Q w pc lp (.int y :: .int x :: st) := by
  obtain ⟨p, l, e, R, s, m, args, below, meth, c⟩ := X
  intro ls H locs h1 h2 h3
  exact lv_iand hc.1 hc.2.1 hd (k ls H locs h1 h2 h3)
theorem r_ior {X : Cxt} {g : GG} {cc : ByteArray} {own : String} {ret : Option FieldType} {hx : List (Nat × Nat × Nat × Nat)} {d kc ks : Nat} {Q : State → Prop} {w : Wd} {pc : Nat} {lp : List (Option Value)} {st : List Value} {x y : Int32} (hc : Ok X g cc own ret hx d) (hd : decode cc pc = .ok (.ior, 1)) (k : Go X g kc ks Q w (pc + 1) lp (.int (x ||| y) :: st)) : Go X g kc ks Q w pc lp (.int y :: .int x :: st) := by
  obtain ⟨p, l, e, R, s, m, args, below, meth, c⟩ := X
  intro ls H locs h1 h2 h3
  exact lv_ior hc.1 hc.2.1 hd (k ls H locs h1 h2 h3)
theorem r_ixor {X : Cxt} {g : GG} {cc : ByteArray} {own : String} {ret : Option FieldType} {hx : List (Nat × Nat × Nat × Nat)} {d kc ks : Nat} {Q : State → Prop} {w : Wd} {pc : Nat} {lp : List (Option Value)} {st : List Value} {x y : Int32} (hc : Ok X g cc own ret hx d) (hd : decode cc pc = .ok (.ixor, 1)) (k : Go X g kc ks Q w (pc + 1) lp (.int (x ^^^ y) :: st)) : Go X g kc ks Q w pc lp (.int y :: .int x :: st) := by
  obtain ⟨p, l, e, R, s, m, args, below, meth, c⟩ := X
  intro ls H locs h1 h2 h3
  exact lv_ixor hc.1 hc.2.1 hd (k ls H locs h1 h2 h3)
theorem r_idiv {X : Cxt} {g : GG} {cc : ByteArray} {own : String} {ret : Option FieldType} {hx : List (Nat × Nat × Nat × Nat)} {d kc ks : Nat} {Q : State → Prop} {w : Wd} {pc : Nat} {lp : List (Option Value)} {st : List Value} {x y : Int32} (hc : Ok X g cc own ret hx d) (hd : decode cc pc = .ok (.idiv, 1)) (hne : ¬ y = 0) (k : Go X g kc ks Q w (pc + 1) lp (.int (x / y) :: st)) : Go X g kc ks Q w pc lp (.int y :: .int x :: st) := by
  obtain ⟨p, l, e, R, s, m, args, below, meth, c⟩ := X
  intro ls H locs h1 h2 h3
  exact lv_idiv hc.1 hc.2.1 hd hne (k ls H locs h1 h2 h3)
theorem r_irem {X : Cxt} {g : GG} {cc : ByteArray} {own : String} {ret : Option FieldType} {hx : List (Nat × Nat × Nat × Nat)} {d kc ks : Nat} {Q : State → Prop} {w : Wd} {pc : Nat} {lp : List (Option Value)} {st : List Value} {x y : Int32} (hc : Ok X g cc own ret hx d) (hd : decode cc pc = .ok (.irem, 1)) (hne : ¬ y = 0) (k : Go X g kc ks Q w (pc + 1) lp (.int (x - x / y * y) :: st)) : Go X g kc ks Q w pc lp (.int y :: .int x :: st) := by
  obtain ⟨p, l, e, R, s, m, args, below, meth, c⟩ := X
  intro ls H locs h1 h2 h3
  exact lv_irem hc.1 hc.2.1 hd hne (k ls H locs h1 h2 h3)
theorem r_ishl {X : Cxt} {g : GG} {cc : ByteArray} {own : String} {ret : Option FieldType} {hx : List (Nat × Nat × Nat × Nat)} {d kc ks : Nat} {Q : State → Prop} {w : Wd} {pc : Nat} {lp : List (Option Value)} {st : List Value} {x y : Int32} (hc : Ok X g cc own ret hx d) (hd : decode cc pc = .ok (.ishl, 1)) (k : Go X g kc ks Q w (pc + 1) lp (.int (x <<< (y &&& 31)) :: st)) : Go X g kc ks Q w pc lp (.int y :: .int x :: st) := by
  obtain ⟨p, l, e, R, s, m, args, below, meth, c⟩ := X
  intro ls H locs h1 h2 h3
  exact lv_ishl hc.1 hc.2.1 hd (k ls H locs h1 h2 h3)
theorem r_ishr {X : Cxt} {g : GG} {cc : ByteArray} {own : String} {ret : Option FieldType} {hx : List (Nat × Nat × Nat × Nat)} {d kc ks : Nat} {Q : State → Prop} {w : Wd} {pc : Nat} {lp : List (Option Value)} {st : List Value} {x y : Int32} (hc : Ok X g cc own ret hx d) (hd : decode cc pc = .ok (.ishr, 1)) (k : Go X g kc ks Q w (pc + 1) lp (.int (x >>> (y &&& 31)) :: st)) : Go X g kc ks Q w pc lp (.int y :: .int x :: st) := by
  obtain ⟨p, l, e, R, s, m, args, below, meth, c⟩ := X
  intro ls H locs h1 h2 h3
  exact lv_ishr hc.1 hc.2.1 hd (k ls H locs h1 h2 h3)
theorem r_iushr {X : Cxt} {g : GG} {cc : ByteArray} {own : String} {ret : Option FieldType} {hx : List (Nat × Nat × Nat × Nat)} {d kc ks : Nat} {Q : State → Prop} {w : Wd} {pc : Nat} {lp : List (Option Value)} {st : List Value} {x y : Int32} (hc : Ok X g cc own ret hx d) (hd : decode cc pc = .ok (.iushr, 1)) (k : Go X g kc ks Q w (pc + 1) lp (.int (x.toUInt32 >>> (y.toUInt32 &&& Int32.toUInt32 31)).toInt32 :: st)) : Go X g kc ks Q w pc lp (.int y :: .int x :: st) := by
  obtain ⟨p, l, e, R, s, m, args, below, meth, c⟩ := X
  intro ls H locs h1 h2 h3
  exact lv_iushr hc.1 hc.2.1 hd rfl (k ls H locs h1 h2 h3)
theorem r_ineg {X : Cxt} {g : GG} {cc : ByteArray} {own : String} {ret : Option FieldType} {hx : List (Nat × Nat × Nat × Nat)} {d kc ks : Nat} {Q : State → Prop} {w : Wd} {pc : Nat} {lp : List (Option Value)} {st : List Value} {x : Int32} (hc : Ok X g cc own ret hx d) (hd : decode cc pc = .ok (.ineg, 1)) (k : Go X g kc ks Q w (pc + 1) lp (.int (-x) :: st)) : Go X g kc ks Q w pc lp (.int x :: st) := by
  obtain ⟨p, l, e, R, s, m, args, below, meth, c⟩ := X
  intro ls H locs h1 h2 h3
  exact lv_ineg hc.1 hc.2.1 hd (k ls H locs h1 h2 h3)
theorem r_i2l {X : Cxt} {g : GG} {cc : ByteArray} {own : String} {ret : Option FieldType} {hx : List (Nat × Nat × Nat × Nat)} {d kc ks : Nat} {Q : State → Prop} {w : Wd} {pc : Nat} {lp : List (Option Value)} {st : List Value} {x : Int32} (hc : Ok X g cc own ret hx d) (hd : decode cc pc = .ok (.i2l, 1)) (k : Go X g kc ks Q w (pc + 1) lp (.long x.toInt64 :: st)) : Go X g kc ks Q w pc lp (.int x :: st) := by
  obtain ⟨p, l, e, R, s, m, args, below, meth, c⟩ := X
  intro ls H locs h1 h2 h3
  exact lv_i2l hc.1 hc.2.1 hd rfl (k ls H locs h1 h2 h3)
theorem r_iconst {X : Cxt} {g : GG} {cc : ByteArray} {own : String} {ret : Option FieldType} {hx : List (Nat × Nat × Nat × Nat)} {d kc ks : Nat} {Q : State → Prop} {w : Wd} {pc : Nat} {lp : List (Option Value)} {st : List Value} {n : Int} (hc : Ok X g cc own ret hx d) (hd : decode cc pc = .ok (.iconst n, 1)) (v : Int32) (hv : Int32.ofInt n = v) (k : Go X g kc ks Q w (pc + 1) lp (.int v :: st)) : Go X g kc ks Q w pc lp st := by
  obtain ⟨p, l, e, R, s, m, args, below, meth, c⟩ := X
  intro ls H locs h1 h2 h3
  exact lv_iconst hc.1 hc.2.1 hd hv (k ls H locs h1 h2 h3)
theorem r_bipush {X : Cxt} {g : GG} {cc : ByteArray} {own : String} {ret : Option FieldType} {hx : List (Nat × Nat × Nat × Nat)} {d kc ks : Nat} {Q : State → Prop} {w : Wd} {pc : Nat} {lp : List (Option Value)} {st : List Value} {n : Int} (hc : Ok X g cc own ret hx d) (hd : decode cc pc = .ok (.bipush n, 2)) (v : Int32) (hv : (Int8.ofInt n).toInt32 = v) (k : Go X g kc ks Q w (pc + 2) lp (.int v :: st)) : Go X g kc ks Q w pc lp st := by
  obtain ⟨p, l, e, R, s, m, args, below, meth, c⟩ := X
  intro ls H locs h1 h2 h3
  exact lv_bipush hc.1 hc.2.1 hd hv (k ls H locs h1 h2 h3)
theorem r_sipush {X : Cxt} {g : GG} {cc : ByteArray} {own : String} {ret : Option FieldType} {hx : List (Nat × Nat × Nat × Nat)} {d kc ks : Nat} {Q : State → Prop} {w : Wd} {pc : Nat} {lp : List (Option Value)} {st : List Value} {n : Int} (hc : Ok X g cc own ret hx d) (hd : decode cc pc = .ok (.sipush n, 3)) (v : Int32) (hv : (Int16.ofInt n).toInt32 = v) (k : Go X g kc ks Q w (pc + 3) lp (.int v :: st)) : Go X g kc ks Q w pc lp st := by
  obtain ⟨p, l, e, R, s, m, args, below, meth, c⟩ := X
  intro ls H locs h1 h2 h3
  exact lv_sipush hc.1 hc.2.1 hd hv (k ls H locs h1 h2 h3)
theorem r_lconst {X : Cxt} {g : GG} {cc : ByteArray} {own : String} {ret : Option FieldType} {hx : List (Nat × Nat × Nat × Nat)} {d kc ks : Nat} {Q : State → Prop} {w : Wd} {pc : Nat} {lp : List (Option Value)} {st : List Value} {n : Fin 2} (hc : Ok X g cc own ret hx d) (hd : decode cc pc = .ok (.lconst n, 1)) (v : Int64) (hv : Int64.ofNat (n : Nat) = v) (k : Go X g kc ks Q w (pc + 1) lp (.long v :: st)) : Go X g kc ks Q w pc lp st := by
  obtain ⟨p, l, e, R, s, m, args, below, meth, c⟩ := X
  intro ls H locs h1 h2 h3
  exact lv_lconst hc.1 hc.2.1 hd hv (k ls H locs h1 h2 h3)
theorem r_iload_n {X : Cxt} {g : GG} {cc : ByteArray} {own : String} {ret : Option FieldType} {hx : List (Nat × Nat × Nat × Nat)} {d kc ks : Nat} {Q : State → Prop} {w : Wd} {pc : Nat} {lp : List (Option Value)} {st : List Value} {j : Fin 4} {x : Int32} (hc : Ok X g cc own ret hx d) (hd : decode cc pc = .ok (.iload_n j, 1)) (hl : lp[(j : Nat)]? = some (some (.int x))) (k : Go X g kc ks Q w (pc + 1) lp (.int x :: st)) : Go X g kc ks Q w pc lp st := by
  obtain ⟨p, l, e, R, s, m, args, below, meth, c⟩ := X
  intro ls H locs h1 h2 h3
  exact lv_iload_n hc.1 hc.2.1 hd rfl (pl_at h1 hl) (k ls H locs h1 h2 h3)
theorem r_iload {X : Cxt} {g : GG} {cc : ByteArray} {own : String} {ret : Option FieldType} {hx : List (Nat × Nat × Nat × Nat)} {d kc ks : Nat} {Q : State → Prop} {w : Wd} {pc : Nat} {lp : List (Option Value)} {st : List Value} {j : Nat} {x : Int32} (hc : Ok X g cc own ret hx d) (hd : decode cc pc = .ok (.iload j, 2)) (hl : lp[j]? = some (some (.int x))) (k : Go X g kc ks Q w (pc + 2) lp (.int x :: st)) : Go X g kc ks Q w pc lp st := by
  obtain ⟨p, l, e, R, s, m, args, below, meth, c⟩ := X
  intro ls H locs h1 h2 h3
  exact lv_iload hc.1 hc.2.1 hd (pl_at h1 hl) (k ls H locs h1 h2 h3)
theorem r_aload_n {X : Cxt} {g : GG} {cc : ByteArray} {own : String} {ret : Option FieldType} {hx : List (Nat × Nat × Nat × Nat)} {d kc ks : Nat} {Q : State → Prop} {w : Wd} {pc : Nat} {lp : List (Option Value)} {st : List Value} {j : Fin 4} {x : Nat} (hc : Ok X g cc own ret hx d) (hd : decode cc pc = .ok (.aload_n j, 1)) (hl : lp[(j : Nat)]? = some (some (.ref x))) (k : Go X g kc ks Q w (pc + 1) lp (.ref x :: st)) : Go X g kc ks Q w pc lp st := by
  obtain ⟨p, l, e, R, s, m, args, below, meth, c⟩ := X
  intro ls H locs h1 h2 h3
  exact lv_aload_n hc.1 hc.2.1 hd rfl (pl_at h1 hl) (k ls H locs h1 h2 h3)
theorem r_aload {X : Cxt} {g : GG} {cc : ByteArray} {own : String} {ret : Option FieldType} {hx : List (Nat × Nat × Nat × Nat)} {d kc ks : Nat} {Q : State → Prop} {w : Wd} {pc : Nat} {lp : List (Option Value)} {st : List Value} {j : Nat} {x : Nat} (hc : Ok X g cc own ret hx d) (hd : decode cc pc = .ok (.aload j, 2)) (hl : lp[j]? = some (some (.ref x))) (k : Go X g kc ks Q w (pc + 2) lp (.ref x :: st)) : Go X g kc ks Q w pc lp st := by
  obtain ⟨p, l, e, R, s, m, args, below, meth, c⟩ := X
  intro ls H locs h1 h2 h3
  exact lv_aload hc.1 hc.2.1 hd (pl_at h1 hl) (k ls H locs h1 h2 h3)
theorem r_istore_n {X : Cxt} {g : GG} {cc : ByteArray} {own : String} {ret : Option FieldType} {hx : List (Nat × Nat × Nat × Nat)} {d kc ks : Nat} {Q : State → Prop} {w : Wd} {pc : Nat} {lp : List (Option Value)} {st : List Value} {j : Fin 4} {x : Int32} (hc : Ok X g cc own ret hx d) (hd : decode cc pc = .ok (.istore_n j, 1)) (hj : (j : Nat) < lp.length) (k : Go X g kc ks Q w (pc + 1) (lp.set (j : Nat) (some (.int x))) st) : Go X g kc ks Q w pc lp (.int x :: st) := by
  obtain ⟨p, l, e, R, s, m, args, below, meth, c⟩ := X
  intro ls H locs h1 h2 h3
  obtain ⟨ls', e', h'⟩ := pl_store (v := .int x) h1 (Nat.lt_of_lt_of_le hj (pl_le h1)) rfl
  intro T hT X
  obtain ⟨t, a, b⟩ := k ls' H locs h' h2 h3 T hT X
  refine ⟨t, ?_, b⟩
  jvm_step X.here [X.here.top, ↓top_set X.here.top, hc.1, hc.2.1, hd, e']
  exact a
theorem r_istore {X : Cxt} {g : GG} {cc : ByteArray} {own : String} {ret : Option FieldType} {hx : List (Nat × Nat × Nat × Nat)} {d kc ks : Nat} {Q : State → Prop} {w : Wd} {pc : Nat} {lp : List (Option Value)} {st : List Value} {j : Nat} {x : Int32} (hc : Ok X g cc own ret hx d) (hd : decode cc pc = .ok (.istore j, 2)) (hj : j < lp.length) (k : Go X g kc ks Q w (pc + 2) (lp.set j (some (.int x))) st) : Go X g kc ks Q w pc lp (.int x :: st) := by
  obtain ⟨p, l, e, R, s, m, args, below, meth, c⟩ := X
  intro ls H locs h1 h2 h3
  obtain ⟨ls', e', h'⟩ := pl_store (v := .int x) h1 (Nat.lt_of_lt_of_le hj (pl_le h1)) rfl
  intro T hT X
  obtain ⟨t, a, b⟩ := k ls' H locs h' h2 h3 T hT X
  refine ⟨t, ?_, b⟩
  jvm_step X.here [X.here.top, ↓top_set X.here.top, hc.1, hc.2.1, hd, e']
  exact a
theorem r_astore_n {X : Cxt} {g : GG} {cc : ByteArray} {own : String} {ret : Option FieldType} {hx : List (Nat × Nat × Nat × Nat)} {d kc ks : Nat} {Q : State → Prop} {w : Wd} {pc : Nat} {lp : List (Option Value)} {st : List Value} {j : Fin 4} {x : Nat} (hc : Ok X g cc own ret hx d) (hd : decode cc pc = .ok (.astore_n j, 1)) (hj : (j : Nat) < lp.length) (k : Go X g kc ks Q w (pc + 1) (lp.set (j : Nat) (some (.ref x))) st) : Go X g kc ks Q w pc lp (.ref x :: st) := by
  obtain ⟨p, l, e, R, s, m, args, below, meth, c⟩ := X
  intro ls H locs h1 h2 h3
  obtain ⟨ls', e', h'⟩ := pl_store (v := .ref x) h1 (Nat.lt_of_lt_of_le hj (pl_le h1)) rfl
  intro T hT X
  obtain ⟨t, a, b⟩ := k ls' H locs h' h2 h3 T hT X
  refine ⟨t, ?_, b⟩
  jvm_step X.here [X.here.top, ↓top_set X.here.top, hc.1, hc.2.1, hd, e']
  exact ⟨rfl, a⟩
theorem r_astore {X : Cxt} {g : GG} {cc : ByteArray} {own : String} {ret : Option FieldType} {hx : List (Nat × Nat × Nat × Nat)} {d kc ks : Nat} {Q : State → Prop} {w : Wd} {pc : Nat} {lp : List (Option Value)} {st : List Value} {j : Nat} {x : Nat} (hc : Ok X g cc own ret hx d) (hd : decode cc pc = .ok (.astore j, 2)) (hj : j < lp.length) (k : Go X g kc ks Q w (pc + 2) (lp.set j (some (.ref x))) st) : Go X g kc ks Q w pc lp (.ref x :: st) := by
  obtain ⟨p, l, e, R, s, m, args, below, meth, c⟩ := X
  intro ls H locs h1 h2 h3
  obtain ⟨ls', e', h'⟩ := pl_store (v := .ref x) h1 (Nat.lt_of_lt_of_le hj (pl_le h1)) rfl
  intro T hT X
  obtain ⟨t, a, b⟩ := k ls' H locs h' h2 h3 T hT X
  refine ⟨t, ?_, b⟩
  jvm_step X.here [X.here.top, ↓top_set X.here.top, hc.1, hc.2.1, hd, e']
  exact ⟨rfl, a⟩
theorem r_iinc {X : Cxt} {g : GG} {cc : ByteArray} {own : String} {ret : Option FieldType} {hx : List (Nat × Nat × Nat × Nat)} {d kc ks : Nat} {Q : State → Prop} {w : Wd} {pc : Nat} {lp : List (Option Value)} {st : List Value} {j : Nat} {n : Int} {x : Int32} (hc : Ok X g cc own ret hx d) (hd : decode cc pc = .ok (.iinc j n, 3)) (hl : lp[j]? = some (some (.int x))) (k : Go X g kc ks Q w (pc + 3) (lp.set j (some (.int (x + Int32.ofInt n)))) st) : Go X g kc ks Q w pc lp st := by
  obtain ⟨p, l, e, R, s, m, args, below, meth, c⟩ := X
  intro ls H locs h1 h2 h3
  have hj : j < lp.length := (List.getElem?_eq_some_iff.mp hl).1
  have hg := (pl_at h1 hl)
  obtain ⟨ls', e', h'⟩ := pl_store (v := .int (x + Int32.ofInt n)) h1 (Nat.lt_of_lt_of_le hj (pl_le h1)) rfl
  intro T hT X
  obtain ⟨t, a, b⟩ := k ls' H locs h' h2 h3 T hT X
  refine ⟨t, ?_, b⟩
  jvm_step X.here [X.here.top, ↓top_set X.here.top, hc.1, hc.2.1, hd, hg, e']
  exact a
theorem r_dup {X : Cxt} {g : GG} {cc : ByteArray} {own : String} {ret : Option FieldType} {hx : List (Nat × Nat × Nat × Nat)} {d kc ks : Nat} {Q : State → Prop} {w : Wd} {pc : Nat} {lp : List (Option Value)} {st : List Value} {va : Value} (hc : Ok X g cc own ret hx d) (hd : decode cc pc = .ok (.dup, 1)) (hva : va.category = 1) (k : Go X g kc ks Q w (pc + 1) lp (va :: va :: st)) : Go X g kc ks Q w pc lp (va :: st) := by
  obtain ⟨p, l, e, R, s, m, args, below, meth, c⟩ := X
  intro ls H locs h1 h2 h3
  exact lv_dup hc.1 hc.2.1 hd hva (k ls H locs h1 h2 h3)
theorem r_pop {X : Cxt} {g : GG} {cc : ByteArray} {own : String} {ret : Option FieldType} {hx : List (Nat × Nat × Nat × Nat)} {d kc ks : Nat} {Q : State → Prop} {w : Wd} {pc : Nat} {lp : List (Option Value)} {st : List Value} {va : Value} (hc : Ok X g cc own ret hx d) (hd : decode cc pc = .ok (.pop, 1)) (hva : va.category = 1) (k : Go X g kc ks Q w (pc + 1) lp st) : Go X g kc ks Q w pc lp (va :: st) := by
  obtain ⟨p, l, e, R, s, m, args, below, meth, c⟩ := X
  intro ls H locs h1 h2 h3
  exact lv_pop hc.1 hc.2.1 hd hva (k ls H locs h1 h2 h3)
theorem r_dup_x1 {X : Cxt} {g : GG} {cc : ByteArray} {own : String} {ret : Option FieldType} {hx : List (Nat × Nat × Nat × Nat)} {d kc ks : Nat} {Q : State → Prop} {w : Wd} {pc : Nat} {lp : List (Option Value)} {st : List Value} {va vb : Value} (hc : Ok X g cc own ret hx d) (hd : decode cc pc = .ok (.dup_x1, 1)) (hva : va.category = 1) (hvb : vb.category = 1) (k : Go X g kc ks Q w (pc + 1) lp (va :: vb :: va :: st)) : Go X g kc ks Q w pc lp (va :: vb :: st) := by
  obtain ⟨p, l, e, R, s, m, args, below, meth, c⟩ := X
  intro ls H locs h1 h2 h3
  exact lv_dup_x1 hc.1 hc.2.1 hd hva hvb (k ls H locs h1 h2 h3)
theorem r_dup2 {X : Cxt} {g : GG} {cc : ByteArray} {own : String} {ret : Option FieldType} {hx : List (Nat × Nat × Nat × Nat)} {d kc ks : Nat} {Q : State → Prop} {w : Wd} {pc : Nat} {lp : List (Option Value)} {st : List Value} {va vb : Value} (hc : Ok X g cc own ret hx d) (hd : decode cc pc = .ok (.dup2, 1)) (hva : va.category = 1) (hvb : vb.category = 1) (k : Go X g kc ks Q w (pc + 1) lp (va :: vb :: va :: vb :: st)) : Go X g kc ks Q w pc lp (va :: vb :: st) := by
  obtain ⟨p, l, e, R, s, m, args, below, meth, c⟩ := X
  intro ls H locs h1 h2 h3
  exact lv_dup2_11 hc.1 hc.2.1 hd hva hvb (k ls H locs h1 h2 h3)
theorem r_if_eq {X : Cxt} {g : GG} {cc : ByteArray} {own : String} {ret : Option FieldType} {hx : List (Nat × Nat × Nat × Nat)} {d kc ks : Nat} {Q : State → Prop} {w : Wd} {pc : Nat} {lp : List (Option Value)} {st : List Value} {x : Int32} {off : Int} {tgt : Nat} (hc : Ok X g cc own ret hx d) (hd : decode cc pc = .ok (.ifCond .eq off, 3)) (ht : (pc : Int) + off = (tgt : Int)) (kt : x = 0 → Go X g kc ks Q w tgt lp st) (kf : ¬ x = 0 → Go X g kc ks Q w (pc + 3) lp st) : Go X g kc ks Q w pc lp (.int x :: st) := by
  obtain ⟨p, l, e, R, s, m, args, below, meth, c⟩ := X
  intro ls H locs h1 h2 h3
  exact lv_if_eq hc.1 hc.2.1 hd ht (fun q => kt q ls H locs h1 h2 h3) (fun q => kf q ls H locs h1 h2 h3)
theorem r_if_ne {X : Cxt} {g : GG} {cc : ByteArray} {own : String} {ret : Option FieldType} {hx : List (Nat × Nat × Nat × Nat)} {d kc ks : Nat} {Q : State → Prop} {w : Wd} {pc : Nat} {lp : List (Option Value)} {st : List Value} {x : Int32} {off : Int} {tgt : Nat} (hc : Ok X g cc own ret hx d) (hd : decode cc pc = .ok (.ifCond .ne off, 3)) (ht : (pc : Int) + off = (tgt : Int)) (kt : ¬ x = 0 → Go X g kc ks Q w tgt lp st) (kf : x = 0 → Go X g kc ks Q w (pc + 3) lp st) : Go X g kc ks Q w pc lp (.int x :: st) := by
  obtain ⟨p, l, e, R, s, m, args, below, meth, c⟩ := X
  intro ls H locs h1 h2 h3
  exact lv_if_ne hc.1 hc.2.1 hd ht (fun q => kt q ls H locs h1 h2 h3) (fun q => kf q ls H locs h1 h2 h3)
theorem r_if_lt {X : Cxt} {g : GG} {cc : ByteArray} {own : String} {ret : Option FieldType} {hx : List (Nat × Nat × Nat × Nat)} {d kc ks : Nat} {Q : State → Prop} {w : Wd} {pc : Nat} {lp : List (Option Value)} {st : List Value} {x : Int32} {off : Int} {tgt : Nat} (hc : Ok X g cc own ret hx d) (hd : decode cc pc = .ok (.ifCond .lt off, 3)) (ht : (pc : Int) + off = (tgt : Int)) (kt : x < 0 → Go X g kc ks Q w tgt lp st) (kf : ¬ x < 0 → Go X g kc ks Q w (pc + 3) lp st) : Go X g kc ks Q w pc lp (.int x :: st) := by
  obtain ⟨p, l, e, R, s, m, args, below, meth, c⟩ := X
  intro ls H locs h1 h2 h3
  exact lv_if_lt hc.1 hc.2.1 hd ht (fun q => kt q ls H locs h1 h2 h3) (fun q => kf q ls H locs h1 h2 h3)
theorem r_if_ge {X : Cxt} {g : GG} {cc : ByteArray} {own : String} {ret : Option FieldType} {hx : List (Nat × Nat × Nat × Nat)} {d kc ks : Nat} {Q : State → Prop} {w : Wd} {pc : Nat} {lp : List (Option Value)} {st : List Value} {x : Int32} {off : Int} {tgt : Nat} (hc : Ok X g cc own ret hx d) (hd : decode cc pc = .ok (.ifCond .ge off, 3)) (ht : (pc : Int) + off = (tgt : Int)) (kt : 0 ≤ x → Go X g kc ks Q w tgt lp st) (kf : ¬ 0 ≤ x → Go X g kc ks Q w (pc + 3) lp st) : Go X g kc ks Q w pc lp (.int x :: st) := by
  obtain ⟨p, l, e, R, s, m, args, below, meth, c⟩ := X
  intro ls H locs h1 h2 h3
  exact lv_if_ge hc.1 hc.2.1 hd ht (fun q => kt q ls H locs h1 h2 h3) (fun q => kf q ls H locs h1 h2 h3)
theorem r_if_gt {X : Cxt} {g : GG} {cc : ByteArray} {own : String} {ret : Option FieldType} {hx : List (Nat × Nat × Nat × Nat)} {d kc ks : Nat} {Q : State → Prop} {w : Wd} {pc : Nat} {lp : List (Option Value)} {st : List Value} {x : Int32} {off : Int} {tgt : Nat} (hc : Ok X g cc own ret hx d) (hd : decode cc pc = .ok (.ifCond .gt off, 3)) (ht : (pc : Int) + off = (tgt : Int)) (kt : 0 < x → Go X g kc ks Q w tgt lp st) (kf : ¬ 0 < x → Go X g kc ks Q w (pc + 3) lp st) : Go X g kc ks Q w pc lp (.int x :: st) := by
  obtain ⟨p, l, e, R, s, m, args, below, meth, c⟩ := X
  intro ls H locs h1 h2 h3
  exact lv_if_gt hc.1 hc.2.1 hd ht (fun q => kt q ls H locs h1 h2 h3) (fun q => kf q ls H locs h1 h2 h3)
theorem r_if_le {X : Cxt} {g : GG} {cc : ByteArray} {own : String} {ret : Option FieldType} {hx : List (Nat × Nat × Nat × Nat)} {d kc ks : Nat} {Q : State → Prop} {w : Wd} {pc : Nat} {lp : List (Option Value)} {st : List Value} {x : Int32} {off : Int} {tgt : Nat} (hc : Ok X g cc own ret hx d) (hd : decode cc pc = .ok (.ifCond .le off, 3)) (ht : (pc : Int) + off = (tgt : Int)) (kt : x ≤ 0 → Go X g kc ks Q w tgt lp st) (kf : ¬ x ≤ 0 → Go X g kc ks Q w (pc + 3) lp st) : Go X g kc ks Q w pc lp (.int x :: st) := by
  obtain ⟨p, l, e, R, s, m, args, below, meth, c⟩ := X
  intro ls H locs h1 h2 h3
  exact lv_if_le hc.1 hc.2.1 hd ht (fun q => kt q ls H locs h1 h2 h3) (fun q => kf q ls H locs h1 h2 h3)
theorem r_ic_eq {X : Cxt} {g : GG} {cc : ByteArray} {own : String} {ret : Option FieldType} {hx : List (Nat × Nat × Nat × Nat)} {d kc ks : Nat} {Q : State → Prop} {w : Wd} {pc : Nat} {lp : List (Option Value)} {st : List Value} {x y : Int32} {off : Int} {tgt : Nat} (hc : Ok X g cc own ret hx d) (hd : decode cc pc = .ok (.if_icmp .eq off, 3)) (ht : (pc : Int) + off = (tgt : Int)) (kt : x = y → Go X g kc ks Q w tgt lp st) (kf : ¬ x = y → Go X g kc ks Q w (pc + 3) lp st) : Go X g kc ks Q w pc lp (.int y :: .int x :: st) := by
  obtain ⟨p, l, e, R, s, m, args, below, meth, c⟩ := X
  intro ls H locs h1 h2 h3
  exact lv_icmp_eq hc.1 hc.2.1 hd ht (fun q => kt q ls H locs h1 h2 h3) (fun q => kf q ls H locs h1 h2 h3)
theorem r_ic_ne {X : Cxt} {g : GG} {cc : ByteArray} {own : String} {ret : Option FieldType} {hx : List (Nat × Nat × Nat × Nat)} {d kc ks : Nat} {Q : State → Prop} {w : Wd} {pc : Nat} {lp : List (Option Value)} {st : List Value} {x y : Int32} {off : Int} {tgt : Nat} (hc : Ok X g cc own ret hx d) (hd : decode cc pc = .ok (.if_icmp .ne off, 3)) (ht : (pc : Int) + off = (tgt : Int)) (kt : ¬ x = y → Go X g kc ks Q w tgt lp st) (kf : x = y → Go X g kc ks Q w (pc + 3) lp st) : Go X g kc ks Q w pc lp (.int y :: .int x :: st) := by
  obtain ⟨p, l, e, R, s, m, args, below, meth, c⟩ := X
  intro ls H locs h1 h2 h3
  exact lv_icmp_ne hc.1 hc.2.1 hd ht (fun q => kt q ls H locs h1 h2 h3) (fun q => kf q ls H locs h1 h2 h3)
theorem r_ic_lt {X : Cxt} {g : GG} {cc : ByteArray} {own : String} {ret : Option FieldType} {hx : List (Nat × Nat × Nat × Nat)} {d kc ks : Nat} {Q : State → Prop} {w : Wd} {pc : Nat} {lp : List (Option Value)} {st : List Value} {x y : Int32} {off : Int} {tgt : Nat} (hc : Ok X g cc own ret hx d) (hd : decode cc pc = .ok (.if_icmp .lt off, 3)) (ht : (pc : Int) + off = (tgt : Int)) (kt : x < y → Go X g kc ks Q w tgt lp st) (kf : ¬ x < y → Go X g kc ks Q w (pc + 3) lp st) : Go X g kc ks Q w pc lp (.int y :: .int x :: st) := by
  obtain ⟨p, l, e, R, s, m, args, below, meth, c⟩ := X
  intro ls H locs h1 h2 h3
  exact lv_icmp_lt hc.1 hc.2.1 hd ht (fun q => kt q ls H locs h1 h2 h3) (fun q => kf q ls H locs h1 h2 h3)
theorem r_ic_ge {X : Cxt} {g : GG} {cc : ByteArray} {own : String} {ret : Option FieldType} {hx : List (Nat × Nat × Nat × Nat)} {d kc ks : Nat} {Q : State → Prop} {w : Wd} {pc : Nat} {lp : List (Option Value)} {st : List Value} {x y : Int32} {off : Int} {tgt : Nat} (hc : Ok X g cc own ret hx d) (hd : decode cc pc = .ok (.if_icmp .ge off, 3)) (ht : (pc : Int) + off = (tgt : Int)) (kt : y ≤ x → Go X g kc ks Q w tgt lp st) (kf : ¬ y ≤ x → Go X g kc ks Q w (pc + 3) lp st) : Go X g kc ks Q w pc lp (.int y :: .int x :: st) := by
  obtain ⟨p, l, e, R, s, m, args, below, meth, c⟩ := X
  intro ls H locs h1 h2 h3
  exact lv_icmp_ge hc.1 hc.2.1 hd ht (fun q => kt q ls H locs h1 h2 h3) (fun q => kf q ls H locs h1 h2 h3)
theorem r_ic_gt {X : Cxt} {g : GG} {cc : ByteArray} {own : String} {ret : Option FieldType} {hx : List (Nat × Nat × Nat × Nat)} {d kc ks : Nat} {Q : State → Prop} {w : Wd} {pc : Nat} {lp : List (Option Value)} {st : List Value} {x y : Int32} {off : Int} {tgt : Nat} (hc : Ok X g cc own ret hx d) (hd : decode cc pc = .ok (.if_icmp .gt off, 3)) (ht : (pc : Int) + off = (tgt : Int)) (kt : y < x → Go X g kc ks Q w tgt lp st) (kf : ¬ y < x → Go X g kc ks Q w (pc + 3) lp st) : Go X g kc ks Q w pc lp (.int y :: .int x :: st) := by
  obtain ⟨p, l, e, R, s, m, args, below, meth, c⟩ := X
  intro ls H locs h1 h2 h3
  exact lv_icmp_gt hc.1 hc.2.1 hd ht (fun q => kt q ls H locs h1 h2 h3) (fun q => kf q ls H locs h1 h2 h3)
theorem r_ic_le {X : Cxt} {g : GG} {cc : ByteArray} {own : String} {ret : Option FieldType} {hx : List (Nat × Nat × Nat × Nat)} {d kc ks : Nat} {Q : State → Prop} {w : Wd} {pc : Nat} {lp : List (Option Value)} {st : List Value} {x y : Int32} {off : Int} {tgt : Nat} (hc : Ok X g cc own ret hx d) (hd : decode cc pc = .ok (.if_icmp .le off, 3)) (ht : (pc : Int) + off = (tgt : Int)) (kt : x ≤ y → Go X g kc ks Q w tgt lp st) (kf : ¬ x ≤ y → Go X g kc ks Q w (pc + 3) lp st) : Go X g kc ks Q w pc lp (.int y :: .int x :: st) := by
  obtain ⟨p, l, e, R, s, m, args, below, meth, c⟩ := X
  intro ls H locs h1 h2 h3
  exact lv_icmp_le hc.1 hc.2.1 hd ht (fun q => kt q ls H locs h1 h2 h3) (fun q => kf q ls H locs h1 h2 h3)
theorem r_goto {X : Cxt} {g : GG} {cc : ByteArray} {own : String} {ret : Option FieldType} {hx : List (Nat × Nat × Nat × Nat)} {d kc ks : Nat} {Q : State → Prop} {w : Wd} {pc : Nat} {lp : List (Option Value)} {st : List Value} {off : Int} {tgt : Nat} (hc : Ok X g cc own ret hx d) (hd : decode cc pc = .ok (.goto off, 3)) (ht : (pc : Int) + off = (tgt : Int)) (k : Go X g kc ks Q w tgt lp st) : Go X g kc ks Q w pc lp st := by
  obtain ⟨p, l, e, R, s, m, args, below, meth, c⟩ := X
  intro ls H locs h1 h2 h3
  exact lv_goto hc.1 hc.2.1 hd ht (k ls H locs h1 h2 h3)
theorem r_lcmp {X : Cxt} {g : GG} {cc : ByteArray} {own : String} {ret : Option FieldType} {hx : List (Nat × Nat × Nat × Nat)} {d kc ks : Nat} {Q : State → Prop} {w : Wd} {pc : Nat} {lp : List (Option Value)} {st : List Value} {x y : Int64} (hc : Ok X g cc own ret hx d) (hd : decode cc pc = .ok (.lcmp, 1)) (k : Go X g kc ks Q w (pc + 1) lp (.int (lg_cmp x y) :: st)) : Go X g kc ks Q w pc lp (.long y :: .long x :: st) := by
  obtain ⟨p, l, e, R, s, m, args, below, meth, c⟩ := X
  intro ls H locs h1 h2 h3
  exact W.lcmp hc.1 hc.2.1 hd (k ls H locs h1 h2 h3)
end
section
section GMEM
variable {X : Cxt} {g : GG} {cc : ByteArray} {own : String} {ret : Option FieldType} {hx : List (Nat × Nat × Nat × Nat)} {d kc ks : Nat} {Q : State → Prop} {w : Wd} {pc : Nat} {lp : List (Option Value)} {st : List Value}
theorem lt_of_in {i : Int32} {n : Nat} (h : vp_in i n) : 0 < n := Nat.pos_of_ne_zero (fun q => by subst q; exact h (Or.inr (Nat.zero_le _)))
theorem r_iald (hc : Ok X g cc own ret hx d) (hd : decode cc pc = .ok (.iaload, 1)) {q : Nat} {i : Int32} (hin : vp_in i (lenI q)) (k : Go X g kc ks Q w (pc + 1) lp (.int (w q i.toNatClampNeg) :: st)) : Go X g kc ks Q w pc lp (.int i :: .ref (g.1 q) :: st) := by
  obtain ⟨p, l, e, R, s, m, args, below, meth, c⟩ := X
  intro ls H locs h1 h2 h3
  obtain ⟨hq, he⟩ := ent_I (lt_of_in hin) g (w q)
  exact va_iald (D := g.2.1) (cl := classes) (tys := tysOf g) hc.1 hc.2.1 hc.2.2.2.2.1 h2 q 0 (by rw [cells_get g w hq, he]) rfl hin hd (k ls H locs h1 h2 h3)
theorem r_iast (hc : Ok X g cc own ret hx d) (hd : decode cc pc = .ok (.iastore, 1)) {q : Nat} {i x : Int32} (hin : vp_in i (lenI q)) (k : Go X g kc ks Q (wu w q i.toNatClampNeg x) (pc + 1) lp st) : Go X g kc ks Q w pc lp (.int x :: .int i :: .ref (g.1 q) :: st) := by
  obtain ⟨p, l, e, R, s, m, args, below, meth, c⟩ := X
  intro ls H locs h1 h2 h3
  obtain ⟨hq, he⟩ := ent_I (lt_of_in hin) g (w q)
  obtain ⟨-, he2⟩ := ent_I (lt_of_in hin) g (upd (w q) i.toNatClampNeg x)
  refine va_iast (D := g.2.1) (cl := classes) (tys := tysOf g) hc.1 hc.2.1 hc.2.2.2.2.1 h2 (cells_D hc.2.2.2.2.2.1 s w) h3 q 0 (by rw [cells_get g w hq, he]) rfl hin hd (fun H1 locs1 a1 _ a3 => ?_)
  rw [cells_set (i := i.toNatClampNeg) (x := x) hq he2.symm] at a1
  exact k ls H1 locs1 h1 a1 a3
theorem r_zald (hc : Ok X g cc own ret hx d) (hd : decode cc pc = .ok (.baload, 1)) {q : Nat} {i : Int32} (hin : vp_in i (lenZ q)) (k : Go X g kc ks Q w (pc + 1) lp (.int (w q i.toNatClampNeg) :: st)) : Go X g kc ks Q w pc lp (.int i :: .ref (g.1 q) :: st) := by
  obtain ⟨p, l, e, R, s, m, args, below, meth, c⟩ := X
  intro ls H locs h1 h2 h3
  obtain ⟨hq, he⟩ := ent_Z (lt_of_in hin) g (w q)
  exact va_zald (D := g.2.1) (cl := classes) (tys := tysOf g) hc.1 hc.2.1 hc.2.2.2.2.1 h2 q 1 (by rw [cells_get g w hq, he]) rfl hin hd (k ls H locs h1 h2 h3)
theorem r_zast (hc : Ok X g cc own ret hx d) (hd : decode cc pc = .ok (.bastore, 1)) {q : Nat} {i x : Int32} (hin : vp_in i (lenZ q)) (hx1 : vp_nar .boolean x = x) (k : Go X g kc ks Q (wu w q i.toNatClampNeg x) (pc + 1) lp st) : Go X g kc ks Q w pc lp (.int x :: .int i :: .ref (g.1 q) :: st) := by
  obtain ⟨p, l, e, R, s, m, args, below, meth, c⟩ := X
  intro ls H locs h1 h2 h3
  obtain ⟨hq, he⟩ := ent_Z (lt_of_in hin) g (w q)
  obtain ⟨-, he2⟩ := ent_Z (lt_of_in hin) g (upd (w q) i.toNatClampNeg x)
  refine va_zast (D := g.2.1) (cl := classes) (tys := tysOf g) hc.1 hc.2.1 hc.2.2.2.2.1 h2 (cells_D hc.2.2.2.2.2.1 s w) h3 q 1 (by rw [cells_get g w hq, he]) rfl hin hd (fun H1 locs1 a1 _ a3 => ?_)
  rw [hx1, cells_set (i := i.toNatClampNeg) (x := x) hq he2.symm] at a1
  exact k ls H1 locs1 h1 a1 a3
theorem r_aald (hc : Ok X g cc own ret hx d) (hd : decode cc pc = .ok (.aaload, 1)) {q : Nat} {i : Int32} (hin : vp_in i (lenA q)) (k : Go X g kc ks Q w (pc + 1) lp (.ref (g.1 (q + 1 + i.toNatClampNeg)) :: st)) : Go X g kc ks Q w pc lp (.int i :: .ref (g.1 q) :: st) := by
  obtain ⟨p, l, e, R, s, m, args, below, meth, c⟩ := X
  intro ls H locs h1 h2 h3
  obtain ⟨hq, he⟩ := ent_A (lt_of_in hin) g (w q)
  have ha : (cellsOf g w)[q]? = some (g.1 q, .inl (g.2.2.2.2.1, lenA q, .inr (.inr (.inr (.inr (fun j => some (g.1 (q + 1 + j)))))))) := by rw [cells_get g w hq, he]
  have hlt : i.toNatClampNeg < lenA q := Nat.not_le.mp fun z => hin (Or.inr z)
  exact W.aald (v := .ref (g.1 (q + 1 + i.toNatClampNeg))) (ty := .array .int) hc.1 hc.2.1 (h2 q _ ha) ((hc.2.2.2.2.1.2 2 _ rfl).1 (lenA q) (fun j => va_rf (some (g.1 (q + 1 + j))))) rfl (fun z => by cases z) (by show ¬ (i < 0 ∨ (arrV _ _ _).slots.size ≤ _); rw [arrV_size]; exact hin) (by show (arrV _ _ _).slots[_]? = _; rw [arrV_read _ _ hlt]; rfl) rfl rfl hd (k ls H locs h1 h2 h3)
theorem r_alen (hc : Ok X g cc own ret hx d) (hd : decode cc pc = .ok (.arraylength, 1)) {q : Nat} (hq0 : 0 < lenI q) (k : Go X g kc ks Q w (pc + 1) lp (.int (nI (lenI q)) :: st)) : Go X g kc ks Q w pc lp (.ref (g.1 q) :: st) := by
  obtain ⟨p, l, e, R, s, m, args, below, meth, c⟩ := X
  intro ls H locs h1 h2 h3
  obtain ⟨hq, he⟩ := ent_I hq0 g (w q)
  exact va_alen (D := g.2.1) (cl := classes) (tys := tysOf g) (x := (lenI q, .inl (w q))) hc.1 hc.2.1 hc.2.2.2.2.1 h2 q 0 (by rw [cells_get g w hq, he]) rfl rfl hd (k ls H locs h1 h2 h3)
theorem r_getf (hc : Ok X g cc own ret hx d) (q ci j : Nat) {C : String} {T : u_T} {N idx : Nat} {fs : List Value} {v : Value} (hd : decode cc pc = .ok (.getfield idx, 3)) (hq : q < NC) (he : ent g (w q) q = .inr (ci, fs)) (hci : classes[ci]? = some (C, T, N)) (hj : j < N) (hin : ∀ x ∈ u_ws C T N, x ∈ Ttab) (hT : (T j).1 = C)
    (hl : Cond.fieldLink own idx C (T j).2.1 (T j).2.2.1 ∈ Ttab) (hv : fs[j]? = some v) (k : Go X g kc ks Q w (pc + 3) lp (v :: st)) : Go X g kc ks Q w pc lp (.ref (g.1 q) :: st) := by
  obtain ⟨p, l, e, R, s, m, args, below, meth, c⟩ := X
  intro ls H locs h1 h2 h3
  exact va_get (D := g.2.1) (cl := classes) (tys := tysOf g) hc.1 hc.2.1 hc.2.2.2.1 hin hc.2.2.1 hc.2.2.2.2.1 h2 q (by rw [cells_get g w hq, he]) hci j hj (hc.2.2.2.1 _ hl) (fun x h => by rw [hT] at h; exact h) hv hd (k ls H locs h1 h2 h3)
theorem r_putf (hc : Ok X g cc own ret hx d) (q ci j : Nat) {C : String} {T : u_T} {N idx : Nat} {fs : List Value} {x : Int32} {ty0 : Nat → FieldType} {ty : FieldType} (hd : decode cc pc = .ok (.putfield idx, 3)) (hq : q < NC) (he : ent g (w q) q = .inr (ci, fs)) (hci : classes[ci]? = some (C, T, N)) (hj : j < N) (hin : ∀ x ∈ u_ws C T N, x ∈ Ttab) (hT : (T j).1 = C)
    (hty : ∀ k, k < N → parseFieldDescriptor (T k).2.2.1 = some (ty0 k)) (hnm : ∀ a, a < N → ∀ b, b < N → a ≠ b → (T a).2.1 ≠ (T b).2.1) (hfin : (T j).2.2.2 = false) (htj : parseFieldDescriptor (T j).2.2.1 = some ty) (hnr : narrow ty (.int x) = .int x) (hfit : fits ty (.int x) = true) (hlen : j < fs.length)
    (hl : Cond.fieldLink own idx C (T j).2.1 (T j).2.2.1 ∈ Ttab) (he2 : .inr (ci, fs.set j (.int x)) = ent g (upd (w q) j x) q) (k : Go X g kc ks Q (wu w q j x) (pc + 3) lp st) : Go X g kc ks Q w pc lp (.int x :: .ref (g.1 q) :: st) := by
  obtain ⟨p, l, e, R, s, m, args, below, meth, c⟩ := X
  intro ls H locs h1 h2 h3
  refine va_put (D := g.2.1) (cl := classes) (tys := tysOf g) hc.1 hc.2.1 hc.2.2.2.1 hin ty0 hty hnm hc.2.2.1 hc.2.2.2.2.1 h2 (cells_D hc.2.2.2.2.2.1 s w) h3 q (by rw [cells_get g w hq, he]) hci j hj (hc.2.2.2.1 _ hl) (fun x h => by rw [hT] at h; exact h) hfin htj hnr hfit hlen hd (fun H1 locs1 a1 _ a3 => ?_)
  rw [cells_set (i := j) (x := x) hq he2] at a1
  exact k ls H1 locs1 h1 a1 a3
theorem r_iret {v : Int32} {P : Rt → Wd → Prop} (hc : Ok X g cc own (some .int) hx d) (hd : decode cc pc = .ok (.ireturn, 1)) (hP : P (.inl (some (.int v))) w) : Go X g kc ks (Fen X g kc ks P) w pc lp [.int v] := by
  obtain ⟨p, l, e, R, s, m, args, below, meth, c⟩ := X
  intro ls H locs h1 h2 h3
  have hlk : meth.locks = false := hc.2.2.2.2.2.2.1
  have k := W.iret (p := p) (l := l) (e := e) (R := R) (s := s) (m := m) (args := args) (below := below) (meth := meth) (c := c) (H := H) (locs := locs) (cells := kc) (slots := ks) (ls := ls) (pc := pc) (v := v) (Qc := fun _ _ oc t => oc = .returned (some (.int v)) ∧ t.heap = H) (free := AA g s) hc.1 hc.2.1 hc.2.2.2.2.2.2.2.1 (fun t ht _ => ⟨rfl, ht⟩) h3.2.2 hd
  intro T hT Y
  obtain ⟨t, a, oc, b1, b2, ⟨b3, b4⟩, L, ⟨-, hW, hsame⟩, hL⟩ := k T hT Y
  exact ⟨t, a, .inl (some (.int v)), w, oc, L, hP, b1, b2, b3, by rw [b4]; exact h2, h3.F b4, hW, hsame, hL⟩
theorem r_zret {v : Int32} {P : Rt → Wd → Prop} (hc : Ok X g cc own (some .boolean) hx d) (hd : decode cc pc = .ok (.ireturn, 1)) (hn : narrow .boolean (.int v) = .int v) (hP : P (.inl (some (.int v))) w) : Go X g kc ks (Fen X g kc ks P) w pc lp [.int v] := by
  obtain ⟨p, l, e, R, s, m, args, below, meth, c⟩ := X
  intro ls H locs h1 h2 h3
  have hlk : meth.locks = false := hc.2.2.2.2.2.2.1
  have k := W.zret (p := p) (l := l) (e := e) (R := R) (s := s) (m := m) (args := args) (below := below) (meth := meth) (c := c) (H := H) (locs := locs) (cells := kc) (slots := ks) (ls := ls) (pc := pc) (v := v) (ty := .boolean) (Qc := fun _ _ oc t => oc = .returned (some (.int v)) ∧ t.heap = H) (free := AA g s) hc.1 hc.2.1 hc.2.2.2.2.2.2.2.1 hn (fun t ht _ => ⟨rfl, ht⟩) h3.2.2 hd
  intro T hT Y
  obtain ⟨t, a, oc, b1, b2, ⟨b3, b4⟩, L, ⟨-, hW, hsame⟩, hL⟩ := k T hT Y
  exact ⟨t, a, .inl (some (.int v)), w, oc, L, hP, b1, b2, b3, by rw [b4]; exact h2, h3.F b4, hW, hsame, hL⟩
theorem r_vret {P : Rt → Wd → Prop} (hc : Ok X g cc own none hx d) (hd : decode cc pc = .ok (.return_, 1)) (hP : P (.inl none) w) : Go X g kc ks (Fen X g kc ks P) w pc lp [] := by
  obtain ⟨p, l, e, R, s, m, args, below, meth, c⟩ := X
  intro ls H locs h1 h2 h3
  have hlk : meth.locks = false := hc.2.2.2.2.2.2.1
  have k := W.vret (p := p) (l := l) (e := e) (R := R) (s := s) (m := m) (args := args) (below := below) (meth := meth) (c := c) (H := H) (locs := locs) (cells := kc) (slots := ks) (ls := ls) (pc := pc) (Qc := fun _ _ oc t => oc = .returned none ∧ t.heap = H) (free := AA g s) hc.1 hc.2.1 hc.2.2.2.2.2.2.2.1 (fun t ht _ => ⟨rfl, ht⟩) h3.2.2 hd
  intro T hT Y
  obtain ⟨t, a, oc, b1, b2, ⟨b3, b4⟩, L, ⟨-, hW, hsame⟩, hL⟩ := k T hT Y
  exact ⟨t, a, .inl none, w, oc, L, hP, b1, b2, b3, by rw [b4]; exact h2, h3.F b4, hW, hsame, hL⟩
end GMEM
end
section
theorem steps_weaken {tb : Tables} {e : Env} {mid below : List Frame} {a b : State} (h : Steps tb e (mid ++ below) a b) : Steps tb e below a b := by
  obtain ⟨n, hn, w⟩ := h
  exact ⟨n, hn, fun k hk => (w k hk).weaken⟩
theorem AA_mono {g : GG} {s s1 : State} {H : Heap} {locs : List Loc} (hS : va_S (AA g s) s.heap H locs) (h1 : s1.heap = H) {q : Nat} (h : AA g s1 q) : AA g s q := by
  rcases h with h | h
  · exact Or.inl h
  · exact Or.inr (Nat.le_trans hS.1 (by rw [← h1]; exact h))
/-- what a callee's frame does to the caller's -/
theorem S_join {g : GG} {s s1 t : State} {H : Heap} {locs L : List Loc} (hS : va_S (AA g s) s.heap H locs) (h1 : s1.heap = H) (hF : va_F (AA g s1) s1 t) (hL : ∀ q ∈ L, AA g s1 q.base) : va_S (AA g s) s.heap t.heap (locs ++ L) := by
  refine ⟨Nat.le_trans hS.1 (by rw [← h1]; exact hF.1), fun q q1 q2 => ?_, fun q hq => ?_⟩
  · have hlt : q < s1.heap.size := by rw [h1]; exact Nat.lt_of_lt_of_le q1 hS.1
    rw [hF.2 q hlt (fun h => q2 (AA_mono hS h1 h)), h1]
    exact hS.2.1 q q1 q2
  · rcases List.mem_append.mp hq with h | h
    · exact hS.2.2 q h
    · exact AA_mono hS h1 (hL q h)
section GCALL
variable {p : Program} {l : Launch} {e : Env} {R : Room} {s : State} {m : MethodId} {args : Array Value} {below : List Frame} {meth : Method} {c : Code} {U : State} {locs : List Loc} {kc ks : Nat}
variable {g : GG} {cc : ByteArray} {own : String} {ret : Option FieldType} {hx : List (Nat × Nat × Nat × Nat)} {d0 : Nat}
variable {y : MethodName} {cc' : ByteArray} {nL' : Nat} {ret' : Option FieldType} {hx' : List (Nat × Nat × Nat × Nat)} {d k n : Nat} {av : List Value} {w : Wd} {P : Rt → Wd → Prop}
theorem call_core (X : Stand p l e R s m args below meth c U locs kc ks) (hc : Ok (p, l, e, R, s, m, args, below, meth, c) g cc own ret hx d0) (hcon : Con l g y cc' nL' ret' hx' d k n av w P)
    {f : JFrame} (hf : f.method = m) (hsize : f.locals.size = c.maxLocals) {ig : Instr} {len : Nat} (hdg : decode c.code f.pc = .ok (ig, len))
    {mk : MethodId} {methk : Method} {ck : Code} (hn : s.methodNamed? y = some mk) (hmk : s.vm.method? mk = some methk) (hck : methk.code = some ck) (hb : ck.code = cc') (hml : ck.maxLocals = nL') (hre : methk.sig.returnType = ret') (hlk : methk.locks = false)
    (hh : ck.exceptionTable.toList.map (fun h => (h.startPc, h.endPc, h.handlerPc, h.catchType)) = hx') (hpl : plainFor y = true) (hav : ∀ v ∈ av, v.category = 1) (hal : av.length ≤ nL')
    (hw : 2 * f.monitorRoom + (f.stack.map fun v => v.category).sum ≤ 8) (hfr : d + 1 ≤ R.frames) (hlo : 8 + (nL' + 11) + 30 * d ≤ R.locals) (hcells : kc + k ≤ R.cells) (hslots : ks + n ≤ R.slots)
    (hP : va_P g.2.1 classes (cellsOf g w) U.heap) (hS : va_S (AA g s) s.heap U.heap locs) :
    ∃ (r : Rt) (w' : Wd), P r w' ∧
      ((∃ v, r = .inl v ∧ ∃ (T' : State) (locs' : List Loc), Stand p l e R s m args below meth c T' locs' (kc + k) (ks + n) ∧ va_P g.2.1 classes (cellsOf g w') T'.heap ∧ va_S (AA g s) s.heap T'.heap locs' ∧
          Steps p.tables e below (doInvoke e (U.setTop f) [] mk av.toArray).1 (T'.setTop { f with pc := f.pc + len, stack := v.toList ++ f.stack })) ∨
        (∃ cn, r = .inr cn ∧ ∃ (T' : State) (locs' : List Loc) (x : Nat) (cell : Cell), Stand p l e R s m args below meth c T' locs' (kc + k) (ks + n) ∧ va_P g.2.1 classes (cellsOf g w') T'.heap ∧ va_S (AA g s) s.heap T'.heap locs' ∧
          T'.heap[x]? = some cell ∧ s.vm.findClass cn = some cell.cls ∧ cell.vm = .none ∧ s.heap.size ≤ x ∧
          Steps p.tables e below (doInvoke e (U.setTop f) [] mk av.toArray).1 ((T'.setTop f).pushFrame (.throwing x)))) := by
  obtain ⟨c1, -, -, c4, c5, c6, -, -, -, -, -, c12⟩ := hc
  have hmk' : U.vm.method? mk = some methk := by rw [X.warmed.alike.method?]; exact hmk
  have hn' : U.methodNamed? y = some mk := X.named hn
  have hplain : U.plainMethod mk := State.plainMethod.of_named hpl hn' hmk'
  obtain ⟨Y, hst⟩ := X.into hf hsize hdg av.toArray (R' := { frames := d, cells := k, slots := n, locals := 30 * d }) hmk' hck hlk hplain hfr (by rw [hml]; show _ + _ + (nL' + 11) + 30 * d ≤ _; omega) hcells hslots
  have hOk : Ok (p, l, e, { frames := d, cells := k, slots := n, locals := 30 * d }, U.calling f mk av.toArray, mk, av.toArray, .java f :: below, methk, ck) g cc' y.cls ret' hx' d :=
    ⟨c1, hb, findClass_of_methodNamed hn', Tb.warm (U := U.calling f mk av.toArray) X.warmed c4, va_K.moved (u := s) (U := U.calling f mk av.toArray) X.warmed.alike c5, c6, hlk, hre, hh, Nat.le_refl _, Nat.le_refl _, c12⟩
  have hgo := hcon _ rfl rfl hml (Nat.le_refl _) (Nat.le_refl _) hOk
  have hW := hgo _ U.heap [] (by rw [hml]; exact pl_entry hav hal) hP (va_S.rf (A := AA g (U.calling f mk av.toArray)) (H0 := U.heap))
  rw [← lg_entry_eq, ← hml] at hW
  obtain ⟨t, hsteps, r, w', oc, L, q1, q2, q3, q4, q5, q6, q7, q8, q9⟩ := hW ((U.setTop f).pushFrame (.java (entryFrame mk av.toArray ck.maxLocals))) rfl Y
  have hst0 := hst []
  have hheap1 : (U.calling f mk av.toArray).heap = U.heap := rfl
  refine ⟨r, w', q1, ?_⟩
  cases r with
  | inl v =>
    have q4 : oc = .returned v := q4
    subst q4
    obtain ⟨T', X', -, -, ht⟩ := X.outOf hf hdg q3 q7 q8
    have hh1 : t.heap = T'.heap := by rw [ht]; rfl
    refine Or.inl ⟨v, rfl, T', locs ++ L, X', by rw [← hh1]; exact q5, by rw [← hh1]; exact S_join hS hheap1 q6 q9, ?_⟩
    rw [hst0, ← ht]
    exact steps_weaken (mid := [.java f]) hsteps
  | inr cn =>
    obtain ⟨x, cell, e1, e2, e3, e4, e5⟩ := q4
    subst e1
    obtain ⟨T', X', -, -, ht⟩ := X.outOfThrown hf q3 q7 q8
    have hh1 : t.heap = T'.heap := by rw [ht]; rfl
    refine Or.inr ⟨cn, rfl, T', locs ++ L, x, cell, X', by rw [← hh1]; exact q5, by rw [← hh1]; exact S_join hS hheap1 q6 q9, by rw [← hh1]; exact e2, ?_, e4, Nat.le_trans hS.1 (by rw [← hheap1]; exact e5), ?_⟩
    · have e3' : U.vm.findClass cn = some cell.cls := e3
      rw [← X.warmed.alike.findClass]
      exact e3'
    · rw [hst0, ← ht]
      exact steps_weaken (mid := [.java f]) hsteps
end GCALL
section GCL
variable {X : Cxt} {g : GG} {cc : ByteArray} {own : String} {ret : Option FieldType} {hx : List (Nat × Nat × Nat × Nat)} {d kc ks : Nat} {Q : State → Prop} {w : Wd} {pc : Nat} {lp : List (Option Value)} {st : List Value}
variable {y : MethodName} {cc' : ByteArray} {nL' : Nat} {ret' : Option FieldType} {hx' : List (Nat × Nat × Nat × Nat)} {d' k n idx : Nat} {av : List Value} {P : Rt → Wd → Prop}
/-- an exception is on its way through the walked method -/
def GoX : Cxt → GG → Nat → Nat → (State → Prop) → Wd → Nat → List (Option Value) → String → Prop
  | (p, l, e, R, s, m, args, below, meth, c), g, kc, ks, Q, w, pc, lp, cn =>
    ∀ (ls : Array Slot) (T : State) (locs : List Loc) (x : Nat) (cell : Cell) (st : List Value), pl_has ls c.maxLocals lp → Stand p l e R s m args below meth c T locs kc ks → va_P g.2.1 classes (cellsOf g w) T.heap → va_S (AA g s) s.heap T.heap locs →
      T.heap[x]? = some cell → s.vm.findClass cn = some cell.cls → cell.vm = .none → s.heap.size ≤ x → ∃ t, Steps p.tables e below ((T.setTop (F0 m pc ls st)).pushFrame (.throwing x)) t ∧ Q t
/-- no handler: the method ends with it -/
theorem x_out {cn : String} (hc : Ok X g cc own ret [] d) (hP : P (.inr cn) w) : GoX X g kc ks (Fen X g kc ks P) w pc lp cn := by
  obtain ⟨p, l, e, R, s, m, args, below, meth, c⟩ := X
  intro ls T locs x cell st h1 Y h2 h3 h4 h5 h6 h7
  have hno : c.exceptionTable.toList = [] := List.map_eq_nil_iff.mp hc.2.2.2.2.2.2.2.2.1
  have hlk : meth.locks = false := hc.2.2.2.2.2.2.1
  obtain ⟨a1, a2, a3, a4, a5⟩ := Y.leaveThrown x (g := F0 m pc ls st) rfl rfl rfl (fun z hz => by rw [hno] at hz; cases hz) hlk
  exact ⟨_, a1, .inr cn, w, .threw x, locs, hP, a2, a3, ⟨x, cell, rfl, h4, h5, h6, h7⟩, h2, h3.F rfl, a4, a5, h3.2.2⟩
theorem ex_nil {c : Code} (h : c.exceptionTable.isEmpty = true) : c.exceptionTable.toList.map (fun h => (h.startPc, h.endPc, h.handlerPc, h.catchType)) = [] := by
  have : c.exceptionTable = #[] := by simpa using h
  rw [this]
  rfl
theorem r_callv {q ci : Nat} {C : String} {Tc : u_T} {N : Nat} {fs : List Value} (hc : Ok X g cc own ret hx d) (hd : decode cc pc = .ok (.invokevirtual idx, 3)) (hcon : Con X.2.1 g y cc' nL' ret' [] d' k n (.ref (g.1 q) :: av) w P)
    (hl : Cond.methodLink own idx y ∈ Ttab) (hin : Cond.instanceMethod y ∈ Ttab) (hsel : Cond.selects C y y ∈ Ttab) (hcode : Cond.code y cc' nL' ret' ∈ Ttab) (hy : y.cls ≠ "java/lang/invoke/MethodHandle" ∧ y.cls ≠ "java/lang/invoke/VarHandle") (hpl : plainFor y = true) (hnum : (parseMethodDescriptor y.desc).map (fun d => d.parameters.length) = some av.length)
    (hq : q < NC) (hob : ent g (w q) q = .inr (ci, fs)) (hci : classes[ci]? = some (C, Tc, N)) (hdd : d' + 1 ≤ d) (hnl : nL' ≤ 11) (hav : ∀ v ∈ av, v.category = 1) (hal : av.length + 1 ≤ nL') (hst : (st.map fun v => v.category).sum ≤ 8) (hcells : kc + k ≤ X.2.2.2.1.cells) (hslots : ks + n ≤ X.2.2.2.1.slots)
    (hret : ∀ (v : Option Value) (w' : Wd), P (.inl v) w' → Go X g (kc + k) (ks + n) Q w' (pc + 3) lp (v.toList ++ st)) (hthr : ∀ (cn : String) (w' : Wd), P (.inr cn) w' → GoX X g (kc + k) (ks + n) Q w' pc lp cn) : Go X g kc ks Q w pc lp (av.reverse ++ .ref (g.1 q) :: st) := by
  obtain ⟨p, l, e, R, s, m, args, below, meth, c⟩ := X
  intro ls H locs h1 h2 h3 T hT Y
  have hts := hc.2.2.2.1
  obtain ⟨mk, methM, hnamed, hmethM, hstM, habM⟩ := Cond.instanceMethod_spec (hts _ hin)
  obtain ⟨methM', cM, hmethM', hck, hb, hml, hre, hlk, hex, hsigM⟩ := Cond.code_spec hnamed (hts _ hcode)
  cases hmethM.symm.trans hmethM'
  obtain ⟨c2, r2, m2, q1, q2, q3, q4, kP, hkP, hkPi⟩ := Cond.selects_spec (hts _ hsel)
  obtain ⟨r0, e1, cellB, b1, b2, b3, b4⟩ := h2 q _ (by rw [cells_get g w hq, hob])
  have hr0 : r0 = (C, Tc, N) := Option.some.inj (e1.symm.trans hci)
  subst hr0
  have hcls : s.vm.findClass C = some cellB.cls := by rw [b2]; exact (hc.2.2.2.2.1.1 ci _ hci).2.1
  cases hcls.symm.trans q1
  cases (State.methodFound?_of_named hnamed hy).symm.trans q2
  cases hnamed.symm.trans q3
  have hselP : selectMethod e.platform s.vm cellB.cls mk = .method mk := by rw [Launch.admits_selectMethod Y.admits]; exact q4
  obtain ⟨vm₁, X₁, hstep₁⟩ := Y.invokevirtual hc.1 hc.2.2.1 (hts _ hl) hnamed hmethM hstM hkP hkPi hy (a := g.1 q) (cell := cellB) (by rw [hT]; exact b1)
    (fun z h => by rw [b3] at h; cases h) hselP hmethM habM hkP hkPi (g := F0 m pc ls (av.reverse ++ .ref (g.1 q) :: st)) rfl (argsL := av) (rest := st) (by have h9 := hnum; rw [hsigM] at h9; exact (Option.some.inj h9).symm) rfl (by rw [hc.2.1]; exact hd)
  have hK := call_core (f := F0 m pc ls st) X₁ hc hcon rfl h1.1 (by rw [hc.2.1]; exact hd) hnamed hmethM hck hb hml hre hlk (ex_nil hex) hpl (fun v hv => by rcases List.mem_cons.mp hv with rfl | hv; exact rfl; exact hav v hv) (by simpa using hal) (by show 2 * 0 + (st.map fun v => v.category).sum ≤ 8; omega) (Nat.le_trans hdd hc.2.2.2.2.2.2.2.2.2.1) (by have := hc.2.2.2.2.2.2.2.2.2.2.1; omega) hcells hslots (by show va_P _ _ _ T.heap; rw [hT]; exact h2) (by show va_S _ _ T.heap _; rw [hT]; exact h3)
  obtain ⟨r, w', hP, hres⟩ := hK
  rcases hres with ⟨v, rfl, T', locs', X', a1, a2, a3⟩ | ⟨cn, rfl, T', locs', x, cl, X', a1, a2, b4, b5, b6, b7, a3⟩
  · obtain ⟨t, t1, t2⟩ := hret v w' hP ls T'.heap locs' h1 a1 a2 T' rfl X'
    exact ⟨t, hstep₁ _ (fun acts => by rw [doInvoke_state]; exact a3.trans t1), t2⟩
  · obtain ⟨t, t1, t2⟩ := hthr cn w' hP ls T' locs' x cl st h1 X' a1 a2 b4 b5 b6 b7
    exact ⟨t, hstep₁ _ (fun acts => by rw [doInvoke_state]; exact a3.trans t1), t2⟩
theorem r_callvN {host : String} {q ci : Nat} {C : String} {Tc : u_T} {N : Nat} {fs : List Value} (hc : Ok X g cc own ret hx d) (hd : decode cc pc = .ok (.invokevirtual idx, 3)) (hcon : Con X.2.1 g y cc' nL' ret' [] d' k n (.ref (g.1 q) :: av) w P)
    (hl : Cond.methodLinkNest own idx y host ∈ Ttab) (hin : Cond.instanceMethod y ∈ Ttab) (hsel : Cond.selects C y y ∈ Ttab) (hcode : Cond.code y cc' nL' ret' ∈ Ttab) (hy : y.cls ≠ "java/lang/invoke/MethodHandle" ∧ y.cls ≠ "java/lang/invoke/VarHandle") (hpl : plainFor y = true) (hnum : (parseMethodDescriptor y.desc).map (fun d => d.parameters.length) = some av.length)
    (hq : q < NC) (hob : ent g (w q) q = .inr (ci, fs)) (hci : classes[ci]? = some (C, Tc, N)) (hdd : d' + 1 ≤ d) (hnl : nL' ≤ 11) (hav : ∀ v ∈ av, v.category = 1) (hal : av.length + 1 ≤ nL') (hst : (st.map fun v => v.category).sum ≤ 8) (hcells : kc + k ≤ X.2.2.2.1.cells) (hslots : ks + n ≤ X.2.2.2.1.slots)
    (hret : ∀ (v : Option Value) (w' : Wd), P (.inl v) w' → Go X g (kc + k) (ks + n) Q w' (pc + 3) lp (v.toList ++ st)) (hthr : ∀ (cn : String) (w' : Wd), P (.inr cn) w' → GoX X g (kc + k) (ks + n) Q w' pc lp cn) : Go X g kc ks Q w pc lp (av.reverse ++ .ref (g.1 q) :: st) := by
  obtain ⟨p, l, e, R, s, m, args, below, meth, c⟩ := X
  intro ls H locs h1 h2 h3 T hT Y
  have hts := hc.2.2.2.1
  obtain ⟨mk, methM, hnamed, hmethM, hstM, habM⟩ := Cond.instanceMethod_spec (hts _ hin)
  obtain ⟨methM', cM, hmethM', hck, hb, hml, hre, hlk, hex, hsigM⟩ := Cond.code_spec hnamed (hts _ hcode)
  cases hmethM.symm.trans hmethM'
  obtain ⟨c2, r2, m2, q1, q2, q3, q4, kP, hkP, hkPi⟩ := Cond.selects_spec (hts _ hsel)
  obtain ⟨r0, e1, cellB, b1, b2, b3, b4⟩ := h2 q _ (by rw [cells_get g w hq, hob])
  have hr0 : r0 = (C, Tc, N) := Option.some.inj (e1.symm.trans hci)
  subst hr0
  have hcls : s.vm.findClass C = some cellB.cls := by rw [b2]; exact (hc.2.2.2.2.1.1 ci _ hci).2.1
  cases hcls.symm.trans q1
  cases (State.methodFound?_of_named hnamed hy).symm.trans q2
  cases hnamed.symm.trans q3
  have hselP : selectMethod e.platform s.vm cellB.cls mk = .method mk := by rw [Launch.admits_selectMethod Y.admits]; exact q4
  obtain ⟨vm₁, X₁, hstep₁⟩ := Y.invokevirtualNest hc.1 hc.2.2.1 (hts _ hl) hnamed hmethM hstM hkP hkPi hy (a := g.1 q) (cell := cellB) (by rw [hT]; exact b1)
    (fun z h => by rw [b3] at h; cases h) hselP hmethM habM hkP hkPi (g := F0 m pc ls (av.reverse ++ .ref (g.1 q) :: st)) rfl (argsL := av) (rest := st) (by have h9 := hnum; rw [hsigM] at h9; exact (Option.some.inj h9).symm) rfl (by rw [hc.2.1]; exact hd)
  have hK := call_core (f := F0 m pc ls st) X₁ hc hcon rfl h1.1 (by rw [hc.2.1]; exact hd) hnamed hmethM hck hb hml hre hlk (ex_nil hex) hpl (fun v hv => by rcases List.mem_cons.mp hv with rfl | hv; exact rfl; exact hav v hv) (by simpa using hal) (by show 2 * 0 + (st.map fun v => v.category).sum ≤ 8; omega) (Nat.le_trans hdd hc.2.2.2.2.2.2.2.2.2.1) (by have := hc.2.2.2.2.2.2.2.2.2.2.1; omega) hcells hslots (by show va_P _ _ _ T.heap; rw [hT]; exact h2) (by show va_S _ _ T.heap _; rw [hT]; exact h3)
  obtain ⟨r, w', hP, hres⟩ := hK
  rcases hres with ⟨v, rfl, T', locs', X', a1, a2, a3⟩ | ⟨cn, rfl, T', locs', x, cl, X', a1, a2, b4, b5, b6, b7, a3⟩
  · obtain ⟨t, t1, t2⟩ := hret v w' hP ls T'.heap locs' h1 a1 a2 T' rfl X'
    exact ⟨t, hstep₁ _ (fun acts => by rw [doInvoke_state]; exact a3.trans t1), t2⟩
  · obtain ⟨t, t1, t2⟩ := hthr cn w' hP ls T' locs' x cl st h1 X' a1 a2 b4 b5 b6 b7
    exact ⟨t, hstep₁ _ (fun acts => by rw [doInvoke_state]; exact a3.trans t1), t2⟩
theorem r_calls (hc : Ok X g cc own ret hx d) (hd : decode cc pc = .ok (.invokestatic idx, 3)) (hcon : Con X.2.1 g y cc' nL' ret' [] d' k n av w P)
    (hl : Cond.methodLink own idx y ∈ Ttab) (hsta : Cond.static y ∈ Ttab) (hini : Cond.initialized y.cls ∈ Ttab) (hcode : Cond.code y cc' nL' ret' ∈ Ttab) (hy : y.cls ≠ "java/lang/invoke/MethodHandle" ∧ y.cls ≠ "java/lang/invoke/VarHandle") (hpl : plainFor y = true) (hnum : (parseMethodDescriptor y.desc).map (fun d => d.parameters.length) = some av.length)
    (hdd : d' + 1 ≤ d) (hnl : nL' ≤ 11) (hav : ∀ v ∈ av, v.category = 1) (hal : av.length ≤ nL') (hst : (st.map fun v => v.category).sum ≤ 8) (hcells : kc + k ≤ X.2.2.2.1.cells) (hslots : ks + n ≤ X.2.2.2.1.slots)
    (hret : ∀ (v : Option Value) (w' : Wd), P (.inl v) w' → Go X g (kc + k) (ks + n) Q w' (pc + 3) lp (v.toList ++ st)) (hthr : ∀ (cn : String) (w' : Wd), P (.inr cn) w' → GoX X g (kc + k) (ks + n) Q w' pc lp cn) : Go X g kc ks Q w pc lp (av.reverse ++ st) := by
  obtain ⟨p, l, e, R, s, m, args, below, meth, c⟩ := X
  intro ls H locs h1 h2 h3 T hT Y
  have hts := hc.2.2.2.1
  obtain ⟨mk, hnamed⟩ := Cond.code_named (hts _ hcode)
  obtain ⟨methM, cM, hmethM, hck, hb, hml, hre, hlk, hex, hsigM⟩ := Cond.code_spec hnamed (hts _ hcode)
  have hstatic : methM.isStatic = true := Cond.static_spec hnamed hmethM (hts _ hsta)
  obtain ⟨kP, hkP, -⟩ := className_of_methodNamed hnamed
  have hinitP : kP.init = .initialized := Cond.initialized_spec (findClass_of_methodNamed hnamed) hkP (hts _ hini)
  obtain ⟨vm₁, X₁, hstep₁⟩ := Y.invokestatic hc.1 hc.2.2.1 (hts _ hl) hnamed hmethM hstatic hkP hinitP hy (g := F0 m pc ls (av.reverse ++ st)) rfl (argsL := av) (rest := st) (by have h9 := hnum; rw [hsigM] at h9; exact (Option.some.inj h9).symm) rfl (by rw [hc.2.1]; exact hd)
  have hK := call_core (f := F0 m pc ls st) X₁ hc hcon rfl h1.1 (by rw [hc.2.1]; exact hd) hnamed hmethM hck hb hml hre hlk (ex_nil hex) hpl hav hal (by show 2 * 0 + (st.map fun v => v.category).sum ≤ 8; omega) (Nat.le_trans hdd hc.2.2.2.2.2.2.2.2.2.1) (by have := hc.2.2.2.2.2.2.2.2.2.2.1; omega) hcells hslots (by show va_P _ _ _ T.heap; rw [hT]; exact h2) (by show va_S _ _ T.heap _; rw [hT]; exact h3)
  obtain ⟨r, w', hP, hres⟩ := hK
  rcases hres with ⟨v, rfl, T', locs', X', a1, a2, a3⟩ | ⟨cn, rfl, T', locs', x, cl, X', a1, a2, b4, b5, b6, b7, a3⟩
  · obtain ⟨t, t1, t2⟩ := hret v w' hP ls T'.heap locs' h1 a1 a2 T' rfl X'
    exact ⟨t, hstep₁ _ (fun acts => by rw [doInvoke_state]; exact a3.trans t1), t2⟩
  · obtain ⟨t, t1, t2⟩ := hthr cn w' hP ls T' locs' x cl st h1 X' a1 a2 b4 b5 b6 b7
    exact ⟨t, hstep₁ _ (fun acts => by rw [doInvoke_state]; exact a3.trans t1), t2⟩
theorem r_callsN {host : String} (hc : Ok X g cc own ret hx d) (hd : decode cc pc = .ok (.invokestatic idx, 3)) (hcon : Con X.2.1 g y cc' nL' ret' [] d' k n av w P)
    (hl : Cond.methodLinkNest own idx y host ∈ Ttab) (hsta : Cond.static y ∈ Ttab) (hini : Cond.initialized y.cls ∈ Ttab) (hcode : Cond.code y cc' nL' ret' ∈ Ttab) (hy : y.cls ≠ "java/lang/invoke/MethodHandle" ∧ y.cls ≠ "java/lang/invoke/VarHandle") (hpl : plainFor y = true) (hnum : (parseMethodDescriptor y.desc).map (fun d => d.parameters.length) = some av.length)
    (hdd : d' + 1 ≤ d) (hnl : nL' ≤ 11) (hav : ∀ v ∈ av, v.category = 1) (hal : av.length ≤ nL') (hst : (st.map fun v => v.category).sum ≤ 8) (hcells : kc + k ≤ X.2.2.2.1.cells) (hslots : ks + n ≤ X.2.2.2.1.slots)
    (hret : ∀ (v : Option Value) (w' : Wd), P (.inl v) w' → Go X g (kc + k) (ks + n) Q w' (pc + 3) lp (v.toList ++ st)) (hthr : ∀ (cn : String) (w' : Wd), P (.inr cn) w' → GoX X g (kc + k) (ks + n) Q w' pc lp cn) : Go X g kc ks Q w pc lp (av.reverse ++ st) := by
  obtain ⟨p, l, e, R, s, m, args, below, meth, c⟩ := X
  intro ls H locs h1 h2 h3 T hT Y
  have hts := hc.2.2.2.1
  obtain ⟨mk, hnamed⟩ := Cond.code_named (hts _ hcode)
  obtain ⟨methM, cM, hmethM, hck, hb, hml, hre, hlk, hex, hsigM⟩ := Cond.code_spec hnamed (hts _ hcode)
  have hstatic : methM.isStatic = true := Cond.static_spec hnamed hmethM (hts _ hsta)
  obtain ⟨kP, hkP, -⟩ := className_of_methodNamed hnamed
  have hinitP : kP.init = .initialized := Cond.initialized_spec (findClass_of_methodNamed hnamed) hkP (hts _ hini)
  obtain ⟨vm₁, X₁, hstep₁⟩ := Y.invokestaticNest hc.1 hc.2.2.1 (hts _ hl) hnamed hmethM hstatic hkP hinitP hy (g := F0 m pc ls (av.reverse ++ st)) rfl (argsL := av) (rest := st) (by have h9 := hnum; rw [hsigM] at h9; exact (Option.some.inj h9).symm) rfl (by rw [hc.2.1]; exact hd)
  have hK := call_core (f := F0 m pc ls st) X₁ hc hcon rfl h1.1 (by rw [hc.2.1]; exact hd) hnamed hmethM hck hb hml hre hlk (ex_nil hex) hpl hav hal (by show 2 * 0 + (st.map fun v => v.category).sum ≤ 8; omega) (Nat.le_trans hdd hc.2.2.2.2.2.2.2.2.2.1) (by have := hc.2.2.2.2.2.2.2.2.2.2.1; omega) hcells hslots (by show va_P _ _ _ T.heap; rw [hT]; exact h2) (by show va_S _ _ T.heap _; rw [hT]; exact h3)
  obtain ⟨r, w', hP, hres⟩ := hK
  rcases hres with ⟨v, rfl, T', locs', X', a1, a2, a3⟩ | ⟨cn, rfl, T', locs', x, cl, X', a1, a2, b4, b5, b6, b7, a3⟩
  · obtain ⟨t, t1, t2⟩ := hret v w' hP ls T'.heap locs' h1 a1 a2 T' rfl X'
    exact ⟨t, hstep₁ _ (fun acts => by rw [doInvoke_state]; exact a3.trans t1), t2⟩
  · obtain ⟨t, t1, t2⟩ := hthr cn w' hP ls T' locs' x cl st h1 X' a1 a2 b4 b5 b6 b7
    exact ⟨t, hstep₁ _ (fun acts => by rw [doInvoke_state]; exact a3.trans t1), t2⟩
end GCL
end
section
/-- it returns, and P holds -/
def Rp (P : Option Value → Wd → Prop) : Rt → Wd → Prop := fun x z => match x with
  | .inl v => P v z
  | .inr _ => False
theorem Rp_l {P : Option Value → Wd → Prop} {v : Option Value} {z : Wd} (h : Rp P (.inl v) z) : P v z := h
theorem Rp_r {P : Option Value → Wd → Prop} {v : String} {z : Wd} : ¬ Rp P (.inr v) z := fun h => h
/-- it throws one of the class cn, and P holds -/
def Tp (cn : String) (P : Wd → Prop) : Rt → Wd → Prop := fun x z => match x with
  | .inl _ => False
  | .inr c => c = cn ∧ P z
theorem Tp_l {cn : String} {P : Wd → Prop} {v : Option Value} {z : Wd} : ¬ Tp cn P (.inl v) z := fun h => h
section LNK
variable {X : Cxt} {g : GG} {cc : ByteArray} {ret : Option FieldType} {hx : List (Nat × Nat × Nat × Nat)} {d kc ks : Nat} {Q : State → Prop} {w : Wd} {pc : Nat} {lp : List (Option Value)} {st : List Value}
/-- PairedField$Standing: getfield score -/
theorem gS_9 (hc : Ok X g cc "PairedField$Standing" ret hx d) (hd : decode cc pc = .ok (.getfield 9, 3)) (k : Go X g kc ks Q w (pc + 3) lp (.ref (g.1 21) :: st)) : Go X g kc ks Q w pc lp (.ref (g.1 20) :: st) :=
  r_getf hc 20 1 0 (C := R_S) (T := T_S) (N := 10) hd (by decide) (ent_S g (w 20)) rfl (by decide) in_S rfl (t1_mem 32 rfl rfl) rfl k
/-- PairedField: getfield score -/
theorem gF_153 (hc : Ok X g cc "PairedField" ret hx d) (hd : decode cc pc = .ok (.getfield 153, 3)) (k : Go X g kc ks Q w (pc + 3) lp (.ref (g.1 21) :: st)) : Go X g kc ks Q w pc lp (.ref (g.1 20) :: st) :=
  r_getf hc 20 1 0 (C := R_S) (T := T_S) (N := 10) hd (by decide) (ent_S g (w 20)) rfl (by decide) in_S rfl (t1_mem 33 rfl rfl) rfl k
/-- PairedField$Standing: getfield balance -/
theorem gS_15 (hc : Ok X g cc "PairedField$Standing" ret hx d) (hd : decode cc pc = .ok (.getfield 15, 3)) (k : Go X g kc ks Q w (pc + 3) lp (.ref (g.1 22) :: st)) : Go X g kc ks Q w pc lp (.ref (g.1 20) :: st) :=
  r_getf hc 20 1 1 (C := R_S) (T := T_S) (N := 10) hd (by decide) (ent_S g (w 20)) rfl (by decide) in_S rfl (t1_mem 34 rfl rfl) rfl k
/-- PairedField: getfield balance -/
theorem gF_156 (hc : Ok X g cc "PairedField" ret hx d) (hd : decode cc pc = .ok (.getfield 156, 3)) (k : Go X g kc ks Q w (pc + 3) lp (.ref (g.1 22) :: st)) : Go X g kc ks Q w pc lp (.ref (g.1 20) :: st) :=
  r_getf hc 20 1 1 (C := R_S) (T := T_S) (N := 10) hd (by decide) (ent_S g (w 20)) rfl (by decide) in_S rfl (t1_mem 35 rfl rfl) rfl k
/-- PairedField$Standing: getfield buchholz -/
theorem gS_18 (hc : Ok X g cc "PairedField$Standing" ret hx d) (hd : decode cc pc = .ok (.getfield 18, 3)) (k : Go X g kc ks Q w (pc + 3) lp (.ref (g.1 23) :: st)) : Go X g kc ks Q w pc lp (.ref (g.1 20) :: st) :=
  r_getf hc 20 1 2 (C := R_S) (T := T_S) (N := 10) hd (by decide) (ent_S g (w 20)) rfl (by decide) in_S rfl (t1_mem 36 rfl rfl) rfl k
/-- PairedField: getfield buchholz -/
theorem gF_159 (hc : Ok X g cc "PairedField" ret hx d) (hd : decode cc pc = .ok (.getfield 159, 3)) (k : Go X g kc ks Q w (pc + 3) lp (.ref (g.1 23) :: st)) : Go X g kc ks Q w pc lp (.ref (g.1 20) :: st) :=
  r_getf hc 20 1 2 (C := R_S) (T := T_S) (N := 10) hd (by decide) (ent_S g (w 20)) rfl (by decide) in_S rfl (t1_mem 37 rfl rfl) rfl k
/-- PairedField$Standing: getfield berger -/
theorem gS_21 (hc : Ok X g cc "PairedField$Standing" ret hx d) (hd : decode cc pc = .ok (.getfield 21, 3)) (k : Go X g kc ks Q w (pc + 3) lp (.ref (g.1 24) :: st)) : Go X g kc ks Q w pc lp (.ref (g.1 20) :: st) :=
  r_getf hc 20 1 3 (C := R_S) (T := T_S) (N := 10) hd (by decide) (ent_S g (w 20)) rfl (by decide) in_S rfl (t1_mem 38 rfl rfl) rfl k
/-- PairedField: getfield berger -/
theorem gF_162 (hc : Ok X g cc "PairedField" ret hx d) (hd : decode cc pc = .ok (.getfield 162, 3)) (k : Go X g kc ks Q w (pc + 3) lp (.ref (g.1 24) :: st)) : Go X g kc ks Q w pc lp (.ref (g.1 20) :: st) :=
  r_getf hc 20 1 3 (C := R_S) (T := T_S) (N := 10) hd (by decide) (ent_S g (w 20)) rfl (by decide) in_S rfl (t1_mem 39 rfl rfl) rfl k
/-- PairedField$Standing: getfield wins -/
theorem gS_24 (hc : Ok X g cc "PairedField$Standing" ret hx d) (hd : decode cc pc = .ok (.getfield 24, 3)) (k : Go X g kc ks Q w (pc + 3) lp (.ref (g.1 25) :: st)) : Go X g kc ks Q w pc lp (.ref (g.1 20) :: st) :=
  r_getf hc 20 1 4 (C := R_S) (T := T_S) (N := 10) hd (by decide) (ent_S g (w 20)) rfl (by decide) in_S rfl (t1_mem 40 rfl rfl) rfl k
/-- PairedField: getfield wins -/
theorem gF_165 (hc : Ok X g cc "PairedField" ret hx d) (hd : decode cc pc = .ok (.getfield 165, 3)) (k : Go X g kc ks Q w (pc + 3) lp (.ref (g.1 25) :: st)) : Go X g kc ks Q w pc lp (.ref (g.1 20) :: st) :=
  r_getf hc 20 1 4 (C := R_S) (T := T_S) (N := 10) hd (by decide) (ent_S g (w 20)) rfl (by decide) in_S rfl (t1_mem 41 rfl rfl) rfl k
/-- PairedField$Standing: getfield byes -/
theorem gS_27 (hc : Ok X g cc "PairedField$Standing" ret hx d) (hd : decode cc pc = .ok (.getfield 27, 3)) (k : Go X g kc ks Q w (pc + 3) lp (.ref (g.1 26) :: st)) : Go X g kc ks Q w pc lp (.ref (g.1 20) :: st) :=
  r_getf hc 20 1 5 (C := R_S) (T := T_S) (N := 10) hd (by decide) (ent_S g (w 20)) rfl (by decide) in_S rfl (t1_mem 42 rfl rfl) rfl k
/-- PairedField: getfield byes -/
theorem gF_168 (hc : Ok X g cc "PairedField" ret hx d) (hd : decode cc pc = .ok (.getfield 168, 3)) (k : Go X g kc ks Q w (pc + 3) lp (.ref (g.1 26) :: st)) : Go X g kc ks Q w pc lp (.ref (g.1 20) :: st) :=
  r_getf hc 20 1 5 (C := R_S) (T := T_S) (N := 10) hd (by decide) (ent_S g (w 20)) rfl (by decide) in_S rfl (t1_mem 43 rfl rfl) rfl k
/-- PairedField$Standing: getfield games -/
theorem gS_30 (hc : Ok X g cc "PairedField$Standing" ret hx d) (hd : decode cc pc = .ok (.getfield 30, 3)) (k : Go X g kc ks Q w (pc + 3) lp (.ref (g.1 27) :: st)) : Go X g kc ks Q w pc lp (.ref (g.1 20) :: st) :=
  r_getf hc 20 1 6 (C := R_S) (T := T_S) (N := 10) hd (by decide) (ent_S g (w 20)) rfl (by decide) in_S rfl (t1_mem 44 rfl rfl) rfl k
/-- PairedField: getfield games -/
theorem gF_171 (hc : Ok X g cc "PairedField" ret hx d) (hd : decode cc pc = .ok (.getfield 171, 3)) (k : Go X g kc ks Q w (pc + 3) lp (.ref (g.1 27) :: st)) : Go X g kc ks Q w pc lp (.ref (g.1 20) :: st) :=
  r_getf hc 20 1 6 (C := R_S) (T := T_S) (N := 10) hd (by decide) (ent_S g (w 20)) rfl (by decide) in_S rfl (t1_mem 45 rfl rfl) rfl k
/-- PairedField$Standing: getfield latest -/
theorem gS_33 (hc : Ok X g cc "PairedField$Standing" ret hx d) (hd : decode cc pc = .ok (.getfield 33, 3)) (k : Go X g kc ks Q w (pc + 3) lp (.ref (g.1 28) :: st)) : Go X g kc ks Q w pc lp (.ref (g.1 20) :: st) :=
  r_getf hc 20 1 7 (C := R_S) (T := T_S) (N := 10) hd (by decide) (ent_S g (w 20)) rfl (by decide) in_S rfl (t1_mem 46 rfl rfl) rfl k
/-- PairedField$Standing: getfield lastButOne -/
theorem gS_36 (hc : Ok X g cc "PairedField$Standing" ret hx d) (hd : decode cc pc = .ok (.getfield 36, 3)) (k : Go X g kc ks Q w (pc + 3) lp (.ref (g.1 29) :: st)) : Go X g kc ks Q w pc lp (.ref (g.1 20) :: st) :=
  r_getf hc 20 1 8 (C := R_S) (T := T_S) (N := 10) hd (by decide) (ent_S g (w 20)) rfl (by decide) in_S rfl (t1_mem 47 rfl rfl) rfl k
/-- PairedField$Standing: getfield met -/
theorem gS_39 (hc : Ok X g cc "PairedField$Standing" ret hx d) (hd : decode cc pc = .ok (.getfield 39, 3)) (k : Go X g kc ks Q w (pc + 3) lp (.ref (g.1 30) :: st)) : Go X g kc ks Q w pc lp (.ref (g.1 20) :: st) :=
  r_getf hc 20 1 9 (C := R_S) (T := T_S) (N := 10) hd (by decide) (ent_S g (w 20)) rfl (by decide) in_S rfl (t1_mem 48 rfl rfl) rfl k
/-- PairedField$Pairing: getfield met -/
theorem gP_101 (hc : Ok X g cc "PairedField$Pairing" ret hx d) (hd : decode cc pc = .ok (.getfield 101, 3)) (k : Go X g kc ks Q w (pc + 3) lp (.ref (g.1 30) :: st)) : Go X g kc ks Q w pc lp (.ref (g.1 20) :: st) :=
  r_getf hc 20 1 9 (C := R_S) (T := T_S) (N := 10) hd (by decide) (ent_S g (w 20)) rfl (by decide) in_S rfl (t1_mem 49 rfl rfl) rfl k
/-- PairedField$Pairing: getfield seated -/
theorem gP_9 (hc : Ok X g cc "PairedField$Pairing" ret hx d) (hd : decode cc pc = .ok (.getfield 9, 3)) (k : Go X g kc ks Q w (pc + 3) lp (.ref (g.1 32) :: st)) : Go X g kc ks Q w pc lp (.ref (g.1 31) :: st) :=
  r_getf hc 31 2 0 (C := R_P) (T := T_P) (N := 6) hd (by decide) (ent_P g (w 31)) rfl (by decide) in_P rfl (t1_mem 80 rfl rfl) rfl k
/-- PairedField$Pairing: getfield seats -/
theorem gP_44 (hc : Ok X g cc "PairedField$Pairing" ret hx d) (hd : decode cc pc = .ok (.getfield 44, 3)) (k : Go X g kc ks Q w (pc + 3) lp (.int (w 31 1) :: st)) : Go X g kc ks Q w pc lp (.ref (g.1 31) :: st) :=
  r_getf hc 31 2 1 (C := R_P) (T := T_P) (N := 6) hd (by decide) (ent_P g (w 31)) rfl (by decide) in_P rfl (t1_mem 81 rfl rfl) rfl k
theorem pP_44 {x : Int32} (hc : Ok X g cc "PairedField$Pairing" ret hx d) (hd : decode cc pc = .ok (.putfield 44, 3)) (k : Go X g kc ks Q (wu w 31 1 x) (pc + 3) lp st) : Go X g kc ks Q w pc lp (.int x :: .ref (g.1 31) :: st) :=
  r_putf hc 31 2 1 (C := R_P) (T := T_P) (N := 6) (ty0 := ty_P) (ty := .int) hd (by decide) (ent_P g (w 31)) rfl (by decide) in_P rfl tk_P nm_P rfl (by decide +kernel) rfl rfl (Nat.le_of_ble_eq_true rfl) (t1_mem 81 rfl rfl) rfl k
/-- PairedField$Pairing: getfield byePlayer -/
theorem gP_15 (hc : Ok X g cc "PairedField$Pairing" ret hx d) (hd : decode cc pc = .ok (.getfield 15, 3)) (k : Go X g kc ks Q w (pc + 3) lp (.int (w 31 2) :: st)) : Go X g kc ks Q w pc lp (.ref (g.1 31) :: st) :=
  r_getf hc 31 2 2 (C := R_P) (T := T_P) (N := 6) hd (by decide) (ent_P g (w 31)) rfl (by decide) in_P rfl (t1_mem 82 rfl rfl) rfl k
theorem pP_15 {x : Int32} (hc : Ok X g cc "PairedField$Pairing" ret hx d) (hd : decode cc pc = .ok (.putfield 15, 3)) (k : Go X g kc ks Q (wu w 31 2 x) (pc + 3) lp st) : Go X g kc ks Q w pc lp (.int x :: .ref (g.1 31) :: st) :=
  r_putf hc 31 2 2 (C := R_P) (T := T_P) (N := 6) (ty0 := ty_P) (ty := .int) hd (by decide) (ent_P g (w 31)) rfl (by decide) in_P rfl tk_P nm_P rfl (by decide +kernel) rfl rfl (Nat.le_of_ble_eq_true rfl) (t1_mem 82 rfl rfl) rfl k
/-- PairedField$Pairing: getfield price -/
theorem gP_21 (hc : Ok X g cc "PairedField$Pairing" ret hx d) (hd : decode cc pc = .ok (.getfield 21, 3)) (k : Go X g kc ks Q w (pc + 3) lp (.ref (g.1 33) :: st)) : Go X g kc ks Q w pc lp (.ref (g.1 31) :: st) :=
  r_getf hc 31 2 3 (C := R_P) (T := T_P) (N := 6) hd (by decide) (ent_P g (w 31)) rfl (by decide) in_P rfl (t1_mem 83 rfl rfl) rfl k
/-- PairedField$Pairing: getfield least -/
theorem gP_24 (hc : Ok X g cc "PairedField$Pairing" ret hx d) (hd : decode cc pc = .ok (.getfield 24, 3)) (k : Go X g kc ks Q w (pc + 3) lp (.ref (g.1 46) :: st)) : Go X g kc ks Q w pc lp (.ref (g.1 31) :: st) :=
  r_getf hc 31 2 4 (C := R_P) (T := T_P) (N := 6) hd (by decide) (ent_P g (w 31)) rfl (by decide) in_P rfl (t1_mem 84 rfl rfl) rfl k
/-- PairedField$Pairing: getfield counted -/
theorem gP_27 (hc : Ok X g cc "PairedField$Pairing" ret hx d) (hd : decode cc pc = .ok (.getfield 27, 3)) (k : Go X g kc ks Q w (pc + 3) lp (.ref (g.1 47) :: st)) : Go X g kc ks Q w pc lp (.ref (g.1 31) :: st) :=
  r_getf hc 31 2 5 (C := R_P) (T := T_P) (N := 6) hd (by decide) (ent_P g (w 31)) rfl (by decide) in_P rfl (t1_mem 85 rfl rfl) rfl k
/-- PairedField: getfield cells -/
theorem gF_11 (hc : Ok X g cc "PairedField" ret hx d) (hd : decode cc pc = .ok (.getfield 11, 3)) (k : Go X g kc ks Q w (pc + 3) lp (.ref (g.1 1) :: st)) : Go X g kc ks Q w pc lp (.ref (g.1 0) :: st) :=
  r_getf hc 0 0 0 (C := R_F) (T := T_F) (N := 8) hd (by decide) (ent_F g (w 0)) rfl (by decide) in_F rfl (t1_mem 105 rfl rfl) rfl k
/-- PairedField: getfield present -/
theorem gF_14 (hc : Ok X g cc "PairedField" ret hx d) (hd : decode cc pc = .ok (.getfield 14, 3)) (k : Go X g kc ks Q w (pc + 3) lp (.ref (g.1 18) :: st)) : Go X g kc ks Q w pc lp (.ref (g.1 0) :: st) :=
  r_getf hc 0 0 1 (C := R_F) (T := T_F) (N := 8) hd (by decide) (ent_F g (w 0)) rfl (by decide) in_F rfl (t1_mem 106 rfl rfl) rfl k
/-- PairedField: getfield apartFrom -/
theorem gF_18 (hc : Ok X g cc "PairedField" ret hx d) (hd : decode cc pc = .ok (.getfield 18, 3)) (k : Go X g kc ks Q w (pc + 3) lp (.ref (g.1 19) :: st)) : Go X g kc ks Q w pc lp (.ref (g.1 0) :: st) :=
  r_getf hc 0 0 2 (C := R_F) (T := T_F) (N := 8) hd (by decide) (ent_F g (w 0)) rfl (by decide) in_F rfl (t1_mem 107 rfl rfl) rfl k
/-- PairedField: getfield standing -/
theorem gF_25 (hc : Ok X g cc "PairedField" ret hx d) (hd : decode cc pc = .ok (.getfield 25, 3)) (k : Go X g kc ks Q w (pc + 3) lp (.ref (g.1 20) :: st)) : Go X g kc ks Q w pc lp (.ref (g.1 0) :: st) :=
  r_getf hc 0 0 3 (C := R_F) (T := T_F) (N := 8) hd (by decide) (ent_F g (w 0)) rfl (by decide) in_F rfl (t1_mem 108 rfl rfl) rfl k
/-- PairedField: getfield pairing -/
theorem gF_32 (hc : Ok X g cc "PairedField" ret hx d) (hd : decode cc pc = .ok (.getfield 32, 3)) (k : Go X g kc ks Q w (pc + 3) lp (.ref (g.1 31) :: st)) : Go X g kc ks Q w pc lp (.ref (g.1 0) :: st) :=
  r_getf hc 0 0 4 (C := R_F) (T := T_F) (N := 8) hd (by decide) (ent_F g (w 0)) rfl (by decide) in_F rfl (t1_mem 109 rfl rfl) rfl k
/-- PairedField: getfield playerCount -/
theorem gF_45 (hc : Ok X g cc "PairedField" ret hx d) (hd : decode cc pc = .ok (.getfield 45, 3)) (k : Go X g kc ks Q w (pc + 3) lp (.int (w 0 5) :: st)) : Go X g kc ks Q w pc lp (.ref (g.1 0) :: st) :=
  r_getf hc 0 0 5 (C := R_F) (T := T_F) (N := 8) hd (by decide) (ent_F g (w 0)) rfl (by decide) in_F rfl (t1_mem 110 rfl rfl) rfl k
theorem pF_45 {x : Int32} (hc : Ok X g cc "PairedField" ret hx d) (hd : decode cc pc = .ok (.putfield 45, 3)) (k : Go X g kc ks Q (wu w 0 5 x) (pc + 3) lp st) : Go X g kc ks Q w pc lp (.int x :: .ref (g.1 0) :: st) :=
  r_putf hc 0 0 5 (C := R_F) (T := T_F) (N := 8) (ty0 := ty_F) (ty := .int) hd (by decide) (ent_F g (w 0)) rfl (by decide) in_F rfl tk_F nm_F rfl (by decide +kernel) rfl rfl (Nat.le_of_ble_eq_true rfl) (t1_mem 110 rfl rfl) rfl k
/-- PairedField: getfield closedRounds -/
theorem gF_73 (hc : Ok X g cc "PairedField" ret hx d) (hd : decode cc pc = .ok (.getfield 73, 3)) (k : Go X g kc ks Q w (pc + 3) lp (.int (w 0 6) :: st)) : Go X g kc ks Q w pc lp (.ref (g.1 0) :: st) :=
  r_getf hc 0 0 6 (C := R_F) (T := T_F) (N := 8) hd (by decide) (ent_F g (w 0)) rfl (by decide) in_F rfl (t1_mem 111 rfl rfl) rfl k
theorem pF_73 {x : Int32} (hc : Ok X g cc "PairedField" ret hx d) (hd : decode cc pc = .ok (.putfield 73, 3)) (k : Go X g kc ks Q (wu w 0 6 x) (pc + 3) lp st) : Go X g kc ks Q w pc lp (.int x :: .ref (g.1 0) :: st) :=
  r_putf hc 0 0 6 (C := R_F) (T := T_F) (N := 8) (ty0 := ty_F) (ty := .int) hd (by decide) (ent_F g (w 0)) rfl (by decide) in_F rfl tk_F nm_F rfl (by decide +kernel) rfl rfl (Nat.le_of_ble_eq_true rfl) (t1_mem 111 rfl rfl) rfl k
/-- PairedField: getfield open -/
theorem gF_135 (hc : Ok X g cc "PairedField" ret hx d) (hd : decode cc pc = .ok (.getfield 135, 3)) (k : Go X g kc ks Q w (pc + 3) lp (.int (w 0 7) :: st)) : Go X g kc ks Q w pc lp (.ref (g.1 0) :: st) :=
  r_getf hc 0 0 7 (C := R_F) (T := T_F) (N := 8) hd (by decide) (ent_F g (w 0)) rfl (by decide) in_F rfl (t1_mem 112 rfl rfl) rfl k
theorem pF_135 {x : Int32} (hc : Ok X g cc "PairedField" ret hx d) (hd : decode cc pc = .ok (.putfield 135, 3)) (hb : x = 0 ∨ x = 1) (k : Go X g kc ks Q (wu w 0 7 x) (pc + 3) lp st) : Go X g kc ks Q w pc lp (.int x :: .ref (g.1 0) :: st) :=
  r_putf hc 0 0 7 (C := R_F) (T := T_F) (N := 8) (ty0 := ty_F) (ty := .boolean) hd (by decide) (ent_F g (w 0)) rfl (by decide) in_F rfl tk_F nm_F rfl (by decide +kernel) (by rcases hb with rfl | rfl <;> rfl) (by rcases hb with rfl | rfl <;> rfl) (Nat.le_of_ble_eq_true rfl) (t1_mem 112 rfl rfl) rfl k
/-- PairedFieldModel: getfield thrown -/
theorem gM_48 (hc : Ok X g cc "PairedFieldModel" ret hx d) (hd : decode cc pc = .ok (.getfield 48, 3)) (k : Go X g kc ks Q w (pc + 3) lp (.int (w 48 0) :: st)) : Go X g kc ks Q w pc lp (.ref (g.1 48) :: st) :=
  r_getf hc 48 3 0 (C := R_M) (T := T_M) (N := 17) hd (by decide) (ent_M g (w 48)) rfl (by decide) in_M rfl (t3_mem 115 rfl rfl) rfl k
theorem pM_48 {x : Int32} (hc : Ok X g cc "PairedFieldModel" ret hx d) (hd : decode cc pc = .ok (.putfield 48, 3)) (k : Go X g kc ks Q (wu w 48 0 x) (pc + 3) lp st) : Go X g kc ks Q w pc lp (.int x :: .ref (g.1 48) :: st) :=
  r_putf hc 48 3 0 (C := R_M) (T := T_M) (N := 17) (ty0 := ty_M) (ty := .int) hd (by decide) (ent_M g (w 48)) rfl (by decide) in_M rfl tk_M nm_M rfl (by decide +kernel) rfl rfl (Nat.le_of_ble_eq_true rfl) (t3_mem 115 rfl rfl) rfl k
/-- PairedFieldModel: getfield players -/
theorem gM_44 (hc : Ok X g cc "PairedFieldModel" ret hx d) (hd : decode cc pc = .ok (.getfield 44, 3)) (k : Go X g kc ks Q w (pc + 3) lp (.int (w 48 1) :: st)) : Go X g kc ks Q w pc lp (.ref (g.1 48) :: st) :=
  r_getf hc 48 3 1 (C := R_M) (T := T_M) (N := 17) hd (by decide) (ent_M g (w 48)) rfl (by decide) in_M rfl (t3_mem 116 rfl rfl) rfl k
theorem pM_44 {x : Int32} (hc : Ok X g cc "PairedFieldModel" ret hx d) (hd : decode cc pc = .ok (.putfield 44, 3)) (k : Go X g kc ks Q (wu w 48 1 x) (pc + 3) lp st) : Go X g kc ks Q w pc lp (.int x :: .ref (g.1 48) :: st) :=
  r_putf hc 48 3 1 (C := R_M) (T := T_M) (N := 17) (ty0 := ty_M) (ty := .int) hd (by decide) (ent_M g (w 48)) rfl (by decide) in_M rfl tk_M nm_M rfl (by decide +kernel) rfl rfl (Nat.le_of_ble_eq_true rfl) (t3_mem 116 rfl rfl) rfl k
/-- PairedFieldModel: getfield in -/
theorem gM_7 (hc : Ok X g cc "PairedFieldModel" ret hx d) (hd : decode cc pc = .ok (.getfield 7, 3)) (k : Go X g kc ks Q w (pc + 3) lp (.ref (g.1 49) :: st)) : Go X g kc ks Q w pc lp (.ref (g.1 48) :: st) :=
  r_getf hc 48 3 2 (C := R_M) (T := T_M) (N := 17) hd (by decide) (ent_M g (w 48)) rfl (by decide) in_M rfl (t3_mem 117 rfl rfl) rfl k
/-- PairedFieldModel: getfield kept -/
theorem gM_13 (hc : Ok X g cc "PairedFieldModel" ret hx d) (hd : decode cc pc = .ok (.getfield 13, 3)) (k : Go X g kc ks Q w (pc + 3) lp (.ref (g.1 50) :: st)) : Go X g kc ks Q w pc lp (.ref (g.1 48) :: st) :=
  r_getf hc 48 3 3 (C := R_M) (T := T_M) (N := 17) hd (by decide) (ent_M g (w 48)) rfl (by decide) in_M rfl (t3_mem 118 rfl rfl) rfl k
/-- PairedFieldModel: getfield closed -/
theorem gM_63 (hc : Ok X g cc "PairedFieldModel" ret hx d) (hd : decode cc pc = .ok (.getfield 63, 3)) (k : Go X g kc ks Q w (pc + 3) lp (.int (w 48 4) :: st)) : Go X g kc ks Q w pc lp (.ref (g.1 48) :: st) :=
  r_getf hc 48 3 4 (C := R_M) (T := T_M) (N := 17) hd (by decide) (ent_M g (w 48)) rfl (by decide) in_M rfl (t3_mem 119 rfl rfl) rfl k
theorem pM_63 {x : Int32} (hc : Ok X g cc "PairedFieldModel" ret hx d) (hd : decode cc pc = .ok (.putfield 63, 3)) (k : Go X g kc ks Q (wu w 48 4 x) (pc + 3) lp st) : Go X g kc ks Q w pc lp (.int x :: .ref (g.1 48) :: st) :=
  r_putf hc 48 3 4 (C := R_M) (T := T_M) (N := 17) (ty0 := ty_M) (ty := .int) hd (by decide) (ent_M g (w 48)) rfl (by decide) in_M rfl tk_M nm_M rfl (by decide +kernel) rfl rfl (Nat.le_of_ble_eq_true rfl) (t3_mem 119 rfl rfl) rfl k
/-- PairedFieldModel: getfield open -/
theorem gM_51 (hc : Ok X g cc "PairedFieldModel" ret hx d) (hd : decode cc pc = .ok (.getfield 51, 3)) (k : Go X g kc ks Q w (pc + 3) lp (.int (w 48 5) :: st)) : Go X g kc ks Q w pc lp (.ref (g.1 48) :: st) :=
  r_getf hc 48 3 5 (C := R_M) (T := T_M) (N := 17) hd (by decide) (ent_M g (w 48)) rfl (by decide) in_M rfl (t3_mem 120 rfl rfl) rfl k
theorem pM_51 {x : Int32} (hc : Ok X g cc "PairedFieldModel" ret hx d) (hd : decode cc pc = .ok (.putfield 51, 3)) (hb : x = 0 ∨ x = 1) (k : Go X g kc ks Q (wu w 48 5 x) (pc + 3) lp st) : Go X g kc ks Q w pc lp (.int x :: .ref (g.1 48) :: st) :=
  r_putf hc 48 3 5 (C := R_M) (T := T_M) (N := 17) (ty0 := ty_M) (ty := .boolean) hd (by decide) (ent_M g (w 48)) rfl (by decide) in_M rfl tk_M nm_M rfl (by decide +kernel) (by rcases hb with rfl | rfl <;> rfl) (by rcases hb with rfl | rfl <;> rfl) (Nat.le_of_ble_eq_true rfl) (t3_mem 120 rfl rfl) rfl k
/-- PairedFieldModel: getfield opponents -/
theorem gM_16 (hc : Ok X g cc "PairedFieldModel" ret hx d) (hd : decode cc pc = .ok (.getfield 16, 3)) (k : Go X g kc ks Q w (pc + 3) lp (.ref (g.1 51) :: st)) : Go X g kc ks Q w pc lp (.ref (g.1 48) :: st) :=
  r_getf hc 48 3 6 (C := R_M) (T := T_M) (N := 17) hd (by decide) (ent_M g (w 48)) rfl (by decide) in_M rfl (t3_mem 121 rfl rfl) rfl k
/-- PairedFieldModel: getfield whites -/
theorem gM_20 (hc : Ok X g cc "PairedFieldModel" ret hx d) (hd : decode cc pc = .ok (.getfield 20, 3)) (k : Go X g kc ks Q w (pc + 3) lp (.ref (g.1 52) :: st)) : Go X g kc ks Q w pc lp (.ref (g.1 48) :: st) :=
  r_getf hc 48 3 7 (C := R_M) (T := T_M) (N := 17) hd (by decide) (ent_M g (w 48)) rfl (by decide) in_M rfl (t3_mem 122 rfl rfl) rfl k
/-- PairedFieldModel: getfield results -/
theorem gM_23 (hc : Ok X g cc "PairedFieldModel" ret hx d) (hd : decode cc pc = .ok (.getfield 23, 3)) (k : Go X g kc ks Q w (pc + 3) lp (.ref (g.1 53) :: st)) : Go X g kc ks Q w pc lp (.ref (g.1 48) :: st) :=
  r_getf hc 48 3 8 (C := R_M) (T := T_M) (N := 17) hd (by decide) (ent_M g (w 48)) rfl (by decide) in_M rfl (t3_mem 123 rfl rfl) rfl k
/-- PairedFieldModel: getfield many -/
theorem gM_100 (hc : Ok X g cc "PairedFieldModel" ret hx d) (hd : decode cc pc = .ok (.getfield 100, 3)) (k : Go X g kc ks Q w (pc + 3) lp (.int (w 48 9) :: st)) : Go X g kc ks Q w pc lp (.ref (g.1 48) :: st) :=
  r_getf hc 48 3 9 (C := R_M) (T := T_M) (N := 17) hd (by decide) (ent_M g (w 48)) rfl (by decide) in_M rfl (t3_mem 124 rfl rfl) rfl k
theorem pM_100 {x : Int32} (hc : Ok X g cc "PairedFieldModel" ret hx d) (hd : decode cc pc = .ok (.putfield 100, 3)) (k : Go X g kc ks Q (wu w 48 9 x) (pc + 3) lp st) : Go X g kc ks Q w pc lp (.int x :: .ref (g.1 48) :: st) :=
  r_putf hc 48 3 9 (C := R_M) (T := T_M) (N := 17) (ty0 := ty_M) (ty := .int) hd (by decide) (ent_M g (w 48)) rfl (by decide) in_M rfl tk_M nm_M rfl (by decide +kernel) rfl rfl (Nat.le_of_ble_eq_true rfl) (t3_mem 124 rfl rfl) rfl k
/-- PairedFieldModel: getfield order -/
theorem gM_26 (hc : Ok X g cc "PairedFieldModel" ret hx d) (hd : decode cc pc = .ok (.getfield 26, 3)) (k : Go X g kc ks Q w (pc + 3) lp (.ref (g.1 54) :: st)) : Go X g kc ks Q w pc lp (.ref (g.1 48) :: st) :=
  r_getf hc 48 3 10 (C := R_M) (T := T_M) (N := 17) hd (by decide) (ent_M g (w 48)) rfl (by decide) in_M rfl (t3_mem 125 rfl rfl) rfl k
/-- PairedFieldModel: getfield bye -/
theorem gM_97 (hc : Ok X g cc "PairedFieldModel" ret hx d) (hd : decode cc pc = .ok (.getfield 97, 3)) (k : Go X g kc ks Q w (pc + 3) lp (.int (w 48 11) :: st)) : Go X g kc ks Q w pc lp (.ref (g.1 48) :: st) :=
  r_getf hc 48 3 11 (C := R_M) (T := T_M) (N := 17) hd (by decide) (ent_M g (w 48)) rfl (by decide) in_M rfl (t3_mem 126 rfl rfl) rfl k
theorem pM_97 {x : Int32} (hc : Ok X g cc "PairedFieldModel" ret hx d) (hd : decode cc pc = .ok (.putfield 97, 3)) (k : Go X g kc ks Q (wu w 48 11 x) (pc + 3) lp st) : Go X g kc ks Q w pc lp (.int x :: .ref (g.1 48) :: st) :=
  r_putf hc 48 3 11 (C := R_M) (T := T_M) (N := 17) (ty0 := ty_M) (ty := .int) hd (by decide) (ent_M g (w 48)) rfl (by decide) in_M rfl tk_M nm_M rfl (by decide +kernel) rfl rfl (Nat.le_of_ble_eq_true rfl) (t3_mem 126 rfl rfl) rfl k
/-- PairedFieldModel: getfield costs -/
theorem gM_29 (hc : Ok X g cc "PairedFieldModel" ret hx d) (hd : decode cc pc = .ok (.getfield 29, 3)) (k : Go X g kc ks Q w (pc + 3) lp (.ref (g.1 55) :: st)) : Go X g kc ks Q w pc lp (.ref (g.1 48) :: st) :=
  r_getf hc 48 3 12 (C := R_M) (T := T_M) (N := 17) hd (by decide) (ent_M g (w 48)) rfl (by decide) in_M rfl (t3_mem 127 rfl rfl) rfl k
/-- PairedFieldModel: getfield best -/
theorem gM_32 (hc : Ok X g cc "PairedFieldModel" ret hx d) (hd : decode cc pc = .ok (.getfield 32, 3)) (k : Go X g kc ks Q w (pc + 3) lp (.ref (g.1 56) :: st)) : Go X g kc ks Q w pc lp (.ref (g.1 48) :: st) :=
  r_getf hc 48 3 13 (C := R_M) (T := T_M) (N := 17) hd (by decide) (ent_M g (w 48)) rfl (by decide) in_M rfl (t3_mem 128 rfl rfl) rfl k
/-- PairedFieldModel: getfield pick -/
theorem gM_35 (hc : Ok X g cc "PairedFieldModel" ret hx d) (hd : decode cc pc = .ok (.getfield 35, 3)) (k : Go X g kc ks Q w (pc + 3) lp (.ref (g.1 57) :: st)) : Go X g kc ks Q w pc lp (.ref (g.1 48) :: st) :=
  r_getf hc 48 3 14 (C := R_M) (T := T_M) (N := 17) hd (by decide) (ent_M g (w 48)) rfl (by decide) in_M rfl (t3_mem 129 rfl rfl) rfl k
/-- PairedFieldModel: getfield waysOf -/
theorem gM_38 (hc : Ok X g cc "PairedFieldModel" ret hx d) (hd : decode cc pc = .ok (.getfield 38, 3)) (k : Go X g kc ks Q w (pc + 3) lp (.ref (g.1 58) :: st)) : Go X g kc ks Q w pc lp (.ref (g.1 48) :: st) :=
  r_getf hc 48 3 15 (C := R_M) (T := T_M) (N := 17) hd (by decide) (ent_M g (w 48)) rfl (by decide) in_M rfl (t3_mem 130 rfl rfl) rfl k
/-- PairedFieldModel: getfield places -/
theorem gM_41 (hc : Ok X g cc "PairedFieldModel" ret hx d) (hd : decode cc pc = .ok (.getfield 41, 3)) (k : Go X g kc ks Q w (pc + 3) lp (.ref (g.1 59) :: st)) : Go X g kc ks Q w pc lp (.ref (g.1 48) :: st) :=
  r_getf hc 48 3 16 (C := R_M) (T := T_M) (N := 17) hd (by decide) (ent_M g (w 48)) rfl (by decide) in_M rfl (t3_mem 131 rfl rfl) rfl k
/-- PairedField: a call of java/lang/Math.min -/
theorem kF_36 {d' k n : Nat} {P : Rt → Wd → Prop} {a0 : Int32} {a1 : Int32} (hc : Ok X g cc "PairedField" ret hx d) (hd : decode cc pc = .ok (.invokestatic 36, 3)) (hcon : Con X.2.1 g yH_min bH_min 2 ((some .int)) [] d' k n [.int a0, .int a1] w P) (hdd : d' + 1 ≤ d) (hst : (st.map fun v => v.category).sum ≤ 8) (hcells : kc + k ≤ X.2.2.2.1.cells) (hslots : ks + n ≤ X.2.2.2.1.slots)
    (hret : ∀ (v : Option Value) (w' : Wd), P (.inl v) w' → Go X g (kc + k) (ks + n) Q w' (pc + 3) lp (v.toList ++ st)) (hthr : ∀ (cn : String) (w' : Wd), P (.inr cn) w' → GoX X g (kc + k) (ks + n) Q w' pc lp cn) : Go X g kc ks Q w pc lp (.int a1 :: .int a0 :: st) :=
  r_calls (av := [.int a0, .int a1]) (nL' := 2) hc hd hcon (t1_mem 99 rfl rfl) (t1_mem 100 rfl rfl) (t1_mem 4 rfl rfl) (t1_mem 101 rfl rfl) (by decide) (by decide +kernel) (show (parseMethodDescriptor yH_min.desc).map (fun d => d.parameters.length) = some 2 by decide +kernel) hdd (by decide) (fun v hv => by simp only [List.mem_cons, List.not_mem_nil, or_false] at hv; rcases hv with rfl | rfl <;> rfl) (Nat.le_of_ble_eq_true rfl) hst hcells hslots hret hthr
theorem kF_36r {d' : Nat} {P : Option Value → Wd → Prop} {a0 : Int32} {a1 : Int32} (hc : Ok X g cc "PairedField" ret hx d) (hd : decode cc pc = .ok (.invokestatic 36, 3)) (hcon : Con X.2.1 g yH_min bH_min 2 ((some .int)) [] d' 0 0 [.int a0, .int a1] w (Rp P)) (hdd : d' + 1 ≤ d) (hst : (st.map fun v => v.category).sum ≤ 8) (hret : ∀ (v : Option Value) (w' : Wd), P v w' → Go X g 0 0 Q w' (pc + 3) lp (v.toList ++ st)) : Go X g 0 0 Q w pc lp (.int a1 :: .int a0 :: st) :=
  kF_36 hc hd hcon hdd hst (Nat.zero_le _) (Nat.zero_le _) (fun v w' h => hret v w' (Rp_l h)) (fun cn w' h => absurd h Rp_r)
theorem kF_36t {d' : Nat} {cn : String} {P : Wd → Prop} {P2 : Rt → Wd → Prop} {a0 : Int32} {a1 : Int32} (hc : Ok X g cc "PairedField" ret [] d) (hd : decode cc pc = .ok (.invokestatic 36, 3)) (hcon : Con X.2.1 g yH_min bH_min 2 ((some .int)) [] d' 1 6 [.int a0, .int a1] w (Tp cn P)) (hdd : d' + 1 ≤ d) (hst : (st.map fun v => v.category).sum ≤ 8) (h1 : 1 ≤ X.2.2.2.1.cells) (h6 : 6 ≤ X.2.2.2.1.slots) (hP : ∀ w' : Wd, P w' → P2 (.inr cn) w') : Go X g 0 0 (Fen X g 1 6 P2) w pc lp (.int a1 :: .int a0 :: st) :=
  kF_36 hc hd hcon hdd hst (by omega) (by omega) (fun v w' h => absurd h Tp_l) (fun cn2 w' h => by obtain ⟨rfl, h⟩ := h; exact x_out hc (hP w' h))
/-- PairedField: a call of java/lang/Math.max -/
theorem kF_42 {d' k n : Nat} {P : Rt → Wd → Prop} {a0 : Int32} {a1 : Int32} (hc : Ok X g cc "PairedField" ret hx d) (hd : decode cc pc = .ok (.invokestatic 42, 3)) (hcon : Con X.2.1 g yH_max bH_max 2 ((some .int)) [] d' k n [.int a0, .int a1] w P) (hdd : d' + 1 ≤ d) (hst : (st.map fun v => v.category).sum ≤ 8) (hcells : kc + k ≤ X.2.2.2.1.cells) (hslots : ks + n ≤ X.2.2.2.1.slots)
    (hret : ∀ (v : Option Value) (w' : Wd), P (.inl v) w' → Go X g (kc + k) (ks + n) Q w' (pc + 3) lp (v.toList ++ st)) (hthr : ∀ (cn : String) (w' : Wd), P (.inr cn) w' → GoX X g (kc + k) (ks + n) Q w' pc lp cn) : Go X g kc ks Q w pc lp (.int a1 :: .int a0 :: st) :=
  r_calls (av := [.int a0, .int a1]) (nL' := 2) hc hd hcon (t1_mem 102 rfl rfl) (t1_mem 103 rfl rfl) (t1_mem 4 rfl rfl) (t1_mem 104 rfl rfl) (by decide) (by decide +kernel) (show (parseMethodDescriptor yH_max.desc).map (fun d => d.parameters.length) = some 2 by decide +kernel) hdd (by decide) (fun v hv => by simp only [List.mem_cons, List.not_mem_nil, or_false] at hv; rcases hv with rfl | rfl <;> rfl) (Nat.le_of_ble_eq_true rfl) hst hcells hslots hret hthr
theorem kF_42r {d' : Nat} {P : Option Value → Wd → Prop} {a0 : Int32} {a1 : Int32} (hc : Ok X g cc "PairedField" ret hx d) (hd : decode cc pc = .ok (.invokestatic 42, 3)) (hcon : Con X.2.1 g yH_max bH_max 2 ((some .int)) [] d' 0 0 [.int a0, .int a1] w (Rp P)) (hdd : d' + 1 ≤ d) (hst : (st.map fun v => v.category).sum ≤ 8) (hret : ∀ (v : Option Value) (w' : Wd), P v w' → Go X g 0 0 Q w' (pc + 3) lp (v.toList ++ st)) : Go X g 0 0 Q w pc lp (.int a1 :: .int a0 :: st) :=
  kF_42 hc hd hcon hdd hst (Nat.zero_le _) (Nat.zero_le _) (fun v w' h => hret v w' (Rp_l h)) (fun cn w' h => absurd h Rp_r)
theorem kF_42t {d' : Nat} {cn : String} {P : Wd → Prop} {P2 : Rt → Wd → Prop} {a0 : Int32} {a1 : Int32} (hc : Ok X g cc "PairedField" ret [] d) (hd : decode cc pc = .ok (.invokestatic 42, 3)) (hcon : Con X.2.1 g yH_max bH_max 2 ((some .int)) [] d' 1 6 [.int a0, .int a1] w (Tp cn P)) (hdd : d' + 1 ≤ d) (hst : (st.map fun v => v.category).sum ≤ 8) (h1 : 1 ≤ X.2.2.2.1.cells) (h6 : 6 ≤ X.2.2.2.1.slots) (hP : ∀ w' : Wd, P w' → P2 (.inr cn) w') : Go X g 0 0 (Fen X g 1 6 P2) w pc lp (.int a1 :: .int a0 :: st) :=
  kF_42 hc hd hcon hdd hst (by omega) (by omega) (fun v w' h => absurd h Tp_l) (fun cn2 w' h => by obtain ⟨rfl, h⟩ := h; exact x_out hc (hP w' h))
/-- PairedFieldLaw: a call of PairedField.ways -/
theorem kL_101 {d' k n : Nat} {P : Rt → Wd → Prop} (hc : Ok X g cc "PairedFieldLaw" ret hx d) (hd : decode cc pc = .ok (.invokevirtual 101, 3)) (hcon : Con X.2.1 g yF_ways bF_ways 1 ((some .int)) [] d' k n (.ref (g.1 0) :: []) w P) (hdd : d' + 1 ≤ d) (hst : (st.map fun v => v.category).sum ≤ 8) (hcells : kc + k ≤ X.2.2.2.1.cells) (hslots : ks + n ≤ X.2.2.2.1.slots)
    (hret : ∀ (v : Option Value) (w' : Wd), P (.inl v) w' → Go X g (kc + k) (ks + n) Q w' (pc + 3) lp (v.toList ++ st)) (hthr : ∀ (cn : String) (w' : Wd), P (.inr cn) w' → GoX X g (kc + k) (ks + n) Q w' pc lp cn) : Go X g kc ks Q w pc lp (.ref (g.1 0) :: st) :=
  r_callv (av := []) (nL' := 1) (q := 0) (ci := 0) (C := R_F) (Tc := T_F) (N := 8) hc hd hcon (t1_mem 130 rfl rfl) (t1_mem 131 rfl rfl) (t1_mem 132 rfl rfl) (t1_mem 133 rfl rfl) (by decide) (by decide +kernel) (show (parseMethodDescriptor yF_ways.desc).map (fun d => d.parameters.length) = some 0 by decide +kernel) (by decide) (ent_F g (w 0)) rfl hdd (by decide) (fun v hv => by cases hv) (Nat.le_of_ble_eq_true rfl) hst hcells hslots hret hthr
theorem kL_101r {d' : Nat} {P : Option Value → Wd → Prop} (hc : Ok X g cc "PairedFieldLaw" ret hx d) (hd : decode cc pc = .ok (.invokevirtual 101, 3)) (hcon : Con X.2.1 g yF_ways bF_ways 1 ((some .int)) [] d' 0 0 (.ref (g.1 0) :: []) w (Rp P)) (hdd : d' + 1 ≤ d) (hst : (st.map fun v => v.category).sum ≤ 8) (hret : ∀ (v : Option Value) (w' : Wd), P v w' → Go X g 0 0 Q w' (pc + 3) lp (v.toList ++ st)) : Go X g 0 0 Q w pc lp (.ref (g.1 0) :: st) :=
  kL_101 hc hd hcon hdd hst (Nat.zero_le _) (Nat.zero_le _) (fun v w' h => hret v w' (Rp_l h)) (fun cn w' h => absurd h Rp_r)
theorem kL_101t {d' : Nat} {cn : String} {P : Wd → Prop} {P2 : Rt → Wd → Prop} (hc : Ok X g cc "PairedFieldLaw" ret [] d) (hd : decode cc pc = .ok (.invokevirtual 101, 3)) (hcon : Con X.2.1 g yF_ways bF_ways 1 ((some .int)) [] d' 1 6 (.ref (g.1 0) :: []) w (Tp cn P)) (hdd : d' + 1 ≤ d) (hst : (st.map fun v => v.category).sum ≤ 8) (h1 : 1 ≤ X.2.2.2.1.cells) (h6 : 6 ≤ X.2.2.2.1.slots) (hP : ∀ w' : Wd, P w' → P2 (.inr cn) w') : Go X g 0 0 (Fen X g 1 6 P2) w pc lp (.ref (g.1 0) :: st) :=
  kL_101 hc hd hcon hdd hst (by omega) (by omega) (fun v w' h => absurd h Tp_l) (fun cn2 w' h => by obtain ⟨rfl, h⟩ := h; exact x_out hc (hP w' h))
/-- PairedField: a call of PairedField.workOutPairing -/
theorem kF_88 {d' k n : Nat} {P : Rt → Wd → Prop} (hc : Ok X g cc "PairedField" ret hx d) (hd : decode cc pc = .ok (.invokevirtual 88, 3)) (hcon : Con X.2.1 g yF_workOutPairing bF_workOutPairing 1 ((none : Option Jvm.ClassFile.FieldType)) [] d' k n (.ref (g.1 0) :: []) w P) (hdd : d' + 1 ≤ d) (hst : (st.map fun v => v.category).sum ≤ 8) (hcells : kc + k ≤ X.2.2.2.1.cells) (hslots : ks + n ≤ X.2.2.2.1.slots)
    (hret : ∀ (v : Option Value) (w' : Wd), P (.inl v) w' → Go X g (kc + k) (ks + n) Q w' (pc + 3) lp (v.toList ++ st)) (hthr : ∀ (cn : String) (w' : Wd), P (.inr cn) w' → GoX X g (kc + k) (ks + n) Q w' pc lp cn) : Go X g kc ks Q w pc lp (.ref (g.1 0) :: st) :=
  r_callv (av := []) (nL' := 1) (q := 0) (ci := 0) (C := R_F) (Tc := T_F) (N := 8) hc hd hcon (t1_mem 134 rfl rfl) (t1_mem 136 rfl rfl) (t0_mem 0 rfl rfl) (t1_mem 137 rfl rfl) (by decide) (by decide +kernel) (show (parseMethodDescriptor yF_workOutPairing.desc).map (fun d => d.parameters.length) = some 0 by decide +kernel) (by decide) (ent_F g (w 0)) rfl hdd (by decide) (fun v hv => by cases hv) (Nat.le_of_ble_eq_true rfl) hst hcells hslots hret hthr
theorem kF_88r {d' : Nat} {P : Option Value → Wd → Prop} (hc : Ok X g cc "PairedField" ret hx d) (hd : decode cc pc = .ok (.invokevirtual 88, 3)) (hcon : Con X.2.1 g yF_workOutPairing bF_workOutPairing 1 ((none : Option Jvm.ClassFile.FieldType)) [] d' 0 0 (.ref (g.1 0) :: []) w (Rp P)) (hdd : d' + 1 ≤ d) (hst : (st.map fun v => v.category).sum ≤ 8) (hret : ∀ (v : Option Value) (w' : Wd), P v w' → Go X g 0 0 Q w' (pc + 3) lp (v.toList ++ st)) : Go X g 0 0 Q w pc lp (.ref (g.1 0) :: st) :=
  kF_88 hc hd hcon hdd hst (Nat.zero_le _) (Nat.zero_le _) (fun v w' h => hret v w' (Rp_l h)) (fun cn w' h => absurd h Rp_r)
theorem kF_88t {d' : Nat} {cn : String} {P : Wd → Prop} {P2 : Rt → Wd → Prop} (hc : Ok X g cc "PairedField" ret [] d) (hd : decode cc pc = .ok (.invokevirtual 88, 3)) (hcon : Con X.2.1 g yF_workOutPairing bF_workOutPairing 1 ((none : Option Jvm.ClassFile.FieldType)) [] d' 1 6 (.ref (g.1 0) :: []) w (Tp cn P)) (hdd : d' + 1 ≤ d) (hst : (st.map fun v => v.category).sum ≤ 8) (h1 : 1 ≤ X.2.2.2.1.cells) (h6 : 6 ≤ X.2.2.2.1.slots) (hP : ∀ w' : Wd, P w' → P2 (.inr cn) w') : Go X g 0 0 (Fen X g 1 6 P2) w pc lp (.ref (g.1 0) :: st) :=
  kF_88 hc hd hcon hdd hst (by omega) (by omega) (fun v w' h => absurd h Tp_l) (fun cn2 w' h => by obtain ⟨rfl, h⟩ := h; exact x_out hc (hP w' h))
/-- PairedField: a call of PairedField$Pairing.workOut -/
theorem kF_191 {d' k n : Nat} {P : Rt → Wd → Prop} {a0 : Nat} {a1 : Nat} {a2 : Nat} {a3 : Int32} (hc : Ok X g cc "PairedField" ret hx d) (hd : decode cc pc = .ok (.invokevirtual 191, 3)) (hcon : Con X.2.1 g yP_workOut bP_workOut 5 ((none : Option Jvm.ClassFile.FieldType)) [] d' k n (.ref (g.1 31) :: [.ref a0, .ref a1, .ref a2, .int a3]) w P) (hdd : d' + 1 ≤ d) (hst : (st.map fun v => v.category).sum ≤ 8) (hcells : kc + k ≤ X.2.2.2.1.cells) (hslots : ks + n ≤ X.2.2.2.1.slots)
    (hret : ∀ (v : Option Value) (w' : Wd), P (.inl v) w' → Go X g (kc + k) (ks + n) Q w' (pc + 3) lp (v.toList ++ st)) (hthr : ∀ (cn : String) (w' : Wd), P (.inr cn) w' → GoX X g (kc + k) (ks + n) Q w' pc lp cn) : Go X g kc ks Q w pc lp (.int a3 :: .ref a2 :: .ref a1 :: .ref a0 :: .ref (g.1 31) :: st) :=
  r_callv (av := [.ref a0, .ref a1, .ref a2, .int a3]) (nL' := 5) (q := 31) (ci := 2) (C := R_P) (Tc := T_P) (N := 6) hc hd hcon (t1_mem 138 rfl rfl) (t1_mem 139 rfl rfl) (t1_mem 140 rfl rfl) (t1_mem 141 rfl rfl) (by decide) (by decide +kernel) (show (parseMethodDescriptor yP_workOut.desc).map (fun d => d.parameters.length) = some 4 by decide +kernel) (by decide) (ent_P g (w 31)) rfl hdd (by decide) (fun v hv => by simp only [List.mem_cons, List.not_mem_nil, or_false] at hv; rcases hv with rfl | rfl | rfl | rfl <;> rfl) (Nat.le_of_ble_eq_true rfl) hst hcells hslots hret hthr
theorem kF_191r {d' : Nat} {P : Option Value → Wd → Prop} {a0 : Nat} {a1 : Nat} {a2 : Nat} {a3 : Int32} (hc : Ok X g cc "PairedField" ret hx d) (hd : decode cc pc = .ok (.invokevirtual 191, 3)) (hcon : Con X.2.1 g yP_workOut bP_workOut 5 ((none : Option Jvm.ClassFile.FieldType)) [] d' 0 0 (.ref (g.1 31) :: [.ref a0, .ref a1, .ref a2, .int a3]) w (Rp P)) (hdd : d' + 1 ≤ d) (hst : (st.map fun v => v.category).sum ≤ 8) (hret : ∀ (v : Option Value) (w' : Wd), P v w' → Go X g 0 0 Q w' (pc + 3) lp (v.toList ++ st)) : Go X g 0 0 Q w pc lp (.int a3 :: .ref a2 :: .ref a1 :: .ref a0 :: .ref (g.1 31) :: st) :=
  kF_191 hc hd hcon hdd hst (Nat.zero_le _) (Nat.zero_le _) (fun v w' h => hret v w' (Rp_l h)) (fun cn w' h => absurd h Rp_r)
theorem kF_191t {d' : Nat} {cn : String} {P : Wd → Prop} {P2 : Rt → Wd → Prop} {a0 : Nat} {a1 : Nat} {a2 : Nat} {a3 : Int32} (hc : Ok X g cc "PairedField" ret [] d) (hd : decode cc pc = .ok (.invokevirtual 191, 3)) (hcon : Con X.2.1 g yP_workOut bP_workOut 5 ((none : Option Jvm.ClassFile.FieldType)) [] d' 1 6 (.ref (g.1 31) :: [.ref a0, .ref a1, .ref a2, .int a3]) w (Tp cn P)) (hdd : d' + 1 ≤ d) (hst : (st.map fun v => v.category).sum ≤ 8) (h1 : 1 ≤ X.2.2.2.1.cells) (h6 : 6 ≤ X.2.2.2.1.slots) (hP : ∀ w' : Wd, P w' → P2 (.inr cn) w') : Go X g 0 0 (Fen X g 1 6 P2) w pc lp (.int a3 :: .ref a2 :: .ref a1 :: .ref a0 :: .ref (g.1 31) :: st) :=
  kF_191 hc hd hcon hdd hst (by omega) (by omega) (fun v w' h => absurd h Tp_l) (fun cn2 w' h => by obtain ⟨rfl, h⟩ := h; exact x_out hc (hP w' h))
/-- PairedField$Pairing: a call of PairedField$Pairing.chooseBye -/
theorem kP_30 {d' k n : Nat} {P : Rt → Wd → Prop} {a0 : Nat} {a1 : Nat} (hc : Ok X g cc "PairedField$Pairing" ret hx d) (hd : decode cc pc = .ok (.invokevirtual 30, 3)) (hcon : Con X.2.1 g yP_chooseBye bP_chooseBye 6 ((none : Option Jvm.ClassFile.FieldType)) [] d' k n (.ref (g.1 31) :: [.ref a0, .ref a1]) w P) (hdd : d' + 1 ≤ d) (hst : (st.map fun v => v.category).sum ≤ 8) (hcells : kc + k ≤ X.2.2.2.1.cells) (hslots : ks + n ≤ X.2.2.2.1.slots)
    (hret : ∀ (v : Option Value) (w' : Wd), P (.inl v) w' → Go X g (kc + k) (ks + n) Q w' (pc + 3) lp (v.toList ++ st)) (hthr : ∀ (cn : String) (w' : Wd), P (.inr cn) w' → GoX X g (kc + k) (ks + n) Q w' pc lp cn) : Go X g kc ks Q w pc lp (.ref a1 :: .ref a0 :: .ref (g.1 31) :: st) :=
  r_callv (av := [.ref a0, .ref a1]) (nL' := 6) (q := 31) (ci := 2) (C := R_P) (Tc := T_P) (N := 6) hc hd hcon (t1_mem 142 rfl rfl) (t1_mem 144 rfl rfl) (t0_mem 1 rfl rfl) (t1_mem 145 rfl rfl) (by decide) (by decide +kernel) (show (parseMethodDescriptor yP_chooseBye.desc).map (fun d => d.parameters.length) = some 2 by decide +kernel) (by decide) (ent_P g (w 31)) rfl hdd (by decide) (fun v hv => by simp only [List.mem_cons, List.not_mem_nil, or_false] at hv; rcases hv with rfl | rfl <;> rfl) (Nat.le_of_ble_eq_true rfl) hst hcells hslots hret hthr
theorem kP_30r {d' : Nat} {P : Option Value → Wd → Prop} {a0 : Nat} {a1 : Nat} (hc : Ok X g cc "PairedField$Pairing" ret hx d) (hd : decode cc pc = .ok (.invokevirtual 30, 3)) (hcon : Con X.2.1 g yP_chooseBye bP_chooseBye 6 ((none : Option Jvm.ClassFile.FieldType)) [] d' 0 0 (.ref (g.1 31) :: [.ref a0, .ref a1]) w (Rp P)) (hdd : d' + 1 ≤ d) (hst : (st.map fun v => v.category).sum ≤ 8) (hret : ∀ (v : Option Value) (w' : Wd), P v w' → Go X g 0 0 Q w' (pc + 3) lp (v.toList ++ st)) : Go X g 0 0 Q w pc lp (.ref a1 :: .ref a0 :: .ref (g.1 31) :: st) :=
  kP_30 hc hd hcon hdd hst (Nat.zero_le _) (Nat.zero_le _) (fun v w' h => hret v w' (Rp_l h)) (fun cn w' h => absurd h Rp_r)
theorem kP_30t {d' : Nat} {cn : String} {P : Wd → Prop} {P2 : Rt → Wd → Prop} {a0 : Nat} {a1 : Nat} (hc : Ok X g cc "PairedField$Pairing" ret [] d) (hd : decode cc pc = .ok (.invokevirtual 30, 3)) (hcon : Con X.2.1 g yP_chooseBye bP_chooseBye 6 ((none : Option Jvm.ClassFile.FieldType)) [] d' 1 6 (.ref (g.1 31) :: [.ref a0, .ref a1]) w (Tp cn P)) (hdd : d' + 1 ≤ d) (hst : (st.map fun v => v.category).sum ≤ 8) (h1 : 1 ≤ X.2.2.2.1.cells) (h6 : 6 ≤ X.2.2.2.1.slots) (hP : ∀ w' : Wd, P w' → P2 (.inr cn) w') : Go X g 0 0 (Fen X g 1 6 P2) w pc lp (.ref a1 :: .ref a0 :: .ref (g.1 31) :: st) :=
  kP_30 hc hd hcon hdd hst (by omega) (by omega) (fun v w' h => absurd h Tp_l) (fun cn2 w' h => by obtain ⟨rfl, h⟩ := h; exact x_out hc (hP w' h))
/-- PairedField$Pairing: a call of PairedField$Standing.getsByeBefore -/
theorem kP_90 {d' k n : Nat} {P : Rt → Wd → Prop} {a0 : Int32} {a1 : Int32} (hc : Ok X g cc "PairedField$Pairing" ret hx d) (hd : decode cc pc = .ok (.invokevirtual 90, 3)) (hcon : Con X.2.1 g yS_getsByeBefore bS_getsByeBefore 3 ((some .boolean)) [] d' k n (.ref (g.1 20) :: [.int a0, .int a1]) w P) (hdd : d' + 1 ≤ d) (hst : (st.map fun v => v.category).sum ≤ 8) (hcells : kc + k ≤ X.2.2.2.1.cells) (hslots : ks + n ≤ X.2.2.2.1.slots)
    (hret : ∀ (v : Option Value) (w' : Wd), P (.inl v) w' → Go X g (kc + k) (ks + n) Q w' (pc + 3) lp (v.toList ++ st)) (hthr : ∀ (cn : String) (w' : Wd), P (.inr cn) w' → GoX X g (kc + k) (ks + n) Q w' pc lp cn) : Go X g kc ks Q w pc lp (.int a1 :: .int a0 :: .ref (g.1 20) :: st) :=
  r_callv (av := [.int a0, .int a1]) (nL' := 3) (q := 20) (ci := 1) (C := R_S) (Tc := T_S) (N := 10) hc hd hcon (t1_mem 146 rfl rfl) (t1_mem 147 rfl rfl) (t1_mem 148 rfl rfl) (t1_mem 149 rfl rfl) (by decide) (by decide +kernel) (show (parseMethodDescriptor yS_getsByeBefore.desc).map (fun d => d.parameters.length) = some 2 by decide +kernel) (by decide) (ent_S g (w 20)) rfl hdd (by decide) (fun v hv => by simp only [List.mem_cons, List.not_mem_nil, or_false] at hv; rcases hv with rfl | rfl <;> rfl) (Nat.le_of_ble_eq_true rfl) hst hcells hslots hret hthr
theorem kP_90r {d' : Nat} {P : Option Value → Wd → Prop} {a0 : Int32} {a1 : Int32} (hc : Ok X g cc "PairedField$Pairing" ret hx d) (hd : decode cc pc = .ok (.invokevirtual 90, 3)) (hcon : Con X.2.1 g yS_getsByeBefore bS_getsByeBefore 3 ((some .boolean)) [] d' 0 0 (.ref (g.1 20) :: [.int a0, .int a1]) w (Rp P)) (hdd : d' + 1 ≤ d) (hst : (st.map fun v => v.category).sum ≤ 8) (hret : ∀ (v : Option Value) (w' : Wd), P v w' → Go X g 0 0 Q w' (pc + 3) lp (v.toList ++ st)) : Go X g 0 0 Q w pc lp (.int a1 :: .int a0 :: .ref (g.1 20) :: st) :=
  kP_90 hc hd hcon hdd hst (Nat.zero_le _) (Nat.zero_le _) (fun v w' h => hret v w' (Rp_l h)) (fun cn w' h => absurd h Rp_r)
theorem kP_90t {d' : Nat} {cn : String} {P : Wd → Prop} {P2 : Rt → Wd → Prop} {a0 : Int32} {a1 : Int32} (hc : Ok X g cc "PairedField$Pairing" ret [] d) (hd : decode cc pc = .ok (.invokevirtual 90, 3)) (hcon : Con X.2.1 g yS_getsByeBefore bS_getsByeBefore 3 ((some .boolean)) [] d' 1 6 (.ref (g.1 20) :: [.int a0, .int a1]) w (Tp cn P)) (hdd : d' + 1 ≤ d) (hst : (st.map fun v => v.category).sum ≤ 8) (h1 : 1 ≤ X.2.2.2.1.cells) (h6 : 6 ≤ X.2.2.2.1.slots) (hP : ∀ w' : Wd, P w' → P2 (.inr cn) w') : Go X g 0 0 (Fen X g 1 6 P2) w pc lp (.int a1 :: .int a0 :: .ref (g.1 20) :: st) :=
  kP_90 hc hd hcon hdd hst (by omega) (by omega) (fun v w' h => absurd h Tp_l) (fun cn2 w' h => by obtain ⟨rfl, h⟩ := h; exact x_out hc (hP w' h))
/-- PairedField$Pairing: a call of PairedField$Pairing.seatPlayers -/
theorem kP_34 {d' k n : Nat} {P : Rt → Wd → Prop} {a0 : Nat} {a1 : Nat} (hc : Ok X g cc "PairedField$Pairing" ret hx d) (hd : decode cc pc = .ok (.invokevirtual 34, 3)) (hcon : Con X.2.1 g yP_seatPlayers bP_seatPlayers 4 ((none : Option Jvm.ClassFile.FieldType)) [] d' k n (.ref (g.1 31) :: [.ref a0, .ref a1]) w P) (hdd : d' + 1 ≤ d) (hst : (st.map fun v => v.category).sum ≤ 8) (hcells : kc + k ≤ X.2.2.2.1.cells) (hslots : ks + n ≤ X.2.2.2.1.slots)
    (hret : ∀ (v : Option Value) (w' : Wd), P (.inl v) w' → Go X g (kc + k) (ks + n) Q w' (pc + 3) lp (v.toList ++ st)) (hthr : ∀ (cn : String) (w' : Wd), P (.inr cn) w' → GoX X g (kc + k) (ks + n) Q w' pc lp cn) : Go X g kc ks Q w pc lp (.ref a1 :: .ref a0 :: .ref (g.1 31) :: st) :=
  r_callv (av := [.ref a0, .ref a1]) (nL' := 4) (q := 31) (ci := 2) (C := R_P) (Tc := T_P) (N := 6) hc hd hcon (t1_mem 150 rfl rfl) (t1_mem 152 rfl rfl) (t0_mem 2 rfl rfl) (t1_mem 153 rfl rfl) (by decide) (by decide +kernel) (show (parseMethodDescriptor yP_seatPlayers.desc).map (fun d => d.parameters.length) = some 2 by decide +kernel) (by decide) (ent_P g (w 31)) rfl hdd (by decide) (fun v hv => by simp only [List.mem_cons, List.not_mem_nil, or_false] at hv; rcases hv with rfl | rfl <;> rfl) (Nat.le_of_ble_eq_true rfl) hst hcells hslots hret hthr
theorem kP_34r {d' : Nat} {P : Option Value → Wd → Prop} {a0 : Nat} {a1 : Nat} (hc : Ok X g cc "PairedField$Pairing" ret hx d) (hd : decode cc pc = .ok (.invokevirtual 34, 3)) (hcon : Con X.2.1 g yP_seatPlayers bP_seatPlayers 4 ((none : Option Jvm.ClassFile.FieldType)) [] d' 0 0 (.ref (g.1 31) :: [.ref a0, .ref a1]) w (Rp P)) (hdd : d' + 1 ≤ d) (hst : (st.map fun v => v.category).sum ≤ 8) (hret : ∀ (v : Option Value) (w' : Wd), P v w' → Go X g 0 0 Q w' (pc + 3) lp (v.toList ++ st)) : Go X g 0 0 Q w pc lp (.ref a1 :: .ref a0 :: .ref (g.1 31) :: st) :=
  kP_34 hc hd hcon hdd hst (Nat.zero_le _) (Nat.zero_le _) (fun v w' h => hret v w' (Rp_l h)) (fun cn w' h => absurd h Rp_r)
theorem kP_34t {d' : Nat} {cn : String} {P : Wd → Prop} {P2 : Rt → Wd → Prop} {a0 : Nat} {a1 : Nat} (hc : Ok X g cc "PairedField$Pairing" ret [] d) (hd : decode cc pc = .ok (.invokevirtual 34, 3)) (hcon : Con X.2.1 g yP_seatPlayers bP_seatPlayers 4 ((none : Option Jvm.ClassFile.FieldType)) [] d' 1 6 (.ref (g.1 31) :: [.ref a0, .ref a1]) w (Tp cn P)) (hdd : d' + 1 ≤ d) (hst : (st.map fun v => v.category).sum ≤ 8) (h1 : 1 ≤ X.2.2.2.1.cells) (h6 : 6 ≤ X.2.2.2.1.slots) (hP : ∀ w' : Wd, P w' → P2 (.inr cn) w') : Go X g 0 0 (Fen X g 1 6 P2) w pc lp (.ref a1 :: .ref a0 :: .ref (g.1 31) :: st) :=
  kP_34 hc hd hcon hdd hst (by omega) (by omega) (fun v w' h => absurd h Tp_l) (fun cn2 w' h => by obtain ⟨rfl, h⟩ := h; exact x_out hc (hP w' h))
/-- PairedField$Pairing: a call of PairedField$Pairing.seatOne -/
theorem kP_94 {d' k n : Nat} {P : Rt → Wd → Prop} {a0 : Nat} {a1 : Int32} (hc : Ok X g cc "PairedField$Pairing" ret hx d) (hd : decode cc pc = .ok (.invokevirtual 94, 3)) (hcon : Con X.2.1 g yP_seatOne bP_seatOne 4 ((none : Option Jvm.ClassFile.FieldType)) [] d' k n (.ref (g.1 31) :: [.ref a0, .int a1]) w P) (hdd : d' + 1 ≤ d) (hst : (st.map fun v => v.category).sum ≤ 8) (hcells : kc + k ≤ X.2.2.2.1.cells) (hslots : ks + n ≤ X.2.2.2.1.slots)
    (hret : ∀ (v : Option Value) (w' : Wd), P (.inl v) w' → Go X g (kc + k) (ks + n) Q w' (pc + 3) lp (v.toList ++ st)) (hthr : ∀ (cn : String) (w' : Wd), P (.inr cn) w' → GoX X g (kc + k) (ks + n) Q w' pc lp cn) : Go X g kc ks Q w pc lp (.int a1 :: .ref a0 :: .ref (g.1 31) :: st) :=
  r_callv (av := [.ref a0, .int a1]) (nL' := 4) (q := 31) (ci := 2) (C := R_P) (Tc := T_P) (N := 6) hc hd hcon (t1_mem 154 rfl rfl) (t1_mem 156 rfl rfl) (t0_mem 3 rfl rfl) (t1_mem 157 rfl rfl) (by decide) (by decide +kernel) (show (parseMethodDescriptor yP_seatOne.desc).map (fun d => d.parameters.length) = some 2 by decide +kernel) (by decide) (ent_P g (w 31)) rfl hdd (by decide) (fun v hv => by simp only [List.mem_cons, List.not_mem_nil, or_false] at hv; rcases hv with rfl | rfl <;> rfl) (Nat.le_of_ble_eq_true rfl) hst hcells hslots hret hthr
theorem kP_94r {d' : Nat} {P : Option Value → Wd → Prop} {a0 : Nat} {a1 : Int32} (hc : Ok X g cc "PairedField$Pairing" ret hx d) (hd : decode cc pc = .ok (.invokevirtual 94, 3)) (hcon : Con X.2.1 g yP_seatOne bP_seatOne 4 ((none : Option Jvm.ClassFile.FieldType)) [] d' 0 0 (.ref (g.1 31) :: [.ref a0, .int a1]) w (Rp P)) (hdd : d' + 1 ≤ d) (hst : (st.map fun v => v.category).sum ≤ 8) (hret : ∀ (v : Option Value) (w' : Wd), P v w' → Go X g 0 0 Q w' (pc + 3) lp (v.toList ++ st)) : Go X g 0 0 Q w pc lp (.int a1 :: .ref a0 :: .ref (g.1 31) :: st) :=
  kP_94 hc hd hcon hdd hst (Nat.zero_le _) (Nat.zero_le _) (fun v w' h => hret v w' (Rp_l h)) (fun cn w' h => absurd h Rp_r)
theorem kP_94t {d' : Nat} {cn : String} {P : Wd → Prop} {P2 : Rt → Wd → Prop} {a0 : Nat} {a1 : Int32} (hc : Ok X g cc "PairedField$Pairing" ret [] d) (hd : decode cc pc = .ok (.invokevirtual 94, 3)) (hcon : Con X.2.1 g yP_seatOne bP_seatOne 4 ((none : Option Jvm.ClassFile.FieldType)) [] d' 1 6 (.ref (g.1 31) :: [.ref a0, .int a1]) w (Tp cn P)) (hdd : d' + 1 ≤ d) (hst : (st.map fun v => v.category).sum ≤ 8) (h1 : 1 ≤ X.2.2.2.1.cells) (h6 : 6 ≤ X.2.2.2.1.slots) (hP : ∀ w' : Wd, P w' → P2 (.inr cn) w') : Go X g 0 0 (Fen X g 1 6 P2) w pc lp (.int a1 :: .ref a0 :: .ref (g.1 31) :: st) :=
  kP_94 hc hd hcon hdd hst (by omega) (by omega) (fun v w' h => absurd h Tp_l) (fun cn2 w' h => by obtain ⟨rfl, h⟩ := h; exact x_out hc (hP w' h))
/-- PairedField$Pairing: a call of PairedField$Standing.isBeforeInOrder -/
theorem kP_98 {d' k n : Nat} {P : Rt → Wd → Prop} {a0 : Int32} {a1 : Int32} (hc : Ok X g cc "PairedField$Pairing" ret hx d) (hd : decode cc pc = .ok (.invokevirtual 98, 3)) (hcon : Con X.2.1 g yS_isBeforeInOrder bS_isBeforeInOrder 3 ((some .boolean)) [] d' k n (.ref (g.1 20) :: [.int a0, .int a1]) w P) (hdd : d' + 1 ≤ d) (hst : (st.map fun v => v.category).sum ≤ 8) (hcells : kc + k ≤ X.2.2.2.1.cells) (hslots : ks + n ≤ X.2.2.2.1.slots)
    (hret : ∀ (v : Option Value) (w' : Wd), P (.inl v) w' → Go X g (kc + k) (ks + n) Q w' (pc + 3) lp (v.toList ++ st)) (hthr : ∀ (cn : String) (w' : Wd), P (.inr cn) w' → GoX X g (kc + k) (ks + n) Q w' pc lp cn) : Go X g kc ks Q w pc lp (.int a1 :: .int a0 :: .ref (g.1 20) :: st) :=
  r_callv (av := [.int a0, .int a1]) (nL' := 3) (q := 20) (ci := 1) (C := R_S) (Tc := T_S) (N := 10) hc hd hcon (t1_mem 158 rfl rfl) (t1_mem 159 rfl rfl) (t1_mem 160 rfl rfl) (t1_mem 161 rfl rfl) (by decide) (by decide +kernel) (show (parseMethodDescriptor yS_isBeforeInOrder.desc).map (fun d => d.parameters.length) = some 2 by decide +kernel) (by decide) (ent_S g (w 20)) rfl hdd (by decide) (fun v hv => by simp only [List.mem_cons, List.not_mem_nil, or_false] at hv; rcases hv with rfl | rfl <;> rfl) (Nat.le_of_ble_eq_true rfl) hst hcells hslots hret hthr
theorem kP_98r {d' : Nat} {P : Option Value → Wd → Prop} {a0 : Int32} {a1 : Int32} (hc : Ok X g cc "PairedField$Pairing" ret hx d) (hd : decode cc pc = .ok (.invokevirtual 98, 3)) (hcon : Con X.2.1 g yS_isBeforeInOrder bS_isBeforeInOrder 3 ((some .boolean)) [] d' 0 0 (.ref (g.1 20) :: [.int a0, .int a1]) w (Rp P)) (hdd : d' + 1 ≤ d) (hst : (st.map fun v => v.category).sum ≤ 8) (hret : ∀ (v : Option Value) (w' : Wd), P v w' → Go X g 0 0 Q w' (pc + 3) lp (v.toList ++ st)) : Go X g 0 0 Q w pc lp (.int a1 :: .int a0 :: .ref (g.1 20) :: st) :=
  kP_98 hc hd hcon hdd hst (Nat.zero_le _) (Nat.zero_le _) (fun v w' h => hret v w' (Rp_l h)) (fun cn w' h => absurd h Rp_r)
theorem kP_98t {d' : Nat} {cn : String} {P : Wd → Prop} {P2 : Rt → Wd → Prop} {a0 : Int32} {a1 : Int32} (hc : Ok X g cc "PairedField$Pairing" ret [] d) (hd : decode cc pc = .ok (.invokevirtual 98, 3)) (hcon : Con X.2.1 g yS_isBeforeInOrder bS_isBeforeInOrder 3 ((some .boolean)) [] d' 1 6 (.ref (g.1 20) :: [.int a0, .int a1]) w (Tp cn P)) (hdd : d' + 1 ≤ d) (hst : (st.map fun v => v.category).sum ≤ 8) (h1 : 1 ≤ X.2.2.2.1.cells) (h6 : 6 ≤ X.2.2.2.1.slots) (hP : ∀ w' : Wd, P w' → P2 (.inr cn) w') : Go X g 0 0 (Fen X g 1 6 P2) w pc lp (.int a1 :: .int a0 :: .ref (g.1 20) :: st) :=
  kP_98 hc hd hcon hdd hst (by omega) (by omega) (fun v w' h => absurd h Tp_l) (fun cn2 w' h => by obtain ⟨rfl, h⟩ := h; exact x_out hc (hP w' h))
/-- PairedField$Pairing: a call of PairedField$Pairing.priceGames -/
theorem kP_37 {d' k n : Nat} {P : Rt → Wd → Prop} {a0 : Nat} {a1 : Nat} {a2 : Int32} (hc : Ok X g cc "PairedField$Pairing" ret hx d) (hd : decode cc pc = .ok (.invokevirtual 37, 3)) (hcon : Con X.2.1 g yP_priceGames bP_priceGames 10 ((none : Option Jvm.ClassFile.FieldType)) [] d' k n (.ref (g.1 31) :: [.ref a0, .ref a1, .int a2]) w P) (hdd : d' + 1 ≤ d) (hst : (st.map fun v => v.category).sum ≤ 8) (hcells : kc + k ≤ X.2.2.2.1.cells) (hslots : ks + n ≤ X.2.2.2.1.slots)
    (hret : ∀ (v : Option Value) (w' : Wd), P (.inl v) w' → Go X g (kc + k) (ks + n) Q w' (pc + 3) lp (v.toList ++ st)) (hthr : ∀ (cn : String) (w' : Wd), P (.inr cn) w' → GoX X g (kc + k) (ks + n) Q w' pc lp cn) : Go X g kc ks Q w pc lp (.int a2 :: .ref a1 :: .ref a0 :: .ref (g.1 31) :: st) :=
  r_callv (av := [.ref a0, .ref a1, .int a2]) (nL' := 10) (q := 31) (ci := 2) (C := R_P) (Tc := T_P) (N := 6) hc hd hcon (t1_mem 162 rfl rfl) (t1_mem 164 rfl rfl) (t0_mem 4 rfl rfl) (t1_mem 165 rfl rfl) (by decide) (by decide +kernel) (show (parseMethodDescriptor yP_priceGames.desc).map (fun d => d.parameters.length) = some 3 by decide +kernel) (by decide) (ent_P g (w 31)) rfl hdd (by decide) (fun v hv => by simp only [List.mem_cons, List.not_mem_nil, or_false] at hv; rcases hv with rfl | rfl | rfl <;> rfl) (Nat.le_of_ble_eq_true rfl) hst hcells hslots hret hthr
theorem kP_37r {d' : Nat} {P : Option Value → Wd → Prop} {a0 : Nat} {a1 : Nat} {a2 : Int32} (hc : Ok X g cc "PairedField$Pairing" ret hx d) (hd : decode cc pc = .ok (.invokevirtual 37, 3)) (hcon : Con X.2.1 g yP_priceGames bP_priceGames 10 ((none : Option Jvm.ClassFile.FieldType)) [] d' 0 0 (.ref (g.1 31) :: [.ref a0, .ref a1, .int a2]) w (Rp P)) (hdd : d' + 1 ≤ d) (hst : (st.map fun v => v.category).sum ≤ 8) (hret : ∀ (v : Option Value) (w' : Wd), P v w' → Go X g 0 0 Q w' (pc + 3) lp (v.toList ++ st)) : Go X g 0 0 Q w pc lp (.int a2 :: .ref a1 :: .ref a0 :: .ref (g.1 31) :: st) :=
  kP_37 hc hd hcon hdd hst (Nat.zero_le _) (Nat.zero_le _) (fun v w' h => hret v w' (Rp_l h)) (fun cn w' h => absurd h Rp_r)
theorem kP_37t {d' : Nat} {cn : String} {P : Wd → Prop} {P2 : Rt → Wd → Prop} {a0 : Nat} {a1 : Nat} {a2 : Int32} (hc : Ok X g cc "PairedField$Pairing" ret [] d) (hd : decode cc pc = .ok (.invokevirtual 37, 3)) (hcon : Con X.2.1 g yP_priceGames bP_priceGames 10 ((none : Option Jvm.ClassFile.FieldType)) [] d' 1 6 (.ref (g.1 31) :: [.ref a0, .ref a1, .int a2]) w (Tp cn P)) (hdd : d' + 1 ≤ d) (hst : (st.map fun v => v.category).sum ≤ 8) (h1 : 1 ≤ X.2.2.2.1.cells) (h6 : 6 ≤ X.2.2.2.1.slots) (hP : ∀ w' : Wd, P w' → P2 (.inr cn) w') : Go X g 0 0 (Fen X g 1 6 P2) w pc lp (.int a2 :: .ref a1 :: .ref a0 :: .ref (g.1 31) :: st) :=
  kP_37 hc hd hcon hdd hst (by omega) (by omega) (fun v w' h => absurd h Tp_l) (fun cn2 w' h => by obtain ⟨rfl, h⟩ := h; exact x_out hc (hP w' h))
/-- PairedField$Pairing: a call of PairedField$Standing.costOfGame -/
theorem kP_104 {d' k n : Nat} {P : Rt → Wd → Prop} {a0 : Int32} {a1 : Int32} {a2 : Int32} (hc : Ok X g cc "PairedField$Pairing" ret hx d) (hd : decode cc pc = .ok (.invokevirtual 104, 3)) (hcon : Con X.2.1 g yS_costOfGame bS_costOfGame 6 ((some .int)) [] d' k n (.ref (g.1 20) :: [.int a0, .int a1, .int a2]) w P) (hdd : d' + 1 ≤ d) (hst : (st.map fun v => v.category).sum ≤ 8) (hcells : kc + k ≤ X.2.2.2.1.cells) (hslots : ks + n ≤ X.2.2.2.1.slots)
    (hret : ∀ (v : Option Value) (w' : Wd), P (.inl v) w' → Go X g (kc + k) (ks + n) Q w' (pc + 3) lp (v.toList ++ st)) (hthr : ∀ (cn : String) (w' : Wd), P (.inr cn) w' → GoX X g (kc + k) (ks + n) Q w' pc lp cn) : Go X g kc ks Q w pc lp (.int a2 :: .int a1 :: .int a0 :: .ref (g.1 20) :: st) :=
  r_callv (av := [.int a0, .int a1, .int a2]) (nL' := 6) (q := 20) (ci := 1) (C := R_S) (Tc := T_S) (N := 10) hc hd hcon (t1_mem 166 rfl rfl) (t1_mem 167 rfl rfl) (t1_mem 168 rfl rfl) (t1_mem 169 rfl rfl) (by decide) (by decide +kernel) (show (parseMethodDescriptor yS_costOfGame.desc).map (fun d => d.parameters.length) = some 3 by decide +kernel) (by decide) (ent_S g (w 20)) rfl hdd (by decide) (fun v hv => by simp only [List.mem_cons, List.not_mem_nil, or_false] at hv; rcases hv with rfl | rfl | rfl <;> rfl) (Nat.le_of_ble_eq_true rfl) hst hcells hslots hret hthr
theorem kP_104r {d' : Nat} {P : Option Value → Wd → Prop} {a0 : Int32} {a1 : Int32} {a2 : Int32} (hc : Ok X g cc "PairedField$Pairing" ret hx d) (hd : decode cc pc = .ok (.invokevirtual 104, 3)) (hcon : Con X.2.1 g yS_costOfGame bS_costOfGame 6 ((some .int)) [] d' 0 0 (.ref (g.1 20) :: [.int a0, .int a1, .int a2]) w (Rp P)) (hdd : d' + 1 ≤ d) (hst : (st.map fun v => v.category).sum ≤ 8) (hret : ∀ (v : Option Value) (w' : Wd), P v w' → Go X g 0 0 Q w' (pc + 3) lp (v.toList ++ st)) : Go X g 0 0 Q w pc lp (.int a2 :: .int a1 :: .int a0 :: .ref (g.1 20) :: st) :=
  kP_104 hc hd hcon hdd hst (Nat.zero_le _) (Nat.zero_le _) (fun v w' h => hret v w' (Rp_l h)) (fun cn w' h => absurd h Rp_r)
theorem kP_104t {d' : Nat} {cn : String} {P : Wd → Prop} {P2 : Rt → Wd → Prop} {a0 : Int32} {a1 : Int32} {a2 : Int32} (hc : Ok X g cc "PairedField$Pairing" ret [] d) (hd : decode cc pc = .ok (.invokevirtual 104, 3)) (hcon : Con X.2.1 g yS_costOfGame bS_costOfGame 6 ((some .int)) [] d' 1 6 (.ref (g.1 20) :: [.int a0, .int a1, .int a2]) w (Tp cn P)) (hdd : d' + 1 ≤ d) (hst : (st.map fun v => v.category).sum ≤ 8) (h1 : 1 ≤ X.2.2.2.1.cells) (h6 : 6 ≤ X.2.2.2.1.slots) (hP : ∀ w' : Wd, P w' → P2 (.inr cn) w') : Go X g 0 0 (Fen X g 1 6 P2) w pc lp (.int a2 :: .int a1 :: .int a0 :: .ref (g.1 20) :: st) :=
  kP_104 hc hd hcon hdd hst (by omega) (by omega) (fun v w' h => absurd h Tp_l) (fun cn2 w' h => by obtain ⟨rfl, h⟩ := h; exact x_out hc (hP w' h))
/-- PairedField$Standing: a call of PairedField$Standing.colourOfFirst -/
theorem kS_78 {d' k n : Nat} {P : Rt → Wd → Prop} {a0 : Int32} {a1 : Int32} {a2 : Int32} (hc : Ok X g cc "PairedField$Standing" ret hx d) (hd : decode cc pc = .ok (.invokevirtual 78, 3)) (hcon : Con X.2.1 g yS_colourOfFirst bS_colourOfFirst 4 ((some .int)) [] d' k n (.ref (g.1 20) :: [.int a0, .int a1, .int a2]) w P) (hdd : d' + 1 ≤ d) (hst : (st.map fun v => v.category).sum ≤ 8) (hcells : kc + k ≤ X.2.2.2.1.cells) (hslots : ks + n ≤ X.2.2.2.1.slots)
    (hret : ∀ (v : Option Value) (w' : Wd), P (.inl v) w' → Go X g (kc + k) (ks + n) Q w' (pc + 3) lp (v.toList ++ st)) (hthr : ∀ (cn : String) (w' : Wd), P (.inr cn) w' → GoX X g (kc + k) (ks + n) Q w' pc lp cn) : Go X g kc ks Q w pc lp (.int a2 :: .int a1 :: .int a0 :: .ref (g.1 20) :: st) :=
  r_callv (av := [.int a0, .int a1, .int a2]) (nL' := 4) (q := 20) (ci := 1) (C := R_S) (Tc := T_S) (N := 10) hc hd hcon (t1_mem 170 rfl rfl) (t1_mem 171 rfl rfl) (t1_mem 172 rfl rfl) (t1_mem 173 rfl rfl) (by decide) (by decide +kernel) (show (parseMethodDescriptor yS_colourOfFirst.desc).map (fun d => d.parameters.length) = some 3 by decide +kernel) (by decide) (ent_S g (w 20)) rfl hdd (by decide) (fun v hv => by simp only [List.mem_cons, List.not_mem_nil, or_false] at hv; rcases hv with rfl | rfl | rfl <;> rfl) (Nat.le_of_ble_eq_true rfl) hst hcells hslots hret hthr
theorem kS_78r {d' : Nat} {P : Option Value → Wd → Prop} {a0 : Int32} {a1 : Int32} {a2 : Int32} (hc : Ok X g cc "PairedField$Standing" ret hx d) (hd : decode cc pc = .ok (.invokevirtual 78, 3)) (hcon : Con X.2.1 g yS_colourOfFirst bS_colourOfFirst 4 ((some .int)) [] d' 0 0 (.ref (g.1 20) :: [.int a0, .int a1, .int a2]) w (Rp P)) (hdd : d' + 1 ≤ d) (hst : (st.map fun v => v.category).sum ≤ 8) (hret : ∀ (v : Option Value) (w' : Wd), P v w' → Go X g 0 0 Q w' (pc + 3) lp (v.toList ++ st)) : Go X g 0 0 Q w pc lp (.int a2 :: .int a1 :: .int a0 :: .ref (g.1 20) :: st) :=
  kS_78 hc hd hcon hdd hst (Nat.zero_le _) (Nat.zero_le _) (fun v w' h => hret v w' (Rp_l h)) (fun cn w' h => absurd h Rp_r)
theorem kS_78t {d' : Nat} {cn : String} {P : Wd → Prop} {P2 : Rt → Wd → Prop} {a0 : Int32} {a1 : Int32} {a2 : Int32} (hc : Ok X g cc "PairedField$Standing" ret [] d) (hd : decode cc pc = .ok (.invokevirtual 78, 3)) (hcon : Con X.2.1 g yS_colourOfFirst bS_colourOfFirst 4 ((some .int)) [] d' 1 6 (.ref (g.1 20) :: [.int a0, .int a1, .int a2]) w (Tp cn P)) (hdd : d' + 1 ≤ d) (hst : (st.map fun v => v.category).sum ≤ 8) (h1 : 1 ≤ X.2.2.2.1.cells) (h6 : 6 ≤ X.2.2.2.1.slots) (hP : ∀ w' : Wd, P w' → P2 (.inr cn) w') : Go X g 0 0 (Fen X g 1 6 P2) w pc lp (.int a2 :: .int a1 :: .int a0 :: .ref (g.1 20) :: st) :=
  kS_78 hc hd hcon hdd hst (by omega) (by omega) (fun v w' h => absurd h Tp_l) (fun cn2 w' h => by obtain ⟨rfl, h⟩ := h; exact x_out hc (hP w' h))
/-- PairedField$Standing: a call of PairedField$Standing.clashes -/
theorem kS_82 {d' k n : Nat} {P : Rt → Wd → Prop} {a0 : Int32} {a1 : Int32} (hc : Ok X g cc "PairedField$Standing" ret hx d) (hd : decode cc pc = .ok (.invokevirtual 82, 3)) (hcon : Con X.2.1 g yS_clashes bS_clashes 5 ((some .int)) [] d' k n (.ref (g.1 20) :: [.int a0, .int a1]) w P) (hdd : d' + 1 ≤ d) (hst : (st.map fun v => v.category).sum ≤ 8) (hcells : kc + k ≤ X.2.2.2.1.cells) (hslots : ks + n ≤ X.2.2.2.1.slots)
    (hret : ∀ (v : Option Value) (w' : Wd), P (.inl v) w' → Go X g (kc + k) (ks + n) Q w' (pc + 3) lp (v.toList ++ st)) (hthr : ∀ (cn : String) (w' : Wd), P (.inr cn) w' → GoX X g (kc + k) (ks + n) Q w' pc lp cn) : Go X g kc ks Q w pc lp (.int a1 :: .int a0 :: .ref (g.1 20) :: st) :=
  r_callv (av := [.int a0, .int a1]) (nL' := 5) (q := 20) (ci := 1) (C := R_S) (Tc := T_S) (N := 10) hc hd hcon (t1_mem 174 rfl rfl) (t1_mem 176 rfl rfl) (t0_mem 5 rfl rfl) (t1_mem 177 rfl rfl) (by decide) (by decide +kernel) (show (parseMethodDescriptor yS_clashes.desc).map (fun d => d.parameters.length) = some 2 by decide +kernel) (by decide) (ent_S g (w 20)) rfl hdd (by decide) (fun v hv => by simp only [List.mem_cons, List.not_mem_nil, or_false] at hv; rcases hv with rfl | rfl <;> rfl) (Nat.le_of_ble_eq_true rfl) hst hcells hslots hret hthr
theorem kS_82r {d' : Nat} {P : Option Value → Wd → Prop} {a0 : Int32} {a1 : Int32} (hc : Ok X g cc "PairedField$Standing" ret hx d) (hd : decode cc pc = .ok (.invokevirtual 82, 3)) (hcon : Con X.2.1 g yS_clashes bS_clashes 5 ((some .int)) [] d' 0 0 (.ref (g.1 20) :: [.int a0, .int a1]) w (Rp P)) (hdd : d' + 1 ≤ d) (hst : (st.map fun v => v.category).sum ≤ 8) (hret : ∀ (v : Option Value) (w' : Wd), P v w' → Go X g 0 0 Q w' (pc + 3) lp (v.toList ++ st)) : Go X g 0 0 Q w pc lp (.int a1 :: .int a0 :: .ref (g.1 20) :: st) :=
  kS_82 hc hd hcon hdd hst (Nat.zero_le _) (Nat.zero_le _) (fun v w' h => hret v w' (Rp_l h)) (fun cn w' h => absurd h Rp_r)
theorem kS_82t {d' : Nat} {cn : String} {P : Wd → Prop} {P2 : Rt → Wd → Prop} {a0 : Int32} {a1 : Int32} (hc : Ok X g cc "PairedField$Standing" ret [] d) (hd : decode cc pc = .ok (.invokevirtual 82, 3)) (hcon : Con X.2.1 g yS_clashes bS_clashes 5 ((some .int)) [] d' 1 6 (.ref (g.1 20) :: [.int a0, .int a1]) w (Tp cn P)) (hdd : d' + 1 ≤ d) (hst : (st.map fun v => v.category).sum ≤ 8) (h1 : 1 ≤ X.2.2.2.1.cells) (h6 : 6 ≤ X.2.2.2.1.slots) (hP : ∀ w' : Wd, P w' → P2 (.inr cn) w') : Go X g 0 0 (Fen X g 1 6 P2) w pc lp (.int a1 :: .int a0 :: .ref (g.1 20) :: st) :=
  kS_82 hc hd hcon hdd hst (by omega) (by omega) (fun v w' h => absurd h Tp_l) (fun cn2 w' h => by obtain ⟨rfl, h⟩ := h; exact x_out hc (hP w' h))
/-- PairedField$Pairing: a call of PairedField$Pairing.solve -/
theorem kP_41 {d' k n : Nat} {P : Rt → Wd → Prop} (hc : Ok X g cc "PairedField$Pairing" ret hx d) (hd : decode cc pc = .ok (.invokevirtual 41, 3)) (hcon : Con X.2.1 g yP_solve bP_solve 4 ((none : Option Jvm.ClassFile.FieldType)) [] d' k n (.ref (g.1 31) :: []) w P) (hdd : d' + 1 ≤ d) (hst : (st.map fun v => v.category).sum ≤ 8) (hcells : kc + k ≤ X.2.2.2.1.cells) (hslots : ks + n ≤ X.2.2.2.1.slots)
    (hret : ∀ (v : Option Value) (w' : Wd), P (.inl v) w' → Go X g (kc + k) (ks + n) Q w' (pc + 3) lp (v.toList ++ st)) (hthr : ∀ (cn : String) (w' : Wd), P (.inr cn) w' → GoX X g (kc + k) (ks + n) Q w' pc lp cn) : Go X g kc ks Q w pc lp (.ref (g.1 31) :: st) :=
  r_callv (av := []) (nL' := 4) (q := 31) (ci := 2) (C := R_P) (Tc := T_P) (N := 6) hc hd hcon (t1_mem 178 rfl rfl) (t1_mem 180 rfl rfl) (t0_mem 6 rfl rfl) (t1_mem 181 rfl rfl) (by decide) (by decide +kernel) (show (parseMethodDescriptor yP_solve.desc).map (fun d => d.parameters.length) = some 0 by decide +kernel) (by decide) (ent_P g (w 31)) rfl hdd (by decide) (fun v hv => by cases hv) (Nat.le_of_ble_eq_true rfl) hst hcells hslots hret hthr
theorem kP_41r {d' : Nat} {P : Option Value → Wd → Prop} (hc : Ok X g cc "PairedField$Pairing" ret hx d) (hd : decode cc pc = .ok (.invokevirtual 41, 3)) (hcon : Con X.2.1 g yP_solve bP_solve 4 ((none : Option Jvm.ClassFile.FieldType)) [] d' 0 0 (.ref (g.1 31) :: []) w (Rp P)) (hdd : d' + 1 ≤ d) (hst : (st.map fun v => v.category).sum ≤ 8) (hret : ∀ (v : Option Value) (w' : Wd), P v w' → Go X g 0 0 Q w' (pc + 3) lp (v.toList ++ st)) : Go X g 0 0 Q w pc lp (.ref (g.1 31) :: st) :=
  kP_41 hc hd hcon hdd hst (Nat.zero_le _) (Nat.zero_le _) (fun v w' h => hret v w' (Rp_l h)) (fun cn w' h => absurd h Rp_r)
theorem kP_41t {d' : Nat} {cn : String} {P : Wd → Prop} {P2 : Rt → Wd → Prop} (hc : Ok X g cc "PairedField$Pairing" ret [] d) (hd : decode cc pc = .ok (.invokevirtual 41, 3)) (hcon : Con X.2.1 g yP_solve bP_solve 4 ((none : Option Jvm.ClassFile.FieldType)) [] d' 1 6 (.ref (g.1 31) :: []) w (Tp cn P)) (hdd : d' + 1 ≤ d) (hst : (st.map fun v => v.category).sum ≤ 8) (h1 : 1 ≤ X.2.2.2.1.cells) (h6 : 6 ≤ X.2.2.2.1.slots) (hP : ∀ w' : Wd, P w' → P2 (.inr cn) w') : Go X g 0 0 (Fen X g 1 6 P2) w pc lp (.ref (g.1 31) :: st) :=
  kP_41 hc hd hcon hdd hst (by omega) (by omega) (fun v w' h => absurd h Tp_l) (fun cn2 w' h => by obtain ⟨rfl, h⟩ := h; exact x_out hc (hP w' h))
/-- PairedField$Pairing: a call of PairedField$Pairing.evenSet -/
theorem kP_107 {d' k n : Nat} {P : Rt → Wd → Prop} {a0 : Int32} (hc : Ok X g cc "PairedField$Pairing" ret hx d) (hd : decode cc pc = .ok (.invokestatic 107, 3)) (hcon : Con X.2.1 g yP_evenSet bP_evenSet 1 ((some .int)) [] d' k n [.int a0] w P) (hdd : d' + 1 ≤ d) (hst : (st.map fun v => v.category).sum ≤ 8) (hcells : kc + k ≤ X.2.2.2.1.cells) (hslots : ks + n ≤ X.2.2.2.1.slots)
    (hret : ∀ (v : Option Value) (w' : Wd), P (.inl v) w' → Go X g (kc + k) (ks + n) Q w' (pc + 3) lp (v.toList ++ st)) (hthr : ∀ (cn : String) (w' : Wd), P (.inr cn) w' → GoX X g (kc + k) (ks + n) Q w' pc lp cn) : Go X g kc ks Q w pc lp (.int a0 :: st) :=
  r_calls (av := [.int a0]) (nL' := 1) hc hd hcon (t1_mem 182 rfl rfl) (t1_mem 183 rfl rfl) (t1_mem 3 rfl rfl) (t1_mem 184 rfl rfl) (by decide) (by decide +kernel) (show (parseMethodDescriptor yP_evenSet.desc).map (fun d => d.parameters.length) = some 1 by decide +kernel) hdd (by decide) (fun v hv => by simp only [List.mem_cons, List.not_mem_nil, or_false] at hv; rcases hv with rfl <;> rfl) (Nat.le_of_ble_eq_true rfl) hst hcells hslots hret hthr
theorem kP_107r {d' : Nat} {P : Option Value → Wd → Prop} {a0 : Int32} (hc : Ok X g cc "PairedField$Pairing" ret hx d) (hd : decode cc pc = .ok (.invokestatic 107, 3)) (hcon : Con X.2.1 g yP_evenSet bP_evenSet 1 ((some .int)) [] d' 0 0 [.int a0] w (Rp P)) (hdd : d' + 1 ≤ d) (hst : (st.map fun v => v.category).sum ≤ 8) (hret : ∀ (v : Option Value) (w' : Wd), P v w' → Go X g 0 0 Q w' (pc + 3) lp (v.toList ++ st)) : Go X g 0 0 Q w pc lp (.int a0 :: st) :=
  kP_107 hc hd hcon hdd hst (Nat.zero_le _) (Nat.zero_le _) (fun v w' h => hret v w' (Rp_l h)) (fun cn w' h => absurd h Rp_r)
theorem kP_107t {d' : Nat} {cn : String} {P : Wd → Prop} {P2 : Rt → Wd → Prop} {a0 : Int32} (hc : Ok X g cc "PairedField$Pairing" ret [] d) (hd : decode cc pc = .ok (.invokestatic 107, 3)) (hcon : Con X.2.1 g yP_evenSet bP_evenSet 1 ((some .int)) [] d' 1 6 [.int a0] w (Tp cn P)) (hdd : d' + 1 ≤ d) (hst : (st.map fun v => v.category).sum ≤ 8) (h1 : 1 ≤ X.2.2.2.1.cells) (h6 : 6 ≤ X.2.2.2.1.slots) (hP : ∀ w' : Wd, P w' → P2 (.inr cn) w') : Go X g 0 0 (Fen X g 1 6 P2) w pc lp (.int a0 :: st) :=
  kP_107 hc hd hcon hdd hst (by omega) (by omega) (fun v w' h => absurd h Tp_l) (fun cn2 w' h => by obtain ⟨rfl, h⟩ := h; exact x_out hc (hP w' h))
/-- PairedField$Pairing: a call of java/lang/Integer.bitCount -/
theorem kP_127 {d' k n : Nat} {P : Rt → Wd → Prop} {a0 : Int32} (hc : Ok X g cc "PairedField$Pairing" ret hx d) (hd : decode cc pc = .ok (.invokestatic 127, 3)) (hcon : Con X.2.1 g yI_bitCount bI_bitCount 1 ((some .int)) [] d' k n [.int a0] w P) (hdd : d' + 1 ≤ d) (hst : (st.map fun v => v.category).sum ≤ 8) (hcells : kc + k ≤ X.2.2.2.1.cells) (hslots : ks + n ≤ X.2.2.2.1.slots)
    (hret : ∀ (v : Option Value) (w' : Wd), P (.inl v) w' → Go X g (kc + k) (ks + n) Q w' (pc + 3) lp (v.toList ++ st)) (hthr : ∀ (cn : String) (w' : Wd), P (.inr cn) w' → GoX X g (kc + k) (ks + n) Q w' pc lp cn) : Go X g kc ks Q w pc lp (.int a0 :: st) :=
  r_calls (av := [.int a0]) (nL' := 1) hc hd hcon (t1_mem 185 rfl rfl) (t1_mem 186 rfl rfl) (t1_mem 13 rfl rfl) (t1_mem 187 rfl rfl) (by decide) (by decide +kernel) (show (parseMethodDescriptor yI_bitCount.desc).map (fun d => d.parameters.length) = some 1 by decide +kernel) hdd (by decide) (fun v hv => by simp only [List.mem_cons, List.not_mem_nil, or_false] at hv; rcases hv with rfl <;> rfl) (Nat.le_of_ble_eq_true rfl) hst hcells hslots hret hthr
theorem kP_127r {d' : Nat} {P : Option Value → Wd → Prop} {a0 : Int32} (hc : Ok X g cc "PairedField$Pairing" ret hx d) (hd : decode cc pc = .ok (.invokestatic 127, 3)) (hcon : Con X.2.1 g yI_bitCount bI_bitCount 1 ((some .int)) [] d' 0 0 [.int a0] w (Rp P)) (hdd : d' + 1 ≤ d) (hst : (st.map fun v => v.category).sum ≤ 8) (hret : ∀ (v : Option Value) (w' : Wd), P v w' → Go X g 0 0 Q w' (pc + 3) lp (v.toList ++ st)) : Go X g 0 0 Q w pc lp (.int a0 :: st) :=
  kP_127 hc hd hcon hdd hst (Nat.zero_le _) (Nat.zero_le _) (fun v w' h => hret v w' (Rp_l h)) (fun cn w' h => absurd h Rp_r)
theorem kP_127t {d' : Nat} {cn : String} {P : Wd → Prop} {P2 : Rt → Wd → Prop} {a0 : Int32} (hc : Ok X g cc "PairedField$Pairing" ret [] d) (hd : decode cc pc = .ok (.invokestatic 127, 3)) (hcon : Con X.2.1 g yI_bitCount bI_bitCount 1 ((some .int)) [] d' 1 6 [.int a0] w (Tp cn P)) (hdd : d' + 1 ≤ d) (hst : (st.map fun v => v.category).sum ≤ 8) (h1 : 1 ≤ X.2.2.2.1.cells) (h6 : 6 ≤ X.2.2.2.1.slots) (hP : ∀ w' : Wd, P w' → P2 (.inr cn) w') : Go X g 0 0 (Fen X g 1 6 P2) w pc lp (.int a0 :: st) :=
  kP_127 hc hd hcon hdd hst (by omega) (by omega) (fun v w' h => absurd h Tp_l) (fun cn2 w' h => by obtain ⟨rfl, h⟩ := h; exact x_out hc (hP w' h))
/-- PairedField$Pairing: a call of PairedField$Pairing.canBeLeft -/
theorem kP_110 {d' k n : Nat} {P : Rt → Wd → Prop} {a0 : Int32} (hc : Ok X g cc "PairedField$Pairing" ret hx d) (hd : decode cc pc = .ok (.invokevirtual 110, 3)) (hcon : Con X.2.1 g yP_canBeLeft bP_canBeLeft 3 ((some .boolean)) [] d' k n (.ref (g.1 31) :: [.int a0]) w P) (hdd : d' + 1 ≤ d) (hst : (st.map fun v => v.category).sum ≤ 8) (hcells : kc + k ≤ X.2.2.2.1.cells) (hslots : ks + n ≤ X.2.2.2.1.slots)
    (hret : ∀ (v : Option Value) (w' : Wd), P (.inl v) w' → Go X g (kc + k) (ks + n) Q w' (pc + 3) lp (v.toList ++ st)) (hthr : ∀ (cn : String) (w' : Wd), P (.inr cn) w' → GoX X g (kc + k) (ks + n) Q w' pc lp cn) : Go X g kc ks Q w pc lp (.int a0 :: .ref (g.1 31) :: st) :=
  r_callv (av := [.int a0]) (nL' := 3) (q := 31) (ci := 2) (C := R_P) (Tc := T_P) (N := 6) hc hd hcon (t1_mem 191 rfl rfl) (t1_mem 193 rfl rfl) (t0_mem 7 rfl rfl) (t1_mem 194 rfl rfl) (by decide) (by decide +kernel) (show (parseMethodDescriptor yP_canBeLeft.desc).map (fun d => d.parameters.length) = some 1 by decide +kernel) (by decide) (ent_P g (w 31)) rfl hdd (by decide) (fun v hv => by simp only [List.mem_cons, List.not_mem_nil, or_false] at hv; rcases hv with rfl <;> rfl) (Nat.le_of_ble_eq_true rfl) hst hcells hslots hret hthr
theorem kP_110r {d' : Nat} {P : Option Value → Wd → Prop} {a0 : Int32} (hc : Ok X g cc "PairedField$Pairing" ret hx d) (hd : decode cc pc = .ok (.invokevirtual 110, 3)) (hcon : Con X.2.1 g yP_canBeLeft bP_canBeLeft 3 ((some .boolean)) [] d' 0 0 (.ref (g.1 31) :: [.int a0]) w (Rp P)) (hdd : d' + 1 ≤ d) (hst : (st.map fun v => v.category).sum ≤ 8) (hret : ∀ (v : Option Value) (w' : Wd), P v w' → Go X g 0 0 Q w' (pc + 3) lp (v.toList ++ st)) : Go X g 0 0 Q w pc lp (.int a0 :: .ref (g.1 31) :: st) :=
  kP_110 hc hd hcon hdd hst (Nat.zero_le _) (Nat.zero_le _) (fun v w' h => hret v w' (Rp_l h)) (fun cn w' h => absurd h Rp_r)
theorem kP_110t {d' : Nat} {cn : String} {P : Wd → Prop} {P2 : Rt → Wd → Prop} {a0 : Int32} (hc : Ok X g cc "PairedField$Pairing" ret [] d) (hd : decode cc pc = .ok (.invokevirtual 110, 3)) (hcon : Con X.2.1 g yP_canBeLeft bP_canBeLeft 3 ((some .boolean)) [] d' 1 6 (.ref (g.1 31) :: [.int a0]) w (Tp cn P)) (hdd : d' + 1 ≤ d) (hst : (st.map fun v => v.category).sum ≤ 8) (h1 : 1 ≤ X.2.2.2.1.cells) (h6 : 6 ≤ X.2.2.2.1.slots) (hP : ∀ w' : Wd, P w' → P2 (.inr cn) w') : Go X g 0 0 (Fen X g 1 6 P2) w pc lp (.int a0 :: .ref (g.1 31) :: st) :=
  kP_110 hc hd hcon hdd hst (by omega) (by omega) (fun v w' h => absurd h Tp_l) (fun cn2 w' h => by obtain ⟨rfl, h⟩ := h; exact x_out hc (hP w' h))
/-- PairedField$Pairing: a call of java/lang/Integer.numberOfTrailingZeros -/
theorem kP_69 {d' k n : Nat} {P : Rt → Wd → Prop} {a0 : Int32} (hc : Ok X g cc "PairedField$Pairing" ret hx d) (hd : decode cc pc = .ok (.invokestatic 69, 3)) (hcon : Con X.2.1 g yI_numberOfTrailingZeros bI_numberOfTrailingZeros 2 ((some .int)) [] d' k n [.int a0] w P) (hdd : d' + 1 ≤ d) (hst : (st.map fun v => v.category).sum ≤ 8) (hcells : kc + k ≤ X.2.2.2.1.cells) (hslots : ks + n ≤ X.2.2.2.1.slots)
    (hret : ∀ (v : Option Value) (w' : Wd), P (.inl v) w' → Go X g (kc + k) (ks + n) Q w' (pc + 3) lp (v.toList ++ st)) (hthr : ∀ (cn : String) (w' : Wd), P (.inr cn) w' → GoX X g (kc + k) (ks + n) Q w' pc lp cn) : Go X g kc ks Q w pc lp (.int a0 :: st) :=
  r_calls (av := [.int a0]) (nL' := 2) hc hd hcon (t1_mem 195 rfl rfl) (t1_mem 196 rfl rfl) (t1_mem 13 rfl rfl) (t1_mem 197 rfl rfl) (by decide) (by decide +kernel) (show (parseMethodDescriptor yI_numberOfTrailingZeros.desc).map (fun d => d.parameters.length) = some 1 by decide +kernel) hdd (by decide) (fun v hv => by simp only [List.mem_cons, List.not_mem_nil, or_false] at hv; rcases hv with rfl <;> rfl) (Nat.le_of_ble_eq_true rfl) hst hcells hslots hret hthr
theorem kP_69r {d' : Nat} {P : Option Value → Wd → Prop} {a0 : Int32} (hc : Ok X g cc "PairedField$Pairing" ret hx d) (hd : decode cc pc = .ok (.invokestatic 69, 3)) (hcon : Con X.2.1 g yI_numberOfTrailingZeros bI_numberOfTrailingZeros 2 ((some .int)) [] d' 0 0 [.int a0] w (Rp P)) (hdd : d' + 1 ≤ d) (hst : (st.map fun v => v.category).sum ≤ 8) (hret : ∀ (v : Option Value) (w' : Wd), P v w' → Go X g 0 0 Q w' (pc + 3) lp (v.toList ++ st)) : Go X g 0 0 Q w pc lp (.int a0 :: st) :=
  kP_69 hc hd hcon hdd hst (Nat.zero_le _) (Nat.zero_le _) (fun v w' h => hret v w' (Rp_l h)) (fun cn w' h => absurd h Rp_r)
theorem kP_69t {d' : Nat} {cn : String} {P : Wd → Prop} {P2 : Rt → Wd → Prop} {a0 : Int32} (hc : Ok X g cc "PairedField$Pairing" ret [] d) (hd : decode cc pc = .ok (.invokestatic 69, 3)) (hcon : Con X.2.1 g yI_numberOfTrailingZeros bI_numberOfTrailingZeros 2 ((some .int)) [] d' 1 6 [.int a0] w (Tp cn P)) (hdd : d' + 1 ≤ d) (hst : (st.map fun v => v.category).sum ≤ 8) (h1 : 1 ≤ X.2.2.2.1.cells) (h6 : 6 ≤ X.2.2.2.1.slots) (hP : ∀ w' : Wd, P w' → P2 (.inr cn) w') : Go X g 0 0 (Fen X g 1 6 P2) w pc lp (.int a0 :: st) :=
  kP_69 hc hd hcon hdd hst (by omega) (by omega) (fun v w' h => absurd h Tp_l) (fun cn2 w' h => by obtain ⟨rfl, h⟩ := h; exact x_out hc (hP w' h))
/-- PairedField$Pairing: a call of PairedField$Pairing.solveSet -/
theorem kP_114 {d' k n : Nat} {P : Rt → Wd → Prop} {a0 : Int32} (hc : Ok X g cc "PairedField$Pairing" ret hx d) (hd : decode cc pc = .ok (.invokevirtual 114, 3)) (hcon : Con X.2.1 g yP_solveSet bP_solveSet 8 ((none : Option Jvm.ClassFile.FieldType)) [] d' k n (.ref (g.1 31) :: [.int a0]) w P) (hdd : d' + 1 ≤ d) (hst : (st.map fun v => v.category).sum ≤ 8) (hcells : kc + k ≤ X.2.2.2.1.cells) (hslots : ks + n ≤ X.2.2.2.1.slots)
    (hret : ∀ (v : Option Value) (w' : Wd), P (.inl v) w' → Go X g (kc + k) (ks + n) Q w' (pc + 3) lp (v.toList ++ st)) (hthr : ∀ (cn : String) (w' : Wd), P (.inr cn) w' → GoX X g (kc + k) (ks + n) Q w' pc lp cn) : Go X g kc ks Q w pc lp (.int a0 :: .ref (g.1 31) :: st) :=
  r_callv (av := [.int a0]) (nL' := 8) (q := 31) (ci := 2) (C := R_P) (Tc := T_P) (N := 6) hc hd hcon (t1_mem 199 rfl rfl) (t1_mem 201 rfl rfl) (t0_mem 8 rfl rfl) (t1_mem 202 rfl rfl) (by decide) (by decide +kernel) (show (parseMethodDescriptor yP_solveSet.desc).map (fun d => d.parameters.length) = some 1 by decide +kernel) (by decide) (ent_P g (w 31)) rfl hdd (by decide) (fun v hv => by simp only [List.mem_cons, List.not_mem_nil, or_false] at hv; rcases hv with rfl <;> rfl) (Nat.le_of_ble_eq_true rfl) hst hcells hslots hret hthr
theorem kP_114r {d' : Nat} {P : Option Value → Wd → Prop} {a0 : Int32} (hc : Ok X g cc "PairedField$Pairing" ret hx d) (hd : decode cc pc = .ok (.invokevirtual 114, 3)) (hcon : Con X.2.1 g yP_solveSet bP_solveSet 8 ((none : Option Jvm.ClassFile.FieldType)) [] d' 0 0 (.ref (g.1 31) :: [.int a0]) w (Rp P)) (hdd : d' + 1 ≤ d) (hst : (st.map fun v => v.category).sum ≤ 8) (hret : ∀ (v : Option Value) (w' : Wd), P v w' → Go X g 0 0 Q w' (pc + 3) lp (v.toList ++ st)) : Go X g 0 0 Q w pc lp (.int a0 :: .ref (g.1 31) :: st) :=
  kP_114 hc hd hcon hdd hst (Nat.zero_le _) (Nat.zero_le _) (fun v w' h => hret v w' (Rp_l h)) (fun cn w' h => absurd h Rp_r)
theorem kP_114t {d' : Nat} {cn : String} {P : Wd → Prop} {P2 : Rt → Wd → Prop} {a0 : Int32} (hc : Ok X g cc "PairedField$Pairing" ret [] d) (hd : decode cc pc = .ok (.invokevirtual 114, 3)) (hcon : Con X.2.1 g yP_solveSet bP_solveSet 8 ((none : Option Jvm.ClassFile.FieldType)) [] d' 1 6 (.ref (g.1 31) :: [.int a0]) w (Tp cn P)) (hdd : d' + 1 ≤ d) (hst : (st.map fun v => v.category).sum ≤ 8) (h1 : 1 ≤ X.2.2.2.1.cells) (h6 : 6 ≤ X.2.2.2.1.slots) (hP : ∀ w' : Wd, P w' → P2 (.inr cn) w') : Go X g 0 0 (Fen X g 1 6 P2) w pc lp (.int a0 :: .ref (g.1 31) :: st) :=
  kP_114 hc hd hcon hdd hst (by omega) (by omega) (fun v w' h => absurd h Tp_l) (fun cn2 w' h => by obtain ⟨rfl, h⟩ := h; exact x_out hc (hP w' h))
/-- PairedField$Pairing: a call of PairedField$Pairing.without -/
theorem kP_87 {d' k n : Nat} {P : Rt → Wd → Prop} {a0 : Int32} {a1 : Int32} {a2 : Int32} (hc : Ok X g cc "PairedField$Pairing" ret hx d) (hd : decode cc pc = .ok (.invokestatic 87, 3)) (hcon : Con X.2.1 g yP_without bP_without 3 ((some .int)) [] d' k n [.int a0, .int a1, .int a2] w P) (hdd : d' + 1 ≤ d) (hst : (st.map fun v => v.category).sum ≤ 8) (hcells : kc + k ≤ X.2.2.2.1.cells) (hslots : ks + n ≤ X.2.2.2.1.slots)
    (hret : ∀ (v : Option Value) (w' : Wd), P (.inl v) w' → Go X g (kc + k) (ks + n) Q w' (pc + 3) lp (v.toList ++ st)) (hthr : ∀ (cn : String) (w' : Wd), P (.inr cn) w' → GoX X g (kc + k) (ks + n) Q w' pc lp cn) : Go X g kc ks Q w pc lp (.int a2 :: .int a1 :: .int a0 :: st) :=
  r_calls (av := [.int a0, .int a1, .int a2]) (nL' := 3) hc hd hcon (t1_mem 203 rfl rfl) (t1_mem 204 rfl rfl) (t1_mem 3 rfl rfl) (t1_mem 205 rfl rfl) (by decide) (by decide +kernel) (show (parseMethodDescriptor yP_without.desc).map (fun d => d.parameters.length) = some 3 by decide +kernel) hdd (by decide) (fun v hv => by simp only [List.mem_cons, List.not_mem_nil, or_false] at hv; rcases hv with rfl | rfl | rfl <;> rfl) (Nat.le_of_ble_eq_true rfl) hst hcells hslots hret hthr
theorem kP_87r {d' : Nat} {P : Option Value → Wd → Prop} {a0 : Int32} {a1 : Int32} {a2 : Int32} (hc : Ok X g cc "PairedField$Pairing" ret hx d) (hd : decode cc pc = .ok (.invokestatic 87, 3)) (hcon : Con X.2.1 g yP_without bP_without 3 ((some .int)) [] d' 0 0 [.int a0, .int a1, .int a2] w (Rp P)) (hdd : d' + 1 ≤ d) (hst : (st.map fun v => v.category).sum ≤ 8) (hret : ∀ (v : Option Value) (w' : Wd), P v w' → Go X g 0 0 Q w' (pc + 3) lp (v.toList ++ st)) : Go X g 0 0 Q w pc lp (.int a2 :: .int a1 :: .int a0 :: st) :=
  kP_87 hc hd hcon hdd hst (Nat.zero_le _) (Nat.zero_le _) (fun v w' h => hret v w' (Rp_l h)) (fun cn w' h => absurd h Rp_r)
theorem kP_87t {d' : Nat} {cn : String} {P : Wd → Prop} {P2 : Rt → Wd → Prop} {a0 : Int32} {a1 : Int32} {a2 : Int32} (hc : Ok X g cc "PairedField$Pairing" ret [] d) (hd : decode cc pc = .ok (.invokestatic 87, 3)) (hcon : Con X.2.1 g yP_without bP_without 3 ((some .int)) [] d' 1 6 [.int a0, .int a1, .int a2] w (Tp cn P)) (hdd : d' + 1 ≤ d) (hst : (st.map fun v => v.category).sum ≤ 8) (h1 : 1 ≤ X.2.2.2.1.cells) (h6 : 6 ≤ X.2.2.2.1.slots) (hP : ∀ w' : Wd, P w' → P2 (.inr cn) w') : Go X g 0 0 (Fen X g 1 6 P2) w pc lp (.int a2 :: .int a1 :: .int a0 :: st) :=
  kP_87 hc hd hcon hdd hst (by omega) (by omega) (fun v w' h => absurd h Tp_l) (fun cn2 w' h => by obtain ⟨rfl, h⟩ := h; exact x_out hc (hP w' h))
/-- PairedField$Pairing: a call of PairedField$Pairing.indexOf -/
theorem kP_54 {d' k n : Nat} {P : Rt → Wd → Prop} {a0 : Int32} (hc : Ok X g cc "PairedField$Pairing" ret hx d) (hd : decode cc pc = .ok (.invokestatic 54, 3)) (hcon : Con X.2.1 g yP_indexOf bP_indexOf 1 ((some .int)) [] d' k n [.int a0] w P) (hdd : d' + 1 ≤ d) (hst : (st.map fun v => v.category).sum ≤ 8) (hcells : kc + k ≤ X.2.2.2.1.cells) (hslots : ks + n ≤ X.2.2.2.1.slots)
    (hret : ∀ (v : Option Value) (w' : Wd), P (.inl v) w' → Go X g (kc + k) (ks + n) Q w' (pc + 3) lp (v.toList ++ st)) (hthr : ∀ (cn : String) (w' : Wd), P (.inr cn) w' → GoX X g (kc + k) (ks + n) Q w' pc lp cn) : Go X g kc ks Q w pc lp (.int a0 :: st) :=
  r_calls (av := [.int a0]) (nL' := 1) hc hd hcon (t1_mem 206 rfl rfl) (t1_mem 207 rfl rfl) (t1_mem 3 rfl rfl) (t1_mem 208 rfl rfl) (by decide) (by decide +kernel) (show (parseMethodDescriptor yP_indexOf.desc).map (fun d => d.parameters.length) = some 1 by decide +kernel) hdd (by decide) (fun v hv => by simp only [List.mem_cons, List.not_mem_nil, or_false] at hv; rcases hv with rfl <;> rfl) (Nat.le_of_ble_eq_true rfl) hst hcells hslots hret hthr
theorem kP_54r {d' : Nat} {P : Option Value → Wd → Prop} {a0 : Int32} (hc : Ok X g cc "PairedField$Pairing" ret hx d) (hd : decode cc pc = .ok (.invokestatic 54, 3)) (hcon : Con X.2.1 g yP_indexOf bP_indexOf 1 ((some .int)) [] d' 0 0 [.int a0] w (Rp P)) (hdd : d' + 1 ≤ d) (hst : (st.map fun v => v.category).sum ≤ 8) (hret : ∀ (v : Option Value) (w' : Wd), P v w' → Go X g 0 0 Q w' (pc + 3) lp (v.toList ++ st)) : Go X g 0 0 Q w pc lp (.int a0 :: st) :=
  kP_54 hc hd hcon hdd hst (Nat.zero_le _) (Nat.zero_le _) (fun v w' h => hret v w' (Rp_l h)) (fun cn w' h => absurd h Rp_r)
theorem kP_54t {d' : Nat} {cn : String} {P : Wd → Prop} {P2 : Rt → Wd → Prop} {a0 : Int32} (hc : Ok X g cc "PairedField$Pairing" ret [] d) (hd : decode cc pc = .ok (.invokestatic 54, 3)) (hcon : Con X.2.1 g yP_indexOf bP_indexOf 1 ((some .int)) [] d' 1 6 [.int a0] w (Tp cn P)) (hdd : d' + 1 ≤ d) (hst : (st.map fun v => v.category).sum ≤ 8) (h1 : 1 ≤ X.2.2.2.1.cells) (h6 : 6 ≤ X.2.2.2.1.slots) (hP : ∀ w' : Wd, P w' → P2 (.inr cn) w') : Go X g 0 0 (Fen X g 1 6 P2) w pc lp (.int a0 :: st) :=
  kP_54 hc hd hcon hdd hst (by omega) (by omega) (fun v w' h => absurd h Tp_l) (fun cn2 w' h => by obtain ⟨rfl, h⟩ := h; exact x_out hc (hP w' h))
/-- PairedField$Pairing: a call of PairedField$Pairing.mayPlay -/
theorem kP_118 {d' k n : Nat} {P : Rt → Wd → Prop} {a0 : Int32} {a1 : Int32} {a2 : Int32} (hc : Ok X g cc "PairedField$Pairing" ret hx d) (hd : decode cc pc = .ok (.invokevirtual 118, 3)) (hcon : Con X.2.1 g yP_mayPlay bP_mayPlay 4 ((some .boolean)) [] d' k n (.ref (g.1 31) :: [.int a0, .int a1, .int a2]) w P) (hdd : d' + 1 ≤ d) (hst : (st.map fun v => v.category).sum ≤ 8) (hcells : kc + k ≤ X.2.2.2.1.cells) (hslots : ks + n ≤ X.2.2.2.1.slots)
    (hret : ∀ (v : Option Value) (w' : Wd), P (.inl v) w' → Go X g (kc + k) (ks + n) Q w' (pc + 3) lp (v.toList ++ st)) (hthr : ∀ (cn : String) (w' : Wd), P (.inr cn) w' → GoX X g (kc + k) (ks + n) Q w' pc lp cn) : Go X g kc ks Q w pc lp (.int a2 :: .int a1 :: .int a0 :: .ref (g.1 31) :: st) :=
  r_callv (av := [.int a0, .int a1, .int a2]) (nL' := 4) (q := 31) (ci := 2) (C := R_P) (Tc := T_P) (N := 6) hc hd hcon (t1_mem 209 rfl rfl) (t1_mem 211 rfl rfl) (t0_mem 9 rfl rfl) (t1_mem 212 rfl rfl) (by decide) (by decide +kernel) (show (parseMethodDescriptor yP_mayPlay.desc).map (fun d => d.parameters.length) = some 3 by decide +kernel) (by decide) (ent_P g (w 31)) rfl hdd (by decide) (fun v hv => by simp only [List.mem_cons, List.not_mem_nil, or_false] at hv; rcases hv with rfl | rfl | rfl <;> rfl) (Nat.le_of_ble_eq_true rfl) hst hcells hslots hret hthr
theorem kP_118r {d' : Nat} {P : Option Value → Wd → Prop} {a0 : Int32} {a1 : Int32} {a2 : Int32} (hc : Ok X g cc "PairedField$Pairing" ret hx d) (hd : decode cc pc = .ok (.invokevirtual 118, 3)) (hcon : Con X.2.1 g yP_mayPlay bP_mayPlay 4 ((some .boolean)) [] d' 0 0 (.ref (g.1 31) :: [.int a0, .int a1, .int a2]) w (Rp P)) (hdd : d' + 1 ≤ d) (hst : (st.map fun v => v.category).sum ≤ 8) (hret : ∀ (v : Option Value) (w' : Wd), P v w' → Go X g 0 0 Q w' (pc + 3) lp (v.toList ++ st)) : Go X g 0 0 Q w pc lp (.int a2 :: .int a1 :: .int a0 :: .ref (g.1 31) :: st) :=
  kP_118 hc hd hcon hdd hst (Nat.zero_le _) (Nat.zero_le _) (fun v w' h => hret v w' (Rp_l h)) (fun cn w' h => absurd h Rp_r)
theorem kP_118t {d' : Nat} {cn : String} {P : Wd → Prop} {P2 : Rt → Wd → Prop} {a0 : Int32} {a1 : Int32} {a2 : Int32} (hc : Ok X g cc "PairedField$Pairing" ret [] d) (hd : decode cc pc = .ok (.invokevirtual 118, 3)) (hcon : Con X.2.1 g yP_mayPlay bP_mayPlay 4 ((some .boolean)) [] d' 1 6 (.ref (g.1 31) :: [.int a0, .int a1, .int a2]) w (Tp cn P)) (hdd : d' + 1 ≤ d) (hst : (st.map fun v => v.category).sum ≤ 8) (h1 : 1 ≤ X.2.2.2.1.cells) (h6 : 6 ≤ X.2.2.2.1.slots) (hP : ∀ w' : Wd, P w' → P2 (.inr cn) w') : Go X g 0 0 (Fen X g 1 6 P2) w pc lp (.int a2 :: .int a1 :: .int a0 :: .ref (g.1 31) :: st) :=
  kP_118 hc hd hcon hdd hst (by omega) (by omega) (fun v w' h => absurd h Tp_l) (fun cn2 w' h => by obtain ⟨rfl, h⟩ := h; exact x_out hc (hP w' h))
/-- PairedField$Pairing: a call of java/lang/Math.min -/
theorem kP_122 {d' k n : Nat} {P : Rt → Wd → Prop} {a0 : Int32} {a1 : Int32} (hc : Ok X g cc "PairedField$Pairing" ret hx d) (hd : decode cc pc = .ok (.invokestatic 122, 3)) (hcon : Con X.2.1 g yH_min bH_min 2 ((some .int)) [] d' k n [.int a0, .int a1] w P) (hdd : d' + 1 ≤ d) (hst : (st.map fun v => v.category).sum ≤ 8) (hcells : kc + k ≤ X.2.2.2.1.cells) (hslots : ks + n ≤ X.2.2.2.1.slots)
    (hret : ∀ (v : Option Value) (w' : Wd), P (.inl v) w' → Go X g (kc + k) (ks + n) Q w' (pc + 3) lp (v.toList ++ st)) (hthr : ∀ (cn : String) (w' : Wd), P (.inr cn) w' → GoX X g (kc + k) (ks + n) Q w' pc lp cn) : Go X g kc ks Q w pc lp (.int a1 :: .int a0 :: st) :=
  r_calls (av := [.int a0, .int a1]) (nL' := 2) hc hd hcon (t1_mem 213 rfl rfl) (t1_mem 100 rfl rfl) (t1_mem 4 rfl rfl) (t1_mem 101 rfl rfl) (by decide) (by decide +kernel) (show (parseMethodDescriptor yH_min.desc).map (fun d => d.parameters.length) = some 2 by decide +kernel) hdd (by decide) (fun v hv => by simp only [List.mem_cons, List.not_mem_nil, or_false] at hv; rcases hv with rfl | rfl <;> rfl) (Nat.le_of_ble_eq_true rfl) hst hcells hslots hret hthr
theorem kP_122r {d' : Nat} {P : Option Value → Wd → Prop} {a0 : Int32} {a1 : Int32} (hc : Ok X g cc "PairedField$Pairing" ret hx d) (hd : decode cc pc = .ok (.invokestatic 122, 3)) (hcon : Con X.2.1 g yH_min bH_min 2 ((some .int)) [] d' 0 0 [.int a0, .int a1] w (Rp P)) (hdd : d' + 1 ≤ d) (hst : (st.map fun v => v.category).sum ≤ 8) (hret : ∀ (v : Option Value) (w' : Wd), P v w' → Go X g 0 0 Q w' (pc + 3) lp (v.toList ++ st)) : Go X g 0 0 Q w pc lp (.int a1 :: .int a0 :: st) :=
  kP_122 hc hd hcon hdd hst (Nat.zero_le _) (Nat.zero_le _) (fun v w' h => hret v w' (Rp_l h)) (fun cn w' h => absurd h Rp_r)
theorem kP_122t {d' : Nat} {cn : String} {P : Wd → Prop} {P2 : Rt → Wd → Prop} {a0 : Int32} {a1 : Int32} (hc : Ok X g cc "PairedField$Pairing" ret [] d) (hd : decode cc pc = .ok (.invokestatic 122, 3)) (hcon : Con X.2.1 g yH_min bH_min 2 ((some .int)) [] d' 1 6 [.int a0, .int a1] w (Tp cn P)) (hdd : d' + 1 ≤ d) (hst : (st.map fun v => v.category).sum ≤ 8) (h1 : 1 ≤ X.2.2.2.1.cells) (h6 : 6 ≤ X.2.2.2.1.slots) (hP : ∀ w' : Wd, P w' → P2 (.inr cn) w') : Go X g 0 0 (Fen X g 1 6 P2) w pc lp (.int a1 :: .int a0 :: st) :=
  kP_122 hc hd hcon hdd hst (by omega) (by omega) (fun v w' h => absurd h Tp_l) (fun cn2 w' h => by obtain ⟨rfl, h⟩ := h; exact x_out hc (hP w' h))
/-- PairedField: a call of PairedField$Pairing.count -/
theorem kF_97 {d' k n : Nat} {P : Rt → Wd → Prop} (hc : Ok X g cc "PairedField" ret hx d) (hd : decode cc pc = .ok (.invokevirtual 97, 3)) (hcon : Con X.2.1 g yP_count bP_count 1 ((some .int)) [] d' k n (.ref (g.1 31) :: []) w P) (hdd : d' + 1 ≤ d) (hst : (st.map fun v => v.category).sum ≤ 8) (hcells : kc + k ≤ X.2.2.2.1.cells) (hslots : ks + n ≤ X.2.2.2.1.slots)
    (hret : ∀ (v : Option Value) (w' : Wd), P (.inl v) w' → Go X g (kc + k) (ks + n) Q w' (pc + 3) lp (v.toList ++ st)) (hthr : ∀ (cn : String) (w' : Wd), P (.inr cn) w' → GoX X g (kc + k) (ks + n) Q w' pc lp cn) : Go X g kc ks Q w pc lp (.ref (g.1 31) :: st) :=
  r_callv (av := []) (nL' := 1) (q := 31) (ci := 2) (C := R_P) (Tc := T_P) (N := 6) hc hd hcon (t1_mem 214 rfl rfl) (t1_mem 215 rfl rfl) (t1_mem 216 rfl rfl) (t1_mem 217 rfl rfl) (by decide) (by decide +kernel) (show (parseMethodDescriptor yP_count.desc).map (fun d => d.parameters.length) = some 0 by decide +kernel) (by decide) (ent_P g (w 31)) rfl hdd (by decide) (fun v hv => by cases hv) (Nat.le_of_ble_eq_true rfl) hst hcells hslots hret hthr
theorem kF_97r {d' : Nat} {P : Option Value → Wd → Prop} (hc : Ok X g cc "PairedField" ret hx d) (hd : decode cc pc = .ok (.invokevirtual 97, 3)) (hcon : Con X.2.1 g yP_count bP_count 1 ((some .int)) [] d' 0 0 (.ref (g.1 31) :: []) w (Rp P)) (hdd : d' + 1 ≤ d) (hst : (st.map fun v => v.category).sum ≤ 8) (hret : ∀ (v : Option Value) (w' : Wd), P v w' → Go X g 0 0 Q w' (pc + 3) lp (v.toList ++ st)) : Go X g 0 0 Q w pc lp (.ref (g.1 31) :: st) :=
  kF_97 hc hd hcon hdd hst (Nat.zero_le _) (Nat.zero_le _) (fun v w' h => hret v w' (Rp_l h)) (fun cn w' h => absurd h Rp_r)
theorem kF_97t {d' : Nat} {cn : String} {P : Wd → Prop} {P2 : Rt → Wd → Prop} (hc : Ok X g cc "PairedField" ret [] d) (hd : decode cc pc = .ok (.invokevirtual 97, 3)) (hcon : Con X.2.1 g yP_count bP_count 1 ((some .int)) [] d' 1 6 (.ref (g.1 31) :: []) w (Tp cn P)) (hdd : d' + 1 ≤ d) (hst : (st.map fun v => v.category).sum ≤ 8) (h1 : 1 ≤ X.2.2.2.1.cells) (h6 : 6 ≤ X.2.2.2.1.slots) (hP : ∀ w' : Wd, P w' → P2 (.inr cn) w') : Go X g 0 0 (Fen X g 1 6 P2) w pc lp (.ref (g.1 31) :: st) :=
  kF_97 hc hd hcon hdd hst (by omega) (by omega) (fun v w' h => absurd h Tp_l) (fun cn2 w' h => by obtain ⟨rfl, h⟩ := h; exact x_out hc (hP w' h))
/-- PairedField$Pairing: a call of PairedField$Pairing.allSeats -/
theorem kP_51 {d' k n : Nat} {P : Rt → Wd → Prop} (hc : Ok X g cc "PairedField$Pairing" ret hx d) (hd : decode cc pc = .ok (.invokevirtual 51, 3)) (hcon : Con X.2.1 g yP_allSeats bP_allSeats 1 ((some .int)) [] d' k n (.ref (g.1 31) :: []) w P) (hdd : d' + 1 ≤ d) (hst : (st.map fun v => v.category).sum ≤ 8) (hcells : kc + k ≤ X.2.2.2.1.cells) (hslots : ks + n ≤ X.2.2.2.1.slots)
    (hret : ∀ (v : Option Value) (w' : Wd), P (.inl v) w' → Go X g (kc + k) (ks + n) Q w' (pc + 3) lp (v.toList ++ st)) (hthr : ∀ (cn : String) (w' : Wd), P (.inr cn) w' → GoX X g (kc + k) (ks + n) Q w' pc lp cn) : Go X g kc ks Q w pc lp (.ref (g.1 31) :: st) :=
  r_callv (av := []) (nL' := 1) (q := 31) (ci := 2) (C := R_P) (Tc := T_P) (N := 6) hc hd hcon (t1_mem 218 rfl rfl) (t1_mem 220 rfl rfl) (t0_mem 10 rfl rfl) (t1_mem 221 rfl rfl) (by decide) (by decide +kernel) (show (parseMethodDescriptor yP_allSeats.desc).map (fun d => d.parameters.length) = some 0 by decide +kernel) (by decide) (ent_P g (w 31)) rfl hdd (by decide) (fun v hv => by cases hv) (Nat.le_of_ble_eq_true rfl) hst hcells hslots hret hthr
theorem kP_51r {d' : Nat} {P : Option Value → Wd → Prop} (hc : Ok X g cc "PairedField$Pairing" ret hx d) (hd : decode cc pc = .ok (.invokevirtual 51, 3)) (hcon : Con X.2.1 g yP_allSeats bP_allSeats 1 ((some .int)) [] d' 0 0 (.ref (g.1 31) :: []) w (Rp P)) (hdd : d' + 1 ≤ d) (hst : (st.map fun v => v.category).sum ≤ 8) (hret : ∀ (v : Option Value) (w' : Wd), P v w' → Go X g 0 0 Q w' (pc + 3) lp (v.toList ++ st)) : Go X g 0 0 Q w pc lp (.ref (g.1 31) :: st) :=
  kP_51 hc hd hcon hdd hst (Nat.zero_le _) (Nat.zero_le _) (fun v w' h => hret v w' (Rp_l h)) (fun cn w' h => absurd h Rp_r)
theorem kP_51t {d' : Nat} {cn : String} {P : Wd → Prop} {P2 : Rt → Wd → Prop} (hc : Ok X g cc "PairedField$Pairing" ret [] d) (hd : decode cc pc = .ok (.invokevirtual 51, 3)) (hcon : Con X.2.1 g yP_allSeats bP_allSeats 1 ((some .int)) [] d' 1 6 (.ref (g.1 31) :: []) w (Tp cn P)) (hdd : d' + 1 ≤ d) (hst : (st.map fun v => v.category).sum ≤ 8) (h1 : 1 ≤ X.2.2.2.1.cells) (h6 : 6 ≤ X.2.2.2.1.slots) (hP : ∀ w' : Wd, P w' → P2 (.inr cn) w') : Go X g 0 0 (Fen X g 1 6 P2) w pc lp (.ref (g.1 31) :: st) :=
  kP_51 hc hd hcon hdd hst (by omega) (by omega) (fun v w' h => absurd h Tp_l) (fun cn2 w' h => by obtain ⟨rfl, h⟩ := h; exact x_out hc (hP w' h))
/-- PairedFieldLaw: a call of PairedField.players -/
theorem kL_128 {d' k n : Nat} {P : Rt → Wd → Prop} (hc : Ok X g cc "PairedFieldLaw" ret hx d) (hd : decode cc pc = .ok (.invokevirtual 128, 3)) (hcon : Con X.2.1 g yF_players bF_players 1 ((some .int)) [] d' k n (.ref (g.1 0) :: []) w P) (hdd : d' + 1 ≤ d) (hst : (st.map fun v => v.category).sum ≤ 8) (hcells : kc + k ≤ X.2.2.2.1.cells) (hslots : ks + n ≤ X.2.2.2.1.slots)
    (hret : ∀ (v : Option Value) (w' : Wd), P (.inl v) w' → Go X g (kc + k) (ks + n) Q w' (pc + 3) lp (v.toList ++ st)) (hthr : ∀ (cn : String) (w' : Wd), P (.inr cn) w' → GoX X g (kc + k) (ks + n) Q w' pc lp cn) : Go X g kc ks Q w pc lp (.ref (g.1 0) :: st) :=
  r_callv (av := []) (nL' := 1) (q := 0) (ci := 0) (C := R_F) (Tc := T_F) (N := 8) hc hd hcon (t1_mem 222 rfl rfl) (t1_mem 223 rfl rfl) (t1_mem 224 rfl rfl) (t1_mem 225 rfl rfl) (by decide) (by decide +kernel) (show (parseMethodDescriptor yF_players.desc).map (fun d => d.parameters.length) = some 0 by decide +kernel) (by decide) (ent_F g (w 0)) rfl hdd (by decide) (fun v hv => by cases hv) (Nat.le_of_ble_eq_true rfl) hst hcells hslots hret hthr
theorem kL_128r {d' : Nat} {P : Option Value → Wd → Prop} (hc : Ok X g cc "PairedFieldLaw" ret hx d) (hd : decode cc pc = .ok (.invokevirtual 128, 3)) (hcon : Con X.2.1 g yF_players bF_players 1 ((some .int)) [] d' 0 0 (.ref (g.1 0) :: []) w (Rp P)) (hdd : d' + 1 ≤ d) (hst : (st.map fun v => v.category).sum ≤ 8) (hret : ∀ (v : Option Value) (w' : Wd), P v w' → Go X g 0 0 Q w' (pc + 3) lp (v.toList ++ st)) : Go X g 0 0 Q w pc lp (.ref (g.1 0) :: st) :=
  kL_128 hc hd hcon hdd hst (Nat.zero_le _) (Nat.zero_le _) (fun v w' h => hret v w' (Rp_l h)) (fun cn w' h => absurd h Rp_r)
theorem kL_128t {d' : Nat} {cn : String} {P : Wd → Prop} {P2 : Rt → Wd → Prop} (hc : Ok X g cc "PairedFieldLaw" ret [] d) (hd : decode cc pc = .ok (.invokevirtual 128, 3)) (hcon : Con X.2.1 g yF_players bF_players 1 ((some .int)) [] d' 1 6 (.ref (g.1 0) :: []) w (Tp cn P)) (hdd : d' + 1 ≤ d) (hst : (st.map fun v => v.category).sum ≤ 8) (h1 : 1 ≤ X.2.2.2.1.cells) (h6 : 6 ≤ X.2.2.2.1.slots) (hP : ∀ w' : Wd, P w' → P2 (.inr cn) w') : Go X g 0 0 (Fen X g 1 6 P2) w pc lp (.ref (g.1 0) :: st) :=
  kL_128 hc hd hcon hdd hst (by omega) (by omega) (fun v w' h => absurd h Tp_l) (fun cn2 w' h => by obtain ⟨rfl, h⟩ := h; exact x_out hc (hP w' h))
/-- PairedFieldLaw: a call of PairedField.rounds -/
theorem kL_132 {d' k n : Nat} {P : Rt → Wd → Prop} (hc : Ok X g cc "PairedFieldLaw" ret hx d) (hd : decode cc pc = .ok (.invokevirtual 132, 3)) (hcon : Con X.2.1 g yF_rounds bF_rounds 1 ((some .int)) [] d' k n (.ref (g.1 0) :: []) w P) (hdd : d' + 1 ≤ d) (hst : (st.map fun v => v.category).sum ≤ 8) (hcells : kc + k ≤ X.2.2.2.1.cells) (hslots : ks + n ≤ X.2.2.2.1.slots)
    (hret : ∀ (v : Option Value) (w' : Wd), P (.inl v) w' → Go X g (kc + k) (ks + n) Q w' (pc + 3) lp (v.toList ++ st)) (hthr : ∀ (cn : String) (w' : Wd), P (.inr cn) w' → GoX X g (kc + k) (ks + n) Q w' pc lp cn) : Go X g kc ks Q w pc lp (.ref (g.1 0) :: st) :=
  r_callv (av := []) (nL' := 1) (q := 0) (ci := 0) (C := R_F) (Tc := T_F) (N := 8) hc hd hcon (t1_mem 226 rfl rfl) (t1_mem 227 rfl rfl) (t1_mem 228 rfl rfl) (t1_mem 229 rfl rfl) (by decide) (by decide +kernel) (show (parseMethodDescriptor yF_rounds.desc).map (fun d => d.parameters.length) = some 0 by decide +kernel) (by decide) (ent_F g (w 0)) rfl hdd (by decide) (fun v hv => by cases hv) (Nat.le_of_ble_eq_true rfl) hst hcells hslots hret hthr
theorem kL_132r {d' : Nat} {P : Option Value → Wd → Prop} (hc : Ok X g cc "PairedFieldLaw" ret hx d) (hd : decode cc pc = .ok (.invokevirtual 132, 3)) (hcon : Con X.2.1 g yF_rounds bF_rounds 1 ((some .int)) [] d' 0 0 (.ref (g.1 0) :: []) w (Rp P)) (hdd : d' + 1 ≤ d) (hst : (st.map fun v => v.category).sum ≤ 8) (hret : ∀ (v : Option Value) (w' : Wd), P v w' → Go X g 0 0 Q w' (pc + 3) lp (v.toList ++ st)) : Go X g 0 0 Q w pc lp (.ref (g.1 0) :: st) :=
  kL_132 hc hd hcon hdd hst (Nat.zero_le _) (Nat.zero_le _) (fun v w' h => hret v w' (Rp_l h)) (fun cn w' h => absurd h Rp_r)
theorem kL_132t {d' : Nat} {cn : String} {P : Wd → Prop} {P2 : Rt → Wd → Prop} (hc : Ok X g cc "PairedFieldLaw" ret [] d) (hd : decode cc pc = .ok (.invokevirtual 132, 3)) (hcon : Con X.2.1 g yF_rounds bF_rounds 1 ((some .int)) [] d' 1 6 (.ref (g.1 0) :: []) w (Tp cn P)) (hdd : d' + 1 ≤ d) (hst : (st.map fun v => v.category).sum ≤ 8) (h1 : 1 ≤ X.2.2.2.1.cells) (h6 : 6 ≤ X.2.2.2.1.slots) (hP : ∀ w' : Wd, P w' → P2 (.inr cn) w') : Go X g 0 0 (Fen X g 1 6 P2) w pc lp (.ref (g.1 0) :: st) :=
  kL_132 hc hd hcon hdd hst (by omega) (by omega) (fun v w' h => absurd h Tp_l) (fun cn2 w' h => by obtain ⟨rfl, h⟩ := h; exact x_out hc (hP w' h))
/-- PairedFieldLaw: a call of PairedField.isIn -/
theorem kL_136 {d' k n : Nat} {P : Rt → Wd → Prop} {a0 : Int32} (hc : Ok X g cc "PairedFieldLaw" ret hx d) (hd : decode cc pc = .ok (.invokevirtual 136, 3)) (hcon : Con X.2.1 g yF_isIn bF_isIn 2 ((some .boolean)) [] d' k n (.ref (g.1 0) :: [.int a0]) w P) (hdd : d' + 1 ≤ d) (hst : (st.map fun v => v.category).sum ≤ 8) (hcells : kc + k ≤ X.2.2.2.1.cells) (hslots : ks + n ≤ X.2.2.2.1.slots)
    (hret : ∀ (v : Option Value) (w' : Wd), P (.inl v) w' → Go X g (kc + k) (ks + n) Q w' (pc + 3) lp (v.toList ++ st)) (hthr : ∀ (cn : String) (w' : Wd), P (.inr cn) w' → GoX X g (kc + k) (ks + n) Q w' pc lp cn) : Go X g kc ks Q w pc lp (.int a0 :: .ref (g.1 0) :: st) :=
  r_callv (av := [.int a0]) (nL' := 2) (q := 0) (ci := 0) (C := R_F) (Tc := T_F) (N := 8) hc hd hcon (t1_mem 230 rfl rfl) (t1_mem 231 rfl rfl) (t1_mem 232 rfl rfl) (t1_mem 233 rfl rfl) (by decide) (by decide +kernel) (show (parseMethodDescriptor yF_isIn.desc).map (fun d => d.parameters.length) = some 1 by decide +kernel) (by decide) (ent_F g (w 0)) rfl hdd (by decide) (fun v hv => by simp only [List.mem_cons, List.not_mem_nil, or_false] at hv; rcases hv with rfl <;> rfl) (Nat.le_of_ble_eq_true rfl) hst hcells hslots hret hthr
theorem kL_136r {d' : Nat} {P : Option Value → Wd → Prop} {a0 : Int32} (hc : Ok X g cc "PairedFieldLaw" ret hx d) (hd : decode cc pc = .ok (.invokevirtual 136, 3)) (hcon : Con X.2.1 g yF_isIn bF_isIn 2 ((some .boolean)) [] d' 0 0 (.ref (g.1 0) :: [.int a0]) w (Rp P)) (hdd : d' + 1 ≤ d) (hst : (st.map fun v => v.category).sum ≤ 8) (hret : ∀ (v : Option Value) (w' : Wd), P v w' → Go X g 0 0 Q w' (pc + 3) lp (v.toList ++ st)) : Go X g 0 0 Q w pc lp (.int a0 :: .ref (g.1 0) :: st) :=
  kL_136 hc hd hcon hdd hst (Nat.zero_le _) (Nat.zero_le _) (fun v w' h => hret v w' (Rp_l h)) (fun cn w' h => absurd h Rp_r)
theorem kL_136t {d' : Nat} {cn : String} {P : Wd → Prop} {P2 : Rt → Wd → Prop} {a0 : Int32} (hc : Ok X g cc "PairedFieldLaw" ret [] d) (hd : decode cc pc = .ok (.invokevirtual 136, 3)) (hcon : Con X.2.1 g yF_isIn bF_isIn 2 ((some .boolean)) [] d' 1 6 (.ref (g.1 0) :: [.int a0]) w (Tp cn P)) (hdd : d' + 1 ≤ d) (hst : (st.map fun v => v.category).sum ≤ 8) (h1 : 1 ≤ X.2.2.2.1.cells) (h6 : 6 ≤ X.2.2.2.1.slots) (hP : ∀ w' : Wd, P w' → P2 (.inr cn) w') : Go X g 0 0 (Fen X g 1 6 P2) w pc lp (.int a0 :: .ref (g.1 0) :: st) :=
  kL_136 hc hd hcon hdd hst (by omega) (by omega) (fun v w' h => absurd h Tp_l) (fun cn2 w' h => by obtain ⟨rfl, h⟩ := h; exact x_out hc (hP w' h))
/-- PairedField: a call of PairedField.isPlayer -/
theorem kF_150 {d' k n : Nat} {P : Rt → Wd → Prop} {a0 : Int32} (hc : Ok X g cc "PairedField" ret hx d) (hd : decode cc pc = .ok (.invokevirtual 150, 3)) (hcon : Con X.2.1 g yF_isPlayer bF_isPlayer 2 ((some .boolean)) [] d' k n (.ref (g.1 0) :: [.int a0]) w P) (hdd : d' + 1 ≤ d) (hst : (st.map fun v => v.category).sum ≤ 8) (hcells : kc + k ≤ X.2.2.2.1.cells) (hslots : ks + n ≤ X.2.2.2.1.slots)
    (hret : ∀ (v : Option Value) (w' : Wd), P (.inl v) w' → Go X g (kc + k) (ks + n) Q w' (pc + 3) lp (v.toList ++ st)) (hthr : ∀ (cn : String) (w' : Wd), P (.inr cn) w' → GoX X g (kc + k) (ks + n) Q w' pc lp cn) : Go X g kc ks Q w pc lp (.int a0 :: .ref (g.1 0) :: st) :=
  r_callv (av := [.int a0]) (nL' := 2) (q := 0) (ci := 0) (C := R_F) (Tc := T_F) (N := 8) hc hd hcon (t1_mem 234 rfl rfl) (t1_mem 236 rfl rfl) (t0_mem 11 rfl rfl) (t1_mem 237 rfl rfl) (by decide) (by decide +kernel) (show (parseMethodDescriptor yF_isPlayer.desc).map (fun d => d.parameters.length) = some 1 by decide +kernel) (by decide) (ent_F g (w 0)) rfl hdd (by decide) (fun v hv => by simp only [List.mem_cons, List.not_mem_nil, or_false] at hv; rcases hv with rfl <;> rfl) (Nat.le_of_ble_eq_true rfl) hst hcells hslots hret hthr
theorem kF_150r {d' : Nat} {P : Option Value → Wd → Prop} {a0 : Int32} (hc : Ok X g cc "PairedField" ret hx d) (hd : decode cc pc = .ok (.invokevirtual 150, 3)) (hcon : Con X.2.1 g yF_isPlayer bF_isPlayer 2 ((some .boolean)) [] d' 0 0 (.ref (g.1 0) :: [.int a0]) w (Rp P)) (hdd : d' + 1 ≤ d) (hst : (st.map fun v => v.category).sum ≤ 8) (hret : ∀ (v : Option Value) (w' : Wd), P v w' → Go X g 0 0 Q w' (pc + 3) lp (v.toList ++ st)) : Go X g 0 0 Q w pc lp (.int a0 :: .ref (g.1 0) :: st) :=
  kF_150 hc hd hcon hdd hst (Nat.zero_le _) (Nat.zero_le _) (fun v w' h => hret v w' (Rp_l h)) (fun cn w' h => absurd h Rp_r)
theorem kF_150t {d' : Nat} {cn : String} {P : Wd → Prop} {P2 : Rt → Wd → Prop} {a0 : Int32} (hc : Ok X g cc "PairedField" ret [] d) (hd : decode cc pc = .ok (.invokevirtual 150, 3)) (hcon : Con X.2.1 g yF_isPlayer bF_isPlayer 2 ((some .boolean)) [] d' 1 6 (.ref (g.1 0) :: [.int a0]) w (Tp cn P)) (hdd : d' + 1 ≤ d) (hst : (st.map fun v => v.category).sum ≤ 8) (h1 : 1 ≤ X.2.2.2.1.cells) (h6 : 6 ≤ X.2.2.2.1.slots) (hP : ∀ w' : Wd, P w' → P2 (.inr cn) w') : Go X g 0 0 (Fen X g 1 6 P2) w pc lp (.int a0 :: .ref (g.1 0) :: st) :=
  kF_150 hc hd hcon hdd hst (by omega) (by omega) (fun v w' h => absurd h Tp_l) (fun cn2 w' h => by obtain ⟨rfl, h⟩ := h; exact x_out hc (hP w' h))
/-- PairedFieldLaw: a call of PairedFieldLaw.cell -/
theorem kL_69 {d' k n : Nat} {P : Rt → Wd → Prop} {a0 : Nat} {a1 : Int32} (hc : Ok X g cc "PairedFieldLaw" ret hx d) (hd : decode cc pc = .ok (.invokestatic 69, 3)) (hcon : Con X.2.1 g yL_cell bL_cell 2 ((some .int)) [] d' k n [.ref a0, .int a1] w P) (hdd : d' + 1 ≤ d) (hst : (st.map fun v => v.category).sum ≤ 8) (hcells : kc + k ≤ X.2.2.2.1.cells) (hslots : ks + n ≤ X.2.2.2.1.slots)
    (hret : ∀ (v : Option Value) (w' : Wd), P (.inl v) w' → Go X g (kc + k) (ks + n) Q w' (pc + 3) lp (v.toList ++ st)) (hthr : ∀ (cn : String) (w' : Wd), P (.inr cn) w' → GoX X g (kc + k) (ks + n) Q w' pc lp cn) : Go X g kc ks Q w pc lp (.int a1 :: .ref a0 :: st) :=
  r_calls (av := [.ref a0, .int a1]) (nL' := 2) hc hd hcon (t1_mem 238 rfl rfl) (t1_mem 239 rfl rfl) (t1_mem 0 rfl rfl) (t2_mem 0 rfl rfl) (by decide) (by decide +kernel) (show (parseMethodDescriptor yL_cell.desc).map (fun d => d.parameters.length) = some 2 by decide +kernel) hdd (by decide) (fun v hv => by simp only [List.mem_cons, List.not_mem_nil, or_false] at hv; rcases hv with rfl | rfl <;> rfl) (Nat.le_of_ble_eq_true rfl) hst hcells hslots hret hthr
theorem kL_69r {d' : Nat} {P : Option Value → Wd → Prop} {a0 : Nat} {a1 : Int32} (hc : Ok X g cc "PairedFieldLaw" ret hx d) (hd : decode cc pc = .ok (.invokestatic 69, 3)) (hcon : Con X.2.1 g yL_cell bL_cell 2 ((some .int)) [] d' 0 0 [.ref a0, .int a1] w (Rp P)) (hdd : d' + 1 ≤ d) (hst : (st.map fun v => v.category).sum ≤ 8) (hret : ∀ (v : Option Value) (w' : Wd), P v w' → Go X g 0 0 Q w' (pc + 3) lp (v.toList ++ st)) : Go X g 0 0 Q w pc lp (.int a1 :: .ref a0 :: st) :=
  kL_69 hc hd hcon hdd hst (Nat.zero_le _) (Nat.zero_le _) (fun v w' h => hret v w' (Rp_l h)) (fun cn w' h => absurd h Rp_r)
theorem kL_69t {d' : Nat} {cn : String} {P : Wd → Prop} {P2 : Rt → Wd → Prop} {a0 : Nat} {a1 : Int32} (hc : Ok X g cc "PairedFieldLaw" ret [] d) (hd : decode cc pc = .ok (.invokestatic 69, 3)) (hcon : Con X.2.1 g yL_cell bL_cell 2 ((some .int)) [] d' 1 6 [.ref a0, .int a1] w (Tp cn P)) (hdd : d' + 1 ≤ d) (hst : (st.map fun v => v.category).sum ≤ 8) (h1 : 1 ≤ X.2.2.2.1.cells) (h6 : 6 ≤ X.2.2.2.1.slots) (hP : ∀ w' : Wd, P w' → P2 (.inr cn) w') : Go X g 0 0 (Fen X g 1 6 P2) w pc lp (.int a1 :: .ref a0 :: st) :=
  kL_69 hc hd hcon hdd hst (by omega) (by omega) (fun v w' h => absurd h Tp_l) (fun cn2 w' h => by obtain ⟨rfl, h⟩ := h; exact x_out hc (hP w' h))
/-- PairedFieldLaw: a call of PairedField.enter -/
theorem kL_7 {d' k n : Nat} {P : Rt → Wd → Prop} (hc : Ok X g cc "PairedFieldLaw" ret hx d) (hd : decode cc pc = .ok (.invokevirtual 7, 3)) (hcon : Con X.2.1 g yF_enter bF_enter 1 ((some .int)) [] d' k n (.ref (g.1 0) :: []) w P) (hdd : d' + 1 ≤ d) (hst : (st.map fun v => v.category).sum ≤ 8) (hcells : kc + k ≤ X.2.2.2.1.cells) (hslots : ks + n ≤ X.2.2.2.1.slots)
    (hret : ∀ (v : Option Value) (w' : Wd), P (.inl v) w' → Go X g (kc + k) (ks + n) Q w' (pc + 3) lp (v.toList ++ st)) (hthr : ∀ (cn : String) (w' : Wd), P (.inr cn) w' → GoX X g (kc + k) (ks + n) Q w' pc lp cn) : Go X g kc ks Q w pc lp (.ref (g.1 0) :: st) :=
  r_callv (av := []) (nL' := 1) (q := 0) (ci := 0) (C := R_F) (Tc := T_F) (N := 8) hc hd hcon (t2_mem 5 rfl rfl) (t2_mem 6 rfl rfl) (t2_mem 7 rfl rfl) (t2_mem 8 rfl rfl) (by decide) (by decide +kernel) (show (parseMethodDescriptor yF_enter.desc).map (fun d => d.parameters.length) = some 0 by decide +kernel) (by decide) (ent_F g (w 0)) rfl hdd (by decide) (fun v hv => by cases hv) (Nat.le_of_ble_eq_true rfl) hst hcells hslots hret hthr
theorem kL_7r {d' : Nat} {P : Option Value → Wd → Prop} (hc : Ok X g cc "PairedFieldLaw" ret hx d) (hd : decode cc pc = .ok (.invokevirtual 7, 3)) (hcon : Con X.2.1 g yF_enter bF_enter 1 ((some .int)) [] d' 0 0 (.ref (g.1 0) :: []) w (Rp P)) (hdd : d' + 1 ≤ d) (hst : (st.map fun v => v.category).sum ≤ 8) (hret : ∀ (v : Option Value) (w' : Wd), P v w' → Go X g 0 0 Q w' (pc + 3) lp (v.toList ++ st)) : Go X g 0 0 Q w pc lp (.ref (g.1 0) :: st) :=
  kL_7 hc hd hcon hdd hst (Nat.zero_le _) (Nat.zero_le _) (fun v w' h => hret v w' (Rp_l h)) (fun cn w' h => absurd h Rp_r)
theorem kL_7t {d' : Nat} {cn : String} {P : Wd → Prop} {P2 : Rt → Wd → Prop} (hc : Ok X g cc "PairedFieldLaw" ret [] d) (hd : decode cc pc = .ok (.invokevirtual 7, 3)) (hcon : Con X.2.1 g yF_enter bF_enter 1 ((some .int)) [] d' 1 6 (.ref (g.1 0) :: []) w (Tp cn P)) (hdd : d' + 1 ≤ d) (hst : (st.map fun v => v.category).sum ≤ 8) (h1 : 1 ≤ X.2.2.2.1.cells) (h6 : 6 ≤ X.2.2.2.1.slots) (hP : ∀ w' : Wd, P w' → P2 (.inr cn) w') : Go X g 0 0 (Fen X g 1 6 P2) w pc lp (.ref (g.1 0) :: st) :=
  kL_7 hc hd hcon hdd hst (by omega) (by omega) (fun v w' h => absurd h Tp_l) (fun cn2 w' h => by obtain ⟨rfl, h⟩ := h; exact x_out hc (hP w' h))
/-- PairedField: a call of PairedField.refuseOpenRound -/
theorem kF_49 {d' k n : Nat} {P : Rt → Wd → Prop} (hc : Ok X g cc "PairedField" ret hx d) (hd : decode cc pc = .ok (.invokevirtual 49, 3)) (hcon : Con X.2.1 g yF_refuseOpenRound bF_refuseOpenRound 1 ((none : Option Jvm.ClassFile.FieldType)) [] d' k n (.ref (g.1 0) :: []) w P) (hdd : d' + 1 ≤ d) (hst : (st.map fun v => v.category).sum ≤ 8) (hcells : kc + k ≤ X.2.2.2.1.cells) (hslots : ks + n ≤ X.2.2.2.1.slots)
    (hret : ∀ (v : Option Value) (w' : Wd), P (.inl v) w' → Go X g (kc + k) (ks + n) Q w' (pc + 3) lp (v.toList ++ st)) (hthr : ∀ (cn : String) (w' : Wd), P (.inr cn) w' → GoX X g (kc + k) (ks + n) Q w' pc lp cn) : Go X g kc ks Q w pc lp (.ref (g.1 0) :: st) :=
  r_callv (av := []) (nL' := 1) (q := 0) (ci := 0) (C := R_F) (Tc := T_F) (N := 8) hc hd hcon (t2_mem 9 rfl rfl) (t2_mem 11 rfl rfl) (t0_mem 12 rfl rfl) (t2_mem 12 rfl rfl) (by decide) (by decide +kernel) (show (parseMethodDescriptor yF_refuseOpenRound.desc).map (fun d => d.parameters.length) = some 0 by decide +kernel) (by decide) (ent_F g (w 0)) rfl hdd (by decide) (fun v hv => by cases hv) (Nat.le_of_ble_eq_true rfl) hst hcells hslots hret hthr
theorem kF_49r {d' : Nat} {P : Option Value → Wd → Prop} (hc : Ok X g cc "PairedField" ret hx d) (hd : decode cc pc = .ok (.invokevirtual 49, 3)) (hcon : Con X.2.1 g yF_refuseOpenRound bF_refuseOpenRound 1 ((none : Option Jvm.ClassFile.FieldType)) [] d' 0 0 (.ref (g.1 0) :: []) w (Rp P)) (hdd : d' + 1 ≤ d) (hst : (st.map fun v => v.category).sum ≤ 8) (hret : ∀ (v : Option Value) (w' : Wd), P v w' → Go X g 0 0 Q w' (pc + 3) lp (v.toList ++ st)) : Go X g 0 0 Q w pc lp (.ref (g.1 0) :: st) :=
  kF_49 hc hd hcon hdd hst (Nat.zero_le _) (Nat.zero_le _) (fun v w' h => hret v w' (Rp_l h)) (fun cn w' h => absurd h Rp_r)
theorem kF_49t {d' : Nat} {cn : String} {P : Wd → Prop} {P2 : Rt → Wd → Prop} (hc : Ok X g cc "PairedField" ret [] d) (hd : decode cc pc = .ok (.invokevirtual 49, 3)) (hcon : Con X.2.1 g yF_refuseOpenRound bF_refuseOpenRound 1 ((none : Option Jvm.ClassFile.FieldType)) [] d' 1 6 (.ref (g.1 0) :: []) w (Tp cn P)) (hdd : d' + 1 ≤ d) (hst : (st.map fun v => v.category).sum ≤ 8) (h1 : 1 ≤ X.2.2.2.1.cells) (h6 : 6 ≤ X.2.2.2.1.slots) (hP : ∀ w' : Wd, P w' → P2 (.inr cn) w') : Go X g 0 0 (Fen X g 1 6 P2) w pc lp (.ref (g.1 0) :: st) :=
  kF_49 hc hd hcon hdd hst (by omega) (by omega) (fun v w' h => absurd h Tp_l) (fun cn2 w' h => by obtain ⟨rfl, h⟩ := h; exact x_out hc (hP w' h))
/-- PairedFieldLaw: a call of PairedField.leave -/
theorem kL_15 {d' k n : Nat} {P : Rt → Wd → Prop} {a0 : Int32} (hc : Ok X g cc "PairedFieldLaw" ret hx d) (hd : decode cc pc = .ok (.invokevirtual 15, 3)) (hcon : Con X.2.1 g yF_leave bF_leave 2 ((none : Option Jvm.ClassFile.FieldType)) [] d' k n (.ref (g.1 0) :: [.int a0]) w P) (hdd : d' + 1 ≤ d) (hst : (st.map fun v => v.category).sum ≤ 8) (hcells : kc + k ≤ X.2.2.2.1.cells) (hslots : ks + n ≤ X.2.2.2.1.slots)
    (hret : ∀ (v : Option Value) (w' : Wd), P (.inl v) w' → Go X g (kc + k) (ks + n) Q w' (pc + 3) lp (v.toList ++ st)) (hthr : ∀ (cn : String) (w' : Wd), P (.inr cn) w' → GoX X g (kc + k) (ks + n) Q w' pc lp cn) : Go X g kc ks Q w pc lp (.int a0 :: .ref (g.1 0) :: st) :=
  r_callv (av := [.int a0]) (nL' := 2) (q := 0) (ci := 0) (C := R_F) (Tc := T_F) (N := 8) hc hd hcon (t2_mem 88 rfl rfl) (t2_mem 89 rfl rfl) (t2_mem 90 rfl rfl) (t2_mem 91 rfl rfl) (by decide) (by decide +kernel) (show (parseMethodDescriptor yF_leave.desc).map (fun d => d.parameters.length) = some 1 by decide +kernel) (by decide) (ent_F g (w 0)) rfl hdd (by decide) (fun v hv => by simp only [List.mem_cons, List.not_mem_nil, or_false] at hv; rcases hv with rfl <;> rfl) (Nat.le_of_ble_eq_true rfl) hst hcells hslots hret hthr
theorem kL_15r {d' : Nat} {P : Option Value → Wd → Prop} {a0 : Int32} (hc : Ok X g cc "PairedFieldLaw" ret hx d) (hd : decode cc pc = .ok (.invokevirtual 15, 3)) (hcon : Con X.2.1 g yF_leave bF_leave 2 ((none : Option Jvm.ClassFile.FieldType)) [] d' 0 0 (.ref (g.1 0) :: [.int a0]) w (Rp P)) (hdd : d' + 1 ≤ d) (hst : (st.map fun v => v.category).sum ≤ 8) (hret : ∀ (v : Option Value) (w' : Wd), P v w' → Go X g 0 0 Q w' (pc + 3) lp (v.toList ++ st)) : Go X g 0 0 Q w pc lp (.int a0 :: .ref (g.1 0) :: st) :=
  kL_15 hc hd hcon hdd hst (Nat.zero_le _) (Nat.zero_le _) (fun v w' h => hret v w' (Rp_l h)) (fun cn w' h => absurd h Rp_r)
theorem kL_15t {d' : Nat} {cn : String} {P : Wd → Prop} {P2 : Rt → Wd → Prop} {a0 : Int32} (hc : Ok X g cc "PairedFieldLaw" ret [] d) (hd : decode cc pc = .ok (.invokevirtual 15, 3)) (hcon : Con X.2.1 g yF_leave bF_leave 2 ((none : Option Jvm.ClassFile.FieldType)) [] d' 1 6 (.ref (g.1 0) :: [.int a0]) w (Tp cn P)) (hdd : d' + 1 ≤ d) (hst : (st.map fun v => v.category).sum ≤ 8) (h1 : 1 ≤ X.2.2.2.1.cells) (h6 : 6 ≤ X.2.2.2.1.slots) (hP : ∀ w' : Wd, P w' → P2 (.inr cn) w') : Go X g 0 0 (Fen X g 1 6 P2) w pc lp (.int a0 :: .ref (g.1 0) :: st) :=
  kL_15 hc hd hcon hdd hst (by omega) (by omega) (fun v w' h => absurd h Tp_l) (fun cn2 w' h => by obtain ⟨rfl, h⟩ := h; exact x_out hc (hP w' h))
/-- PairedField: a call of PairedField.refuseNoPlayer -/
theorem kF_59 {d' k n : Nat} {P : Rt → Wd → Prop} {a0 : Int32} (hc : Ok X g cc "PairedField" ret hx d) (hd : decode cc pc = .ok (.invokevirtual 59, 3)) (hcon : Con X.2.1 g yF_refuseNoPlayer bF_refuseNoPlayer 2 ((none : Option Jvm.ClassFile.FieldType)) [] d' k n (.ref (g.1 0) :: [.int a0]) w P) (hdd : d' + 1 ≤ d) (hst : (st.map fun v => v.category).sum ≤ 8) (hcells : kc + k ≤ X.2.2.2.1.cells) (hslots : ks + n ≤ X.2.2.2.1.slots)
    (hret : ∀ (v : Option Value) (w' : Wd), P (.inl v) w' → Go X g (kc + k) (ks + n) Q w' (pc + 3) lp (v.toList ++ st)) (hthr : ∀ (cn : String) (w' : Wd), P (.inr cn) w' → GoX X g (kc + k) (ks + n) Q w' pc lp cn) : Go X g kc ks Q w pc lp (.int a0 :: .ref (g.1 0) :: st) :=
  r_callv (av := [.int a0]) (nL' := 2) (q := 0) (ci := 0) (C := R_F) (Tc := T_F) (N := 8) hc hd hcon (t2_mem 92 rfl rfl) (t2_mem 94 rfl rfl) (t0_mem 14 rfl rfl) (t2_mem 95 rfl rfl) (by decide) (by decide +kernel) (show (parseMethodDescriptor yF_refuseNoPlayer.desc).map (fun d => d.parameters.length) = some 1 by decide +kernel) (by decide) (ent_F g (w 0)) rfl hdd (by decide) (fun v hv => by simp only [List.mem_cons, List.not_mem_nil, or_false] at hv; rcases hv with rfl <;> rfl) (Nat.le_of_ble_eq_true rfl) hst hcells hslots hret hthr
theorem kF_59r {d' : Nat} {P : Option Value → Wd → Prop} {a0 : Int32} (hc : Ok X g cc "PairedField" ret hx d) (hd : decode cc pc = .ok (.invokevirtual 59, 3)) (hcon : Con X.2.1 g yF_refuseNoPlayer bF_refuseNoPlayer 2 ((none : Option Jvm.ClassFile.FieldType)) [] d' 0 0 (.ref (g.1 0) :: [.int a0]) w (Rp P)) (hdd : d' + 1 ≤ d) (hst : (st.map fun v => v.category).sum ≤ 8) (hret : ∀ (v : Option Value) (w' : Wd), P v w' → Go X g 0 0 Q w' (pc + 3) lp (v.toList ++ st)) : Go X g 0 0 Q w pc lp (.int a0 :: .ref (g.1 0) :: st) :=
  kF_59 hc hd hcon hdd hst (Nat.zero_le _) (Nat.zero_le _) (fun v w' h => hret v w' (Rp_l h)) (fun cn w' h => absurd h Rp_r)
theorem kF_59t {d' : Nat} {cn : String} {P : Wd → Prop} {P2 : Rt → Wd → Prop} {a0 : Int32} (hc : Ok X g cc "PairedField" ret [] d) (hd : decode cc pc = .ok (.invokevirtual 59, 3)) (hcon : Con X.2.1 g yF_refuseNoPlayer bF_refuseNoPlayer 2 ((none : Option Jvm.ClassFile.FieldType)) [] d' 1 6 (.ref (g.1 0) :: [.int a0]) w (Tp cn P)) (hdd : d' + 1 ≤ d) (hst : (st.map fun v => v.category).sum ≤ 8) (h1 : 1 ≤ X.2.2.2.1.cells) (h6 : 6 ≤ X.2.2.2.1.slots) (hP : ∀ w' : Wd, P w' → P2 (.inr cn) w') : Go X g 0 0 (Fen X g 1 6 P2) w pc lp (.int a0 :: .ref (g.1 0) :: st) :=
  kF_59 hc hd hcon hdd hst (by omega) (by omega) (fun v w' h => absurd h Tp_l) (fun cn2 w' h => by obtain ⟨rfl, h⟩ := h; exact x_out hc (hP w' h))
/-- PairedFieldLaw: a call of PairedField.apart -/
theorem kL_23 {d' k n : Nat} {P : Rt → Wd → Prop} {a0 : Int32} {a1 : Int32} {a2 : Int32} (hc : Ok X g cc "PairedFieldLaw" ret hx d) (hd : decode cc pc = .ok (.invokevirtual 23, 3)) (hcon : Con X.2.1 g yF_apart bF_apart 5 ((some .boolean)) [] d' k n (.ref (g.1 0) :: [.int a0, .int a1, .int a2]) w P) (hdd : d' + 1 ≤ d) (hst : (st.map fun v => v.category).sum ≤ 8) (hcells : kc + k ≤ X.2.2.2.1.cells) (hslots : ks + n ≤ X.2.2.2.1.slots)
    (hret : ∀ (v : Option Value) (w' : Wd), P (.inl v) w' → Go X g (kc + k) (ks + n) Q w' (pc + 3) lp (v.toList ++ st)) (hthr : ∀ (cn : String) (w' : Wd), P (.inr cn) w' → GoX X g (kc + k) (ks + n) Q w' pc lp cn) : Go X g kc ks Q w pc lp (.int a2 :: .int a1 :: .int a0 :: .ref (g.1 0) :: st) :=
  r_callv (av := [.int a0, .int a1, .int a2]) (nL' := 5) (q := 0) (ci := 0) (C := R_F) (Tc := T_F) (N := 8) hc hd hcon (t2_mem 132 rfl rfl) (t2_mem 133 rfl rfl) (t2_mem 134 rfl rfl) (t2_mem 135 rfl rfl) (by decide) (by decide +kernel) (show (parseMethodDescriptor yF_apart.desc).map (fun d => d.parameters.length) = some 3 by decide +kernel) (by decide) (ent_F g (w 0)) rfl hdd (by decide) (fun v hv => by simp only [List.mem_cons, List.not_mem_nil, or_false] at hv; rcases hv with rfl | rfl | rfl <;> rfl) (Nat.le_of_ble_eq_true rfl) hst hcells hslots hret hthr
theorem kL_23r {d' : Nat} {P : Option Value → Wd → Prop} {a0 : Int32} {a1 : Int32} {a2 : Int32} (hc : Ok X g cc "PairedFieldLaw" ret hx d) (hd : decode cc pc = .ok (.invokevirtual 23, 3)) (hcon : Con X.2.1 g yF_apart bF_apart 5 ((some .boolean)) [] d' 0 0 (.ref (g.1 0) :: [.int a0, .int a1, .int a2]) w (Rp P)) (hdd : d' + 1 ≤ d) (hst : (st.map fun v => v.category).sum ≤ 8) (hret : ∀ (v : Option Value) (w' : Wd), P v w' → Go X g 0 0 Q w' (pc + 3) lp (v.toList ++ st)) : Go X g 0 0 Q w pc lp (.int a2 :: .int a1 :: .int a0 :: .ref (g.1 0) :: st) :=
  kL_23 hc hd hcon hdd hst (Nat.zero_le _) (Nat.zero_le _) (fun v w' h => hret v w' (Rp_l h)) (fun cn w' h => absurd h Rp_r)
theorem kL_23t {d' : Nat} {cn : String} {P : Wd → Prop} {P2 : Rt → Wd → Prop} {a0 : Int32} {a1 : Int32} {a2 : Int32} (hc : Ok X g cc "PairedFieldLaw" ret [] d) (hd : decode cc pc = .ok (.invokevirtual 23, 3)) (hcon : Con X.2.1 g yF_apart bF_apart 5 ((some .boolean)) [] d' 1 6 (.ref (g.1 0) :: [.int a0, .int a1, .int a2]) w (Tp cn P)) (hdd : d' + 1 ≤ d) (hst : (st.map fun v => v.category).sum ≤ 8) (h1 : 1 ≤ X.2.2.2.1.cells) (h6 : 6 ≤ X.2.2.2.1.slots) (hP : ∀ w' : Wd, P w' → P2 (.inr cn) w') : Go X g 0 0 (Fen X g 1 6 P2) w pc lp (.int a2 :: .int a1 :: .int a0 :: .ref (g.1 0) :: st) :=
  kL_23 hc hd hcon hdd hst (by omega) (by omega) (fun v w' h => absurd h Tp_l) (fun cn2 w' h => by obtain ⟨rfl, h⟩ := h; exact x_out hc (hP w' h))
/-- PairedFieldLaw: a call of PairedField.pair -/
theorem kL_29 {d' k n : Nat} {P : Rt → Wd → Prop} (hc : Ok X g cc "PairedFieldLaw" ret hx d) (hd : decode cc pc = .ok (.invokevirtual 29, 3)) (hcon : Con X.2.1 g yF_pair bF_pair 1 ((some .int)) [] d' k n (.ref (g.1 0) :: []) w P) (hdd : d' + 1 ≤ d) (hst : (st.map fun v => v.category).sum ≤ 8) (hcells : kc + k ≤ X.2.2.2.1.cells) (hslots : ks + n ≤ X.2.2.2.1.slots)
    (hret : ∀ (v : Option Value) (w' : Wd), P (.inl v) w' → Go X g (kc + k) (ks + n) Q w' (pc + 3) lp (v.toList ++ st)) (hthr : ∀ (cn : String) (w' : Wd), P (.inr cn) w' → GoX X g (kc + k) (ks + n) Q w' pc lp cn) : Go X g kc ks Q w pc lp (.ref (g.1 0) :: st) :=
  r_callv (av := []) (nL' := 1) (q := 0) (ci := 0) (C := R_F) (Tc := T_F) (N := 8) hc hd hcon (t2_mem 155 rfl rfl) (t2_mem 156 rfl rfl) (t2_mem 157 rfl rfl) (t2_mem 158 rfl rfl) (by decide) (by decide +kernel) (show (parseMethodDescriptor yF_pair.desc).map (fun d => d.parameters.length) = some 0 by decide +kernel) (by decide) (ent_F g (w 0)) rfl hdd (by decide) (fun v hv => by cases hv) (Nat.le_of_ble_eq_true rfl) hst hcells hslots hret hthr
theorem kL_29r {d' : Nat} {P : Option Value → Wd → Prop} (hc : Ok X g cc "PairedFieldLaw" ret hx d) (hd : decode cc pc = .ok (.invokevirtual 29, 3)) (hcon : Con X.2.1 g yF_pair bF_pair 1 ((some .int)) [] d' 0 0 (.ref (g.1 0) :: []) w (Rp P)) (hdd : d' + 1 ≤ d) (hst : (st.map fun v => v.category).sum ≤ 8) (hret : ∀ (v : Option Value) (w' : Wd), P v w' → Go X g 0 0 Q w' (pc + 3) lp (v.toList ++ st)) : Go X g 0 0 Q w pc lp (.ref (g.1 0) :: st) :=
  kL_29 hc hd hcon hdd hst (Nat.zero_le _) (Nat.zero_le _) (fun v w' h => hret v w' (Rp_l h)) (fun cn w' h => absurd h Rp_r)
theorem kL_29t {d' : Nat} {cn : String} {P : Wd → Prop} {P2 : Rt → Wd → Prop} (hc : Ok X g cc "PairedFieldLaw" ret [] d) (hd : decode cc pc = .ok (.invokevirtual 29, 3)) (hcon : Con X.2.1 g yF_pair bF_pair 1 ((some .int)) [] d' 1 6 (.ref (g.1 0) :: []) w (Tp cn P)) (hdd : d' + 1 ≤ d) (hst : (st.map fun v => v.category).sum ≤ 8) (h1 : 1 ≤ X.2.2.2.1.cells) (h6 : 6 ≤ X.2.2.2.1.slots) (hP : ∀ w' : Wd, P w' → P2 (.inr cn) w') : Go X g 0 0 (Fen X g 1 6 P2) w pc lp (.ref (g.1 0) :: st) :=
  kL_29 hc hd hcon hdd hst (by omega) (by omega) (fun v w' h => absurd h Tp_l) (fun cn2 w' h => by obtain ⟨rfl, h⟩ := h; exact x_out hc (hP w' h))
/-- PairedField: a call of PairedField.openNextRound -/
theorem kF_78 {d' k n : Nat} {P : Rt → Wd → Prop} (hc : Ok X g cc "PairedField" ret hx d) (hd : decode cc pc = .ok (.invokevirtual 78, 3)) (hcon : Con X.2.1 g yF_openNextRound bF_openNextRound 1 ((some .boolean)) [] d' k n (.ref (g.1 0) :: []) w P) (hdd : d' + 1 ≤ d) (hst : (st.map fun v => v.category).sum ≤ 8) (hcells : kc + k ≤ X.2.2.2.1.cells) (hslots : ks + n ≤ X.2.2.2.1.slots)
    (hret : ∀ (v : Option Value) (w' : Wd), P (.inl v) w' → Go X g (kc + k) (ks + n) Q w' (pc + 3) lp (v.toList ++ st)) (hthr : ∀ (cn : String) (w' : Wd), P (.inr cn) w' → GoX X g (kc + k) (ks + n) Q w' pc lp cn) : Go X g kc ks Q w pc lp (.ref (g.1 0) :: st) :=
  r_callv (av := []) (nL' := 1) (q := 0) (ci := 0) (C := R_F) (Tc := T_F) (N := 8) hc hd hcon (t2_mem 160 rfl rfl) (t2_mem 162 rfl rfl) (t0_mem 15 rfl rfl) (t2_mem 163 rfl rfl) (by decide) (by decide +kernel) (show (parseMethodDescriptor yF_openNextRound.desc).map (fun d => d.parameters.length) = some 0 by decide +kernel) (by decide) (ent_F g (w 0)) rfl hdd (by decide) (fun v hv => by cases hv) (Nat.le_of_ble_eq_true rfl) hst hcells hslots hret hthr
theorem kF_78r {d' : Nat} {P : Option Value → Wd → Prop} (hc : Ok X g cc "PairedField" ret hx d) (hd : decode cc pc = .ok (.invokevirtual 78, 3)) (hcon : Con X.2.1 g yF_openNextRound bF_openNextRound 1 ((some .boolean)) [] d' 0 0 (.ref (g.1 0) :: []) w (Rp P)) (hdd : d' + 1 ≤ d) (hst : (st.map fun v => v.category).sum ≤ 8) (hret : ∀ (v : Option Value) (w' : Wd), P v w' → Go X g 0 0 Q w' (pc + 3) lp (v.toList ++ st)) : Go X g 0 0 Q w pc lp (.ref (g.1 0) :: st) :=
  kF_78 hc hd hcon hdd hst (Nat.zero_le _) (Nat.zero_le _) (fun v w' h => hret v w' (Rp_l h)) (fun cn w' h => absurd h Rp_r)
theorem kF_78t {d' : Nat} {cn : String} {P : Wd → Prop} {P2 : Rt → Wd → Prop} (hc : Ok X g cc "PairedField" ret [] d) (hd : decode cc pc = .ok (.invokevirtual 78, 3)) (hcon : Con X.2.1 g yF_openNextRound bF_openNextRound 1 ((some .boolean)) [] d' 1 6 (.ref (g.1 0) :: []) w (Tp cn P)) (hdd : d' + 1 ≤ d) (hst : (st.map fun v => v.category).sum ≤ 8) (h1 : 1 ≤ X.2.2.2.1.cells) (h6 : 6 ≤ X.2.2.2.1.slots) (hP : ∀ w' : Wd, P w' → P2 (.inr cn) w') : Go X g 0 0 (Fen X g 1 6 P2) w pc lp (.ref (g.1 0) :: st) :=
  kF_78 hc hd hcon hdd hst (by omega) (by omega) (fun v w' h => absurd h Tp_l) (fun cn2 w' h => by obtain ⟨rfl, h⟩ := h; exact x_out hc (hP w' h))
/-- PairedField: a call of PairedField$Pairing.isPossible -/
theorem kF_91 {d' k n : Nat} {P : Rt → Wd → Prop} (hc : Ok X g cc "PairedField" ret hx d) (hd : decode cc pc = .ok (.invokevirtual 91, 3)) (hcon : Con X.2.1 g yP_isPossible bP_isPossible 1 ((some .boolean)) [] d' k n (.ref (g.1 31) :: []) w P) (hdd : d' + 1 ≤ d) (hst : (st.map fun v => v.category).sum ≤ 8) (hcells : kc + k ≤ X.2.2.2.1.cells) (hslots : ks + n ≤ X.2.2.2.1.slots)
    (hret : ∀ (v : Option Value) (w' : Wd), P (.inl v) w' → Go X g (kc + k) (ks + n) Q w' (pc + 3) lp (v.toList ++ st)) (hthr : ∀ (cn : String) (w' : Wd), P (.inr cn) w' → GoX X g (kc + k) (ks + n) Q w' pc lp cn) : Go X g kc ks Q w pc lp (.ref (g.1 31) :: st) :=
  r_callv (av := []) (nL' := 1) (q := 31) (ci := 2) (C := R_P) (Tc := T_P) (N := 6) hc hd hcon (t2_mem 164 rfl rfl) (t2_mem 165 rfl rfl) (t2_mem 166 rfl rfl) (t2_mem 167 rfl rfl) (by decide) (by decide +kernel) (show (parseMethodDescriptor yP_isPossible.desc).map (fun d => d.parameters.length) = some 0 by decide +kernel) (by decide) (ent_P g (w 31)) rfl hdd (by decide) (fun v hv => by cases hv) (Nat.le_of_ble_eq_true rfl) hst hcells hslots hret hthr
theorem kF_91r {d' : Nat} {P : Option Value → Wd → Prop} (hc : Ok X g cc "PairedField" ret hx d) (hd : decode cc pc = .ok (.invokevirtual 91, 3)) (hcon : Con X.2.1 g yP_isPossible bP_isPossible 1 ((some .boolean)) [] d' 0 0 (.ref (g.1 31) :: []) w (Rp P)) (hdd : d' + 1 ≤ d) (hst : (st.map fun v => v.category).sum ≤ 8) (hret : ∀ (v : Option Value) (w' : Wd), P v w' → Go X g 0 0 Q w' (pc + 3) lp (v.toList ++ st)) : Go X g 0 0 Q w pc lp (.ref (g.1 31) :: st) :=
  kF_91 hc hd hcon hdd hst (Nat.zero_le _) (Nat.zero_le _) (fun v w' h => hret v w' (Rp_l h)) (fun cn w' h => absurd h Rp_r)
theorem kF_91t {d' : Nat} {cn : String} {P : Wd → Prop} {P2 : Rt → Wd → Prop} (hc : Ok X g cc "PairedField" ret [] d) (hd : decode cc pc = .ok (.invokevirtual 91, 3)) (hcon : Con X.2.1 g yP_isPossible bP_isPossible 1 ((some .boolean)) [] d' 1 6 (.ref (g.1 31) :: []) w (Tp cn P)) (hdd : d' + 1 ≤ d) (hst : (st.map fun v => v.category).sum ≤ 8) (h1 : 1 ≤ X.2.2.2.1.cells) (h6 : 6 ≤ X.2.2.2.1.slots) (hP : ∀ w' : Wd, P w' → P2 (.inr cn) w') : Go X g 0 0 (Fen X g 1 6 P2) w pc lp (.ref (g.1 31) :: st) :=
  kF_91 hc hd hcon hdd hst (by omega) (by omega) (fun v w' h => absurd h Tp_l) (fun cn2 w' h => by obtain ⟨rfl, h⟩ := h; exact x_out hc (hP w' h))
/-- PairedField$Pairing: a call of PairedField$Pairing.count -/
theorem kP_47 {d' k n : Nat} {P : Rt → Wd → Prop} (hc : Ok X g cc "PairedField$Pairing" ret hx d) (hd : decode cc pc = .ok (.invokevirtual 47, 3)) (hcon : Con X.2.1 g yP_count bP_count 1 ((some .int)) [] d' k n (.ref (g.1 31) :: []) w P) (hdd : d' + 1 ≤ d) (hst : (st.map fun v => v.category).sum ≤ 8) (hcells : kc + k ≤ X.2.2.2.1.cells) (hslots : ks + n ≤ X.2.2.2.1.slots)
    (hret : ∀ (v : Option Value) (w' : Wd), P (.inl v) w' → Go X g (kc + k) (ks + n) Q w' (pc + 3) lp (v.toList ++ st)) (hthr : ∀ (cn : String) (w' : Wd), P (.inr cn) w' → GoX X g (kc + k) (ks + n) Q w' pc lp cn) : Go X g kc ks Q w pc lp (.ref (g.1 31) :: st) :=
  r_callv (av := []) (nL' := 1) (q := 31) (ci := 2) (C := R_P) (Tc := T_P) (N := 6) hc hd hcon (t2_mem 168 rfl rfl) (t1_mem 215 rfl rfl) (t1_mem 216 rfl rfl) (t1_mem 217 rfl rfl) (by decide) (by decide +kernel) (show (parseMethodDescriptor yP_count.desc).map (fun d => d.parameters.length) = some 0 by decide +kernel) (by decide) (ent_P g (w 31)) rfl hdd (by decide) (fun v hv => by cases hv) (Nat.le_of_ble_eq_true rfl) hst hcells hslots hret hthr
theorem kP_47r {d' : Nat} {P : Option Value → Wd → Prop} (hc : Ok X g cc "PairedField$Pairing" ret hx d) (hd : decode cc pc = .ok (.invokevirtual 47, 3)) (hcon : Con X.2.1 g yP_count bP_count 1 ((some .int)) [] d' 0 0 (.ref (g.1 31) :: []) w (Rp P)) (hdd : d' + 1 ≤ d) (hst : (st.map fun v => v.category).sum ≤ 8) (hret : ∀ (v : Option Value) (w' : Wd), P v w' → Go X g 0 0 Q w' (pc + 3) lp (v.toList ++ st)) : Go X g 0 0 Q w pc lp (.ref (g.1 31) :: st) :=
  kP_47 hc hd hcon hdd hst (Nat.zero_le _) (Nat.zero_le _) (fun v w' h => hret v w' (Rp_l h)) (fun cn w' h => absurd h Rp_r)
theorem kP_47t {d' : Nat} {cn : String} {P : Wd → Prop} {P2 : Rt → Wd → Prop} (hc : Ok X g cc "PairedField$Pairing" ret [] d) (hd : decode cc pc = .ok (.invokevirtual 47, 3)) (hcon : Con X.2.1 g yP_count bP_count 1 ((some .int)) [] d' 1 6 (.ref (g.1 31) :: []) w (Tp cn P)) (hdd : d' + 1 ≤ d) (hst : (st.map fun v => v.category).sum ≤ 8) (h1 : 1 ≤ X.2.2.2.1.cells) (h6 : 6 ≤ X.2.2.2.1.slots) (hP : ∀ w' : Wd, P w' → P2 (.inr cn) w') : Go X g 0 0 (Fen X g 1 6 P2) w pc lp (.ref (g.1 31) :: st) :=
  kP_47 hc hd hcon hdd hst (by omega) (by omega) (fun v w' h => absurd h Tp_l) (fun cn2 w' h => by obtain ⟨rfl, h⟩ := h; exact x_out hc (hP w' h))
/-- PairedField: a call of PairedField$Pairing.writeTo -/
theorem kF_195 {d' k n : Nat} {P : Rt → Wd → Prop} {a0 : Nat} {a1 : Nat} {a2 : Int32} (hc : Ok X g cc "PairedField" ret hx d) (hd : decode cc pc = .ok (.invokevirtual 195, 3)) (hcon : Con X.2.1 g yP_writeTo bP_writeTo 11 ((none : Option Jvm.ClassFile.FieldType)) [] d' k n (.ref (g.1 31) :: [.ref a0, .ref a1, .int a2]) w P) (hdd : d' + 1 ≤ d) (hst : (st.map fun v => v.category).sum ≤ 8) (hcells : kc + k ≤ X.2.2.2.1.cells) (hslots : ks + n ≤ X.2.2.2.1.slots)
    (hret : ∀ (v : Option Value) (w' : Wd), P (.inl v) w' → Go X g (kc + k) (ks + n) Q w' (pc + 3) lp (v.toList ++ st)) (hthr : ∀ (cn : String) (w' : Wd), P (.inr cn) w' → GoX X g (kc + k) (ks + n) Q w' pc lp cn) : Go X g kc ks Q w pc lp (.int a2 :: .ref a1 :: .ref a0 :: .ref (g.1 31) :: st) :=
  r_callv (av := [.ref a0, .ref a1, .int a2]) (nL' := 11) (q := 31) (ci := 2) (C := R_P) (Tc := T_P) (N := 6) hc hd hcon (t2_mem 169 rfl rfl) (t2_mem 170 rfl rfl) (t2_mem 171 rfl rfl) (t2_mem 172 rfl rfl) (by decide) (by decide +kernel) (show (parseMethodDescriptor yP_writeTo.desc).map (fun d => d.parameters.length) = some 3 by decide +kernel) (by decide) (ent_P g (w 31)) rfl hdd (by decide) (fun v hv => by simp only [List.mem_cons, List.not_mem_nil, or_false] at hv; rcases hv with rfl | rfl | rfl <;> rfl) (Nat.le_of_ble_eq_true rfl) hst hcells hslots hret hthr
theorem kF_195r {d' : Nat} {P : Option Value → Wd → Prop} {a0 : Nat} {a1 : Nat} {a2 : Int32} (hc : Ok X g cc "PairedField" ret hx d) (hd : decode cc pc = .ok (.invokevirtual 195, 3)) (hcon : Con X.2.1 g yP_writeTo bP_writeTo 11 ((none : Option Jvm.ClassFile.FieldType)) [] d' 0 0 (.ref (g.1 31) :: [.ref a0, .ref a1, .int a2]) w (Rp P)) (hdd : d' + 1 ≤ d) (hst : (st.map fun v => v.category).sum ≤ 8) (hret : ∀ (v : Option Value) (w' : Wd), P v w' → Go X g 0 0 Q w' (pc + 3) lp (v.toList ++ st)) : Go X g 0 0 Q w pc lp (.int a2 :: .ref a1 :: .ref a0 :: .ref (g.1 31) :: st) :=
  kF_195 hc hd hcon hdd hst (Nat.zero_le _) (Nat.zero_le _) (fun v w' h => hret v w' (Rp_l h)) (fun cn w' h => absurd h Rp_r)
theorem kF_195t {d' : Nat} {cn : String} {P : Wd → Prop} {P2 : Rt → Wd → Prop} {a0 : Nat} {a1 : Nat} {a2 : Int32} (hc : Ok X g cc "PairedField" ret [] d) (hd : decode cc pc = .ok (.invokevirtual 195, 3)) (hcon : Con X.2.1 g yP_writeTo bP_writeTo 11 ((none : Option Jvm.ClassFile.FieldType)) [] d' 1 6 (.ref (g.1 31) :: [.ref a0, .ref a1, .int a2]) w (Tp cn P)) (hdd : d' + 1 ≤ d) (hst : (st.map fun v => v.category).sum ≤ 8) (h1 : 1 ≤ X.2.2.2.1.cells) (h6 : 6 ≤ X.2.2.2.1.slots) (hP : ∀ w' : Wd, P w' → P2 (.inr cn) w') : Go X g 0 0 (Fen X g 1 6 P2) w pc lp (.int a2 :: .ref a1 :: .ref a0 :: .ref (g.1 31) :: st) :=
  kF_195 hc hd hcon hdd hst (by omega) (by omega) (fun v w' h => absurd h Tp_l) (fun cn2 w' h => by obtain ⟨rfl, h⟩ := h; exact x_out hc (hP w' h))
/-- PairedField$Pairing: a call of java/util/Arrays.fill -/
theorem kP_58 {d' k n : Nat} {P : Rt → Wd → Prop} {a0 : Nat} {a1 : Int32} (hc : Ok X g cc "PairedField$Pairing" ret hx d) (hd : decode cc pc = .ok (.invokestatic 58, 3)) (hcon : Con X.2.1 g yA_fill bA_fill 4 ((none : Option Jvm.ClassFile.FieldType)) [] d' k n [.ref a0, .int a1] w P) (hdd : d' + 1 ≤ d) (hst : (st.map fun v => v.category).sum ≤ 8) (hcells : kc + k ≤ X.2.2.2.1.cells) (hslots : ks + n ≤ X.2.2.2.1.slots)
    (hret : ∀ (v : Option Value) (w' : Wd), P (.inl v) w' → Go X g (kc + k) (ks + n) Q w' (pc + 3) lp (v.toList ++ st)) (hthr : ∀ (cn : String) (w' : Wd), P (.inr cn) w' → GoX X g (kc + k) (ks + n) Q w' pc lp cn) : Go X g kc ks Q w pc lp (.int a1 :: .ref a0 :: st) :=
  r_calls (av := [.ref a0, .int a1]) (nL' := 4) hc hd hcon (t2_mem 173 rfl rfl) (t2_mem 174 rfl rfl) (t1_mem 14 rfl rfl) (t2_mem 175 rfl rfl) (by decide) (by decide +kernel) (show (parseMethodDescriptor yA_fill.desc).map (fun d => d.parameters.length) = some 2 by decide +kernel) hdd (by decide) (fun v hv => by simp only [List.mem_cons, List.not_mem_nil, or_false] at hv; rcases hv with rfl | rfl <;> rfl) (Nat.le_of_ble_eq_true rfl) hst hcells hslots hret hthr
theorem kP_58r {d' : Nat} {P : Option Value → Wd → Prop} {a0 : Nat} {a1 : Int32} (hc : Ok X g cc "PairedField$Pairing" ret hx d) (hd : decode cc pc = .ok (.invokestatic 58, 3)) (hcon : Con X.2.1 g yA_fill bA_fill 4 ((none : Option Jvm.ClassFile.FieldType)) [] d' 0 0 [.ref a0, .int a1] w (Rp P)) (hdd : d' + 1 ≤ d) (hst : (st.map fun v => v.category).sum ≤ 8) (hret : ∀ (v : Option Value) (w' : Wd), P v w' → Go X g 0 0 Q w' (pc + 3) lp (v.toList ++ st)) : Go X g 0 0 Q w pc lp (.int a1 :: .ref a0 :: st) :=
  kP_58 hc hd hcon hdd hst (Nat.zero_le _) (Nat.zero_le _) (fun v w' h => hret v w' (Rp_l h)) (fun cn w' h => absurd h Rp_r)
theorem kP_58t {d' : Nat} {cn : String} {P : Wd → Prop} {P2 : Rt → Wd → Prop} {a0 : Nat} {a1 : Int32} (hc : Ok X g cc "PairedField$Pairing" ret [] d) (hd : decode cc pc = .ok (.invokestatic 58, 3)) (hcon : Con X.2.1 g yA_fill bA_fill 4 ((none : Option Jvm.ClassFile.FieldType)) [] d' 1 6 [.ref a0, .int a1] w (Tp cn P)) (hdd : d' + 1 ≤ d) (hst : (st.map fun v => v.category).sum ≤ 8) (h1 : 1 ≤ X.2.2.2.1.cells) (h6 : 6 ≤ X.2.2.2.1.slots) (hP : ∀ w' : Wd, P w' → P2 (.inr cn) w') : Go X g 0 0 (Fen X g 1 6 P2) w pc lp (.int a1 :: .ref a0 :: st) :=
  kP_58 hc hd hcon hdd hst (by omega) (by omega) (fun v w' h => absurd h Tp_l) (fun cn2 w' h => by obtain ⟨rfl, h⟩ := h; exact x_out hc (hP w' h))
/-- PairedField$Pairing: a call of PairedField$Pairing.games -/
theorem kP_66 {d' k n : Nat} {P : Rt → Wd → Prop} (hc : Ok X g cc "PairedField$Pairing" ret hx d) (hd : decode cc pc = .ok (.invokevirtual 66, 3)) (hcon : Con X.2.1 g yP_games bP_games 1 ((some .int)) [] d' k n (.ref (g.1 31) :: []) w P) (hdd : d' + 1 ≤ d) (hst : (st.map fun v => v.category).sum ≤ 8) (hcells : kc + k ≤ X.2.2.2.1.cells) (hslots : ks + n ≤ X.2.2.2.1.slots)
    (hret : ∀ (v : Option Value) (w' : Wd), P (.inl v) w' → Go X g (kc + k) (ks + n) Q w' (pc + 3) lp (v.toList ++ st)) (hthr : ∀ (cn : String) (w' : Wd), P (.inr cn) w' → GoX X g (kc + k) (ks + n) Q w' pc lp cn) : Go X g kc ks Q w pc lp (.ref (g.1 31) :: st) :=
  r_callv (av := []) (nL' := 1) (q := 31) (ci := 2) (C := R_P) (Tc := T_P) (N := 6) hc hd hcon (t2_mem 176 rfl rfl) (t2_mem 177 rfl rfl) (t2_mem 178 rfl rfl) (t2_mem 179 rfl rfl) (by decide) (by decide +kernel) (show (parseMethodDescriptor yP_games.desc).map (fun d => d.parameters.length) = some 0 by decide +kernel) (by decide) (ent_P g (w 31)) rfl hdd (by decide) (fun v hv => by cases hv) (Nat.le_of_ble_eq_true rfl) hst hcells hslots hret hthr
theorem kP_66r {d' : Nat} {P : Option Value → Wd → Prop} (hc : Ok X g cc "PairedField$Pairing" ret hx d) (hd : decode cc pc = .ok (.invokevirtual 66, 3)) (hcon : Con X.2.1 g yP_games bP_games 1 ((some .int)) [] d' 0 0 (.ref (g.1 31) :: []) w (Rp P)) (hdd : d' + 1 ≤ d) (hst : (st.map fun v => v.category).sum ≤ 8) (hret : ∀ (v : Option Value) (w' : Wd), P v w' → Go X g 0 0 Q w' (pc + 3) lp (v.toList ++ st)) : Go X g 0 0 Q w pc lp (.ref (g.1 31) :: st) :=
  kP_66 hc hd hcon hdd hst (Nat.zero_le _) (Nat.zero_le _) (fun v w' h => hret v w' (Rp_l h)) (fun cn w' h => absurd h Rp_r)
theorem kP_66t {d' : Nat} {cn : String} {P : Wd → Prop} {P2 : Rt → Wd → Prop} (hc : Ok X g cc "PairedField$Pairing" ret [] d) (hd : decode cc pc = .ok (.invokevirtual 66, 3)) (hcon : Con X.2.1 g yP_games bP_games 1 ((some .int)) [] d' 1 6 (.ref (g.1 31) :: []) w (Tp cn P)) (hdd : d' + 1 ≤ d) (hst : (st.map fun v => v.category).sum ≤ 8) (h1 : 1 ≤ X.2.2.2.1.cells) (h6 : 6 ≤ X.2.2.2.1.slots) (hP : ∀ w' : Wd, P w' → P2 (.inr cn) w') : Go X g 0 0 (Fen X g 1 6 P2) w pc lp (.ref (g.1 31) :: st) :=
  kP_66 hc hd hcon hdd hst (by omega) (by omega) (fun v w' h => absurd h Tp_l) (fun cn2 w' h => by obtain ⟨rfl, h⟩ := h; exact x_out hc (hP w' h))
/-- PairedField$Pairing: a call of PairedField$Pairing.bestPartner -/
theorem kP_74 {d' k n : Nat} {P : Rt → Wd → Prop} {a0 : Int32} {a1 : Int32} (hc : Ok X g cc "PairedField$Pairing" ret hx d) (hd : decode cc pc = .ok (.invokevirtual 74, 3)) (hcon : Con X.2.1 g yP_bestPartner bP_bestPartner 5 ((some .int)) [] d' k n (.ref (g.1 31) :: [.int a0, .int a1]) w P) (hdd : d' + 1 ≤ d) (hst : (st.map fun v => v.category).sum ≤ 8) (hcells : kc + k ≤ X.2.2.2.1.cells) (hslots : ks + n ≤ X.2.2.2.1.slots)
    (hret : ∀ (v : Option Value) (w' : Wd), P (.inl v) w' → Go X g (kc + k) (ks + n) Q w' (pc + 3) lp (v.toList ++ st)) (hthr : ∀ (cn : String) (w' : Wd), P (.inr cn) w' → GoX X g (kc + k) (ks + n) Q w' pc lp cn) : Go X g kc ks Q w pc lp (.int a1 :: .int a0 :: .ref (g.1 31) :: st) :=
  r_callv (av := [.int a0, .int a1]) (nL' := 5) (q := 31) (ci := 2) (C := R_P) (Tc := T_P) (N := 6) hc hd hcon (t2_mem 180 rfl rfl) (t2_mem 182 rfl rfl) (t0_mem 16 rfl rfl) (t2_mem 183 rfl rfl) (by decide) (by decide +kernel) (show (parseMethodDescriptor yP_bestPartner.desc).map (fun d => d.parameters.length) = some 2 by decide +kernel) (by decide) (ent_P g (w 31)) rfl hdd (by decide) (fun v hv => by simp only [List.mem_cons, List.not_mem_nil, or_false] at hv; rcases hv with rfl | rfl <;> rfl) (Nat.le_of_ble_eq_true rfl) hst hcells hslots hret hthr
theorem kP_74r {d' : Nat} {P : Option Value → Wd → Prop} {a0 : Int32} {a1 : Int32} (hc : Ok X g cc "PairedField$Pairing" ret hx d) (hd : decode cc pc = .ok (.invokevirtual 74, 3)) (hcon : Con X.2.1 g yP_bestPartner bP_bestPartner 5 ((some .int)) [] d' 0 0 (.ref (g.1 31) :: [.int a0, .int a1]) w (Rp P)) (hdd : d' + 1 ≤ d) (hst : (st.map fun v => v.category).sum ≤ 8) (hret : ∀ (v : Option Value) (w' : Wd), P v w' → Go X g 0 0 Q w' (pc + 3) lp (v.toList ++ st)) : Go X g 0 0 Q w pc lp (.int a1 :: .int a0 :: .ref (g.1 31) :: st) :=
  kP_74 hc hd hcon hdd hst (Nat.zero_le _) (Nat.zero_le _) (fun v w' h => hret v w' (Rp_l h)) (fun cn w' h => absurd h Rp_r)
theorem kP_74t {d' : Nat} {cn : String} {P : Wd → Prop} {P2 : Rt → Wd → Prop} {a0 : Int32} {a1 : Int32} (hc : Ok X g cc "PairedField$Pairing" ret [] d) (hd : decode cc pc = .ok (.invokevirtual 74, 3)) (hcon : Con X.2.1 g yP_bestPartner bP_bestPartner 5 ((some .int)) [] d' 1 6 (.ref (g.1 31) :: [.int a0, .int a1]) w (Tp cn P)) (hdd : d' + 1 ≤ d) (hst : (st.map fun v => v.category).sum ≤ 8) (h1 : 1 ≤ X.2.2.2.1.cells) (h6 : 6 ≤ X.2.2.2.1.slots) (hP : ∀ w' : Wd, P w' → P2 (.inr cn) w') : Go X g 0 0 (Fen X g 1 6 P2) w pc lp (.int a1 :: .int a0 :: .ref (g.1 31) :: st) :=
  kP_74 hc hd hcon hdd hst (by omega) (by omega) (fun v w' h => absurd h Tp_l) (fun cn2 w' h => by obtain ⟨rfl, h⟩ := h; exact x_out hc (hP w' h))
/-- PairedField$Pairing: a call of PairedField$Standing.colourOfFirst -/
theorem kP_78 {d' k n : Nat} {P : Rt → Wd → Prop} {a0 : Int32} {a1 : Int32} {a2 : Int32} (hc : Ok X g cc "PairedField$Pairing" ret hx d) (hd : decode cc pc = .ok (.invokevirtual 78, 3)) (hcon : Con X.2.1 g yS_colourOfFirst bS_colourOfFirst 4 ((some .int)) [] d' k n (.ref (g.1 20) :: [.int a0, .int a1, .int a2]) w P) (hdd : d' + 1 ≤ d) (hst : (st.map fun v => v.category).sum ≤ 8) (hcells : kc + k ≤ X.2.2.2.1.cells) (hslots : ks + n ≤ X.2.2.2.1.slots)
    (hret : ∀ (v : Option Value) (w' : Wd), P (.inl v) w' → Go X g (kc + k) (ks + n) Q w' (pc + 3) lp (v.toList ++ st)) (hthr : ∀ (cn : String) (w' : Wd), P (.inr cn) w' → GoX X g (kc + k) (ks + n) Q w' pc lp cn) : Go X g kc ks Q w pc lp (.int a2 :: .int a1 :: .int a0 :: .ref (g.1 20) :: st) :=
  r_callv (av := [.int a0, .int a1, .int a2]) (nL' := 4) (q := 20) (ci := 1) (C := R_S) (Tc := T_S) (N := 10) hc hd hcon (t2_mem 184 rfl rfl) (t1_mem 171 rfl rfl) (t1_mem 172 rfl rfl) (t1_mem 173 rfl rfl) (by decide) (by decide +kernel) (show (parseMethodDescriptor yS_colourOfFirst.desc).map (fun d => d.parameters.length) = some 3 by decide +kernel) (by decide) (ent_S g (w 20)) rfl hdd (by decide) (fun v hv => by simp only [List.mem_cons, List.not_mem_nil, or_false] at hv; rcases hv with rfl | rfl | rfl <;> rfl) (Nat.le_of_ble_eq_true rfl) hst hcells hslots hret hthr
theorem kP_78r {d' : Nat} {P : Option Value → Wd → Prop} {a0 : Int32} {a1 : Int32} {a2 : Int32} (hc : Ok X g cc "PairedField$Pairing" ret hx d) (hd : decode cc pc = .ok (.invokevirtual 78, 3)) (hcon : Con X.2.1 g yS_colourOfFirst bS_colourOfFirst 4 ((some .int)) [] d' 0 0 (.ref (g.1 20) :: [.int a0, .int a1, .int a2]) w (Rp P)) (hdd : d' + 1 ≤ d) (hst : (st.map fun v => v.category).sum ≤ 8) (hret : ∀ (v : Option Value) (w' : Wd), P v w' → Go X g 0 0 Q w' (pc + 3) lp (v.toList ++ st)) : Go X g 0 0 Q w pc lp (.int a2 :: .int a1 :: .int a0 :: .ref (g.1 20) :: st) :=
  kP_78 hc hd hcon hdd hst (Nat.zero_le _) (Nat.zero_le _) (fun v w' h => hret v w' (Rp_l h)) (fun cn w' h => absurd h Rp_r)
theorem kP_78t {d' : Nat} {cn : String} {P : Wd → Prop} {P2 : Rt → Wd → Prop} {a0 : Int32} {a1 : Int32} {a2 : Int32} (hc : Ok X g cc "PairedField$Pairing" ret [] d) (hd : decode cc pc = .ok (.invokevirtual 78, 3)) (hcon : Con X.2.1 g yS_colourOfFirst bS_colourOfFirst 4 ((some .int)) [] d' 1 6 (.ref (g.1 20) :: [.int a0, .int a1, .int a2]) w (Tp cn P)) (hdd : d' + 1 ≤ d) (hst : (st.map fun v => v.category).sum ≤ 8) (h1 : 1 ≤ X.2.2.2.1.cells) (h6 : 6 ≤ X.2.2.2.1.slots) (hP : ∀ w' : Wd, P w' → P2 (.inr cn) w') : Go X g 0 0 (Fen X g 1 6 P2) w pc lp (.int a2 :: .int a1 :: .int a0 :: .ref (g.1 20) :: st) :=
  kP_78 hc hd hcon hdd hst (by omega) (by omega) (fun v w' h => absurd h Tp_l) (fun cn2 w' h => by obtain ⟨rfl, h⟩ := h; exact x_out hc (hP w' h))
/-- PairedField$Pairing: a call of PairedField$Cell.untoldGame -/
theorem kP_84 {d' k n : Nat} {P : Rt → Wd → Prop} {a0 : Int32} {a1 : Int32} (hc : Ok X g cc "PairedField$Pairing" ret hx d) (hd : decode cc pc = .ok (.invokestatic 84, 3)) (hcon : Con X.2.1 g yC_untoldGame bC_untoldGame 2 ((some .int)) [] d' k n [.int a0, .int a1] w P) (hdd : d' + 1 ≤ d) (hst : (st.map fun v => v.category).sum ≤ 8) (hcells : kc + k ≤ X.2.2.2.1.cells) (hslots : ks + n ≤ X.2.2.2.1.slots)
    (hret : ∀ (v : Option Value) (w' : Wd), P (.inl v) w' → Go X g (kc + k) (ks + n) Q w' (pc + 3) lp (v.toList ++ st)) (hthr : ∀ (cn : String) (w' : Wd), P (.inr cn) w' → GoX X g (kc + k) (ks + n) Q w' pc lp cn) : Go X g kc ks Q w pc lp (.int a1 :: .int a0 :: st) :=
  r_calls (av := [.int a0, .int a1]) (nL' := 2) hc hd hcon (t2_mem 185 rfl rfl) (t2_mem 186 rfl rfl) (t1_mem 15 rfl rfl) (t2_mem 187 rfl rfl) (by decide) (by decide +kernel) (show (parseMethodDescriptor yC_untoldGame.desc).map (fun d => d.parameters.length) = some 2 by decide +kernel) hdd (by decide) (fun v hv => by simp only [List.mem_cons, List.not_mem_nil, or_false] at hv; rcases hv with rfl | rfl <;> rfl) (Nat.le_of_ble_eq_true rfl) hst hcells hslots hret hthr
theorem kP_84r {d' : Nat} {P : Option Value → Wd → Prop} {a0 : Int32} {a1 : Int32} (hc : Ok X g cc "PairedField$Pairing" ret hx d) (hd : decode cc pc = .ok (.invokestatic 84, 3)) (hcon : Con X.2.1 g yC_untoldGame bC_untoldGame 2 ((some .int)) [] d' 0 0 [.int a0, .int a1] w (Rp P)) (hdd : d' + 1 ≤ d) (hst : (st.map fun v => v.category).sum ≤ 8) (hret : ∀ (v : Option Value) (w' : Wd), P v w' → Go X g 0 0 Q w' (pc + 3) lp (v.toList ++ st)) : Go X g 0 0 Q w pc lp (.int a1 :: .int a0 :: st) :=
  kP_84 hc hd hcon hdd hst (Nat.zero_le _) (Nat.zero_le _) (fun v w' h => hret v w' (Rp_l h)) (fun cn w' h => absurd h Rp_r)
theorem kP_84t {d' : Nat} {cn : String} {P : Wd → Prop} {P2 : Rt → Wd → Prop} {a0 : Int32} {a1 : Int32} (hc : Ok X g cc "PairedField$Pairing" ret [] d) (hd : decode cc pc = .ok (.invokestatic 84, 3)) (hcon : Con X.2.1 g yC_untoldGame bC_untoldGame 2 ((some .int)) [] d' 1 6 [.int a0, .int a1] w (Tp cn P)) (hdd : d' + 1 ≤ d) (hst : (st.map fun v => v.category).sum ≤ 8) (h1 : 1 ≤ X.2.2.2.1.cells) (h6 : 6 ≤ X.2.2.2.1.slots) (hP : ∀ w' : Wd, P w' → P2 (.inr cn) w') : Go X g 0 0 (Fen X g 1 6 P2) w pc lp (.int a1 :: .int a0 :: st) :=
  kP_84 hc hd hcon hdd hst (by omega) (by omega) (fun v w' h => absurd h Tp_l) (fun cn2 w' h => by obtain ⟨rfl, h⟩ := h; exact x_out hc (hP w' h))
/-- PairedField$Cell: a call of PairedField$Cell.withResult -/
theorem kC_11 {d' k n : Nat} {P : Rt → Wd → Prop} {a0 : Int32} {a1 : Int32} (hc : Ok X g cc "PairedField$Cell" ret hx d) (hd : decode cc pc = .ok (.invokestatic 11, 3)) (hcon : Con X.2.1 g yC_withResult bC_withResult 2 ((some .int)) [] d' k n [.int a0, .int a1] w P) (hdd : d' + 1 ≤ d) (hst : (st.map fun v => v.category).sum ≤ 8) (hcells : kc + k ≤ X.2.2.2.1.cells) (hslots : ks + n ≤ X.2.2.2.1.slots)
    (hret : ∀ (v : Option Value) (w' : Wd), P (.inl v) w' → Go X g (kc + k) (ks + n) Q w' (pc + 3) lp (v.toList ++ st)) (hthr : ∀ (cn : String) (w' : Wd), P (.inr cn) w' → GoX X g (kc + k) (ks + n) Q w' pc lp cn) : Go X g kc ks Q w pc lp (.int a1 :: .int a0 :: st) :=
  r_calls (av := [.int a0, .int a1]) (nL' := 2) hc hd hcon (t2_mem 188 rfl rfl) (t2_mem 189 rfl rfl) (t1_mem 15 rfl rfl) (t2_mem 190 rfl rfl) (by decide) (by decide +kernel) (show (parseMethodDescriptor yC_withResult.desc).map (fun d => d.parameters.length) = some 2 by decide +kernel) hdd (by decide) (fun v hv => by simp only [List.mem_cons, List.not_mem_nil, or_false] at hv; rcases hv with rfl | rfl <;> rfl) (Nat.le_of_ble_eq_true rfl) hst hcells hslots hret hthr
theorem kC_11r {d' : Nat} {P : Option Value → Wd → Prop} {a0 : Int32} {a1 : Int32} (hc : Ok X g cc "PairedField$Cell" ret hx d) (hd : decode cc pc = .ok (.invokestatic 11, 3)) (hcon : Con X.2.1 g yC_withResult bC_withResult 2 ((some .int)) [] d' 0 0 [.int a0, .int a1] w (Rp P)) (hdd : d' + 1 ≤ d) (hst : (st.map fun v => v.category).sum ≤ 8) (hret : ∀ (v : Option Value) (w' : Wd), P v w' → Go X g 0 0 Q w' (pc + 3) lp (v.toList ++ st)) : Go X g 0 0 Q w pc lp (.int a1 :: .int a0 :: st) :=
  kC_11 hc hd hcon hdd hst (Nat.zero_le _) (Nat.zero_le _) (fun v w' h => hret v w' (Rp_l h)) (fun cn w' h => absurd h Rp_r)
theorem kC_11t {d' : Nat} {cn : String} {P : Wd → Prop} {P2 : Rt → Wd → Prop} {a0 : Int32} {a1 : Int32} (hc : Ok X g cc "PairedField$Cell" ret [] d) (hd : decode cc pc = .ok (.invokestatic 11, 3)) (hcon : Con X.2.1 g yC_withResult bC_withResult 2 ((some .int)) [] d' 1 6 [.int a0, .int a1] w (Tp cn P)) (hdd : d' + 1 ≤ d) (hst : (st.map fun v => v.category).sum ≤ 8) (h1 : 1 ≤ X.2.2.2.1.cells) (h6 : 6 ≤ X.2.2.2.1.slots) (hP : ∀ w' : Wd, P w' → P2 (.inr cn) w') : Go X g 0 0 (Fen X g 1 6 P2) w pc lp (.int a1 :: .int a0 :: st) :=
  kC_11 hc hd hcon hdd hst (by omega) (by omega) (fun v w' h => absurd h Tp_l) (fun cn2 w' h => by obtain ⟨rfl, h⟩ := h; exact x_out hc (hP w' h))
/-- PairedField: a call of PairedField$Pairing.games -/
theorem kF_84 {d' k n : Nat} {P : Rt → Wd → Prop} (hc : Ok X g cc "PairedField" ret hx d) (hd : decode cc pc = .ok (.invokevirtual 84, 3)) (hcon : Con X.2.1 g yP_games bP_games 1 ((some .int)) [] d' k n (.ref (g.1 31) :: []) w P) (hdd : d' + 1 ≤ d) (hst : (st.map fun v => v.category).sum ≤ 8) (hcells : kc + k ≤ X.2.2.2.1.cells) (hslots : ks + n ≤ X.2.2.2.1.slots)
    (hret : ∀ (v : Option Value) (w' : Wd), P (.inl v) w' → Go X g (kc + k) (ks + n) Q w' (pc + 3) lp (v.toList ++ st)) (hthr : ∀ (cn : String) (w' : Wd), P (.inr cn) w' → GoX X g (kc + k) (ks + n) Q w' pc lp cn) : Go X g kc ks Q w pc lp (.ref (g.1 31) :: st) :=
  r_callv (av := []) (nL' := 1) (q := 31) (ci := 2) (C := R_P) (Tc := T_P) (N := 6) hc hd hcon (t2_mem 192 rfl rfl) (t2_mem 177 rfl rfl) (t2_mem 178 rfl rfl) (t2_mem 179 rfl rfl) (by decide) (by decide +kernel) (show (parseMethodDescriptor yP_games.desc).map (fun d => d.parameters.length) = some 0 by decide +kernel) (by decide) (ent_P g (w 31)) rfl hdd (by decide) (fun v hv => by cases hv) (Nat.le_of_ble_eq_true rfl) hst hcells hslots hret hthr
theorem kF_84r {d' : Nat} {P : Option Value → Wd → Prop} (hc : Ok X g cc "PairedField" ret hx d) (hd : decode cc pc = .ok (.invokevirtual 84, 3)) (hcon : Con X.2.1 g yP_games bP_games 1 ((some .int)) [] d' 0 0 (.ref (g.1 31) :: []) w (Rp P)) (hdd : d' + 1 ≤ d) (hst : (st.map fun v => v.category).sum ≤ 8) (hret : ∀ (v : Option Value) (w' : Wd), P v w' → Go X g 0 0 Q w' (pc + 3) lp (v.toList ++ st)) : Go X g 0 0 Q w pc lp (.ref (g.1 31) :: st) :=
  kF_84 hc hd hcon hdd hst (Nat.zero_le _) (Nat.zero_le _) (fun v w' h => hret v w' (Rp_l h)) (fun cn w' h => absurd h Rp_r)
theorem kF_84t {d' : Nat} {cn : String} {P : Wd → Prop} {P2 : Rt → Wd → Prop} (hc : Ok X g cc "PairedField" ret [] d) (hd : decode cc pc = .ok (.invokevirtual 84, 3)) (hcon : Con X.2.1 g yP_games bP_games 1 ((some .int)) [] d' 1 6 (.ref (g.1 31) :: []) w (Tp cn P)) (hdd : d' + 1 ≤ d) (hst : (st.map fun v => v.category).sum ≤ 8) (h1 : 1 ≤ X.2.2.2.1.cells) (h6 : 6 ≤ X.2.2.2.1.slots) (hP : ∀ w' : Wd, P w' → P2 (.inr cn) w') : Go X g 0 0 (Fen X g 1 6 P2) w pc lp (.ref (g.1 31) :: st) :=
  kF_84 hc hd hcon hdd hst (by omega) (by omega) (fun v w' h => absurd h Tp_l) (fun cn2 w' h => by obtain ⟨rfl, h⟩ := h; exact x_out hc (hP w' h))
/-- PairedFieldLaw: a call of PairedField.cost -/
theorem kL_32 {d' k n : Nat} {P : Rt → Wd → Prop} (hc : Ok X g cc "PairedFieldLaw" ret hx d) (hd : decode cc pc = .ok (.invokevirtual 32, 3)) (hcon : Con X.2.1 g yF_cost bF_cost 1 ((some .int)) [] d' k n (.ref (g.1 0) :: []) w P) (hdd : d' + 1 ≤ d) (hst : (st.map fun v => v.category).sum ≤ 8) (hcells : kc + k ≤ X.2.2.2.1.cells) (hslots : ks + n ≤ X.2.2.2.1.slots)
    (hret : ∀ (v : Option Value) (w' : Wd), P (.inl v) w' → Go X g (kc + k) (ks + n) Q w' (pc + 3) lp (v.toList ++ st)) (hthr : ∀ (cn : String) (w' : Wd), P (.inr cn) w' → GoX X g (kc + k) (ks + n) Q w' pc lp cn) : Go X g kc ks Q w pc lp (.ref (g.1 0) :: st) :=
  r_callv (av := []) (nL' := 1) (q := 0) (ci := 0) (C := R_F) (Tc := T_F) (N := 8) hc hd hcon (t2_mem 196 rfl rfl) (t2_mem 197 rfl rfl) (t2_mem 198 rfl rfl) (t2_mem 199 rfl rfl) (by decide) (by decide +kernel) (show (parseMethodDescriptor yF_cost.desc).map (fun d => d.parameters.length) = some 0 by decide +kernel) (by decide) (ent_F g (w 0)) rfl hdd (by decide) (fun v hv => by cases hv) (Nat.le_of_ble_eq_true rfl) hst hcells hslots hret hthr
theorem kL_32r {d' : Nat} {P : Option Value → Wd → Prop} (hc : Ok X g cc "PairedFieldLaw" ret hx d) (hd : decode cc pc = .ok (.invokevirtual 32, 3)) (hcon : Con X.2.1 g yF_cost bF_cost 1 ((some .int)) [] d' 0 0 (.ref (g.1 0) :: []) w (Rp P)) (hdd : d' + 1 ≤ d) (hst : (st.map fun v => v.category).sum ≤ 8) (hret : ∀ (v : Option Value) (w' : Wd), P v w' → Go X g 0 0 Q w' (pc + 3) lp (v.toList ++ st)) : Go X g 0 0 Q w pc lp (.ref (g.1 0) :: st) :=
  kL_32 hc hd hcon hdd hst (Nat.zero_le _) (Nat.zero_le _) (fun v w' h => hret v w' (Rp_l h)) (fun cn w' h => absurd h Rp_r)
theorem kL_32t {d' : Nat} {cn : String} {P : Wd → Prop} {P2 : Rt → Wd → Prop} (hc : Ok X g cc "PairedFieldLaw" ret [] d) (hd : decode cc pc = .ok (.invokevirtual 32, 3)) (hcon : Con X.2.1 g yF_cost bF_cost 1 ((some .int)) [] d' 1 6 (.ref (g.1 0) :: []) w (Tp cn P)) (hdd : d' + 1 ≤ d) (hst : (st.map fun v => v.category).sum ≤ 8) (h1 : 1 ≤ X.2.2.2.1.cells) (h6 : 6 ≤ X.2.2.2.1.slots) (hP : ∀ w' : Wd, P w' → P2 (.inr cn) w') : Go X g 0 0 (Fen X g 1 6 P2) w pc lp (.ref (g.1 0) :: st) :=
  kL_32 hc hd hcon hdd hst (by omega) (by omega) (fun v w' h => absurd h Tp_l) (fun cn2 w' h => by obtain ⟨rfl, h⟩ := h; exact x_out hc (hP w' h))
/-- PairedField: a call of PairedField$Pairing.leastCost -/
theorem kF_94 {d' k n : Nat} {P : Rt → Wd → Prop} (hc : Ok X g cc "PairedField" ret hx d) (hd : decode cc pc = .ok (.invokevirtual 94, 3)) (hcon : Con X.2.1 g yP_leastCost bP_leastCost 1 ((some .int)) [] d' k n (.ref (g.1 31) :: []) w P) (hdd : d' + 1 ≤ d) (hst : (st.map fun v => v.category).sum ≤ 8) (hcells : kc + k ≤ X.2.2.2.1.cells) (hslots : ks + n ≤ X.2.2.2.1.slots)
    (hret : ∀ (v : Option Value) (w' : Wd), P (.inl v) w' → Go X g (kc + k) (ks + n) Q w' (pc + 3) lp (v.toList ++ st)) (hthr : ∀ (cn : String) (w' : Wd), P (.inr cn) w' → GoX X g (kc + k) (ks + n) Q w' pc lp cn) : Go X g kc ks Q w pc lp (.ref (g.1 31) :: st) :=
  r_callv (av := []) (nL' := 1) (q := 31) (ci := 2) (C := R_P) (Tc := T_P) (N := 6) hc hd hcon (t2_mem 200 rfl rfl) (t2_mem 201 rfl rfl) (t2_mem 202 rfl rfl) (t2_mem 203 rfl rfl) (by decide) (by decide +kernel) (show (parseMethodDescriptor yP_leastCost.desc).map (fun d => d.parameters.length) = some 0 by decide +kernel) (by decide) (ent_P g (w 31)) rfl hdd (by decide) (fun v hv => by cases hv) (Nat.le_of_ble_eq_true rfl) hst hcells hslots hret hthr
theorem kF_94r {d' : Nat} {P : Option Value → Wd → Prop} (hc : Ok X g cc "PairedField" ret hx d) (hd : decode cc pc = .ok (.invokevirtual 94, 3)) (hcon : Con X.2.1 g yP_leastCost bP_leastCost 1 ((some .int)) [] d' 0 0 (.ref (g.1 31) :: []) w (Rp P)) (hdd : d' + 1 ≤ d) (hst : (st.map fun v => v.category).sum ≤ 8) (hret : ∀ (v : Option Value) (w' : Wd), P v w' → Go X g 0 0 Q w' (pc + 3) lp (v.toList ++ st)) : Go X g 0 0 Q w pc lp (.ref (g.1 31) :: st) :=
  kF_94 hc hd hcon hdd hst (Nat.zero_le _) (Nat.zero_le _) (fun v w' h => hret v w' (Rp_l h)) (fun cn w' h => absurd h Rp_r)
theorem kF_94t {d' : Nat} {cn : String} {P : Wd → Prop} {P2 : Rt → Wd → Prop} (hc : Ok X g cc "PairedField" ret [] d) (hd : decode cc pc = .ok (.invokevirtual 94, 3)) (hcon : Con X.2.1 g yP_leastCost bP_leastCost 1 ((some .int)) [] d' 1 6 (.ref (g.1 31) :: []) w (Tp cn P)) (hdd : d' + 1 ≤ d) (hst : (st.map fun v => v.category).sum ≤ 8) (h1 : 1 ≤ X.2.2.2.1.cells) (h6 : 6 ≤ X.2.2.2.1.slots) (hP : ∀ w' : Wd, P w' → P2 (.inr cn) w') : Go X g 0 0 (Fen X g 1 6 P2) w pc lp (.ref (g.1 31) :: st) :=
  kF_94 hc hd hcon hdd hst (by omega) (by omega) (fun v w' h => absurd h Tp_l) (fun cn2 w' h => by obtain ⟨rfl, h⟩ := h; exact x_out hc (hP w' h))
/-- PairedFieldLaw: a call of PairedField.opponent -/
theorem kL_35 {d' k n : Nat} {P : Rt → Wd → Prop} {a0 : Int32} (hc : Ok X g cc "PairedFieldLaw" ret hx d) (hd : decode cc pc = .ok (.invokevirtual 35, 3)) (hcon : Con X.2.1 g yF_opponent bF_opponent 3 ((some .int)) [] d' k n (.ref (g.1 0) :: [.int a0]) w P) (hdd : d' + 1 ≤ d) (hst : (st.map fun v => v.category).sum ≤ 8) (hcells : kc + k ≤ X.2.2.2.1.cells) (hslots : ks + n ≤ X.2.2.2.1.slots)
    (hret : ∀ (v : Option Value) (w' : Wd), P (.inl v) w' → Go X g (kc + k) (ks + n) Q w' (pc + 3) lp (v.toList ++ st)) (hthr : ∀ (cn : String) (w' : Wd), P (.inr cn) w' → GoX X g (kc + k) (ks + n) Q w' pc lp cn) : Go X g kc ks Q w pc lp (.int a0 :: .ref (g.1 0) :: st) :=
  r_callv (av := [.int a0]) (nL' := 3) (q := 0) (ci := 0) (C := R_F) (Tc := T_F) (N := 8) hc hd hcon (t2_mem 207 rfl rfl) (t2_mem 208 rfl rfl) (t2_mem 209 rfl rfl) (t2_mem 210 rfl rfl) (by decide) (by decide +kernel) (show (parseMethodDescriptor yF_opponent.desc).map (fun d => d.parameters.length) = some 1 by decide +kernel) (by decide) (ent_F g (w 0)) rfl hdd (by decide) (fun v hv => by simp only [List.mem_cons, List.not_mem_nil, or_false] at hv; rcases hv with rfl <;> rfl) (Nat.le_of_ble_eq_true rfl) hst hcells hslots hret hthr
theorem kL_35r {d' : Nat} {P : Option Value → Wd → Prop} {a0 : Int32} (hc : Ok X g cc "PairedFieldLaw" ret hx d) (hd : decode cc pc = .ok (.invokevirtual 35, 3)) (hcon : Con X.2.1 g yF_opponent bF_opponent 3 ((some .int)) [] d' 0 0 (.ref (g.1 0) :: [.int a0]) w (Rp P)) (hdd : d' + 1 ≤ d) (hst : (st.map fun v => v.category).sum ≤ 8) (hret : ∀ (v : Option Value) (w' : Wd), P v w' → Go X g 0 0 Q w' (pc + 3) lp (v.toList ++ st)) : Go X g 0 0 Q w pc lp (.int a0 :: .ref (g.1 0) :: st) :=
  kL_35 hc hd hcon hdd hst (Nat.zero_le _) (Nat.zero_le _) (fun v w' h => hret v w' (Rp_l h)) (fun cn w' h => absurd h Rp_r)
theorem kL_35t {d' : Nat} {cn : String} {P : Wd → Prop} {P2 : Rt → Wd → Prop} {a0 : Int32} (hc : Ok X g cc "PairedFieldLaw" ret [] d) (hd : decode cc pc = .ok (.invokevirtual 35, 3)) (hcon : Con X.2.1 g yF_opponent bF_opponent 3 ((some .int)) [] d' 1 6 (.ref (g.1 0) :: [.int a0]) w (Tp cn P)) (hdd : d' + 1 ≤ d) (hst : (st.map fun v => v.category).sum ≤ 8) (h1 : 1 ≤ X.2.2.2.1.cells) (h6 : 6 ≤ X.2.2.2.1.slots) (hP : ∀ w' : Wd, P w' → P2 (.inr cn) w') : Go X g 0 0 (Fen X g 1 6 P2) w pc lp (.int a0 :: .ref (g.1 0) :: st) :=
  kL_35 hc hd hcon hdd hst (by omega) (by omega) (fun v w' h => absurd h Tp_l) (fun cn2 w' h => by obtain ⟨rfl, h⟩ := h; exact x_out hc (hP w' h))
/-- PairedField: a call of PairedField.refuseNoRound -/
theorem kF_100 {d' k n : Nat} {P : Rt → Wd → Prop} (hc : Ok X g cc "PairedField" ret hx d) (hd : decode cc pc = .ok (.invokevirtual 100, 3)) (hcon : Con X.2.1 g yF_refuseNoRound bF_refuseNoRound 1 ((none : Option Jvm.ClassFile.FieldType)) [] d' k n (.ref (g.1 0) :: []) w P) (hdd : d' + 1 ≤ d) (hst : (st.map fun v => v.category).sum ≤ 8) (hcells : kc + k ≤ X.2.2.2.1.cells) (hslots : ks + n ≤ X.2.2.2.1.slots)
    (hret : ∀ (v : Option Value) (w' : Wd), P (.inl v) w' → Go X g (kc + k) (ks + n) Q w' (pc + 3) lp (v.toList ++ st)) (hthr : ∀ (cn : String) (w' : Wd), P (.inr cn) w' → GoX X g (kc + k) (ks + n) Q w' pc lp cn) : Go X g kc ks Q w pc lp (.ref (g.1 0) :: st) :=
  r_callv (av := []) (nL' := 1) (q := 0) (ci := 0) (C := R_F) (Tc := T_F) (N := 8) hc hd hcon (t2_mem 211 rfl rfl) (t2_mem 213 rfl rfl) (t0_mem 17 rfl rfl) (t2_mem 214 rfl rfl) (by decide) (by decide +kernel) (show (parseMethodDescriptor yF_refuseNoRound.desc).map (fun d => d.parameters.length) = some 0 by decide +kernel) (by decide) (ent_F g (w 0)) rfl hdd (by decide) (fun v hv => by cases hv) (Nat.le_of_ble_eq_true rfl) hst hcells hslots hret hthr
theorem kF_100r {d' : Nat} {P : Option Value → Wd → Prop} (hc : Ok X g cc "PairedField" ret hx d) (hd : decode cc pc = .ok (.invokevirtual 100, 3)) (hcon : Con X.2.1 g yF_refuseNoRound bF_refuseNoRound 1 ((none : Option Jvm.ClassFile.FieldType)) [] d' 0 0 (.ref (g.1 0) :: []) w (Rp P)) (hdd : d' + 1 ≤ d) (hst : (st.map fun v => v.category).sum ≤ 8) (hret : ∀ (v : Option Value) (w' : Wd), P v w' → Go X g 0 0 Q w' (pc + 3) lp (v.toList ++ st)) : Go X g 0 0 Q w pc lp (.ref (g.1 0) :: st) :=
  kF_100 hc hd hcon hdd hst (Nat.zero_le _) (Nat.zero_le _) (fun v w' h => hret v w' (Rp_l h)) (fun cn w' h => absurd h Rp_r)
theorem kF_100t {d' : Nat} {cn : String} {P : Wd → Prop} {P2 : Rt → Wd → Prop} (hc : Ok X g cc "PairedField" ret [] d) (hd : decode cc pc = .ok (.invokevirtual 100, 3)) (hcon : Con X.2.1 g yF_refuseNoRound bF_refuseNoRound 1 ((none : Option Jvm.ClassFile.FieldType)) [] d' 1 6 (.ref (g.1 0) :: []) w (Tp cn P)) (hdd : d' + 1 ≤ d) (hst : (st.map fun v => v.category).sum ≤ 8) (h1 : 1 ≤ X.2.2.2.1.cells) (h6 : 6 ≤ X.2.2.2.1.slots) (hP : ∀ w' : Wd, P w' → P2 (.inr cn) w') : Go X g 0 0 (Fen X g 1 6 P2) w pc lp (.ref (g.1 0) :: st) :=
  kF_100 hc hd hcon hdd hst (by omega) (by omega) (fun v w' h => absurd h Tp_l) (fun cn2 w' h => by obtain ⟨rfl, h⟩ := h; exact x_out hc (hP w' h))
/-- PairedField: a call of PairedField$Cell.opponentIn -/
theorem kF_103 {d' k n : Nat} {P : Rt → Wd → Prop} {a0 : Int32} (hc : Ok X g cc "PairedField" ret hx d) (hd : decode cc pc = .ok (.invokestatic 103, 3)) (hcon : Con X.2.1 g yC_opponentIn bC_opponentIn 1 ((some .int)) [] d' k n [.int a0] w P) (hdd : d' + 1 ≤ d) (hst : (st.map fun v => v.category).sum ≤ 8) (hcells : kc + k ≤ X.2.2.2.1.cells) (hslots : ks + n ≤ X.2.2.2.1.slots)
    (hret : ∀ (v : Option Value) (w' : Wd), P (.inl v) w' → Go X g (kc + k) (ks + n) Q w' (pc + 3) lp (v.toList ++ st)) (hthr : ∀ (cn : String) (w' : Wd), P (.inr cn) w' → GoX X g (kc + k) (ks + n) Q w' pc lp cn) : Go X g kc ks Q w pc lp (.int a0 :: st) :=
  r_calls (av := [.int a0]) (nL' := 1) hc hd hcon (t2_mem 216 rfl rfl) (t2_mem 217 rfl rfl) (t1_mem 15 rfl rfl) (t2_mem 218 rfl rfl) (by decide) (by decide +kernel) (show (parseMethodDescriptor yC_opponentIn.desc).map (fun d => d.parameters.length) = some 1 by decide +kernel) hdd (by decide) (fun v hv => by simp only [List.mem_cons, List.not_mem_nil, or_false] at hv; rcases hv with rfl <;> rfl) (Nat.le_of_ble_eq_true rfl) hst hcells hslots hret hthr
theorem kF_103r {d' : Nat} {P : Option Value → Wd → Prop} {a0 : Int32} (hc : Ok X g cc "PairedField" ret hx d) (hd : decode cc pc = .ok (.invokestatic 103, 3)) (hcon : Con X.2.1 g yC_opponentIn bC_opponentIn 1 ((some .int)) [] d' 0 0 [.int a0] w (Rp P)) (hdd : d' + 1 ≤ d) (hst : (st.map fun v => v.category).sum ≤ 8) (hret : ∀ (v : Option Value) (w' : Wd), P v w' → Go X g 0 0 Q w' (pc + 3) lp (v.toList ++ st)) : Go X g 0 0 Q w pc lp (.int a0 :: st) :=
  kF_103 hc hd hcon hdd hst (Nat.zero_le _) (Nat.zero_le _) (fun v w' h => hret v w' (Rp_l h)) (fun cn w' h => absurd h Rp_r)
theorem kF_103t {d' : Nat} {cn : String} {P : Wd → Prop} {P2 : Rt → Wd → Prop} {a0 : Int32} (hc : Ok X g cc "PairedField" ret [] d) (hd : decode cc pc = .ok (.invokestatic 103, 3)) (hcon : Con X.2.1 g yC_opponentIn bC_opponentIn 1 ((some .int)) [] d' 1 6 [.int a0] w (Tp cn P)) (hdd : d' + 1 ≤ d) (hst : (st.map fun v => v.category).sum ≤ 8) (h1 : 1 ≤ X.2.2.2.1.cells) (h6 : 6 ≤ X.2.2.2.1.slots) (hP : ∀ w' : Wd, P w' → P2 (.inr cn) w') : Go X g 0 0 (Fen X g 1 6 P2) w pc lp (.int a0 :: st) :=
  kF_103 hc hd hcon hdd hst (by omega) (by omega) (fun v w' h => absurd h Tp_l) (fun cn2 w' h => by obtain ⟨rfl, h⟩ := h; exact x_out hc (hP w' h))
/-- PairedFieldLaw: a call of PairedField.isWhite -/
theorem kL_39 {d' k n : Nat} {P : Rt → Wd → Prop} {a0 : Int32} (hc : Ok X g cc "PairedFieldLaw" ret hx d) (hd : decode cc pc = .ok (.invokevirtual 39, 3)) (hcon : Con X.2.1 g yF_isWhite bF_isWhite 3 ((some .boolean)) [] d' k n (.ref (g.1 0) :: [.int a0]) w P) (hdd : d' + 1 ≤ d) (hst : (st.map fun v => v.category).sum ≤ 8) (hcells : kc + k ≤ X.2.2.2.1.cells) (hslots : ks + n ≤ X.2.2.2.1.slots)
    (hret : ∀ (v : Option Value) (w' : Wd), P (.inl v) w' → Go X g (kc + k) (ks + n) Q w' (pc + 3) lp (v.toList ++ st)) (hthr : ∀ (cn : String) (w' : Wd), P (.inr cn) w' → GoX X g (kc + k) (ks + n) Q w' pc lp cn) : Go X g kc ks Q w pc lp (.int a0 :: .ref (g.1 0) :: st) :=
  r_callv (av := [.int a0]) (nL' := 3) (q := 0) (ci := 0) (C := R_F) (Tc := T_F) (N := 8) hc hd hcon (t2_mem 222 rfl rfl) (t2_mem 223 rfl rfl) (t2_mem 224 rfl rfl) (t2_mem 225 rfl rfl) (by decide) (by decide +kernel) (show (parseMethodDescriptor yF_isWhite.desc).map (fun d => d.parameters.length) = some 1 by decide +kernel) (by decide) (ent_F g (w 0)) rfl hdd (by decide) (fun v hv => by simp only [List.mem_cons, List.not_mem_nil, or_false] at hv; rcases hv with rfl <;> rfl) (Nat.le_of_ble_eq_true rfl) hst hcells hslots hret hthr
theorem kL_39r {d' : Nat} {P : Option Value → Wd → Prop} {a0 : Int32} (hc : Ok X g cc "PairedFieldLaw" ret hx d) (hd : decode cc pc = .ok (.invokevirtual 39, 3)) (hcon : Con X.2.1 g yF_isWhite bF_isWhite 3 ((some .boolean)) [] d' 0 0 (.ref (g.1 0) :: [.int a0]) w (Rp P)) (hdd : d' + 1 ≤ d) (hst : (st.map fun v => v.category).sum ≤ 8) (hret : ∀ (v : Option Value) (w' : Wd), P v w' → Go X g 0 0 Q w' (pc + 3) lp (v.toList ++ st)) : Go X g 0 0 Q w pc lp (.int a0 :: .ref (g.1 0) :: st) :=
  kL_39 hc hd hcon hdd hst (Nat.zero_le _) (Nat.zero_le _) (fun v w' h => hret v w' (Rp_l h)) (fun cn w' h => absurd h Rp_r)
theorem kL_39t {d' : Nat} {cn : String} {P : Wd → Prop} {P2 : Rt → Wd → Prop} {a0 : Int32} (hc : Ok X g cc "PairedFieldLaw" ret [] d) (hd : decode cc pc = .ok (.invokevirtual 39, 3)) (hcon : Con X.2.1 g yF_isWhite bF_isWhite 3 ((some .boolean)) [] d' 1 6 (.ref (g.1 0) :: [.int a0]) w (Tp cn P)) (hdd : d' + 1 ≤ d) (hst : (st.map fun v => v.category).sum ≤ 8) (h1 : 1 ≤ X.2.2.2.1.cells) (h6 : 6 ≤ X.2.2.2.1.slots) (hP : ∀ w' : Wd, P w' → P2 (.inr cn) w') : Go X g 0 0 (Fen X g 1 6 P2) w pc lp (.int a0 :: .ref (g.1 0) :: st) :=
  kL_39 hc hd hcon hdd hst (by omega) (by omega) (fun v w' h => absurd h Tp_l) (fun cn2 w' h => by obtain ⟨rfl, h⟩ := h; exact x_out hc (hP w' h))
/-- PairedField: a call of PairedField$Cell.isGame -/
theorem kF_109 {d' k n : Nat} {P : Rt → Wd → Prop} {a0 : Int32} (hc : Ok X g cc "PairedField" ret hx d) (hd : decode cc pc = .ok (.invokestatic 109, 3)) (hcon : Con X.2.1 g yC_isGame bC_isGame 1 ((some .boolean)) [] d' k n [.int a0] w P) (hdd : d' + 1 ≤ d) (hst : (st.map fun v => v.category).sum ≤ 8) (hcells : kc + k ≤ X.2.2.2.1.cells) (hslots : ks + n ≤ X.2.2.2.1.slots)
    (hret : ∀ (v : Option Value) (w' : Wd), P (.inl v) w' → Go X g (kc + k) (ks + n) Q w' (pc + 3) lp (v.toList ++ st)) (hthr : ∀ (cn : String) (w' : Wd), P (.inr cn) w' → GoX X g (kc + k) (ks + n) Q w' pc lp cn) : Go X g kc ks Q w pc lp (.int a0 :: st) :=
  r_calls (av := [.int a0]) (nL' := 1) hc hd hcon (t2_mem 226 rfl rfl) (t2_mem 227 rfl rfl) (t1_mem 15 rfl rfl) (t2_mem 228 rfl rfl) (by decide) (by decide +kernel) (show (parseMethodDescriptor yC_isGame.desc).map (fun d => d.parameters.length) = some 1 by decide +kernel) hdd (by decide) (fun v hv => by simp only [List.mem_cons, List.not_mem_nil, or_false] at hv; rcases hv with rfl <;> rfl) (Nat.le_of_ble_eq_true rfl) hst hcells hslots hret hthr
theorem kF_109r {d' : Nat} {P : Option Value → Wd → Prop} {a0 : Int32} (hc : Ok X g cc "PairedField" ret hx d) (hd : decode cc pc = .ok (.invokestatic 109, 3)) (hcon : Con X.2.1 g yC_isGame bC_isGame 1 ((some .boolean)) [] d' 0 0 [.int a0] w (Rp P)) (hdd : d' + 1 ≤ d) (hst : (st.map fun v => v.category).sum ≤ 8) (hret : ∀ (v : Option Value) (w' : Wd), P v w' → Go X g 0 0 Q w' (pc + 3) lp (v.toList ++ st)) : Go X g 0 0 Q w pc lp (.int a0 :: st) :=
  kF_109 hc hd hcon hdd hst (Nat.zero_le _) (Nat.zero_le _) (fun v w' h => hret v w' (Rp_l h)) (fun cn w' h => absurd h Rp_r)
theorem kF_109t {d' : Nat} {cn : String} {P : Wd → Prop} {P2 : Rt → Wd → Prop} {a0 : Int32} (hc : Ok X g cc "PairedField" ret [] d) (hd : decode cc pc = .ok (.invokestatic 109, 3)) (hcon : Con X.2.1 g yC_isGame bC_isGame 1 ((some .boolean)) [] d' 1 6 [.int a0] w (Tp cn P)) (hdd : d' + 1 ≤ d) (hst : (st.map fun v => v.category).sum ≤ 8) (h1 : 1 ≤ X.2.2.2.1.cells) (h6 : 6 ≤ X.2.2.2.1.slots) (hP : ∀ w' : Wd, P w' → P2 (.inr cn) w') : Go X g 0 0 (Fen X g 1 6 P2) w pc lp (.int a0 :: st) :=
  kF_109 hc hd hcon hdd hst (by omega) (by omega) (fun v w' h => absurd h Tp_l) (fun cn2 w' h => by obtain ⟨rfl, h⟩ := h; exact x_out hc (hP w' h))
/-- PairedField: a call of PairedField$Cell.colourIn -/
theorem kF_113 {d' k n : Nat} {P : Rt → Wd → Prop} {a0 : Int32} (hc : Ok X g cc "PairedField" ret hx d) (hd : decode cc pc = .ok (.invokestatic 113, 3)) (hcon : Con X.2.1 g yC_colourIn bC_colourIn 1 ((some .int)) [] d' k n [.int a0] w P) (hdd : d' + 1 ≤ d) (hst : (st.map fun v => v.category).sum ≤ 8) (hcells : kc + k ≤ X.2.2.2.1.cells) (hslots : ks + n ≤ X.2.2.2.1.slots)
    (hret : ∀ (v : Option Value) (w' : Wd), P (.inl v) w' → Go X g (kc + k) (ks + n) Q w' (pc + 3) lp (v.toList ++ st)) (hthr : ∀ (cn : String) (w' : Wd), P (.inr cn) w' → GoX X g (kc + k) (ks + n) Q w' pc lp cn) : Go X g kc ks Q w pc lp (.int a0 :: st) :=
  r_calls (av := [.int a0]) (nL' := 1) hc hd hcon (t2_mem 229 rfl rfl) (t2_mem 230 rfl rfl) (t1_mem 15 rfl rfl) (t2_mem 231 rfl rfl) (by decide) (by decide +kernel) (show (parseMethodDescriptor yC_colourIn.desc).map (fun d => d.parameters.length) = some 1 by decide +kernel) hdd (by decide) (fun v hv => by simp only [List.mem_cons, List.not_mem_nil, or_false] at hv; rcases hv with rfl <;> rfl) (Nat.le_of_ble_eq_true rfl) hst hcells hslots hret hthr
theorem kF_113r {d' : Nat} {P : Option Value → Wd → Prop} {a0 : Int32} (hc : Ok X g cc "PairedField" ret hx d) (hd : decode cc pc = .ok (.invokestatic 113, 3)) (hcon : Con X.2.1 g yC_colourIn bC_colourIn 1 ((some .int)) [] d' 0 0 [.int a0] w (Rp P)) (hdd : d' + 1 ≤ d) (hst : (st.map fun v => v.category).sum ≤ 8) (hret : ∀ (v : Option Value) (w' : Wd), P v w' → Go X g 0 0 Q w' (pc + 3) lp (v.toList ++ st)) : Go X g 0 0 Q w pc lp (.int a0 :: st) :=
  kF_113 hc hd hcon hdd hst (Nat.zero_le _) (Nat.zero_le _) (fun v w' h => hret v w' (Rp_l h)) (fun cn w' h => absurd h Rp_r)
theorem kF_113t {d' : Nat} {cn : String} {P : Wd → Prop} {P2 : Rt → Wd → Prop} {a0 : Int32} (hc : Ok X g cc "PairedField" ret [] d) (hd : decode cc pc = .ok (.invokestatic 113, 3)) (hcon : Con X.2.1 g yC_colourIn bC_colourIn 1 ((some .int)) [] d' 1 6 [.int a0] w (Tp cn P)) (hdd : d' + 1 ≤ d) (hst : (st.map fun v => v.category).sum ≤ 8) (h1 : 1 ≤ X.2.2.2.1.cells) (h6 : 6 ≤ X.2.2.2.1.slots) (hP : ∀ w' : Wd, P w' → P2 (.inr cn) w') : Go X g 0 0 (Fen X g 1 6 P2) w pc lp (.int a0 :: st) :=
  kF_113 hc hd hcon hdd hst (by omega) (by omega) (fun v w' h => absurd h Tp_l) (fun cn2 w' h => by obtain ⟨rfl, h⟩ := h; exact x_out hc (hP w' h))
/-- PairedFieldLaw: a call of PairedField.report -/
theorem kL_43 {d' k n : Nat} {P : Rt → Wd → Prop} {a0 : Int32} {a1 : Int32} (hc : Ok X g cc "PairedFieldLaw" ret hx d) (hd : decode cc pc = .ok (.invokevirtual 43, 3)) (hcon : Con X.2.1 g yF_report bF_report 3 ((none : Option Jvm.ClassFile.FieldType)) [] d' k n (.ref (g.1 0) :: [.int a0, .int a1]) w P) (hdd : d' + 1 ≤ d) (hst : (st.map fun v => v.category).sum ≤ 8) (hcells : kc + k ≤ X.2.2.2.1.cells) (hslots : ks + n ≤ X.2.2.2.1.slots)
    (hret : ∀ (v : Option Value) (w' : Wd), P (.inl v) w' → Go X g (kc + k) (ks + n) Q w' (pc + 3) lp (v.toList ++ st)) (hthr : ∀ (cn : String) (w' : Wd), P (.inr cn) w' → GoX X g (kc + k) (ks + n) Q w' pc lp cn) : Go X g kc ks Q w pc lp (.int a1 :: .int a0 :: .ref (g.1 0) :: st) :=
  r_callv (av := [.int a0, .int a1]) (nL' := 3) (q := 0) (ci := 0) (C := R_F) (Tc := T_F) (N := 8) hc hd hcon (t2_mem 235 rfl rfl) (t2_mem 236 rfl rfl) (t2_mem 237 rfl rfl) (t2_mem 238 rfl rfl) (by decide) (by decide +kernel) (show (parseMethodDescriptor yF_report.desc).map (fun d => d.parameters.length) = some 2 by decide +kernel) (by decide) (ent_F g (w 0)) rfl hdd (by decide) (fun v hv => by simp only [List.mem_cons, List.not_mem_nil, or_false] at hv; rcases hv with rfl | rfl <;> rfl) (Nat.le_of_ble_eq_true rfl) hst hcells hslots hret hthr
theorem kL_43r {d' : Nat} {P : Option Value → Wd → Prop} {a0 : Int32} {a1 : Int32} (hc : Ok X g cc "PairedFieldLaw" ret hx d) (hd : decode cc pc = .ok (.invokevirtual 43, 3)) (hcon : Con X.2.1 g yF_report bF_report 3 ((none : Option Jvm.ClassFile.FieldType)) [] d' 0 0 (.ref (g.1 0) :: [.int a0, .int a1]) w (Rp P)) (hdd : d' + 1 ≤ d) (hst : (st.map fun v => v.category).sum ≤ 8) (hret : ∀ (v : Option Value) (w' : Wd), P v w' → Go X g 0 0 Q w' (pc + 3) lp (v.toList ++ st)) : Go X g 0 0 Q w pc lp (.int a1 :: .int a0 :: .ref (g.1 0) :: st) :=
  kL_43 hc hd hcon hdd hst (Nat.zero_le _) (Nat.zero_le _) (fun v w' h => hret v w' (Rp_l h)) (fun cn w' h => absurd h Rp_r)
theorem kL_43t {d' : Nat} {cn : String} {P : Wd → Prop} {P2 : Rt → Wd → Prop} {a0 : Int32} {a1 : Int32} (hc : Ok X g cc "PairedFieldLaw" ret [] d) (hd : decode cc pc = .ok (.invokevirtual 43, 3)) (hcon : Con X.2.1 g yF_report bF_report 3 ((none : Option Jvm.ClassFile.FieldType)) [] d' 1 6 (.ref (g.1 0) :: [.int a0, .int a1]) w (Tp cn P)) (hdd : d' + 1 ≤ d) (hst : (st.map fun v => v.category).sum ≤ 8) (h1 : 1 ≤ X.2.2.2.1.cells) (h6 : 6 ≤ X.2.2.2.1.slots) (hP : ∀ w' : Wd, P w' → P2 (.inr cn) w') : Go X g 0 0 (Fen X g 1 6 P2) w pc lp (.int a1 :: .int a0 :: .ref (g.1 0) :: st) :=
  kL_43 hc hd hcon hdd hst (by omega) (by omega) (fun v w' h => absurd h Tp_l) (fun cn2 w' h => by obtain ⟨rfl, h⟩ := h; exact x_out hc (hP w' h))
/-- PairedField: a call of PairedField$Cell.isUntold -/
theorem kF_118 {d' k n : Nat} {P : Rt → Wd → Prop} {a0 : Int32} (hc : Ok X g cc "PairedField" ret hx d) (hd : decode cc pc = .ok (.invokestatic 118, 3)) (hcon : Con X.2.1 g yC_isUntold bC_isUntold 1 ((some .boolean)) [] d' k n [.int a0] w P) (hdd : d' + 1 ≤ d) (hst : (st.map fun v => v.category).sum ≤ 8) (hcells : kc + k ≤ X.2.2.2.1.cells) (hslots : ks + n ≤ X.2.2.2.1.slots)
    (hret : ∀ (v : Option Value) (w' : Wd), P (.inl v) w' → Go X g (kc + k) (ks + n) Q w' (pc + 3) lp (v.toList ++ st)) (hthr : ∀ (cn : String) (w' : Wd), P (.inr cn) w' → GoX X g (kc + k) (ks + n) Q w' pc lp cn) : Go X g kc ks Q w pc lp (.int a0 :: st) :=
  r_calls (av := [.int a0]) (nL' := 1) hc hd hcon (t3_mem 0 rfl rfl) (t3_mem 1 rfl rfl) (t1_mem 15 rfl rfl) (t3_mem 2 rfl rfl) (by decide) (by decide +kernel) (show (parseMethodDescriptor yC_isUntold.desc).map (fun d => d.parameters.length) = some 1 by decide +kernel) hdd (by decide) (fun v hv => by simp only [List.mem_cons, List.not_mem_nil, or_false] at hv; rcases hv with rfl <;> rfl) (Nat.le_of_ble_eq_true rfl) hst hcells hslots hret hthr
theorem kF_118r {d' : Nat} {P : Option Value → Wd → Prop} {a0 : Int32} (hc : Ok X g cc "PairedField" ret hx d) (hd : decode cc pc = .ok (.invokestatic 118, 3)) (hcon : Con X.2.1 g yC_isUntold bC_isUntold 1 ((some .boolean)) [] d' 0 0 [.int a0] w (Rp P)) (hdd : d' + 1 ≤ d) (hst : (st.map fun v => v.category).sum ≤ 8) (hret : ∀ (v : Option Value) (w' : Wd), P v w' → Go X g 0 0 Q w' (pc + 3) lp (v.toList ++ st)) : Go X g 0 0 Q w pc lp (.int a0 :: st) :=
  kF_118 hc hd hcon hdd hst (Nat.zero_le _) (Nat.zero_le _) (fun v w' h => hret v w' (Rp_l h)) (fun cn w' h => absurd h Rp_r)
theorem kF_118t {d' : Nat} {cn : String} {P : Wd → Prop} {P2 : Rt → Wd → Prop} {a0 : Int32} (hc : Ok X g cc "PairedField" ret [] d) (hd : decode cc pc = .ok (.invokestatic 118, 3)) (hcon : Con X.2.1 g yC_isUntold bC_isUntold 1 ((some .boolean)) [] d' 1 6 [.int a0] w (Tp cn P)) (hdd : d' + 1 ≤ d) (hst : (st.map fun v => v.category).sum ≤ 8) (h1 : 1 ≤ X.2.2.2.1.cells) (h6 : 6 ≤ X.2.2.2.1.slots) (hP : ∀ w' : Wd, P w' → P2 (.inr cn) w') : Go X g 0 0 (Fen X g 1 6 P2) w pc lp (.int a0 :: st) :=
  kF_118 hc hd hcon hdd hst (by omega) (by omega) (fun v w' h => absurd h Tp_l) (fun cn2 w' h => by obtain ⟨rfl, h⟩ := h; exact x_out hc (hP w' h))
/-- PairedField$Cell: a call of PairedField$Cell.isGame -/
theorem kC_15 {d' k n : Nat} {P : Rt → Wd → Prop} {a0 : Int32} (hc : Ok X g cc "PairedField$Cell" ret hx d) (hd : decode cc pc = .ok (.invokestatic 15, 3)) (hcon : Con X.2.1 g yC_isGame bC_isGame 1 ((some .boolean)) [] d' k n [.int a0] w P) (hdd : d' + 1 ≤ d) (hst : (st.map fun v => v.category).sum ≤ 8) (hcells : kc + k ≤ X.2.2.2.1.cells) (hslots : ks + n ≤ X.2.2.2.1.slots)
    (hret : ∀ (v : Option Value) (w' : Wd), P (.inl v) w' → Go X g (kc + k) (ks + n) Q w' (pc + 3) lp (v.toList ++ st)) (hthr : ∀ (cn : String) (w' : Wd), P (.inr cn) w' → GoX X g (kc + k) (ks + n) Q w' pc lp cn) : Go X g kc ks Q w pc lp (.int a0 :: st) :=
  r_calls (av := [.int a0]) (nL' := 1) hc hd hcon (t3_mem 3 rfl rfl) (t2_mem 227 rfl rfl) (t1_mem 15 rfl rfl) (t2_mem 228 rfl rfl) (by decide) (by decide +kernel) (show (parseMethodDescriptor yC_isGame.desc).map (fun d => d.parameters.length) = some 1 by decide +kernel) hdd (by decide) (fun v hv => by simp only [List.mem_cons, List.not_mem_nil, or_false] at hv; rcases hv with rfl <;> rfl) (Nat.le_of_ble_eq_true rfl) hst hcells hslots hret hthr
theorem kC_15r {d' : Nat} {P : Option Value → Wd → Prop} {a0 : Int32} (hc : Ok X g cc "PairedField$Cell" ret hx d) (hd : decode cc pc = .ok (.invokestatic 15, 3)) (hcon : Con X.2.1 g yC_isGame bC_isGame 1 ((some .boolean)) [] d' 0 0 [.int a0] w (Rp P)) (hdd : d' + 1 ≤ d) (hst : (st.map fun v => v.category).sum ≤ 8) (hret : ∀ (v : Option Value) (w' : Wd), P v w' → Go X g 0 0 Q w' (pc + 3) lp (v.toList ++ st)) : Go X g 0 0 Q w pc lp (.int a0 :: st) :=
  kC_15 hc hd hcon hdd hst (Nat.zero_le _) (Nat.zero_le _) (fun v w' h => hret v w' (Rp_l h)) (fun cn w' h => absurd h Rp_r)
theorem kC_15t {d' : Nat} {cn : String} {P : Wd → Prop} {P2 : Rt → Wd → Prop} {a0 : Int32} (hc : Ok X g cc "PairedField$Cell" ret [] d) (hd : decode cc pc = .ok (.invokestatic 15, 3)) (hcon : Con X.2.1 g yC_isGame bC_isGame 1 ((some .boolean)) [] d' 1 6 [.int a0] w (Tp cn P)) (hdd : d' + 1 ≤ d) (hst : (st.map fun v => v.category).sum ≤ 8) (h1 : 1 ≤ X.2.2.2.1.cells) (h6 : 6 ≤ X.2.2.2.1.slots) (hP : ∀ w' : Wd, P w' → P2 (.inr cn) w') : Go X g 0 0 (Fen X g 1 6 P2) w pc lp (.int a0 :: st) :=
  kC_15 hc hd hcon hdd hst (by omega) (by omega) (fun v w' h => absurd h Tp_l) (fun cn2 w' h => by obtain ⟨rfl, h⟩ := h; exact x_out hc (hP w' h))
/-- PairedField$Cell: a call of PairedField$Cell.resultIn -/
theorem kC_19 {d' k n : Nat} {P : Rt → Wd → Prop} {a0 : Int32} (hc : Ok X g cc "PairedField$Cell" ret hx d) (hd : decode cc pc = .ok (.invokestatic 19, 3)) (hcon : Con X.2.1 g yC_resultIn bC_resultIn 1 ((some .int)) [] d' k n [.int a0] w P) (hdd : d' + 1 ≤ d) (hst : (st.map fun v => v.category).sum ≤ 8) (hcells : kc + k ≤ X.2.2.2.1.cells) (hslots : ks + n ≤ X.2.2.2.1.slots)
    (hret : ∀ (v : Option Value) (w' : Wd), P (.inl v) w' → Go X g (kc + k) (ks + n) Q w' (pc + 3) lp (v.toList ++ st)) (hthr : ∀ (cn : String) (w' : Wd), P (.inr cn) w' → GoX X g (kc + k) (ks + n) Q w' pc lp cn) : Go X g kc ks Q w pc lp (.int a0 :: st) :=
  r_calls (av := [.int a0]) (nL' := 1) hc hd hcon (t3_mem 4 rfl rfl) (t3_mem 5 rfl rfl) (t1_mem 15 rfl rfl) (t3_mem 6 rfl rfl) (by decide) (by decide +kernel) (show (parseMethodDescriptor yC_resultIn.desc).map (fun d => d.parameters.length) = some 1 by decide +kernel) hdd (by decide) (fun v hv => by simp only [List.mem_cons, List.not_mem_nil, or_false] at hv; rcases hv with rfl <;> rfl) (Nat.le_of_ble_eq_true rfl) hst hcells hslots hret hthr
theorem kC_19r {d' : Nat} {P : Option Value → Wd → Prop} {a0 : Int32} (hc : Ok X g cc "PairedField$Cell" ret hx d) (hd : decode cc pc = .ok (.invokestatic 19, 3)) (hcon : Con X.2.1 g yC_resultIn bC_resultIn 1 ((some .int)) [] d' 0 0 [.int a0] w (Rp P)) (hdd : d' + 1 ≤ d) (hst : (st.map fun v => v.category).sum ≤ 8) (hret : ∀ (v : Option Value) (w' : Wd), P v w' → Go X g 0 0 Q w' (pc + 3) lp (v.toList ++ st)) : Go X g 0 0 Q w pc lp (.int a0 :: st) :=
  kC_19 hc hd hcon hdd hst (Nat.zero_le _) (Nat.zero_le _) (fun v w' h => hret v w' (Rp_l h)) (fun cn w' h => absurd h Rp_r)
theorem kC_19t {d' : Nat} {cn : String} {P : Wd → Prop} {P2 : Rt → Wd → Prop} {a0 : Int32} (hc : Ok X g cc "PairedField$Cell" ret [] d) (hd : decode cc pc = .ok (.invokestatic 19, 3)) (hcon : Con X.2.1 g yC_resultIn bC_resultIn 1 ((some .int)) [] d' 1 6 [.int a0] w (Tp cn P)) (hdd : d' + 1 ≤ d) (hst : (st.map fun v => v.category).sum ≤ 8) (h1 : 1 ≤ X.2.2.2.1.cells) (h6 : 6 ≤ X.2.2.2.1.slots) (hP : ∀ w' : Wd, P w' → P2 (.inr cn) w') : Go X g 0 0 (Fen X g 1 6 P2) w pc lp (.int a0 :: st) :=
  kC_19 hc hd hcon hdd hst (by omega) (by omega) (fun v w' h => absurd h Tp_l) (fun cn2 w' h => by obtain ⟨rfl, h⟩ := h; exact x_out hc (hP w' h))
/-- PairedField: a call of PairedField.noteResult -/
theorem kF_123 {d' k n : Nat} {P : Rt → Wd → Prop} {a0 : Int32} {a1 : Int32} (hc : Ok X g cc "PairedField" ret hx d) (hd : decode cc pc = .ok (.invokevirtual 123, 3)) (hcon : Con X.2.1 g yF_noteResult bF_noteResult 5 ((none : Option Jvm.ClassFile.FieldType)) [] d' k n (.ref (g.1 0) :: [.int a0, .int a1]) w P) (hdd : d' + 1 ≤ d) (hst : (st.map fun v => v.category).sum ≤ 8) (hcells : kc + k ≤ X.2.2.2.1.cells) (hslots : ks + n ≤ X.2.2.2.1.slots)
    (hret : ∀ (v : Option Value) (w' : Wd), P (.inl v) w' → Go X g (kc + k) (ks + n) Q w' (pc + 3) lp (v.toList ++ st)) (hthr : ∀ (cn : String) (w' : Wd), P (.inr cn) w' → GoX X g (kc + k) (ks + n) Q w' pc lp cn) : Go X g kc ks Q w pc lp (.int a1 :: .int a0 :: .ref (g.1 0) :: st) :=
  r_callv (av := [.int a0, .int a1]) (nL' := 5) (q := 0) (ci := 0) (C := R_F) (Tc := T_F) (N := 8) hc hd hcon (t3_mem 8 rfl rfl) (t3_mem 10 rfl rfl) (t0_mem 18 rfl rfl) (t3_mem 11 rfl rfl) (by decide) (by decide +kernel) (show (parseMethodDescriptor yF_noteResult.desc).map (fun d => d.parameters.length) = some 2 by decide +kernel) (by decide) (ent_F g (w 0)) rfl hdd (by decide) (fun v hv => by simp only [List.mem_cons, List.not_mem_nil, or_false] at hv; rcases hv with rfl | rfl <;> rfl) (Nat.le_of_ble_eq_true rfl) hst hcells hslots hret hthr
theorem kF_123r {d' : Nat} {P : Option Value → Wd → Prop} {a0 : Int32} {a1 : Int32} (hc : Ok X g cc "PairedField" ret hx d) (hd : decode cc pc = .ok (.invokevirtual 123, 3)) (hcon : Con X.2.1 g yF_noteResult bF_noteResult 5 ((none : Option Jvm.ClassFile.FieldType)) [] d' 0 0 (.ref (g.1 0) :: [.int a0, .int a1]) w (Rp P)) (hdd : d' + 1 ≤ d) (hst : (st.map fun v => v.category).sum ≤ 8) (hret : ∀ (v : Option Value) (w' : Wd), P v w' → Go X g 0 0 Q w' (pc + 3) lp (v.toList ++ st)) : Go X g 0 0 Q w pc lp (.int a1 :: .int a0 :: .ref (g.1 0) :: st) :=
  kF_123 hc hd hcon hdd hst (Nat.zero_le _) (Nat.zero_le _) (fun v w' h => hret v w' (Rp_l h)) (fun cn w' h => absurd h Rp_r)
theorem kF_123t {d' : Nat} {cn : String} {P : Wd → Prop} {P2 : Rt → Wd → Prop} {a0 : Int32} {a1 : Int32} (hc : Ok X g cc "PairedField" ret [] d) (hd : decode cc pc = .ok (.invokevirtual 123, 3)) (hcon : Con X.2.1 g yF_noteResult bF_noteResult 5 ((none : Option Jvm.ClassFile.FieldType)) [] d' 1 6 (.ref (g.1 0) :: [.int a0, .int a1]) w (Tp cn P)) (hdd : d' + 1 ≤ d) (hst : (st.map fun v => v.category).sum ≤ 8) (h1 : 1 ≤ X.2.2.2.1.cells) (h6 : 6 ≤ X.2.2.2.1.slots) (hP : ∀ w' : Wd, P w' → P2 (.inr cn) w') : Go X g 0 0 (Fen X g 1 6 P2) w pc lp (.int a1 :: .int a0 :: .ref (g.1 0) :: st) :=
  kF_123 hc hd hcon hdd hst (by omega) (by omega) (fun v w' h => absurd h Tp_l) (fun cn2 w' h => by obtain ⟨rfl, h⟩ := h; exact x_out hc (hP w' h))
/-- PairedField: a call of PairedField$Cell.withResult -/
theorem kF_199 {d' k n : Nat} {P : Rt → Wd → Prop} {a0 : Int32} {a1 : Int32} (hc : Ok X g cc "PairedField" ret hx d) (hd : decode cc pc = .ok (.invokestatic 199, 3)) (hcon : Con X.2.1 g yC_withResult bC_withResult 2 ((some .int)) [] d' k n [.int a0, .int a1] w P) (hdd : d' + 1 ≤ d) (hst : (st.map fun v => v.category).sum ≤ 8) (hcells : kc + k ≤ X.2.2.2.1.cells) (hslots : ks + n ≤ X.2.2.2.1.slots)
    (hret : ∀ (v : Option Value) (w' : Wd), P (.inl v) w' → Go X g (kc + k) (ks + n) Q w' (pc + 3) lp (v.toList ++ st)) (hthr : ∀ (cn : String) (w' : Wd), P (.inr cn) w' → GoX X g (kc + k) (ks + n) Q w' pc lp cn) : Go X g kc ks Q w pc lp (.int a1 :: .int a0 :: st) :=
  r_calls (av := [.int a0, .int a1]) (nL' := 2) hc hd hcon (t3_mem 12 rfl rfl) (t2_mem 189 rfl rfl) (t1_mem 15 rfl rfl) (t2_mem 190 rfl rfl) (by decide) (by decide +kernel) (show (parseMethodDescriptor yC_withResult.desc).map (fun d => d.parameters.length) = some 2 by decide +kernel) hdd (by decide) (fun v hv => by simp only [List.mem_cons, List.not_mem_nil, or_false] at hv; rcases hv with rfl | rfl <;> rfl) (Nat.le_of_ble_eq_true rfl) hst hcells hslots hret hthr
theorem kF_199r {d' : Nat} {P : Option Value → Wd → Prop} {a0 : Int32} {a1 : Int32} (hc : Ok X g cc "PairedField" ret hx d) (hd : decode cc pc = .ok (.invokestatic 199, 3)) (hcon : Con X.2.1 g yC_withResult bC_withResult 2 ((some .int)) [] d' 0 0 [.int a0, .int a1] w (Rp P)) (hdd : d' + 1 ≤ d) (hst : (st.map fun v => v.category).sum ≤ 8) (hret : ∀ (v : Option Value) (w' : Wd), P v w' → Go X g 0 0 Q w' (pc + 3) lp (v.toList ++ st)) : Go X g 0 0 Q w pc lp (.int a1 :: .int a0 :: st) :=
  kF_199 hc hd hcon hdd hst (Nat.zero_le _) (Nat.zero_le _) (fun v w' h => hret v w' (Rp_l h)) (fun cn w' h => absurd h Rp_r)
theorem kF_199t {d' : Nat} {cn : String} {P : Wd → Prop} {P2 : Rt → Wd → Prop} {a0 : Int32} {a1 : Int32} (hc : Ok X g cc "PairedField" ret [] d) (hd : decode cc pc = .ok (.invokestatic 199, 3)) (hcon : Con X.2.1 g yC_withResult bC_withResult 2 ((some .int)) [] d' 1 6 [.int a0, .int a1] w (Tp cn P)) (hdd : d' + 1 ≤ d) (hst : (st.map fun v => v.category).sum ≤ 8) (h1 : 1 ≤ X.2.2.2.1.cells) (h6 : 6 ≤ X.2.2.2.1.slots) (hP : ∀ w' : Wd, P w' → P2 (.inr cn) w') : Go X g 0 0 (Fen X g 1 6 P2) w pc lp (.int a1 :: .int a0 :: st) :=
  kF_199 hc hd hcon hdd hst (by omega) (by omega) (fun v w' h => absurd h Tp_l) (fun cn2 w' h => by obtain ⟨rfl, h⟩ := h; exact x_out hc (hP w' h))
/-- PairedFieldLaw: a call of PairedField.missing -/
theorem kL_47 {d' k n : Nat} {P : Rt → Wd → Prop} (hc : Ok X g cc "PairedFieldLaw" ret hx d) (hd : decode cc pc = .ok (.invokevirtual 47, 3)) (hcon : Con X.2.1 g yF_missing bF_missing 1 ((some .int)) [] d' k n (.ref (g.1 0) :: []) w P) (hdd : d' + 1 ≤ d) (hst : (st.map fun v => v.category).sum ≤ 8) (hcells : kc + k ≤ X.2.2.2.1.cells) (hslots : ks + n ≤ X.2.2.2.1.slots)
    (hret : ∀ (v : Option Value) (w' : Wd), P (.inl v) w' → Go X g (kc + k) (ks + n) Q w' (pc + 3) lp (v.toList ++ st)) (hthr : ∀ (cn : String) (w' : Wd), P (.inr cn) w' → GoX X g (kc + k) (ks + n) Q w' pc lp cn) : Go X g kc ks Q w pc lp (.ref (g.1 0) :: st) :=
  r_callv (av := []) (nL' := 1) (q := 0) (ci := 0) (C := R_F) (Tc := T_F) (N := 8) hc hd hcon (t3_mem 16 rfl rfl) (t3_mem 17 rfl rfl) (t3_mem 18 rfl rfl) (t3_mem 19 rfl rfl) (by decide) (by decide +kernel) (show (parseMethodDescriptor yF_missing.desc).map (fun d => d.parameters.length) = some 0 by decide +kernel) (by decide) (ent_F g (w 0)) rfl hdd (by decide) (fun v hv => by cases hv) (Nat.le_of_ble_eq_true rfl) hst hcells hslots hret hthr
theorem kL_47r {d' : Nat} {P : Option Value → Wd → Prop} (hc : Ok X g cc "PairedFieldLaw" ret hx d) (hd : decode cc pc = .ok (.invokevirtual 47, 3)) (hcon : Con X.2.1 g yF_missing bF_missing 1 ((some .int)) [] d' 0 0 (.ref (g.1 0) :: []) w (Rp P)) (hdd : d' + 1 ≤ d) (hst : (st.map fun v => v.category).sum ≤ 8) (hret : ∀ (v : Option Value) (w' : Wd), P v w' → Go X g 0 0 Q w' (pc + 3) lp (v.toList ++ st)) : Go X g 0 0 Q w pc lp (.ref (g.1 0) :: st) :=
  kL_47 hc hd hcon hdd hst (Nat.zero_le _) (Nat.zero_le _) (fun v w' h => hret v w' (Rp_l h)) (fun cn w' h => absurd h Rp_r)
theorem kL_47t {d' : Nat} {cn : String} {P : Wd → Prop} {P2 : Rt → Wd → Prop} (hc : Ok X g cc "PairedFieldLaw" ret [] d) (hd : decode cc pc = .ok (.invokevirtual 47, 3)) (hcon : Con X.2.1 g yF_missing bF_missing 1 ((some .int)) [] d' 1 6 (.ref (g.1 0) :: []) w (Tp cn P)) (hdd : d' + 1 ≤ d) (hst : (st.map fun v => v.category).sum ≤ 8) (h1 : 1 ≤ X.2.2.2.1.cells) (h6 : 6 ≤ X.2.2.2.1.slots) (hP : ∀ w' : Wd, P w' → P2 (.inr cn) w') : Go X g 0 0 (Fen X g 1 6 P2) w pc lp (.ref (g.1 0) :: st) :=
  kL_47 hc hd hcon hdd hst (by omega) (by omega) (fun v w' h => absurd h Tp_l) (fun cn2 w' h => by obtain ⟨rfl, h⟩ := h; exact x_out hc (hP w' h))
/-- PairedField: a call of PairedField.countUntold -/
theorem kF_127 {d' k n : Nat} {P : Rt → Wd → Prop} (hc : Ok X g cc "PairedField" ret hx d) (hd : decode cc pc = .ok (.invokevirtual 127, 3)) (hcon : Con X.2.1 g yF_countUntold bF_countUntold 4 ((some .int)) [] d' k n (.ref (g.1 0) :: []) w P) (hdd : d' + 1 ≤ d) (hst : (st.map fun v => v.category).sum ≤ 8) (hcells : kc + k ≤ X.2.2.2.1.cells) (hslots : ks + n ≤ X.2.2.2.1.slots)
    (hret : ∀ (v : Option Value) (w' : Wd), P (.inl v) w' → Go X g (kc + k) (ks + n) Q w' (pc + 3) lp (v.toList ++ st)) (hthr : ∀ (cn : String) (w' : Wd), P (.inr cn) w' → GoX X g (kc + k) (ks + n) Q w' pc lp cn) : Go X g kc ks Q w pc lp (.ref (g.1 0) :: st) :=
  r_callv (av := []) (nL' := 4) (q := 0) (ci := 0) (C := R_F) (Tc := T_F) (N := 8) hc hd hcon (t3_mem 20 rfl rfl) (t3_mem 22 rfl rfl) (t0_mem 19 rfl rfl) (t3_mem 23 rfl rfl) (by decide) (by decide +kernel) (show (parseMethodDescriptor yF_countUntold.desc).map (fun d => d.parameters.length) = some 0 by decide +kernel) (by decide) (ent_F g (w 0)) rfl hdd (by decide) (fun v hv => by cases hv) (Nat.le_of_ble_eq_true rfl) hst hcells hslots hret hthr
theorem kF_127r {d' : Nat} {P : Option Value → Wd → Prop} (hc : Ok X g cc "PairedField" ret hx d) (hd : decode cc pc = .ok (.invokevirtual 127, 3)) (hcon : Con X.2.1 g yF_countUntold bF_countUntold 4 ((some .int)) [] d' 0 0 (.ref (g.1 0) :: []) w (Rp P)) (hdd : d' + 1 ≤ d) (hst : (st.map fun v => v.category).sum ≤ 8) (hret : ∀ (v : Option Value) (w' : Wd), P v w' → Go X g 0 0 Q w' (pc + 3) lp (v.toList ++ st)) : Go X g 0 0 Q w pc lp (.ref (g.1 0) :: st) :=
  kF_127 hc hd hcon hdd hst (Nat.zero_le _) (Nat.zero_le _) (fun v w' h => hret v w' (Rp_l h)) (fun cn w' h => absurd h Rp_r)
theorem kF_127t {d' : Nat} {cn : String} {P : Wd → Prop} {P2 : Rt → Wd → Prop} (hc : Ok X g cc "PairedField" ret [] d) (hd : decode cc pc = .ok (.invokevirtual 127, 3)) (hcon : Con X.2.1 g yF_countUntold bF_countUntold 4 ((some .int)) [] d' 1 6 (.ref (g.1 0) :: []) w (Tp cn P)) (hdd : d' + 1 ≤ d) (hst : (st.map fun v => v.category).sum ≤ 8) (h1 : 1 ≤ X.2.2.2.1.cells) (h6 : 6 ≤ X.2.2.2.1.slots) (hP : ∀ w' : Wd, P w' → P2 (.inr cn) w') : Go X g 0 0 (Fen X g 1 6 P2) w pc lp (.ref (g.1 0) :: st) :=
  kF_127 hc hd hcon hdd hst (by omega) (by omega) (fun v w' h => absurd h Tp_l) (fun cn2 w' h => by obtain ⟨rfl, h⟩ := h; exact x_out hc (hP w' h))
/-- PairedFieldLaw: a call of PairedField.close -/
theorem kL_50 {d' k n : Nat} {P : Rt → Wd → Prop} (hc : Ok X g cc "PairedFieldLaw" ret hx d) (hd : decode cc pc = .ok (.invokevirtual 50, 3)) (hcon : Con X.2.1 g yF_close bF_close 1 ((some .int)) [] d' k n (.ref (g.1 0) :: []) w P) (hdd : d' + 1 ≤ d) (hst : (st.map fun v => v.category).sum ≤ 8) (hcells : kc + k ≤ X.2.2.2.1.cells) (hslots : ks + n ≤ X.2.2.2.1.slots)
    (hret : ∀ (v : Option Value) (w' : Wd), P (.inl v) w' → Go X g (kc + k) (ks + n) Q w' (pc + 3) lp (v.toList ++ st)) (hthr : ∀ (cn : String) (w' : Wd), P (.inr cn) w' → GoX X g (kc + k) (ks + n) Q w' pc lp cn) : Go X g kc ks Q w pc lp (.ref (g.1 0) :: st) :=
  r_callv (av := []) (nL' := 1) (q := 0) (ci := 0) (C := R_F) (Tc := T_F) (N := 8) hc hd hcon (t3_mem 27 rfl rfl) (t3_mem 28 rfl rfl) (t3_mem 29 rfl rfl) (t3_mem 30 rfl rfl) (by decide) (by decide +kernel) (show (parseMethodDescriptor yF_close.desc).map (fun d => d.parameters.length) = some 0 by decide +kernel) (by decide) (ent_F g (w 0)) rfl hdd (by decide) (fun v hv => by cases hv) (Nat.le_of_ble_eq_true rfl) hst hcells hslots hret hthr
theorem kL_50r {d' : Nat} {P : Option Value → Wd → Prop} (hc : Ok X g cc "PairedFieldLaw" ret hx d) (hd : decode cc pc = .ok (.invokevirtual 50, 3)) (hcon : Con X.2.1 g yF_close bF_close 1 ((some .int)) [] d' 0 0 (.ref (g.1 0) :: []) w (Rp P)) (hdd : d' + 1 ≤ d) (hst : (st.map fun v => v.category).sum ≤ 8) (hret : ∀ (v : Option Value) (w' : Wd), P v w' → Go X g 0 0 Q w' (pc + 3) lp (v.toList ++ st)) : Go X g 0 0 Q w pc lp (.ref (g.1 0) :: st) :=
  kL_50 hc hd hcon hdd hst (Nat.zero_le _) (Nat.zero_le _) (fun v w' h => hret v w' (Rp_l h)) (fun cn w' h => absurd h Rp_r)
theorem kL_50t {d' : Nat} {cn : String} {P : Wd → Prop} {P2 : Rt → Wd → Prop} (hc : Ok X g cc "PairedFieldLaw" ret [] d) (hd : decode cc pc = .ok (.invokevirtual 50, 3)) (hcon : Con X.2.1 g yF_close bF_close 1 ((some .int)) [] d' 1 6 (.ref (g.1 0) :: []) w (Tp cn P)) (hdd : d' + 1 ≤ d) (hst : (st.map fun v => v.category).sum ≤ 8) (h1 : 1 ≤ X.2.2.2.1.cells) (h6 : 6 ≤ X.2.2.2.1.slots) (hP : ∀ w' : Wd, P w' → P2 (.inr cn) w') : Go X g 0 0 (Fen X g 1 6 P2) w pc lp (.ref (g.1 0) :: st) :=
  kL_50 hc hd hcon hdd hst (by omega) (by omega) (fun v w' h => absurd h Tp_l) (fun cn2 w' h => by obtain ⟨rfl, h⟩ := h; exact x_out hc (hP w' h))
/-- PairedField: a call of PairedField.closeRound -/
theorem kF_132 {d' k n : Nat} {P : Rt → Wd → Prop} (hc : Ok X g cc "PairedField" ret hx d) (hd : decode cc pc = .ok (.invokevirtual 132, 3)) (hcon : Con X.2.1 g yF_closeRound bF_closeRound 1 ((none : Option Jvm.ClassFile.FieldType)) [] d' k n (.ref (g.1 0) :: []) w P) (hdd : d' + 1 ≤ d) (hst : (st.map fun v => v.category).sum ≤ 8) (hcells : kc + k ≤ X.2.2.2.1.cells) (hslots : ks + n ≤ X.2.2.2.1.slots)
    (hret : ∀ (v : Option Value) (w' : Wd), P (.inl v) w' → Go X g (kc + k) (ks + n) Q w' (pc + 3) lp (v.toList ++ st)) (hthr : ∀ (cn : String) (w' : Wd), P (.inr cn) w' → GoX X g (kc + k) (ks + n) Q w' pc lp cn) : Go X g kc ks Q w pc lp (.ref (g.1 0) :: st) :=
  r_callv (av := []) (nL' := 1) (q := 0) (ci := 0) (C := R_F) (Tc := T_F) (N := 8) hc hd hcon (t3_mem 32 rfl rfl) (t3_mem 34 rfl rfl) (t0_mem 20 rfl rfl) (t3_mem 35 rfl rfl) (by decide) (by decide +kernel) (show (parseMethodDescriptor yF_closeRound.desc).map (fun d => d.parameters.length) = some 0 by decide +kernel) (by decide) (ent_F g (w 0)) rfl hdd (by decide) (fun v hv => by cases hv) (Nat.le_of_ble_eq_true rfl) hst hcells hslots hret hthr
theorem kF_132r {d' : Nat} {P : Option Value → Wd → Prop} (hc : Ok X g cc "PairedField" ret hx d) (hd : decode cc pc = .ok (.invokevirtual 132, 3)) (hcon : Con X.2.1 g yF_closeRound bF_closeRound 1 ((none : Option Jvm.ClassFile.FieldType)) [] d' 0 0 (.ref (g.1 0) :: []) w (Rp P)) (hdd : d' + 1 ≤ d) (hst : (st.map fun v => v.category).sum ≤ 8) (hret : ∀ (v : Option Value) (w' : Wd), P v w' → Go X g 0 0 Q w' (pc + 3) lp (v.toList ++ st)) : Go X g 0 0 Q w pc lp (.ref (g.1 0) :: st) :=
  kF_132 hc hd hcon hdd hst (Nat.zero_le _) (Nat.zero_le _) (fun v w' h => hret v w' (Rp_l h)) (fun cn w' h => absurd h Rp_r)
theorem kF_132t {d' : Nat} {cn : String} {P : Wd → Prop} {P2 : Rt → Wd → Prop} (hc : Ok X g cc "PairedField" ret [] d) (hd : decode cc pc = .ok (.invokevirtual 132, 3)) (hcon : Con X.2.1 g yF_closeRound bF_closeRound 1 ((none : Option Jvm.ClassFile.FieldType)) [] d' 1 6 (.ref (g.1 0) :: []) w (Tp cn P)) (hdd : d' + 1 ≤ d) (hst : (st.map fun v => v.category).sum ≤ 8) (h1 : 1 ≤ X.2.2.2.1.cells) (h6 : 6 ≤ X.2.2.2.1.slots) (hP : ∀ w' : Wd, P w' → P2 (.inr cn) w') : Go X g 0 0 (Fen X g 1 6 P2) w pc lp (.ref (g.1 0) :: st) :=
  kF_132 hc hd hcon hdd hst (by omega) (by omega) (fun v w' h => absurd h Tp_l) (fun cn2 w' h => by obtain ⟨rfl, h⟩ := h; exact x_out hc (hP w' h))
/-- PairedField: a call of PairedField$Standing.recount -/
theorem kF_141 {d' k n : Nat} {P : Rt → Wd → Prop} {a0 : Nat} {a1 : Int32} (hc : Ok X g cc "PairedField" ret hx d) (hd : decode cc pc = .ok (.invokevirtual 141, 3)) (hcon : Con X.2.1 g yS_recount bS_recount 5 ((none : Option Jvm.ClassFile.FieldType)) [] d' k n (.ref (g.1 20) :: [.ref a0, .int a1]) w P) (hdd : d' + 1 ≤ d) (hst : (st.map fun v => v.category).sum ≤ 8) (hcells : kc + k ≤ X.2.2.2.1.cells) (hslots : ks + n ≤ X.2.2.2.1.slots)
    (hret : ∀ (v : Option Value) (w' : Wd), P (.inl v) w' → Go X g (kc + k) (ks + n) Q w' (pc + 3) lp (v.toList ++ st)) (hthr : ∀ (cn : String) (w' : Wd), P (.inr cn) w' → GoX X g (kc + k) (ks + n) Q w' pc lp cn) : Go X g kc ks Q w pc lp (.int a1 :: .ref a0 :: .ref (g.1 20) :: st) :=
  r_callv (av := [.ref a0, .int a1]) (nL' := 5) (q := 20) (ci := 1) (C := R_S) (Tc := T_S) (N := 10) hc hd hcon (t3_mem 36 rfl rfl) (t3_mem 37 rfl rfl) (t3_mem 38 rfl rfl) (t3_mem 39 rfl rfl) (by decide) (by decide +kernel) (show (parseMethodDescriptor yS_recount.desc).map (fun d => d.parameters.length) = some 2 by decide +kernel) (by decide) (ent_S g (w 20)) rfl hdd (by decide) (fun v hv => by simp only [List.mem_cons, List.not_mem_nil, or_false] at hv; rcases hv with rfl | rfl <;> rfl) (Nat.le_of_ble_eq_true rfl) hst hcells hslots hret hthr
theorem kF_141r {d' : Nat} {P : Option Value → Wd → Prop} {a0 : Nat} {a1 : Int32} (hc : Ok X g cc "PairedField" ret hx d) (hd : decode cc pc = .ok (.invokevirtual 141, 3)) (hcon : Con X.2.1 g yS_recount bS_recount 5 ((none : Option Jvm.ClassFile.FieldType)) [] d' 0 0 (.ref (g.1 20) :: [.ref a0, .int a1]) w (Rp P)) (hdd : d' + 1 ≤ d) (hst : (st.map fun v => v.category).sum ≤ 8) (hret : ∀ (v : Option Value) (w' : Wd), P v w' → Go X g 0 0 Q w' (pc + 3) lp (v.toList ++ st)) : Go X g 0 0 Q w pc lp (.int a1 :: .ref a0 :: .ref (g.1 20) :: st) :=
  kF_141 hc hd hcon hdd hst (Nat.zero_le _) (Nat.zero_le _) (fun v w' h => hret v w' (Rp_l h)) (fun cn w' h => absurd h Rp_r)
theorem kF_141t {d' : Nat} {cn : String} {P : Wd → Prop} {P2 : Rt → Wd → Prop} {a0 : Nat} {a1 : Int32} (hc : Ok X g cc "PairedField" ret [] d) (hd : decode cc pc = .ok (.invokevirtual 141, 3)) (hcon : Con X.2.1 g yS_recount bS_recount 5 ((none : Option Jvm.ClassFile.FieldType)) [] d' 1 6 (.ref (g.1 20) :: [.ref a0, .int a1]) w (Tp cn P)) (hdd : d' + 1 ≤ d) (hst : (st.map fun v => v.category).sum ≤ 8) (h1 : 1 ≤ X.2.2.2.1.cells) (h6 : 6 ≤ X.2.2.2.1.slots) (hP : ∀ w' : Wd, P w' → P2 (.inr cn) w') : Go X g 0 0 (Fen X g 1 6 P2) w pc lp (.int a1 :: .ref a0 :: .ref (g.1 20) :: st) :=
  kF_141 hc hd hcon hdd hst (by omega) (by omega) (fun v w' h => absurd h Tp_l) (fun cn2 w' h => by obtain ⟨rfl, h⟩ := h; exact x_out hc (hP w' h))
/-- PairedField$Standing: a call of PairedField$Standing.clear -/
theorem kS_42 {d' k n : Nat} {P : Rt → Wd → Prop} (hc : Ok X g cc "PairedField$Standing" ret hx d) (hd : decode cc pc = .ok (.invokevirtual 42, 3)) (hcon : Con X.2.1 g yS_clear bS_clear 1 ((none : Option Jvm.ClassFile.FieldType)) [] d' k n (.ref (g.1 20) :: []) w P) (hdd : d' + 1 ≤ d) (hst : (st.map fun v => v.category).sum ≤ 8) (hcells : kc + k ≤ X.2.2.2.1.cells) (hslots : ks + n ≤ X.2.2.2.1.slots)
    (hret : ∀ (v : Option Value) (w' : Wd), P (.inl v) w' → Go X g (kc + k) (ks + n) Q w' (pc + 3) lp (v.toList ++ st)) (hthr : ∀ (cn : String) (w' : Wd), P (.inr cn) w' → GoX X g (kc + k) (ks + n) Q w' pc lp cn) : Go X g kc ks Q w pc lp (.ref (g.1 20) :: st) :=
  r_callv (av := []) (nL' := 1) (q := 20) (ci := 1) (C := R_S) (Tc := T_S) (N := 10) hc hd hcon (t3_mem 40 rfl rfl) (t3_mem 42 rfl rfl) (t0_mem 21 rfl rfl) (t3_mem 43 rfl rfl) (by decide) (by decide +kernel) (show (parseMethodDescriptor yS_clear.desc).map (fun d => d.parameters.length) = some 0 by decide +kernel) (by decide) (ent_S g (w 20)) rfl hdd (by decide) (fun v hv => by cases hv) (Nat.le_of_ble_eq_true rfl) hst hcells hslots hret hthr
theorem kS_42r {d' : Nat} {P : Option Value → Wd → Prop} (hc : Ok X g cc "PairedField$Standing" ret hx d) (hd : decode cc pc = .ok (.invokevirtual 42, 3)) (hcon : Con X.2.1 g yS_clear bS_clear 1 ((none : Option Jvm.ClassFile.FieldType)) [] d' 0 0 (.ref (g.1 20) :: []) w (Rp P)) (hdd : d' + 1 ≤ d) (hst : (st.map fun v => v.category).sum ≤ 8) (hret : ∀ (v : Option Value) (w' : Wd), P v w' → Go X g 0 0 Q w' (pc + 3) lp (v.toList ++ st)) : Go X g 0 0 Q w pc lp (.ref (g.1 20) :: st) :=
  kS_42 hc hd hcon hdd hst (Nat.zero_le _) (Nat.zero_le _) (fun v w' h => hret v w' (Rp_l h)) (fun cn w' h => absurd h Rp_r)
theorem kS_42t {d' : Nat} {cn : String} {P : Wd → Prop} {P2 : Rt → Wd → Prop} (hc : Ok X g cc "PairedField$Standing" ret [] d) (hd : decode cc pc = .ok (.invokevirtual 42, 3)) (hcon : Con X.2.1 g yS_clear bS_clear 1 ((none : Option Jvm.ClassFile.FieldType)) [] d' 1 6 (.ref (g.1 20) :: []) w (Tp cn P)) (hdd : d' + 1 ≤ d) (hst : (st.map fun v => v.category).sum ≤ 8) (h1 : 1 ≤ X.2.2.2.1.cells) (h6 : 6 ≤ X.2.2.2.1.slots) (hP : ∀ w' : Wd, P w' → P2 (.inr cn) w') : Go X g 0 0 (Fen X g 1 6 P2) w pc lp (.ref (g.1 20) :: st) :=
  kS_42 hc hd hcon hdd hst (by omega) (by omega) (fun v w' h => absurd h Tp_l) (fun cn2 w' h => by obtain ⟨rfl, h⟩ := h; exact x_out hc (hP w' h))
/-- PairedField$Standing: a call of java/util/Arrays.fill -/
theorem kS_52 {d' k n : Nat} {P : Rt → Wd → Prop} {a0 : Nat} {a1 : Int32} (hc : Ok X g cc "PairedField$Standing" ret hx d) (hd : decode cc pc = .ok (.invokestatic 52, 3)) (hcon : Con X.2.1 g yA_fill bA_fill 4 ((none : Option Jvm.ClassFile.FieldType)) [] d' k n [.ref a0, .int a1] w P) (hdd : d' + 1 ≤ d) (hst : (st.map fun v => v.category).sum ≤ 8) (hcells : kc + k ≤ X.2.2.2.1.cells) (hslots : ks + n ≤ X.2.2.2.1.slots)
    (hret : ∀ (v : Option Value) (w' : Wd), P (.inl v) w' → Go X g (kc + k) (ks + n) Q w' (pc + 3) lp (v.toList ++ st)) (hthr : ∀ (cn : String) (w' : Wd), P (.inr cn) w' → GoX X g (kc + k) (ks + n) Q w' pc lp cn) : Go X g kc ks Q w pc lp (.int a1 :: .ref a0 :: st) :=
  r_calls (av := [.ref a0, .int a1]) (nL' := 4) hc hd hcon (t3_mem 44 rfl rfl) (t2_mem 174 rfl rfl) (t1_mem 14 rfl rfl) (t2_mem 175 rfl rfl) (by decide) (by decide +kernel) (show (parseMethodDescriptor yA_fill.desc).map (fun d => d.parameters.length) = some 2 by decide +kernel) hdd (by decide) (fun v hv => by simp only [List.mem_cons, List.not_mem_nil, or_false] at hv; rcases hv with rfl | rfl <;> rfl) (Nat.le_of_ble_eq_true rfl) hst hcells hslots hret hthr
theorem kS_52r {d' : Nat} {P : Option Value → Wd → Prop} {a0 : Nat} {a1 : Int32} (hc : Ok X g cc "PairedField$Standing" ret hx d) (hd : decode cc pc = .ok (.invokestatic 52, 3)) (hcon : Con X.2.1 g yA_fill bA_fill 4 ((none : Option Jvm.ClassFile.FieldType)) [] d' 0 0 [.ref a0, .int a1] w (Rp P)) (hdd : d' + 1 ≤ d) (hst : (st.map fun v => v.category).sum ≤ 8) (hret : ∀ (v : Option Value) (w' : Wd), P v w' → Go X g 0 0 Q w' (pc + 3) lp (v.toList ++ st)) : Go X g 0 0 Q w pc lp (.int a1 :: .ref a0 :: st) :=
  kS_52 hc hd hcon hdd hst (Nat.zero_le _) (Nat.zero_le _) (fun v w' h => hret v w' (Rp_l h)) (fun cn w' h => absurd h Rp_r)
theorem kS_52t {d' : Nat} {cn : String} {P : Wd → Prop} {P2 : Rt → Wd → Prop} {a0 : Nat} {a1 : Int32} (hc : Ok X g cc "PairedField$Standing" ret [] d) (hd : decode cc pc = .ok (.invokestatic 52, 3)) (hcon : Con X.2.1 g yA_fill bA_fill 4 ((none : Option Jvm.ClassFile.FieldType)) [] d' 1 6 [.ref a0, .int a1] w (Tp cn P)) (hdd : d' + 1 ≤ d) (hst : (st.map fun v => v.category).sum ≤ 8) (h1 : 1 ≤ X.2.2.2.1.cells) (h6 : 6 ≤ X.2.2.2.1.slots) (hP : ∀ w' : Wd, P w' → P2 (.inr cn) w') : Go X g 0 0 (Fen X g 1 6 P2) w pc lp (.int a1 :: .ref a0 :: st) :=
  kS_52 hc hd hcon hdd hst (by omega) (by omega) (fun v w' h => absurd h Tp_l) (fun cn2 w' h => by obtain ⟨rfl, h⟩ := h; exact x_out hc (hP w' h))
/-- PairedField$Standing: a call of PairedField$Standing.countCell -/
theorem kS_45 {d' k n : Nat} {P : Rt → Wd → Prop} {a0 : Int32} {a1 : Int32} (hc : Ok X g cc "PairedField$Standing" ret hx d) (hd : decode cc pc = .ok (.invokevirtual 45, 3)) (hcon : Con X.2.1 g yS_countCell bS_countCell 4 ((none : Option Jvm.ClassFile.FieldType)) [] d' k n (.ref (g.1 20) :: [.int a0, .int a1]) w P) (hdd : d' + 1 ≤ d) (hst : (st.map fun v => v.category).sum ≤ 8) (hcells : kc + k ≤ X.2.2.2.1.cells) (hslots : ks + n ≤ X.2.2.2.1.slots)
    (hret : ∀ (v : Option Value) (w' : Wd), P (.inl v) w' → Go X g (kc + k) (ks + n) Q w' (pc + 3) lp (v.toList ++ st)) (hthr : ∀ (cn : String) (w' : Wd), P (.inr cn) w' → GoX X g (kc + k) (ks + n) Q w' pc lp cn) : Go X g kc ks Q w pc lp (.int a1 :: .int a0 :: .ref (g.1 20) :: st) :=
  r_callv (av := [.int a0, .int a1]) (nL' := 4) (q := 20) (ci := 1) (C := R_S) (Tc := T_S) (N := 10) hc hd hcon (t3_mem 45 rfl rfl) (t3_mem 47 rfl rfl) (t0_mem 22 rfl rfl) (t3_mem 48 rfl rfl) (by decide) (by decide +kernel) (show (parseMethodDescriptor yS_countCell.desc).map (fun d => d.parameters.length) = some 2 by decide +kernel) (by decide) (ent_S g (w 20)) rfl hdd (by decide) (fun v hv => by simp only [List.mem_cons, List.not_mem_nil, or_false] at hv; rcases hv with rfl | rfl <;> rfl) (Nat.le_of_ble_eq_true rfl) hst hcells hslots hret hthr
theorem kS_45r {d' : Nat} {P : Option Value → Wd → Prop} {a0 : Int32} {a1 : Int32} (hc : Ok X g cc "PairedField$Standing" ret hx d) (hd : decode cc pc = .ok (.invokevirtual 45, 3)) (hcon : Con X.2.1 g yS_countCell bS_countCell 4 ((none : Option Jvm.ClassFile.FieldType)) [] d' 0 0 (.ref (g.1 20) :: [.int a0, .int a1]) w (Rp P)) (hdd : d' + 1 ≤ d) (hst : (st.map fun v => v.category).sum ≤ 8) (hret : ∀ (v : Option Value) (w' : Wd), P v w' → Go X g 0 0 Q w' (pc + 3) lp (v.toList ++ st)) : Go X g 0 0 Q w pc lp (.int a1 :: .int a0 :: .ref (g.1 20) :: st) :=
  kS_45 hc hd hcon hdd hst (Nat.zero_le _) (Nat.zero_le _) (fun v w' h => hret v w' (Rp_l h)) (fun cn w' h => absurd h Rp_r)
theorem kS_45t {d' : Nat} {cn : String} {P : Wd → Prop} {P2 : Rt → Wd → Prop} {a0 : Int32} {a1 : Int32} (hc : Ok X g cc "PairedField$Standing" ret [] d) (hd : decode cc pc = .ok (.invokevirtual 45, 3)) (hcon : Con X.2.1 g yS_countCell bS_countCell 4 ((none : Option Jvm.ClassFile.FieldType)) [] d' 1 6 (.ref (g.1 20) :: [.int a0, .int a1]) w (Tp cn P)) (hdd : d' + 1 ≤ d) (hst : (st.map fun v => v.category).sum ≤ 8) (h1 : 1 ≤ X.2.2.2.1.cells) (h6 : 6 ≤ X.2.2.2.1.slots) (hP : ∀ w' : Wd, P w' → P2 (.inr cn) w') : Go X g 0 0 (Fen X g 1 6 P2) w pc lp (.int a1 :: .int a0 :: .ref (g.1 20) :: st) :=
  kS_45 hc hd hcon hdd hst (by omega) (by omega) (fun v w' h => absurd h Tp_l) (fun cn2 w' h => by obtain ⟨rfl, h⟩ := h; exact x_out hc (hP w' h))
/-- PairedField$Standing: a call of PairedField$Cell.resultIn -/
theorem kS_58 {d' k n : Nat} {P : Rt → Wd → Prop} {a0 : Int32} (hc : Ok X g cc "PairedField$Standing" ret hx d) (hd : decode cc pc = .ok (.invokestatic 58, 3)) (hcon : Con X.2.1 g yC_resultIn bC_resultIn 1 ((some .int)) [] d' k n [.int a0] w P) (hdd : d' + 1 ≤ d) (hst : (st.map fun v => v.category).sum ≤ 8) (hcells : kc + k ≤ X.2.2.2.1.cells) (hslots : ks + n ≤ X.2.2.2.1.slots)
    (hret : ∀ (v : Option Value) (w' : Wd), P (.inl v) w' → Go X g (kc + k) (ks + n) Q w' (pc + 3) lp (v.toList ++ st)) (hthr : ∀ (cn : String) (w' : Wd), P (.inr cn) w' → GoX X g (kc + k) (ks + n) Q w' pc lp cn) : Go X g kc ks Q w pc lp (.int a0 :: st) :=
  r_calls (av := [.int a0]) (nL' := 1) hc hd hcon (t3_mem 49 rfl rfl) (t3_mem 5 rfl rfl) (t1_mem 15 rfl rfl) (t3_mem 6 rfl rfl) (by decide) (by decide +kernel) (show (parseMethodDescriptor yC_resultIn.desc).map (fun d => d.parameters.length) = some 1 by decide +kernel) hdd (by decide) (fun v hv => by simp only [List.mem_cons, List.not_mem_nil, or_false] at hv; rcases hv with rfl <;> rfl) (Nat.le_of_ble_eq_true rfl) hst hcells hslots hret hthr
theorem kS_58r {d' : Nat} {P : Option Value → Wd → Prop} {a0 : Int32} (hc : Ok X g cc "PairedField$Standing" ret hx d) (hd : decode cc pc = .ok (.invokestatic 58, 3)) (hcon : Con X.2.1 g yC_resultIn bC_resultIn 1 ((some .int)) [] d' 0 0 [.int a0] w (Rp P)) (hdd : d' + 1 ≤ d) (hst : (st.map fun v => v.category).sum ≤ 8) (hret : ∀ (v : Option Value) (w' : Wd), P v w' → Go X g 0 0 Q w' (pc + 3) lp (v.toList ++ st)) : Go X g 0 0 Q w pc lp (.int a0 :: st) :=
  kS_58 hc hd hcon hdd hst (Nat.zero_le _) (Nat.zero_le _) (fun v w' h => hret v w' (Rp_l h)) (fun cn w' h => absurd h Rp_r)
theorem kS_58t {d' : Nat} {cn : String} {P : Wd → Prop} {P2 : Rt → Wd → Prop} {a0 : Int32} (hc : Ok X g cc "PairedField$Standing" ret [] d) (hd : decode cc pc = .ok (.invokestatic 58, 3)) (hcon : Con X.2.1 g yC_resultIn bC_resultIn 1 ((some .int)) [] d' 1 6 [.int a0] w (Tp cn P)) (hdd : d' + 1 ≤ d) (hst : (st.map fun v => v.category).sum ≤ 8) (h1 : 1 ≤ X.2.2.2.1.cells) (h6 : 6 ≤ X.2.2.2.1.slots) (hP : ∀ w' : Wd, P w' → P2 (.inr cn) w') : Go X g 0 0 (Fen X g 1 6 P2) w pc lp (.int a0 :: st) :=
  kS_58 hc hd hcon hdd hst (by omega) (by omega) (fun v w' h => absurd h Tp_l) (fun cn2 w' h => by obtain ⟨rfl, h⟩ := h; exact x_out hc (hP w' h))
/-- PairedField$Standing: a call of PairedField$Cell.isGame -/
theorem kS_64 {d' k n : Nat} {P : Rt → Wd → Prop} {a0 : Int32} (hc : Ok X g cc "PairedField$Standing" ret hx d) (hd : decode cc pc = .ok (.invokestatic 64, 3)) (hcon : Con X.2.1 g yC_isGame bC_isGame 1 ((some .boolean)) [] d' k n [.int a0] w P) (hdd : d' + 1 ≤ d) (hst : (st.map fun v => v.category).sum ≤ 8) (hcells : kc + k ≤ X.2.2.2.1.cells) (hslots : ks + n ≤ X.2.2.2.1.slots)
    (hret : ∀ (v : Option Value) (w' : Wd), P (.inl v) w' → Go X g (kc + k) (ks + n) Q w' (pc + 3) lp (v.toList ++ st)) (hthr : ∀ (cn : String) (w' : Wd), P (.inr cn) w' → GoX X g (kc + k) (ks + n) Q w' pc lp cn) : Go X g kc ks Q w pc lp (.int a0 :: st) :=
  r_calls (av := [.int a0]) (nL' := 1) hc hd hcon (t3_mem 50 rfl rfl) (t2_mem 227 rfl rfl) (t1_mem 15 rfl rfl) (t2_mem 228 rfl rfl) (by decide) (by decide +kernel) (show (parseMethodDescriptor yC_isGame.desc).map (fun d => d.parameters.length) = some 1 by decide +kernel) hdd (by decide) (fun v hv => by simp only [List.mem_cons, List.not_mem_nil, or_false] at hv; rcases hv with rfl <;> rfl) (Nat.le_of_ble_eq_true rfl) hst hcells hslots hret hthr
theorem kS_64r {d' : Nat} {P : Option Value → Wd → Prop} {a0 : Int32} (hc : Ok X g cc "PairedField$Standing" ret hx d) (hd : decode cc pc = .ok (.invokestatic 64, 3)) (hcon : Con X.2.1 g yC_isGame bC_isGame 1 ((some .boolean)) [] d' 0 0 [.int a0] w (Rp P)) (hdd : d' + 1 ≤ d) (hst : (st.map fun v => v.category).sum ≤ 8) (hret : ∀ (v : Option Value) (w' : Wd), P v w' → Go X g 0 0 Q w' (pc + 3) lp (v.toList ++ st)) : Go X g 0 0 Q w pc lp (.int a0 :: st) :=
  kS_64 hc hd hcon hdd hst (Nat.zero_le _) (Nat.zero_le _) (fun v w' h => hret v w' (Rp_l h)) (fun cn w' h => absurd h Rp_r)
theorem kS_64t {d' : Nat} {cn : String} {P : Wd → Prop} {P2 : Rt → Wd → Prop} {a0 : Int32} (hc : Ok X g cc "PairedField$Standing" ret [] d) (hd : decode cc pc = .ok (.invokestatic 64, 3)) (hcon : Con X.2.1 g yC_isGame bC_isGame 1 ((some .boolean)) [] d' 1 6 [.int a0] w (Tp cn P)) (hdd : d' + 1 ≤ d) (hst : (st.map fun v => v.category).sum ≤ 8) (h1 : 1 ≤ X.2.2.2.1.cells) (h6 : 6 ≤ X.2.2.2.1.slots) (hP : ∀ w' : Wd, P w' → P2 (.inr cn) w') : Go X g 0 0 (Fen X g 1 6 P2) w pc lp (.int a0 :: st) :=
  kS_64 hc hd hcon hdd hst (by omega) (by omega) (fun v w' h => absurd h Tp_l) (fun cn2 w' h => by obtain ⟨rfl, h⟩ := h; exact x_out hc (hP w' h))
/-- PairedField$Standing: a call of PairedField$Cell.colourIn -/
theorem kS_68 {d' k n : Nat} {P : Rt → Wd → Prop} {a0 : Int32} (hc : Ok X g cc "PairedField$Standing" ret hx d) (hd : decode cc pc = .ok (.invokestatic 68, 3)) (hcon : Con X.2.1 g yC_colourIn bC_colourIn 1 ((some .int)) [] d' k n [.int a0] w P) (hdd : d' + 1 ≤ d) (hst : (st.map fun v => v.category).sum ≤ 8) (hcells : kc + k ≤ X.2.2.2.1.cells) (hslots : ks + n ≤ X.2.2.2.1.slots)
    (hret : ∀ (v : Option Value) (w' : Wd), P (.inl v) w' → Go X g (kc + k) (ks + n) Q w' (pc + 3) lp (v.toList ++ st)) (hthr : ∀ (cn : String) (w' : Wd), P (.inr cn) w' → GoX X g (kc + k) (ks + n) Q w' pc lp cn) : Go X g kc ks Q w pc lp (.int a0 :: st) :=
  r_calls (av := [.int a0]) (nL' := 1) hc hd hcon (t3_mem 51 rfl rfl) (t2_mem 230 rfl rfl) (t1_mem 15 rfl rfl) (t2_mem 231 rfl rfl) (by decide) (by decide +kernel) (show (parseMethodDescriptor yC_colourIn.desc).map (fun d => d.parameters.length) = some 1 by decide +kernel) hdd (by decide) (fun v hv => by simp only [List.mem_cons, List.not_mem_nil, or_false] at hv; rcases hv with rfl <;> rfl) (Nat.le_of_ble_eq_true rfl) hst hcells hslots hret hthr
theorem kS_68r {d' : Nat} {P : Option Value → Wd → Prop} {a0 : Int32} (hc : Ok X g cc "PairedField$Standing" ret hx d) (hd : decode cc pc = .ok (.invokestatic 68, 3)) (hcon : Con X.2.1 g yC_colourIn bC_colourIn 1 ((some .int)) [] d' 0 0 [.int a0] w (Rp P)) (hdd : d' + 1 ≤ d) (hst : (st.map fun v => v.category).sum ≤ 8) (hret : ∀ (v : Option Value) (w' : Wd), P v w' → Go X g 0 0 Q w' (pc + 3) lp (v.toList ++ st)) : Go X g 0 0 Q w pc lp (.int a0 :: st) :=
  kS_68 hc hd hcon hdd hst (Nat.zero_le _) (Nat.zero_le _) (fun v w' h => hret v w' (Rp_l h)) (fun cn w' h => absurd h Rp_r)
theorem kS_68t {d' : Nat} {cn : String} {P : Wd → Prop} {P2 : Rt → Wd → Prop} {a0 : Int32} (hc : Ok X g cc "PairedField$Standing" ret [] d) (hd : decode cc pc = .ok (.invokestatic 68, 3)) (hcon : Con X.2.1 g yC_colourIn bC_colourIn 1 ((some .int)) [] d' 1 6 [.int a0] w (Tp cn P)) (hdd : d' + 1 ≤ d) (hst : (st.map fun v => v.category).sum ≤ 8) (h1 : 1 ≤ X.2.2.2.1.cells) (h6 : 6 ≤ X.2.2.2.1.slots) (hP : ∀ w' : Wd, P w' → P2 (.inr cn) w') : Go X g 0 0 (Fen X g 1 6 P2) w pc lp (.int a0 :: st) :=
  kS_68 hc hd hcon hdd hst (by omega) (by omega) (fun v w' h => absurd h Tp_l) (fun cn2 w' h => by obtain ⟨rfl, h⟩ := h; exact x_out hc (hP w' h))
/-- PairedField$Standing: a call of PairedField$Cell.opponentIn -/
theorem kS_71 {d' k n : Nat} {P : Rt → Wd → Prop} {a0 : Int32} (hc : Ok X g cc "PairedField$Standing" ret hx d) (hd : decode cc pc = .ok (.invokestatic 71, 3)) (hcon : Con X.2.1 g yC_opponentIn bC_opponentIn 1 ((some .int)) [] d' k n [.int a0] w P) (hdd : d' + 1 ≤ d) (hst : (st.map fun v => v.category).sum ≤ 8) (hcells : kc + k ≤ X.2.2.2.1.cells) (hslots : ks + n ≤ X.2.2.2.1.slots)
    (hret : ∀ (v : Option Value) (w' : Wd), P (.inl v) w' → Go X g (kc + k) (ks + n) Q w' (pc + 3) lp (v.toList ++ st)) (hthr : ∀ (cn : String) (w' : Wd), P (.inr cn) w' → GoX X g (kc + k) (ks + n) Q w' pc lp cn) : Go X g kc ks Q w pc lp (.int a0 :: st) :=
  r_calls (av := [.int a0]) (nL' := 1) hc hd hcon (t3_mem 52 rfl rfl) (t2_mem 217 rfl rfl) (t1_mem 15 rfl rfl) (t2_mem 218 rfl rfl) (by decide) (by decide +kernel) (show (parseMethodDescriptor yC_opponentIn.desc).map (fun d => d.parameters.length) = some 1 by decide +kernel) hdd (by decide) (fun v hv => by simp only [List.mem_cons, List.not_mem_nil, or_false] at hv; rcases hv with rfl <;> rfl) (Nat.le_of_ble_eq_true rfl) hst hcells hslots hret hthr
theorem kS_71r {d' : Nat} {P : Option Value → Wd → Prop} {a0 : Int32} (hc : Ok X g cc "PairedField$Standing" ret hx d) (hd : decode cc pc = .ok (.invokestatic 71, 3)) (hcon : Con X.2.1 g yC_opponentIn bC_opponentIn 1 ((some .int)) [] d' 0 0 [.int a0] w (Rp P)) (hdd : d' + 1 ≤ d) (hst : (st.map fun v => v.category).sum ≤ 8) (hret : ∀ (v : Option Value) (w' : Wd), P v w' → Go X g 0 0 Q w' (pc + 3) lp (v.toList ++ st)) : Go X g 0 0 Q w pc lp (.int a0 :: st) :=
  kS_71 hc hd hcon hdd hst (Nat.zero_le _) (Nat.zero_le _) (fun v w' h => hret v w' (Rp_l h)) (fun cn w' h => absurd h Rp_r)
theorem kS_71t {d' : Nat} {cn : String} {P : Wd → Prop} {P2 : Rt → Wd → Prop} {a0 : Int32} (hc : Ok X g cc "PairedField$Standing" ret [] d) (hd : decode cc pc = .ok (.invokestatic 71, 3)) (hcon : Con X.2.1 g yC_opponentIn bC_opponentIn 1 ((some .int)) [] d' 1 6 [.int a0] w (Tp cn P)) (hdd : d' + 1 ≤ d) (hst : (st.map fun v => v.category).sum ≤ 8) (h1 : 1 ≤ X.2.2.2.1.cells) (h6 : 6 ≤ X.2.2.2.1.slots) (hP : ∀ w' : Wd, P w' → P2 (.inr cn) w') : Go X g 0 0 (Fen X g 1 6 P2) w pc lp (.int a0 :: st) :=
  kS_71 hc hd hcon hdd hst (by omega) (by omega) (fun v w' h => absurd h Tp_l) (fun cn2 w' h => by obtain ⟨rfl, h⟩ := h; exact x_out hc (hP w' h))
/-- PairedField$Standing: a call of PairedField$Standing.countOpponent -/
theorem kS_49 {d' k n : Nat} {P : Rt → Wd → Prop} {a0 : Int32} {a1 : Int32} (hc : Ok X g cc "PairedField$Standing" ret hx d) (hd : decode cc pc = .ok (.invokevirtual 49, 3)) (hcon : Con X.2.1 g yS_countOpponent bS_countOpponent 4 ((none : Option Jvm.ClassFile.FieldType)) [] d' k n (.ref (g.1 20) :: [.int a0, .int a1]) w P) (hdd : d' + 1 ≤ d) (hst : (st.map fun v => v.category).sum ≤ 8) (hcells : kc + k ≤ X.2.2.2.1.cells) (hslots : ks + n ≤ X.2.2.2.1.slots)
    (hret : ∀ (v : Option Value) (w' : Wd), P (.inl v) w' → Go X g (kc + k) (ks + n) Q w' (pc + 3) lp (v.toList ++ st)) (hthr : ∀ (cn : String) (w' : Wd), P (.inr cn) w' → GoX X g (kc + k) (ks + n) Q w' pc lp cn) : Go X g kc ks Q w pc lp (.int a1 :: .int a0 :: .ref (g.1 20) :: st) :=
  r_callv (av := [.int a0, .int a1]) (nL' := 4) (q := 20) (ci := 1) (C := R_S) (Tc := T_S) (N := 10) hc hd hcon (t3_mem 53 rfl rfl) (t3_mem 55 rfl rfl) (t0_mem 23 rfl rfl) (t3_mem 56 rfl rfl) (by decide) (by decide +kernel) (show (parseMethodDescriptor yS_countOpponent.desc).map (fun d => d.parameters.length) = some 2 by decide +kernel) (by decide) (ent_S g (w 20)) rfl hdd (by decide) (fun v hv => by simp only [List.mem_cons, List.not_mem_nil, or_false] at hv; rcases hv with rfl | rfl <;> rfl) (Nat.le_of_ble_eq_true rfl) hst hcells hslots hret hthr
theorem kS_49r {d' : Nat} {P : Option Value → Wd → Prop} {a0 : Int32} {a1 : Int32} (hc : Ok X g cc "PairedField$Standing" ret hx d) (hd : decode cc pc = .ok (.invokevirtual 49, 3)) (hcon : Con X.2.1 g yS_countOpponent bS_countOpponent 4 ((none : Option Jvm.ClassFile.FieldType)) [] d' 0 0 (.ref (g.1 20) :: [.int a0, .int a1]) w (Rp P)) (hdd : d' + 1 ≤ d) (hst : (st.map fun v => v.category).sum ≤ 8) (hret : ∀ (v : Option Value) (w' : Wd), P v w' → Go X g 0 0 Q w' (pc + 3) lp (v.toList ++ st)) : Go X g 0 0 Q w pc lp (.int a1 :: .int a0 :: .ref (g.1 20) :: st) :=
  kS_49 hc hd hcon hdd hst (Nat.zero_le _) (Nat.zero_le _) (fun v w' h => hret v w' (Rp_l h)) (fun cn w' h => absurd h Rp_r)
theorem kS_49t {d' : Nat} {cn : String} {P : Wd → Prop} {P2 : Rt → Wd → Prop} {a0 : Int32} {a1 : Int32} (hc : Ok X g cc "PairedField$Standing" ret [] d) (hd : decode cc pc = .ok (.invokevirtual 49, 3)) (hcon : Con X.2.1 g yS_countOpponent bS_countOpponent 4 ((none : Option Jvm.ClassFile.FieldType)) [] d' 1 6 (.ref (g.1 20) :: [.int a0, .int a1]) w (Tp cn P)) (hdd : d' + 1 ≤ d) (hst : (st.map fun v => v.category).sum ≤ 8) (h1 : 1 ≤ X.2.2.2.1.cells) (h6 : 6 ≤ X.2.2.2.1.slots) (hP : ∀ w' : Wd, P w' → P2 (.inr cn) w') : Go X g 0 0 (Fen X g 1 6 P2) w pc lp (.int a1 :: .int a0 :: .ref (g.1 20) :: st) :=
  kS_49 hc hd hcon hdd hst (by omega) (by omega) (fun v w' h => absurd h Tp_l) (fun cn2 w' h => by obtain ⟨rfl, h⟩ := h; exact x_out hc (hP w' h))
/-- PairedFieldLaw: a call of PairedField.back -/
theorem kL_53 {d' k n : Nat} {P : Rt → Wd → Prop} (hc : Ok X g cc "PairedFieldLaw" ret hx d) (hd : decode cc pc = .ok (.invokevirtual 53, 3)) (hcon : Con X.2.1 g yF_back bF_back 1 ((some .int)) [] d' k n (.ref (g.1 0) :: []) w P) (hdd : d' + 1 ≤ d) (hst : (st.map fun v => v.category).sum ≤ 8) (hcells : kc + k ≤ X.2.2.2.1.cells) (hslots : ks + n ≤ X.2.2.2.1.slots)
    (hret : ∀ (v : Option Value) (w' : Wd), P (.inl v) w' → Go X g (kc + k) (ks + n) Q w' (pc + 3) lp (v.toList ++ st)) (hthr : ∀ (cn : String) (w' : Wd), P (.inr cn) w' → GoX X g (kc + k) (ks + n) Q w' pc lp cn) : Go X g kc ks Q w pc lp (.ref (g.1 0) :: st) :=
  r_callv (av := []) (nL' := 1) (q := 0) (ci := 0) (C := R_F) (Tc := T_F) (N := 8) hc hd hcon (t3_mem 60 rfl rfl) (t3_mem 61 rfl rfl) (t3_mem 62 rfl rfl) (t3_mem 63 rfl rfl) (by decide) (by decide +kernel) (show (parseMethodDescriptor yF_back.desc).map (fun d => d.parameters.length) = some 0 by decide +kernel) (by decide) (ent_F g (w 0)) rfl hdd (by decide) (fun v hv => by cases hv) (Nat.le_of_ble_eq_true rfl) hst hcells hslots hret hthr
theorem kL_53r {d' : Nat} {P : Option Value → Wd → Prop} (hc : Ok X g cc "PairedFieldLaw" ret hx d) (hd : decode cc pc = .ok (.invokevirtual 53, 3)) (hcon : Con X.2.1 g yF_back bF_back 1 ((some .int)) [] d' 0 0 (.ref (g.1 0) :: []) w (Rp P)) (hdd : d' + 1 ≤ d) (hst : (st.map fun v => v.category).sum ≤ 8) (hret : ∀ (v : Option Value) (w' : Wd), P v w' → Go X g 0 0 Q w' (pc + 3) lp (v.toList ++ st)) : Go X g 0 0 Q w pc lp (.ref (g.1 0) :: st) :=
  kL_53 hc hd hcon hdd hst (Nat.zero_le _) (Nat.zero_le _) (fun v w' h => hret v w' (Rp_l h)) (fun cn w' h => absurd h Rp_r)
theorem kL_53t {d' : Nat} {cn : String} {P : Wd → Prop} {P2 : Rt → Wd → Prop} (hc : Ok X g cc "PairedFieldLaw" ret [] d) (hd : decode cc pc = .ok (.invokevirtual 53, 3)) (hcon : Con X.2.1 g yF_back bF_back 1 ((some .int)) [] d' 1 6 (.ref (g.1 0) :: []) w (Tp cn P)) (hdd : d' + 1 ≤ d) (hst : (st.map fun v => v.category).sum ≤ 8) (h1 : 1 ≤ X.2.2.2.1.cells) (h6 : 6 ≤ X.2.2.2.1.slots) (hP : ∀ w' : Wd, P w' → P2 (.inr cn) w') : Go X g 0 0 (Fen X g 1 6 P2) w pc lp (.ref (g.1 0) :: st) :=
  kL_53 hc hd hcon hdd hst (by omega) (by omega) (fun v w' h => absurd h Tp_l) (fun cn2 w' h => by obtain ⟨rfl, h⟩ := h; exact x_out hc (hP w' h))
/-- PairedFieldLaw: a call of PairedField.play -/
theorem kL_56 {d' k n : Nat} {P : Rt → Wd → Prop} {a0 : Int32} (hc : Ok X g cc "PairedFieldLaw" ret hx d) (hd : decode cc pc = .ok (.invokevirtual 56, 3)) (hcon : Con X.2.1 g yF_play bF_play 3 ((some .int)) [] d' k n (.ref (g.1 0) :: [.int a0]) w P) (hdd : d' + 1 ≤ d) (hst : (st.map fun v => v.category).sum ≤ 8) (hcells : kc + k ≤ X.2.2.2.1.cells) (hslots : ks + n ≤ X.2.2.2.1.slots)
    (hret : ∀ (v : Option Value) (w' : Wd), P (.inl v) w' → Go X g (kc + k) (ks + n) Q w' (pc + 3) lp (v.toList ++ st)) (hthr : ∀ (cn : String) (w' : Wd), P (.inr cn) w' → GoX X g (kc + k) (ks + n) Q w' pc lp cn) : Go X g kc ks Q w pc lp (.int a0 :: .ref (g.1 0) :: st) :=
  r_callv (av := [.int a0]) (nL' := 3) (q := 0) (ci := 0) (C := R_F) (Tc := T_F) (N := 8) hc hd hcon (t3_mem 68 rfl rfl) (t3_mem 69 rfl rfl) (t3_mem 70 rfl rfl) (t3_mem 71 rfl rfl) (by decide) (by decide +kernel) (show (parseMethodDescriptor yF_play.desc).map (fun d => d.parameters.length) = some 1 by decide +kernel) (by decide) (ent_F g (w 0)) rfl hdd (by decide) (fun v hv => by simp only [List.mem_cons, List.not_mem_nil, or_false] at hv; rcases hv with rfl <;> rfl) (Nat.le_of_ble_eq_true rfl) hst hcells hslots hret hthr
theorem kL_56r {d' : Nat} {P : Option Value → Wd → Prop} {a0 : Int32} (hc : Ok X g cc "PairedFieldLaw" ret hx d) (hd : decode cc pc = .ok (.invokevirtual 56, 3)) (hcon : Con X.2.1 g yF_play bF_play 3 ((some .int)) [] d' 0 0 (.ref (g.1 0) :: [.int a0]) w (Rp P)) (hdd : d' + 1 ≤ d) (hst : (st.map fun v => v.category).sum ≤ 8) (hret : ∀ (v : Option Value) (w' : Wd), P v w' → Go X g 0 0 Q w' (pc + 3) lp (v.toList ++ st)) : Go X g 0 0 Q w pc lp (.int a0 :: .ref (g.1 0) :: st) :=
  kL_56 hc hd hcon hdd hst (Nat.zero_le _) (Nat.zero_le _) (fun v w' h => hret v w' (Rp_l h)) (fun cn w' h => absurd h Rp_r)
theorem kL_56t {d' : Nat} {cn : String} {P : Wd → Prop} {P2 : Rt → Wd → Prop} {a0 : Int32} (hc : Ok X g cc "PairedFieldLaw" ret [] d) (hd : decode cc pc = .ok (.invokevirtual 56, 3)) (hcon : Con X.2.1 g yF_play bF_play 3 ((some .int)) [] d' 1 6 (.ref (g.1 0) :: [.int a0]) w (Tp cn P)) (hdd : d' + 1 ≤ d) (hst : (st.map fun v => v.category).sum ≤ 8) (h1 : 1 ≤ X.2.2.2.1.cells) (h6 : 6 ≤ X.2.2.2.1.slots) (hP : ∀ w' : Wd, P w' → P2 (.inr cn) w') : Go X g 0 0 (Fen X g 1 6 P2) w pc lp (.int a0 :: .ref (g.1 0) :: st) :=
  kL_56 hc hd hcon hdd hst (by omega) (by omega) (fun v w' h => absurd h Tp_l) (fun cn2 w' h => by obtain ⟨rfl, h⟩ := h; exact x_out hc (hP w' h))
/-- PairedField: a call of PairedField.noteResultsByNumber -/
theorem kF_147 {d' k n : Nat} {P : Rt → Wd → Prop} (hc : Ok X g cc "PairedField" ret hx d) (hd : decode cc pc = .ok (.invokevirtual 147, 3)) (hcon : Con X.2.1 g yF_noteResultsByNumber bF_noteResultsByNumber 4 ((none : Option Jvm.ClassFile.FieldType)) [] d' k n (.ref (g.1 0) :: []) w P) (hdd : d' + 1 ≤ d) (hst : (st.map fun v => v.category).sum ≤ 8) (hcells : kc + k ≤ X.2.2.2.1.cells) (hslots : ks + n ≤ X.2.2.2.1.slots)
    (hret : ∀ (v : Option Value) (w' : Wd), P (.inl v) w' → Go X g (kc + k) (ks + n) Q w' (pc + 3) lp (v.toList ++ st)) (hthr : ∀ (cn : String) (w' : Wd), P (.inr cn) w' → GoX X g (kc + k) (ks + n) Q w' pc lp cn) : Go X g kc ks Q w pc lp (.ref (g.1 0) :: st) :=
  r_callv (av := []) (nL' := 4) (q := 0) (ci := 0) (C := R_F) (Tc := T_F) (N := 8) hc hd hcon (t3_mem 73 rfl rfl) (t3_mem 75 rfl rfl) (t0_mem 24 rfl rfl) (t3_mem 76 rfl rfl) (by decide) (by decide +kernel) (show (parseMethodDescriptor yF_noteResultsByNumber.desc).map (fun d => d.parameters.length) = some 0 by decide +kernel) (by decide) (ent_F g (w 0)) rfl hdd (by decide) (fun v hv => by cases hv) (Nat.le_of_ble_eq_true rfl) hst hcells hslots hret hthr
theorem kF_147r {d' : Nat} {P : Option Value → Wd → Prop} (hc : Ok X g cc "PairedField" ret hx d) (hd : decode cc pc = .ok (.invokevirtual 147, 3)) (hcon : Con X.2.1 g yF_noteResultsByNumber bF_noteResultsByNumber 4 ((none : Option Jvm.ClassFile.FieldType)) [] d' 0 0 (.ref (g.1 0) :: []) w (Rp P)) (hdd : d' + 1 ≤ d) (hst : (st.map fun v => v.category).sum ≤ 8) (hret : ∀ (v : Option Value) (w' : Wd), P v w' → Go X g 0 0 Q w' (pc + 3) lp (v.toList ++ st)) : Go X g 0 0 Q w pc lp (.ref (g.1 0) :: st) :=
  kF_147 hc hd hcon hdd hst (Nat.zero_le _) (Nat.zero_le _) (fun v w' h => hret v w' (Rp_l h)) (fun cn w' h => absurd h Rp_r)
theorem kF_147t {d' : Nat} {cn : String} {P : Wd → Prop} {P2 : Rt → Wd → Prop} (hc : Ok X g cc "PairedField" ret [] d) (hd : decode cc pc = .ok (.invokevirtual 147, 3)) (hcon : Con X.2.1 g yF_noteResultsByNumber bF_noteResultsByNumber 4 ((none : Option Jvm.ClassFile.FieldType)) [] d' 1 6 (.ref (g.1 0) :: []) w (Tp cn P)) (hdd : d' + 1 ≤ d) (hst : (st.map fun v => v.category).sum ≤ 8) (h1 : 1 ≤ X.2.2.2.1.cells) (h6 : 6 ≤ X.2.2.2.1.slots) (hP : ∀ w' : Wd, P w' → P2 (.inr cn) w') : Go X g 0 0 (Fen X g 1 6 P2) w pc lp (.ref (g.1 0) :: st) :=
  kF_147 hc hd hcon hdd hst (by omega) (by omega) (fun v w' h => absurd h Tp_l) (fun cn2 w' h => by obtain ⟨rfl, h⟩ := h; exact x_out hc (hP w' h))
/-- PairedFieldLaw: a call of PairedField.tell -/
theorem kL_59 {d' k n : Nat} {P : Rt → Wd → Prop} {a0 : Int32} {a1 : Int32} (hc : Ok X g cc "PairedFieldLaw" ret hx d) (hd : decode cc pc = .ok (.invokevirtual 59, 3)) (hcon : Con X.2.1 g yF_tell bF_tell 3 ((some .int)) [] d' k n (.ref (g.1 0) :: [.int a0, .int a1]) w P) (hdd : d' + 1 ≤ d) (hst : (st.map fun v => v.category).sum ≤ 8) (hcells : kc + k ≤ X.2.2.2.1.cells) (hslots : ks + n ≤ X.2.2.2.1.slots)
    (hret : ∀ (v : Option Value) (w' : Wd), P (.inl v) w' → Go X g (kc + k) (ks + n) Q w' (pc + 3) lp (v.toList ++ st)) (hthr : ∀ (cn : String) (w' : Wd), P (.inr cn) w' → GoX X g (kc + k) (ks + n) Q w' pc lp cn) : Go X g kc ks Q w pc lp (.int a1 :: .int a0 :: .ref (g.1 0) :: st) :=
  r_callv (av := [.int a0, .int a1]) (nL' := 3) (q := 0) (ci := 0) (C := R_F) (Tc := T_F) (N := 8) hc hd hcon (t3_mem 80 rfl rfl) (t3_mem 81 rfl rfl) (t3_mem 82 rfl rfl) (t3_mem 83 rfl rfl) (by decide) (by decide +kernel) (show (parseMethodDescriptor yF_tell.desc).map (fun d => d.parameters.length) = some 2 by decide +kernel) (by decide) (ent_F g (w 0)) rfl hdd (by decide) (fun v hv => by simp only [List.mem_cons, List.not_mem_nil, or_false] at hv; rcases hv with rfl | rfl <;> rfl) (Nat.le_of_ble_eq_true rfl) hst hcells hslots hret hthr
theorem kL_59r {d' : Nat} {P : Option Value → Wd → Prop} {a0 : Int32} {a1 : Int32} (hc : Ok X g cc "PairedFieldLaw" ret hx d) (hd : decode cc pc = .ok (.invokevirtual 59, 3)) (hcon : Con X.2.1 g yF_tell bF_tell 3 ((some .int)) [] d' 0 0 (.ref (g.1 0) :: [.int a0, .int a1]) w (Rp P)) (hdd : d' + 1 ≤ d) (hst : (st.map fun v => v.category).sum ≤ 8) (hret : ∀ (v : Option Value) (w' : Wd), P v w' → Go X g 0 0 Q w' (pc + 3) lp (v.toList ++ st)) : Go X g 0 0 Q w pc lp (.int a1 :: .int a0 :: .ref (g.1 0) :: st) :=
  kL_59 hc hd hcon hdd hst (Nat.zero_le _) (Nat.zero_le _) (fun v w' h => hret v w' (Rp_l h)) (fun cn w' h => absurd h Rp_r)
theorem kL_59t {d' : Nat} {cn : String} {P : Wd → Prop} {P2 : Rt → Wd → Prop} {a0 : Int32} {a1 : Int32} (hc : Ok X g cc "PairedFieldLaw" ret [] d) (hd : decode cc pc = .ok (.invokevirtual 59, 3)) (hcon : Con X.2.1 g yF_tell bF_tell 3 ((some .int)) [] d' 1 6 (.ref (g.1 0) :: [.int a0, .int a1]) w (Tp cn P)) (hdd : d' + 1 ≤ d) (hst : (st.map fun v => v.category).sum ≤ 8) (h1 : 1 ≤ X.2.2.2.1.cells) (h6 : 6 ≤ X.2.2.2.1.slots) (hP : ∀ w' : Wd, P w' → P2 (.inr cn) w') : Go X g 0 0 (Fen X g 1 6 P2) w pc lp (.int a1 :: .int a0 :: .ref (g.1 0) :: st) :=
  kL_59 hc hd hcon hdd hst (by omega) (by omega) (fun v w' h => absurd h Tp_l) (fun cn2 w' h => by obtain ⟨rfl, h⟩ := h; exact x_out hc (hP w' h))
/-- PairedFieldLaw: a call of PairedField.had -/
theorem kL_63 {d' k n : Nat} {P : Rt → Wd → Prop} {a0 : Int32} {a1 : Int32} (hc : Ok X g cc "PairedFieldLaw" ret hx d) (hd : decode cc pc = .ok (.invokevirtual 63, 3)) (hcon : Con X.2.1 g yF_had bF_had 3 ((some .int)) [] d' k n (.ref (g.1 0) :: [.int a0, .int a1]) w P) (hdd : d' + 1 ≤ d) (hst : (st.map fun v => v.category).sum ≤ 8) (hcells : kc + k ≤ X.2.2.2.1.cells) (hslots : ks + n ≤ X.2.2.2.1.slots)
    (hret : ∀ (v : Option Value) (w' : Wd), P (.inl v) w' → Go X g (kc + k) (ks + n) Q w' (pc + 3) lp (v.toList ++ st)) (hthr : ∀ (cn : String) (w' : Wd), P (.inr cn) w' → GoX X g (kc + k) (ks + n) Q w' pc lp cn) : Go X g kc ks Q w pc lp (.int a1 :: .int a0 :: .ref (g.1 0) :: st) :=
  r_callv (av := [.int a0, .int a1]) (nL' := 3) (q := 0) (ci := 0) (C := R_F) (Tc := T_F) (N := 8) hc hd hcon (t3_mem 88 rfl rfl) (t3_mem 89 rfl rfl) (t3_mem 90 rfl rfl) (t3_mem 91 rfl rfl) (by decide) (by decide +kernel) (show (parseMethodDescriptor yF_had.desc).map (fun d => d.parameters.length) = some 2 by decide +kernel) (by decide) (ent_F g (w 0)) rfl hdd (by decide) (fun v hv => by simp only [List.mem_cons, List.not_mem_nil, or_false] at hv; rcases hv with rfl | rfl <;> rfl) (Nat.le_of_ble_eq_true rfl) hst hcells hslots hret hthr
theorem kL_63r {d' : Nat} {P : Option Value → Wd → Prop} {a0 : Int32} {a1 : Int32} (hc : Ok X g cc "PairedFieldLaw" ret hx d) (hd : decode cc pc = .ok (.invokevirtual 63, 3)) (hcon : Con X.2.1 g yF_had bF_had 3 ((some .int)) [] d' 0 0 (.ref (g.1 0) :: [.int a0, .int a1]) w (Rp P)) (hdd : d' + 1 ≤ d) (hst : (st.map fun v => v.category).sum ≤ 8) (hret : ∀ (v : Option Value) (w' : Wd), P v w' → Go X g 0 0 Q w' (pc + 3) lp (v.toList ++ st)) : Go X g 0 0 Q w pc lp (.int a1 :: .int a0 :: .ref (g.1 0) :: st) :=
  kL_63 hc hd hcon hdd hst (Nat.zero_le _) (Nat.zero_le _) (fun v w' h => hret v w' (Rp_l h)) (fun cn w' h => absurd h Rp_r)
theorem kL_63t {d' : Nat} {cn : String} {P : Wd → Prop} {P2 : Rt → Wd → Prop} {a0 : Int32} {a1 : Int32} (hc : Ok X g cc "PairedFieldLaw" ret [] d) (hd : decode cc pc = .ok (.invokevirtual 63, 3)) (hcon : Con X.2.1 g yF_had bF_had 3 ((some .int)) [] d' 1 6 (.ref (g.1 0) :: [.int a0, .int a1]) w (Tp cn P)) (hdd : d' + 1 ≤ d) (hst : (st.map fun v => v.category).sum ≤ 8) (h1 : 1 ≤ X.2.2.2.1.cells) (h6 : 6 ≤ X.2.2.2.1.slots) (hP : ∀ w' : Wd, P w' → P2 (.inr cn) w') : Go X g 0 0 (Fen X g 1 6 P2) w pc lp (.int a1 :: .int a0 :: .ref (g.1 0) :: st) :=
  kL_63 hc hd hcon hdd hst (by omega) (by omega) (fun v w' h => absurd h Tp_l) (fun cn2 w' h => by obtain ⟨rfl, h⟩ := h; exact x_out hc (hP w' h))
/-- PairedFieldLaw: a call of PairedField.table -/
theorem kL_66 {d' k n : Nat} {P : Rt → Wd → Prop} {a0 : Int32} (hc : Ok X g cc "PairedFieldLaw" ret hx d) (hd : decode cc pc = .ok (.invokevirtual 66, 3)) (hcon : Con X.2.1 g yF_table bF_table 2 ((some .int)) [] d' k n (.ref (g.1 0) :: [.int a0]) w P) (hdd : d' + 1 ≤ d) (hst : (st.map fun v => v.category).sum ≤ 8) (hcells : kc + k ≤ X.2.2.2.1.cells) (hslots : ks + n ≤ X.2.2.2.1.slots)
    (hret : ∀ (v : Option Value) (w' : Wd), P (.inl v) w' → Go X g (kc + k) (ks + n) Q w' (pc + 3) lp (v.toList ++ st)) (hthr : ∀ (cn : String) (w' : Wd), P (.inr cn) w' → GoX X g (kc + k) (ks + n) Q w' pc lp cn) : Go X g kc ks Q w pc lp (.int a0 :: .ref (g.1 0) :: st) :=
  r_callv (av := [.int a0]) (nL' := 2) (q := 0) (ci := 0) (C := R_F) (Tc := T_F) (N := 8) hc hd hcon (t3_mem 96 rfl rfl) (t3_mem 97 rfl rfl) (t3_mem 98 rfl rfl) (t3_mem 99 rfl rfl) (by decide) (by decide +kernel) (show (parseMethodDescriptor yF_table.desc).map (fun d => d.parameters.length) = some 1 by decide +kernel) (by decide) (ent_F g (w 0)) rfl hdd (by decide) (fun v hv => by simp only [List.mem_cons, List.not_mem_nil, or_false] at hv; rcases hv with rfl <;> rfl) (Nat.le_of_ble_eq_true rfl) hst hcells hslots hret hthr
theorem kL_66r {d' : Nat} {P : Option Value → Wd → Prop} {a0 : Int32} (hc : Ok X g cc "PairedFieldLaw" ret hx d) (hd : decode cc pc = .ok (.invokevirtual 66, 3)) (hcon : Con X.2.1 g yF_table bF_table 2 ((some .int)) [] d' 0 0 (.ref (g.1 0) :: [.int a0]) w (Rp P)) (hdd : d' + 1 ≤ d) (hst : (st.map fun v => v.category).sum ≤ 8) (hret : ∀ (v : Option Value) (w' : Wd), P v w' → Go X g 0 0 Q w' (pc + 3) lp (v.toList ++ st)) : Go X g 0 0 Q w pc lp (.int a0 :: .ref (g.1 0) :: st) :=
  kL_66 hc hd hcon hdd hst (Nat.zero_le _) (Nat.zero_le _) (fun v w' h => hret v w' (Rp_l h)) (fun cn w' h => absurd h Rp_r)
theorem kL_66t {d' : Nat} {cn : String} {P : Wd → Prop} {P2 : Rt → Wd → Prop} {a0 : Int32} (hc : Ok X g cc "PairedFieldLaw" ret [] d) (hd : decode cc pc = .ok (.invokevirtual 66, 3)) (hcon : Con X.2.1 g yF_table bF_table 2 ((some .int)) [] d' 1 6 (.ref (g.1 0) :: [.int a0]) w (Tp cn P)) (hdd : d' + 1 ≤ d) (hst : (st.map fun v => v.category).sum ≤ 8) (h1 : 1 ≤ X.2.2.2.1.cells) (h6 : 6 ≤ X.2.2.2.1.slots) (hP : ∀ w' : Wd, P w' → P2 (.inr cn) w') : Go X g 0 0 (Fen X g 1 6 P2) w pc lp (.int a0 :: .ref (g.1 0) :: st) :=
  kL_66 hc hd hcon hdd hst (by omega) (by omega) (fun v w' h => absurd h Tp_l) (fun cn2 w' h => by obtain ⟨rfl, h⟩ := h; exact x_out hc (hP w' h))
/-- PairedField: a call of PairedField$Standing.playerAt -/
theorem kF_182 {d' k n : Nat} {P : Rt → Wd → Prop} {a0 : Int32} {a1 : Int32} (hc : Ok X g cc "PairedField" ret hx d) (hd : decode cc pc = .ok (.invokevirtual 182, 3)) (hcon : Con X.2.1 g yS_playerAt bS_playerAt 6 ((some .int)) [] d' k n (.ref (g.1 20) :: [.int a0, .int a1]) w P) (hdd : d' + 1 ≤ d) (hst : (st.map fun v => v.category).sum ≤ 8) (hcells : kc + k ≤ X.2.2.2.1.cells) (hslots : ks + n ≤ X.2.2.2.1.slots)
    (hret : ∀ (v : Option Value) (w' : Wd), P (.inl v) w' → Go X g (kc + k) (ks + n) Q w' (pc + 3) lp (v.toList ++ st)) (hthr : ∀ (cn : String) (w' : Wd), P (.inr cn) w' → GoX X g (kc + k) (ks + n) Q w' pc lp cn) : Go X g kc ks Q w pc lp (.int a1 :: .int a0 :: .ref (g.1 20) :: st) :=
  r_callv (av := [.int a0, .int a1]) (nL' := 6) (q := 20) (ci := 1) (C := R_S) (Tc := T_S) (N := 10) hc hd hcon (t3_mem 101 rfl rfl) (t3_mem 102 rfl rfl) (t3_mem 103 rfl rfl) (t3_mem 104 rfl rfl) (by decide) (by decide +kernel) (show (parseMethodDescriptor yS_playerAt.desc).map (fun d => d.parameters.length) = some 2 by decide +kernel) (by decide) (ent_S g (w 20)) rfl hdd (by decide) (fun v hv => by simp only [List.mem_cons, List.not_mem_nil, or_false] at hv; rcases hv with rfl | rfl <;> rfl) (Nat.le_of_ble_eq_true rfl) hst hcells hslots hret hthr
theorem kF_182r {d' : Nat} {P : Option Value → Wd → Prop} {a0 : Int32} {a1 : Int32} (hc : Ok X g cc "PairedField" ret hx d) (hd : decode cc pc = .ok (.invokevirtual 182, 3)) (hcon : Con X.2.1 g yS_playerAt bS_playerAt 6 ((some .int)) [] d' 0 0 (.ref (g.1 20) :: [.int a0, .int a1]) w (Rp P)) (hdd : d' + 1 ≤ d) (hst : (st.map fun v => v.category).sum ≤ 8) (hret : ∀ (v : Option Value) (w' : Wd), P v w' → Go X g 0 0 Q w' (pc + 3) lp (v.toList ++ st)) : Go X g 0 0 Q w pc lp (.int a1 :: .int a0 :: .ref (g.1 20) :: st) :=
  kF_182 hc hd hcon hdd hst (Nat.zero_le _) (Nat.zero_le _) (fun v w' h => hret v w' (Rp_l h)) (fun cn w' h => absurd h Rp_r)
theorem kF_182t {d' : Nat} {cn : String} {P : Wd → Prop} {P2 : Rt → Wd → Prop} {a0 : Int32} {a1 : Int32} (hc : Ok X g cc "PairedField" ret [] d) (hd : decode cc pc = .ok (.invokevirtual 182, 3)) (hcon : Con X.2.1 g yS_playerAt bS_playerAt 6 ((some .int)) [] d' 1 6 (.ref (g.1 20) :: [.int a0, .int a1]) w (Tp cn P)) (hdd : d' + 1 ≤ d) (hst : (st.map fun v => v.category).sum ≤ 8) (h1 : 1 ≤ X.2.2.2.1.cells) (h6 : 6 ≤ X.2.2.2.1.slots) (hP : ∀ w' : Wd, P w' → P2 (.inr cn) w') : Go X g 0 0 (Fen X g 1 6 P2) w pc lp (.int a1 :: .int a0 :: .ref (g.1 20) :: st) :=
  kF_182 hc hd hcon hdd hst (by omega) (by omega) (fun v w' h => absurd h Tp_l) (fun cn2 w' h => by obtain ⟨rfl, h⟩ := h; exact x_out hc (hP w' h))
/-- PairedField$Standing: a call of PairedField$Standing.isBeforeInTable -/
theorem kS_74 {d' k n : Nat} {P : Rt → Wd → Prop} {a0 : Int32} {a1 : Int32} (hc : Ok X g cc "PairedField$Standing" ret hx d) (hd : decode cc pc = .ok (.invokevirtual 74, 3)) (hcon : Con X.2.1 g yS_isBeforeInTable bS_isBeforeInTable 3 ((some .boolean)) [] d' k n (.ref (g.1 20) :: [.int a0, .int a1]) w P) (hdd : d' + 1 ≤ d) (hst : (st.map fun v => v.category).sum ≤ 8) (hcells : kc + k ≤ X.2.2.2.1.cells) (hslots : ks + n ≤ X.2.2.2.1.slots)
    (hret : ∀ (v : Option Value) (w' : Wd), P (.inl v) w' → Go X g (kc + k) (ks + n) Q w' (pc + 3) lp (v.toList ++ st)) (hthr : ∀ (cn : String) (w' : Wd), P (.inr cn) w' → GoX X g (kc + k) (ks + n) Q w' pc lp cn) : Go X g kc ks Q w pc lp (.int a1 :: .int a0 :: .ref (g.1 20) :: st) :=
  r_callv (av := [.int a0, .int a1]) (nL' := 3) (q := 20) (ci := 1) (C := R_S) (Tc := T_S) (N := 10) hc hd hcon (t3_mem 105 rfl rfl) (t3_mem 107 rfl rfl) (t0_mem 25 rfl rfl) (t3_mem 108 rfl rfl) (by decide) (by decide +kernel) (show (parseMethodDescriptor yS_isBeforeInTable.desc).map (fun d => d.parameters.length) = some 2 by decide +kernel) (by decide) (ent_S g (w 20)) rfl hdd (by decide) (fun v hv => by simp only [List.mem_cons, List.not_mem_nil, or_false] at hv; rcases hv with rfl | rfl <;> rfl) (Nat.le_of_ble_eq_true rfl) hst hcells hslots hret hthr
theorem kS_74r {d' : Nat} {P : Option Value → Wd → Prop} {a0 : Int32} {a1 : Int32} (hc : Ok X g cc "PairedField$Standing" ret hx d) (hd : decode cc pc = .ok (.invokevirtual 74, 3)) (hcon : Con X.2.1 g yS_isBeforeInTable bS_isBeforeInTable 3 ((some .boolean)) [] d' 0 0 (.ref (g.1 20) :: [.int a0, .int a1]) w (Rp P)) (hdd : d' + 1 ≤ d) (hst : (st.map fun v => v.category).sum ≤ 8) (hret : ∀ (v : Option Value) (w' : Wd), P v w' → Go X g 0 0 Q w' (pc + 3) lp (v.toList ++ st)) : Go X g 0 0 Q w pc lp (.int a1 :: .int a0 :: .ref (g.1 20) :: st) :=
  kS_74 hc hd hcon hdd hst (Nat.zero_le _) (Nat.zero_le _) (fun v w' h => hret v w' (Rp_l h)) (fun cn w' h => absurd h Rp_r)
theorem kS_74t {d' : Nat} {cn : String} {P : Wd → Prop} {P2 : Rt → Wd → Prop} {a0 : Int32} {a1 : Int32} (hc : Ok X g cc "PairedField$Standing" ret [] d) (hd : decode cc pc = .ok (.invokevirtual 74, 3)) (hcon : Con X.2.1 g yS_isBeforeInTable bS_isBeforeInTable 3 ((some .boolean)) [] d' 1 6 (.ref (g.1 20) :: [.int a0, .int a1]) w (Tp cn P)) (hdd : d' + 1 ≤ d) (hst : (st.map fun v => v.category).sum ≤ 8) (h1 : 1 ≤ X.2.2.2.1.cells) (h6 : 6 ≤ X.2.2.2.1.slots) (hP : ∀ w' : Wd, P w' → P2 (.inr cn) w') : Go X g 0 0 (Fen X g 1 6 P2) w pc lp (.int a1 :: .int a0 :: .ref (g.1 20) :: st) :=
  kS_74 hc hd hcon hdd hst (by omega) (by omega) (fun v w' h => absurd h Tp_l) (fun cn2 w' h => by obtain ⟨rfl, h⟩ := h; exact x_out hc (hP w' h))
/-- PairedFieldLaw: a call of PairedFieldModel.thrown -/
theorem kL_84 {d' k n : Nat} {P : Rt → Wd → Prop} (hc : Ok X g cc "PairedFieldLaw" ret hx d) (hd : decode cc pc = .ok (.invokevirtual 84, 3)) (hcon : Con X.2.1 g yM_thrown bM_thrown 1 ((some .int)) [] d' k n (.ref (g.1 48) :: []) w P) (hdd : d' + 1 ≤ d) (hst : (st.map fun v => v.category).sum ≤ 8) (hcells : kc + k ≤ X.2.2.2.1.cells) (hslots : ks + n ≤ X.2.2.2.1.slots)
    (hret : ∀ (v : Option Value) (w' : Wd), P (.inl v) w' → Go X g (kc + k) (ks + n) Q w' (pc + 3) lp (v.toList ++ st)) (hthr : ∀ (cn : String) (w' : Wd), P (.inr cn) w' → GoX X g (kc + k) (ks + n) Q w' pc lp cn) : Go X g kc ks Q w pc lp (.ref (g.1 48) :: st) :=
  r_callv (av := []) (nL' := 1) (q := 48) (ci := 3) (C := R_M) (Tc := T_M) (N := 17) hc hd hcon (t3_mem 167 rfl rfl) (t3_mem 168 rfl rfl) (t3_mem 169 rfl rfl) (t3_mem 170 rfl rfl) (by decide) (by decide +kernel) (show (parseMethodDescriptor yM_thrown.desc).map (fun d => d.parameters.length) = some 0 by decide +kernel) (by decide) (ent_M g (w 48)) rfl hdd (by decide) (fun v hv => by cases hv) (Nat.le_of_ble_eq_true rfl) hst hcells hslots hret hthr
theorem kL_84r {d' : Nat} {P : Option Value → Wd → Prop} (hc : Ok X g cc "PairedFieldLaw" ret hx d) (hd : decode cc pc = .ok (.invokevirtual 84, 3)) (hcon : Con X.2.1 g yM_thrown bM_thrown 1 ((some .int)) [] d' 0 0 (.ref (g.1 48) :: []) w (Rp P)) (hdd : d' + 1 ≤ d) (hst : (st.map fun v => v.category).sum ≤ 8) (hret : ∀ (v : Option Value) (w' : Wd), P v w' → Go X g 0 0 Q w' (pc + 3) lp (v.toList ++ st)) : Go X g 0 0 Q w pc lp (.ref (g.1 48) :: st) :=
  kL_84 hc hd hcon hdd hst (Nat.zero_le _) (Nat.zero_le _) (fun v w' h => hret v w' (Rp_l h)) (fun cn w' h => absurd h Rp_r)
theorem kL_84t {d' : Nat} {cn : String} {P : Wd → Prop} {P2 : Rt → Wd → Prop} (hc : Ok X g cc "PairedFieldLaw" ret [] d) (hd : decode cc pc = .ok (.invokevirtual 84, 3)) (hcon : Con X.2.1 g yM_thrown bM_thrown 1 ((some .int)) [] d' 1 6 (.ref (g.1 48) :: []) w (Tp cn P)) (hdd : d' + 1 ≤ d) (hst : (st.map fun v => v.category).sum ≤ 8) (h1 : 1 ≤ X.2.2.2.1.cells) (h6 : 6 ≤ X.2.2.2.1.slots) (hP : ∀ w' : Wd, P w' → P2 (.inr cn) w') : Go X g 0 0 (Fen X g 1 6 P2) w pc lp (.ref (g.1 48) :: st) :=
  kL_84 hc hd hcon hdd hst (by omega) (by omega) (fun v w' h => absurd h Tp_l) (fun cn2 w' h => by obtain ⟨rfl, h⟩ := h; exact x_out hc (hP w' h))
/-- PairedFieldLaw: a call of PairedFieldModel.enter -/
theorem kL_83 {d' k n : Nat} {P : Rt → Wd → Prop} (hc : Ok X g cc "PairedFieldLaw" ret hx d) (hd : decode cc pc = .ok (.invokevirtual 83, 3)) (hcon : Con X.2.1 g yM_enter bM_enter 3 ((some .int)) [] d' k n (.ref (g.1 48) :: []) w P) (hdd : d' + 1 ≤ d) (hst : (st.map fun v => v.category).sum ≤ 8) (hcells : kc + k ≤ X.2.2.2.1.cells) (hslots : ks + n ≤ X.2.2.2.1.slots)
    (hret : ∀ (v : Option Value) (w' : Wd), P (.inl v) w' → Go X g (kc + k) (ks + n) Q w' (pc + 3) lp (v.toList ++ st)) (hthr : ∀ (cn : String) (w' : Wd), P (.inr cn) w' → GoX X g (kc + k) (ks + n) Q w' pc lp cn) : Go X g kc ks Q w pc lp (.ref (g.1 48) :: st) :=
  r_callv (av := []) (nL' := 3) (q := 48) (ci := 3) (C := R_M) (Tc := T_M) (N := 17) hc hd hcon (t3_mem 171 rfl rfl) (t3_mem 172 rfl rfl) (t3_mem 173 rfl rfl) (t3_mem 174 rfl rfl) (by decide) (by decide +kernel) (show (parseMethodDescriptor yM_enter.desc).map (fun d => d.parameters.length) = some 0 by decide +kernel) (by decide) (ent_M g (w 48)) rfl hdd (by decide) (fun v hv => by cases hv) (Nat.le_of_ble_eq_true rfl) hst hcells hslots hret hthr
theorem kL_83r {d' : Nat} {P : Option Value → Wd → Prop} (hc : Ok X g cc "PairedFieldLaw" ret hx d) (hd : decode cc pc = .ok (.invokevirtual 83, 3)) (hcon : Con X.2.1 g yM_enter bM_enter 3 ((some .int)) [] d' 0 0 (.ref (g.1 48) :: []) w (Rp P)) (hdd : d' + 1 ≤ d) (hst : (st.map fun v => v.category).sum ≤ 8) (hret : ∀ (v : Option Value) (w' : Wd), P v w' → Go X g 0 0 Q w' (pc + 3) lp (v.toList ++ st)) : Go X g 0 0 Q w pc lp (.ref (g.1 48) :: st) :=
  kL_83 hc hd hcon hdd hst (Nat.zero_le _) (Nat.zero_le _) (fun v w' h => hret v w' (Rp_l h)) (fun cn w' h => absurd h Rp_r)
theorem kL_83t {d' : Nat} {cn : String} {P : Wd → Prop} {P2 : Rt → Wd → Prop} (hc : Ok X g cc "PairedFieldLaw" ret [] d) (hd : decode cc pc = .ok (.invokevirtual 83, 3)) (hcon : Con X.2.1 g yM_enter bM_enter 3 ((some .int)) [] d' 1 6 (.ref (g.1 48) :: []) w (Tp cn P)) (hdd : d' + 1 ≤ d) (hst : (st.map fun v => v.category).sum ≤ 8) (h1 : 1 ≤ X.2.2.2.1.cells) (h6 : 6 ≤ X.2.2.2.1.slots) (hP : ∀ w' : Wd, P w' → P2 (.inr cn) w') : Go X g 0 0 (Fen X g 1 6 P2) w pc lp (.ref (g.1 48) :: st) :=
  kL_83 hc hd hcon hdd hst (by omega) (by omega) (fun v w' h => absurd h Tp_l) (fun cn2 w' h => by obtain ⟨rfl, h⟩ := h; exact x_out hc (hP w' h))
/-- PairedFieldModel: a call of PairedFieldModel.refused -/
theorem kM_55 {d' k n : Nat} {P : Rt → Wd → Prop} {a0 : Int32} {a1 : Int32} {a2 : Int32} (hc : Ok X g cc "PairedFieldModel" ret hx d) (hd : decode cc pc = .ok (.invokevirtual 55, 3)) (hcon : Con X.2.1 g yM_refused bM_refused 4 ((some .boolean)) [] d' k n (.ref (g.1 48) :: [.int a0, .int a1, .int a2]) w P) (hdd : d' + 1 ≤ d) (hst : (st.map fun v => v.category).sum ≤ 8) (hcells : kc + k ≤ X.2.2.2.1.cells) (hslots : ks + n ≤ X.2.2.2.1.slots)
    (hret : ∀ (v : Option Value) (w' : Wd), P (.inl v) w' → Go X g (kc + k) (ks + n) Q w' (pc + 3) lp (v.toList ++ st)) (hthr : ∀ (cn : String) (w' : Wd), P (.inr cn) w' → GoX X g (kc + k) (ks + n) Q w' pc lp cn) : Go X g kc ks Q w pc lp (.int a2 :: .int a1 :: .int a0 :: .ref (g.1 48) :: st) :=
  r_callv (av := [.int a0, .int a1, .int a2]) (nL' := 4) (q := 48) (ci := 3) (C := R_M) (Tc := T_M) (N := 17) hc hd hcon (t3_mem 175 rfl rfl) (t3_mem 177 rfl rfl) (t0_mem 26 rfl rfl) (t3_mem 178 rfl rfl) (by decide) (by decide +kernel) (show (parseMethodDescriptor yM_refused.desc).map (fun d => d.parameters.length) = some 3 by decide +kernel) (by decide) (ent_M g (w 48)) rfl hdd (by decide) (fun v hv => by simp only [List.mem_cons, List.not_mem_nil, or_false] at hv; rcases hv with rfl | rfl | rfl <;> rfl) (Nat.le_of_ble_eq_true rfl) hst hcells hslots hret hthr
theorem kM_55r {d' : Nat} {P : Option Value → Wd → Prop} {a0 : Int32} {a1 : Int32} {a2 : Int32} (hc : Ok X g cc "PairedFieldModel" ret hx d) (hd : decode cc pc = .ok (.invokevirtual 55, 3)) (hcon : Con X.2.1 g yM_refused bM_refused 4 ((some .boolean)) [] d' 0 0 (.ref (g.1 48) :: [.int a0, .int a1, .int a2]) w (Rp P)) (hdd : d' + 1 ≤ d) (hst : (st.map fun v => v.category).sum ≤ 8) (hret : ∀ (v : Option Value) (w' : Wd), P v w' → Go X g 0 0 Q w' (pc + 3) lp (v.toList ++ st)) : Go X g 0 0 Q w pc lp (.int a2 :: .int a1 :: .int a0 :: .ref (g.1 48) :: st) :=
  kM_55 hc hd hcon hdd hst (Nat.zero_le _) (Nat.zero_le _) (fun v w' h => hret v w' (Rp_l h)) (fun cn w' h => absurd h Rp_r)
theorem kM_55t {d' : Nat} {cn : String} {P : Wd → Prop} {P2 : Rt → Wd → Prop} {a0 : Int32} {a1 : Int32} {a2 : Int32} (hc : Ok X g cc "PairedFieldModel" ret [] d) (hd : decode cc pc = .ok (.invokevirtual 55, 3)) (hcon : Con X.2.1 g yM_refused bM_refused 4 ((some .boolean)) [] d' 1 6 (.ref (g.1 48) :: [.int a0, .int a1, .int a2]) w (Tp cn P)) (hdd : d' + 1 ≤ d) (hst : (st.map fun v => v.category).sum ≤ 8) (h1 : 1 ≤ X.2.2.2.1.cells) (h6 : 6 ≤ X.2.2.2.1.slots) (hP : ∀ w' : Wd, P w' → P2 (.inr cn) w') : Go X g 0 0 (Fen X g 1 6 P2) w pc lp (.int a2 :: .int a1 :: .int a0 :: .ref (g.1 48) :: st) :=
  kM_55 hc hd hcon hdd hst (by omega) (by omega) (fun v w' h => absurd h Tp_l) (fun cn2 w' h => by obtain ⟨rfl, h⟩ := h; exact x_out hc (hP w' h))
/-- PairedFieldLaw: a call of PairedFieldModel.leave -/
theorem kL_90 {d' k n : Nat} {P : Rt → Wd → Prop} {a0 : Int32} (hc : Ok X g cc "PairedFieldLaw" ret hx d) (hd : decode cc pc = .ok (.invokevirtual 90, 3)) (hcon : Con X.2.1 g yM_leave bM_leave 2 ((none : Option Jvm.ClassFile.FieldType)) [] d' k n (.ref (g.1 48) :: [.int a0]) w P) (hdd : d' + 1 ≤ d) (hst : (st.map fun v => v.category).sum ≤ 8) (hcells : kc + k ≤ X.2.2.2.1.cells) (hslots : ks + n ≤ X.2.2.2.1.slots)
    (hret : ∀ (v : Option Value) (w' : Wd), P (.inl v) w' → Go X g (kc + k) (ks + n) Q w' (pc + 3) lp (v.toList ++ st)) (hthr : ∀ (cn : String) (w' : Wd), P (.inr cn) w' → GoX X g (kc + k) (ks + n) Q w' pc lp cn) : Go X g kc ks Q w pc lp (.int a0 :: .ref (g.1 48) :: st) :=
  r_callv (av := [.int a0]) (nL' := 2) (q := 48) (ci := 3) (C := R_M) (Tc := T_M) (N := 17) hc hd hcon (t3_mem 179 rfl rfl) (t3_mem 180 rfl rfl) (t3_mem 181 rfl rfl) (t3_mem 182 rfl rfl) (by decide) (by decide +kernel) (show (parseMethodDescriptor yM_leave.desc).map (fun d => d.parameters.length) = some 1 by decide +kernel) (by decide) (ent_M g (w 48)) rfl hdd (by decide) (fun v hv => by simp only [List.mem_cons, List.not_mem_nil, or_false] at hv; rcases hv with rfl <;> rfl) (Nat.le_of_ble_eq_true rfl) hst hcells hslots hret hthr
theorem kL_90r {d' : Nat} {P : Option Value → Wd → Prop} {a0 : Int32} (hc : Ok X g cc "PairedFieldLaw" ret hx d) (hd : decode cc pc = .ok (.invokevirtual 90, 3)) (hcon : Con X.2.1 g yM_leave bM_leave 2 ((none : Option Jvm.ClassFile.FieldType)) [] d' 0 0 (.ref (g.1 48) :: [.int a0]) w (Rp P)) (hdd : d' + 1 ≤ d) (hst : (st.map fun v => v.category).sum ≤ 8) (hret : ∀ (v : Option Value) (w' : Wd), P v w' → Go X g 0 0 Q w' (pc + 3) lp (v.toList ++ st)) : Go X g 0 0 Q w pc lp (.int a0 :: .ref (g.1 48) :: st) :=
  kL_90 hc hd hcon hdd hst (Nat.zero_le _) (Nat.zero_le _) (fun v w' h => hret v w' (Rp_l h)) (fun cn w' h => absurd h Rp_r)
theorem kL_90t {d' : Nat} {cn : String} {P : Wd → Prop} {P2 : Rt → Wd → Prop} {a0 : Int32} (hc : Ok X g cc "PairedFieldLaw" ret [] d) (hd : decode cc pc = .ok (.invokevirtual 90, 3)) (hcon : Con X.2.1 g yM_leave bM_leave 2 ((none : Option Jvm.ClassFile.FieldType)) [] d' 1 6 (.ref (g.1 48) :: [.int a0]) w (Tp cn P)) (hdd : d' + 1 ≤ d) (hst : (st.map fun v => v.category).sum ≤ 8) (h1 : 1 ≤ X.2.2.2.1.cells) (h6 : 6 ≤ X.2.2.2.1.slots) (hP : ∀ w' : Wd, P w' → P2 (.inr cn) w') : Go X g 0 0 (Fen X g 1 6 P2) w pc lp (.int a0 :: .ref (g.1 48) :: st) :=
  kL_90 hc hd hcon hdd hst (by omega) (by omega) (fun v w' h => absurd h Tp_l) (fun cn2 w' h => by obtain ⟨rfl, h⟩ := h; exact x_out hc (hP w' h))
/-- PairedFieldModel: a call of PairedFieldModel.isPlayer -/
theorem kM_59 {d' k n : Nat} {P : Rt → Wd → Prop} {a0 : Int32} (hc : Ok X g cc "PairedFieldModel" ret hx d) (hd : decode cc pc = .ok (.invokevirtual 59, 3)) (hcon : Con X.2.1 g yM_isPlayer bM_isPlayer 2 ((some .boolean)) [] d' k n (.ref (g.1 48) :: [.int a0]) w P) (hdd : d' + 1 ≤ d) (hst : (st.map fun v => v.category).sum ≤ 8) (hcells : kc + k ≤ X.2.2.2.1.cells) (hslots : ks + n ≤ X.2.2.2.1.slots)
    (hret : ∀ (v : Option Value) (w' : Wd), P (.inl v) w' → Go X g (kc + k) (ks + n) Q w' (pc + 3) lp (v.toList ++ st)) (hthr : ∀ (cn : String) (w' : Wd), P (.inr cn) w' → GoX X g (kc + k) (ks + n) Q w' pc lp cn) : Go X g kc ks Q w pc lp (.int a0 :: .ref (g.1 48) :: st) :=
  r_callv (av := [.int a0]) (nL' := 2) (q := 48) (ci := 3) (C := R_M) (Tc := T_M) (N := 17) hc hd hcon (t3_mem 183 rfl rfl) (t3_mem 185 rfl rfl) (t0_mem 27 rfl rfl) (t3_mem 186 rfl rfl) (by decide) (by decide +kernel) (show (parseMethodDescriptor yM_isPlayer.desc).map (fun d => d.parameters.length) = some 1 by decide +kernel) (by decide) (ent_M g (w 48)) rfl hdd (by decide) (fun v hv => by simp only [List.mem_cons, List.not_mem_nil, or_false] at hv; rcases hv with rfl <;> rfl) (Nat.le_of_ble_eq_true rfl) hst hcells hslots hret hthr
theorem kM_59r {d' : Nat} {P : Option Value → Wd → Prop} {a0 : Int32} (hc : Ok X g cc "PairedFieldModel" ret hx d) (hd : decode cc pc = .ok (.invokevirtual 59, 3)) (hcon : Con X.2.1 g yM_isPlayer bM_isPlayer 2 ((some .boolean)) [] d' 0 0 (.ref (g.1 48) :: [.int a0]) w (Rp P)) (hdd : d' + 1 ≤ d) (hst : (st.map fun v => v.category).sum ≤ 8) (hret : ∀ (v : Option Value) (w' : Wd), P v w' → Go X g 0 0 Q w' (pc + 3) lp (v.toList ++ st)) : Go X g 0 0 Q w pc lp (.int a0 :: .ref (g.1 48) :: st) :=
  kM_59 hc hd hcon hdd hst (Nat.zero_le _) (Nat.zero_le _) (fun v w' h => hret v w' (Rp_l h)) (fun cn w' h => absurd h Rp_r)
theorem kM_59t {d' : Nat} {cn : String} {P : Wd → Prop} {P2 : Rt → Wd → Prop} {a0 : Int32} (hc : Ok X g cc "PairedFieldModel" ret [] d) (hd : decode cc pc = .ok (.invokevirtual 59, 3)) (hcon : Con X.2.1 g yM_isPlayer bM_isPlayer 2 ((some .boolean)) [] d' 1 6 (.ref (g.1 48) :: [.int a0]) w (Tp cn P)) (hdd : d' + 1 ≤ d) (hst : (st.map fun v => v.category).sum ≤ 8) (h1 : 1 ≤ X.2.2.2.1.cells) (h6 : 6 ≤ X.2.2.2.1.slots) (hP : ∀ w' : Wd, P w' → P2 (.inr cn) w') : Go X g 0 0 (Fen X g 1 6 P2) w pc lp (.int a0 :: .ref (g.1 48) :: st) :=
  kM_59 hc hd hcon hdd hst (by omega) (by omega) (fun v w' h => absurd h Tp_l) (fun cn2 w' h => by obtain ⟨rfl, h⟩ := h; exact x_out hc (hP w' h))
/-- PairedFieldLaw: a call of PairedFieldModel.apart -/
theorem kL_94 {d' k n : Nat} {P : Rt → Wd → Prop} {a0 : Int32} {a1 : Int32} {a2 : Int32} (hc : Ok X g cc "PairedFieldLaw" ret hx d) (hd : decode cc pc = .ok (.invokevirtual 94, 3)) (hcon : Con X.2.1 g yM_apart bM_apart 5 ((some .boolean)) [] d' k n (.ref (g.1 48) :: [.int a0, .int a1, .int a2]) w P) (hdd : d' + 1 ≤ d) (hst : (st.map fun v => v.category).sum ≤ 8) (hcells : kc + k ≤ X.2.2.2.1.cells) (hslots : ks + n ≤ X.2.2.2.1.slots)
    (hret : ∀ (v : Option Value) (w' : Wd), P (.inl v) w' → Go X g (kc + k) (ks + n) Q w' (pc + 3) lp (v.toList ++ st)) (hthr : ∀ (cn : String) (w' : Wd), P (.inr cn) w' → GoX X g (kc + k) (ks + n) Q w' pc lp cn) : Go X g kc ks Q w pc lp (.int a2 :: .int a1 :: .int a0 :: .ref (g.1 48) :: st) :=
  r_callv (av := [.int a0, .int a1, .int a2]) (nL' := 5) (q := 48) (ci := 3) (C := R_M) (Tc := T_M) (N := 17) hc hd hcon (t3_mem 187 rfl rfl) (t3_mem 188 rfl rfl) (t3_mem 189 rfl rfl) (t3_mem 190 rfl rfl) (by decide) (by decide +kernel) (show (parseMethodDescriptor yM_apart.desc).map (fun d => d.parameters.length) = some 3 by decide +kernel) (by decide) (ent_M g (w 48)) rfl hdd (by decide) (fun v hv => by simp only [List.mem_cons, List.not_mem_nil, or_false] at hv; rcases hv with rfl | rfl | rfl <;> rfl) (Nat.le_of_ble_eq_true rfl) hst hcells hslots hret hthr
theorem kL_94r {d' : Nat} {P : Option Value → Wd → Prop} {a0 : Int32} {a1 : Int32} {a2 : Int32} (hc : Ok X g cc "PairedFieldLaw" ret hx d) (hd : decode cc pc = .ok (.invokevirtual 94, 3)) (hcon : Con X.2.1 g yM_apart bM_apart 5 ((some .boolean)) [] d' 0 0 (.ref (g.1 48) :: [.int a0, .int a1, .int a2]) w (Rp P)) (hdd : d' + 1 ≤ d) (hst : (st.map fun v => v.category).sum ≤ 8) (hret : ∀ (v : Option Value) (w' : Wd), P v w' → Go X g 0 0 Q w' (pc + 3) lp (v.toList ++ st)) : Go X g 0 0 Q w pc lp (.int a2 :: .int a1 :: .int a0 :: .ref (g.1 48) :: st) :=
  kL_94 hc hd hcon hdd hst (Nat.zero_le _) (Nat.zero_le _) (fun v w' h => hret v w' (Rp_l h)) (fun cn w' h => absurd h Rp_r)
theorem kL_94t {d' : Nat} {cn : String} {P : Wd → Prop} {P2 : Rt → Wd → Prop} {a0 : Int32} {a1 : Int32} {a2 : Int32} (hc : Ok X g cc "PairedFieldLaw" ret [] d) (hd : decode cc pc = .ok (.invokevirtual 94, 3)) (hcon : Con X.2.1 g yM_apart bM_apart 5 ((some .boolean)) [] d' 1 6 (.ref (g.1 48) :: [.int a0, .int a1, .int a2]) w (Tp cn P)) (hdd : d' + 1 ≤ d) (hst : (st.map fun v => v.category).sum ≤ 8) (h1 : 1 ≤ X.2.2.2.1.cells) (h6 : 6 ≤ X.2.2.2.1.slots) (hP : ∀ w' : Wd, P w' → P2 (.inr cn) w') : Go X g 0 0 (Fen X g 1 6 P2) w pc lp (.int a2 :: .int a1 :: .int a0 :: .ref (g.1 48) :: st) :=
  kL_94 hc hd hcon hdd hst (by omega) (by omega) (fun v w' h => absurd h Tp_l) (fun cn2 w' h => by obtain ⟨rfl, h⟩ := h; exact x_out hc (hP w' h))
/-- PairedFieldLaw: a call of PairedFieldModel.pair -/
theorem kL_97 {d' k n : Nat} {P : Rt → Wd → Prop} (hc : Ok X g cc "PairedFieldLaw" ret hx d) (hd : decode cc pc = .ok (.invokevirtual 97, 3)) (hcon : Con X.2.1 g yM_pair bM_pair 3 ((some .int)) [] d' k n (.ref (g.1 48) :: []) w P) (hdd : d' + 1 ≤ d) (hst : (st.map fun v => v.category).sum ≤ 8) (hcells : kc + k ≤ X.2.2.2.1.cells) (hslots : ks + n ≤ X.2.2.2.1.slots)
    (hret : ∀ (v : Option Value) (w' : Wd), P (.inl v) w' → Go X g (kc + k) (ks + n) Q w' (pc + 3) lp (v.toList ++ st)) (hthr : ∀ (cn : String) (w' : Wd), P (.inr cn) w' → GoX X g (kc + k) (ks + n) Q w' pc lp cn) : Go X g kc ks Q w pc lp (.ref (g.1 48) :: st) :=
  r_callv (av := []) (nL' := 3) (q := 48) (ci := 3) (C := R_M) (Tc := T_M) (N := 17) hc hd hcon (t3_mem 191 rfl rfl) (t3_mem 192 rfl rfl) (t3_mem 193 rfl rfl) (t3_mem 194 rfl rfl) (by decide) (by decide +kernel) (show (parseMethodDescriptor yM_pair.desc).map (fun d => d.parameters.length) = some 0 by decide +kernel) (by decide) (ent_M g (w 48)) rfl hdd (by decide) (fun v hv => by cases hv) (Nat.le_of_ble_eq_true rfl) hst hcells hslots hret hthr
theorem kL_97r {d' : Nat} {P : Option Value → Wd → Prop} (hc : Ok X g cc "PairedFieldLaw" ret hx d) (hd : decode cc pc = .ok (.invokevirtual 97, 3)) (hcon : Con X.2.1 g yM_pair bM_pair 3 ((some .int)) [] d' 0 0 (.ref (g.1 48) :: []) w (Rp P)) (hdd : d' + 1 ≤ d) (hst : (st.map fun v => v.category).sum ≤ 8) (hret : ∀ (v : Option Value) (w' : Wd), P v w' → Go X g 0 0 Q w' (pc + 3) lp (v.toList ++ st)) : Go X g 0 0 Q w pc lp (.ref (g.1 48) :: st) :=
  kL_97 hc hd hcon hdd hst (Nat.zero_le _) (Nat.zero_le _) (fun v w' h => hret v w' (Rp_l h)) (fun cn w' h => absurd h Rp_r)
theorem kL_97t {d' : Nat} {cn : String} {P : Wd → Prop} {P2 : Rt → Wd → Prop} (hc : Ok X g cc "PairedFieldLaw" ret [] d) (hd : decode cc pc = .ok (.invokevirtual 97, 3)) (hcon : Con X.2.1 g yM_pair bM_pair 3 ((some .int)) [] d' 1 6 (.ref (g.1 48) :: []) w (Tp cn P)) (hdd : d' + 1 ≤ d) (hst : (st.map fun v => v.category).sum ≤ 8) (h1 : 1 ≤ X.2.2.2.1.cells) (h6 : 6 ≤ X.2.2.2.1.slots) (hP : ∀ w' : Wd, P w' → P2 (.inr cn) w') : Go X g 0 0 (Fen X g 1 6 P2) w pc lp (.ref (g.1 48) :: st) :=
  kL_97 hc hd hcon hdd hst (by omega) (by omega) (fun v w' h => absurd h Tp_l) (fun cn2 w' h => by obtain ⟨rfl, h⟩ := h; exact x_out hc (hP w' h))
/-- PairedFieldModel: a call of PairedFieldModel.canPair -/
theorem kM_119 {d' k n : Nat} {P : Rt → Wd → Prop} (hc : Ok X g cc "PairedFieldModel" ret hx d) (hd : decode cc pc = .ok (.invokevirtual 119, 3)) (hcon : Con X.2.1 g yM_canPair bM_canPair 1 ((some .boolean)) [] d' k n (.ref (g.1 48) :: []) w P) (hdd : d' + 1 ≤ d) (hst : (st.map fun v => v.category).sum ≤ 8) (hcells : kc + k ≤ X.2.2.2.1.cells) (hslots : ks + n ≤ X.2.2.2.1.slots)
    (hret : ∀ (v : Option Value) (w' : Wd), P (.inl v) w' → Go X g (kc + k) (ks + n) Q w' (pc + 3) lp (v.toList ++ st)) (hthr : ∀ (cn : String) (w' : Wd), P (.inr cn) w' → GoX X g (kc + k) (ks + n) Q w' pc lp cn) : Go X g kc ks Q w pc lp (.ref (g.1 48) :: st) :=
  r_callv (av := []) (nL' := 1) (q := 48) (ci := 3) (C := R_M) (Tc := T_M) (N := 17) hc hd hcon (t3_mem 195 rfl rfl) (t3_mem 197 rfl rfl) (t0_mem 28 rfl rfl) (t3_mem 198 rfl rfl) (by decide) (by decide +kernel) (show (parseMethodDescriptor yM_canPair.desc).map (fun d => d.parameters.length) = some 0 by decide +kernel) (by decide) (ent_M g (w 48)) rfl hdd (by decide) (fun v hv => by cases hv) (Nat.le_of_ble_eq_true rfl) hst hcells hslots hret hthr
theorem kM_119r {d' : Nat} {P : Option Value → Wd → Prop} (hc : Ok X g cc "PairedFieldModel" ret hx d) (hd : decode cc pc = .ok (.invokevirtual 119, 3)) (hcon : Con X.2.1 g yM_canPair bM_canPair 1 ((some .boolean)) [] d' 0 0 (.ref (g.1 48) :: []) w (Rp P)) (hdd : d' + 1 ≤ d) (hst : (st.map fun v => v.category).sum ≤ 8) (hret : ∀ (v : Option Value) (w' : Wd), P v w' → Go X g 0 0 Q w' (pc + 3) lp (v.toList ++ st)) : Go X g 0 0 Q w pc lp (.ref (g.1 48) :: st) :=
  kM_119 hc hd hcon hdd hst (Nat.zero_le _) (Nat.zero_le _) (fun v w' h => hret v w' (Rp_l h)) (fun cn w' h => absurd h Rp_r)
theorem kM_119t {d' : Nat} {cn : String} {P : Wd → Prop} {P2 : Rt → Wd → Prop} (hc : Ok X g cc "PairedFieldModel" ret [] d) (hd : decode cc pc = .ok (.invokevirtual 119, 3)) (hcon : Con X.2.1 g yM_canPair bM_canPair 1 ((some .boolean)) [] d' 1 6 (.ref (g.1 48) :: []) w (Tp cn P)) (hdd : d' + 1 ≤ d) (hst : (st.map fun v => v.category).sum ≤ 8) (h1 : 1 ≤ X.2.2.2.1.cells) (h6 : 6 ≤ X.2.2.2.1.slots) (hP : ∀ w' : Wd, P w' → P2 (.inr cn) w') : Go X g 0 0 (Fen X g 1 6 P2) w pc lp (.ref (g.1 48) :: st) :=
  kM_119 hc hd hcon hdd hst (by omega) (by omega) (fun v w' h => absurd h Tp_l) (fun cn2 w' h => by obtain ⟨rfl, h⟩ := h; exact x_out hc (hP w' h))
/-- PairedFieldModel: a call of PairedFieldModel.work -/
theorem kM_113 {d' k n : Nat} {P : Rt → Wd → Prop} (hc : Ok X g cc "PairedFieldModel" ret hx d) (hd : decode cc pc = .ok (.invokevirtual 113, 3)) (hcon : Con X.2.1 g yM_work bM_work 6 ((none : Option Jvm.ClassFile.FieldType)) [] d' k n (.ref (g.1 48) :: []) w P) (hdd : d' + 1 ≤ d) (hst : (st.map fun v => v.category).sum ≤ 8) (hcells : kc + k ≤ X.2.2.2.1.cells) (hslots : ks + n ≤ X.2.2.2.1.slots)
    (hret : ∀ (v : Option Value) (w' : Wd), P (.inl v) w' → Go X g (kc + k) (ks + n) Q w' (pc + 3) lp (v.toList ++ st)) (hthr : ∀ (cn : String) (w' : Wd), P (.inr cn) w' → GoX X g (kc + k) (ks + n) Q w' pc lp cn) : Go X g kc ks Q w pc lp (.ref (g.1 48) :: st) :=
  r_callv (av := []) (nL' := 6) (q := 48) (ci := 3) (C := R_M) (Tc := T_M) (N := 17) hc hd hcon (t3_mem 199 rfl rfl) (t3_mem 201 rfl rfl) (t0_mem 29 rfl rfl) (t3_mem 202 rfl rfl) (by decide) (by decide +kernel) (show (parseMethodDescriptor yM_work.desc).map (fun d => d.parameters.length) = some 0 by decide +kernel) (by decide) (ent_M g (w 48)) rfl hdd (by decide) (fun v hv => by cases hv) (Nat.le_of_ble_eq_true rfl) hst hcells hslots hret hthr
theorem kM_113r {d' : Nat} {P : Option Value → Wd → Prop} (hc : Ok X g cc "PairedFieldModel" ret hx d) (hd : decode cc pc = .ok (.invokevirtual 113, 3)) (hcon : Con X.2.1 g yM_work bM_work 6 ((none : Option Jvm.ClassFile.FieldType)) [] d' 0 0 (.ref (g.1 48) :: []) w (Rp P)) (hdd : d' + 1 ≤ d) (hst : (st.map fun v => v.category).sum ≤ 8) (hret : ∀ (v : Option Value) (w' : Wd), P v w' → Go X g 0 0 Q w' (pc + 3) lp (v.toList ++ st)) : Go X g 0 0 Q w pc lp (.ref (g.1 48) :: st) :=
  kM_113 hc hd hcon hdd hst (Nat.zero_le _) (Nat.zero_le _) (fun v w' h => hret v w' (Rp_l h)) (fun cn w' h => absurd h Rp_r)
theorem kM_113t {d' : Nat} {cn : String} {P : Wd → Prop} {P2 : Rt → Wd → Prop} (hc : Ok X g cc "PairedFieldModel" ret [] d) (hd : decode cc pc = .ok (.invokevirtual 113, 3)) (hcon : Con X.2.1 g yM_work bM_work 6 ((none : Option Jvm.ClassFile.FieldType)) [] d' 1 6 (.ref (g.1 48) :: []) w (Tp cn P)) (hdd : d' + 1 ≤ d) (hst : (st.map fun v => v.category).sum ≤ 8) (h1 : 1 ≤ X.2.2.2.1.cells) (h6 : 6 ≤ X.2.2.2.1.slots) (hP : ∀ w' : Wd, P w' → P2 (.inr cn) w') : Go X g 0 0 (Fen X g 1 6 P2) w pc lp (.ref (g.1 48) :: st) :=
  kM_113 hc hd hcon hdd hst (by omega) (by omega) (fun v w' h => absurd h Tp_l) (fun cn2 w' h => by obtain ⟨rfl, h⟩ := h; exact x_out hc (hP w' h))
/-- PairedFieldModel: a call of PairedFieldModel.lineUp -/
theorem kM_110 {d' k n : Nat} {P : Rt → Wd → Prop} (hc : Ok X g cc "PairedFieldModel" ret hx d) (hd : decode cc pc = .ok (.invokevirtual 110, 3)) (hcon : Con X.2.1 g yM_lineUp bM_lineUp 4 ((none : Option Jvm.ClassFile.FieldType)) [] d' k n (.ref (g.1 48) :: []) w P) (hdd : d' + 1 ≤ d) (hst : (st.map fun v => v.category).sum ≤ 8) (hcells : kc + k ≤ X.2.2.2.1.cells) (hslots : ks + n ≤ X.2.2.2.1.slots)
    (hret : ∀ (v : Option Value) (w' : Wd), P (.inl v) w' → Go X g (kc + k) (ks + n) Q w' (pc + 3) lp (v.toList ++ st)) (hthr : ∀ (cn : String) (w' : Wd), P (.inr cn) w' → GoX X g (kc + k) (ks + n) Q w' pc lp cn) : Go X g kc ks Q w pc lp (.ref (g.1 48) :: st) :=
  r_callv (av := []) (nL' := 4) (q := 48) (ci := 3) (C := R_M) (Tc := T_M) (N := 17) hc hd hcon (t3_mem 203 rfl rfl) (t3_mem 205 rfl rfl) (t0_mem 30 rfl rfl) (t3_mem 206 rfl rfl) (by decide) (by decide +kernel) (show (parseMethodDescriptor yM_lineUp.desc).map (fun d => d.parameters.length) = some 0 by decide +kernel) (by decide) (ent_M g (w 48)) rfl hdd (by decide) (fun v hv => by cases hv) (Nat.le_of_ble_eq_true rfl) hst hcells hslots hret hthr
theorem kM_110r {d' : Nat} {P : Option Value → Wd → Prop} (hc : Ok X g cc "PairedFieldModel" ret hx d) (hd : decode cc pc = .ok (.invokevirtual 110, 3)) (hcon : Con X.2.1 g yM_lineUp bM_lineUp 4 ((none : Option Jvm.ClassFile.FieldType)) [] d' 0 0 (.ref (g.1 48) :: []) w (Rp P)) (hdd : d' + 1 ≤ d) (hst : (st.map fun v => v.category).sum ≤ 8) (hret : ∀ (v : Option Value) (w' : Wd), P v w' → Go X g 0 0 Q w' (pc + 3) lp (v.toList ++ st)) : Go X g 0 0 Q w pc lp (.ref (g.1 48) :: st) :=
  kM_110 hc hd hcon hdd hst (Nat.zero_le _) (Nat.zero_le _) (fun v w' h => hret v w' (Rp_l h)) (fun cn w' h => absurd h Rp_r)
theorem kM_110t {d' : Nat} {cn : String} {P : Wd → Prop} {P2 : Rt → Wd → Prop} (hc : Ok X g cc "PairedFieldModel" ret [] d) (hd : decode cc pc = .ok (.invokevirtual 110, 3)) (hcon : Con X.2.1 g yM_lineUp bM_lineUp 4 ((none : Option Jvm.ClassFile.FieldType)) [] d' 1 6 (.ref (g.1 48) :: []) w (Tp cn P)) (hdd : d' + 1 ≤ d) (hst : (st.map fun v => v.category).sum ≤ 8) (h1 : 1 ≤ X.2.2.2.1.cells) (h6 : 6 ≤ X.2.2.2.1.slots) (hP : ∀ w' : Wd, P w' → P2 (.inr cn) w') : Go X g 0 0 (Fen X g 1 6 P2) w pc lp (.ref (g.1 48) :: st) :=
  kM_110 hc hd hcon hdd hst (by omega) (by omega) (fun v w' h => absurd h Tp_l) (fun cn2 w' h => by obtain ⟨rfl, h⟩ := h; exact x_out hc (hP w' h))
/-- PairedFieldModel: a call of PairedFieldModel.inMany -/
theorem kM_90 {d' k n : Nat} {P : Rt → Wd → Prop} (hc : Ok X g cc "PairedFieldModel" ret hx d) (hd : decode cc pc = .ok (.invokevirtual 90, 3)) (hcon : Con X.2.1 g yM_inMany bM_inMany 3 ((some .int)) [] d' k n (.ref (g.1 48) :: []) w P) (hdd : d' + 1 ≤ d) (hst : (st.map fun v => v.category).sum ≤ 8) (hcells : kc + k ≤ X.2.2.2.1.cells) (hslots : ks + n ≤ X.2.2.2.1.slots)
    (hret : ∀ (v : Option Value) (w' : Wd), P (.inl v) w' → Go X g (kc + k) (ks + n) Q w' (pc + 3) lp (v.toList ++ st)) (hthr : ∀ (cn : String) (w' : Wd), P (.inr cn) w' → GoX X g (kc + k) (ks + n) Q w' pc lp cn) : Go X g kc ks Q w pc lp (.ref (g.1 48) :: st) :=
  r_callv (av := []) (nL' := 3) (q := 48) (ci := 3) (C := R_M) (Tc := T_M) (N := 17) hc hd hcon (t3_mem 207 rfl rfl) (t3_mem 209 rfl rfl) (t0_mem 31 rfl rfl) (t3_mem 210 rfl rfl) (by decide) (by decide +kernel) (show (parseMethodDescriptor yM_inMany.desc).map (fun d => d.parameters.length) = some 0 by decide +kernel) (by decide) (ent_M g (w 48)) rfl hdd (by decide) (fun v hv => by cases hv) (Nat.le_of_ble_eq_true rfl) hst hcells hslots hret hthr
theorem kM_90r {d' : Nat} {P : Option Value → Wd → Prop} (hc : Ok X g cc "PairedFieldModel" ret hx d) (hd : decode cc pc = .ok (.invokevirtual 90, 3)) (hcon : Con X.2.1 g yM_inMany bM_inMany 3 ((some .int)) [] d' 0 0 (.ref (g.1 48) :: []) w (Rp P)) (hdd : d' + 1 ≤ d) (hst : (st.map fun v => v.category).sum ≤ 8) (hret : ∀ (v : Option Value) (w' : Wd), P v w' → Go X g 0 0 Q w' (pc + 3) lp (v.toList ++ st)) : Go X g 0 0 Q w pc lp (.ref (g.1 48) :: st) :=
  kM_90 hc hd hcon hdd hst (Nat.zero_le _) (Nat.zero_le _) (fun v w' h => hret v w' (Rp_l h)) (fun cn w' h => absurd h Rp_r)
theorem kM_90t {d' : Nat} {cn : String} {P : Wd → Prop} {P2 : Rt → Wd → Prop} (hc : Ok X g cc "PairedFieldModel" ret [] d) (hd : decode cc pc = .ok (.invokevirtual 90, 3)) (hcon : Con X.2.1 g yM_inMany bM_inMany 3 ((some .int)) [] d' 1 6 (.ref (g.1 48) :: []) w (Tp cn P)) (hdd : d' + 1 ≤ d) (hst : (st.map fun v => v.category).sum ≤ 8) (h1 : 1 ≤ X.2.2.2.1.cells) (h6 : 6 ≤ X.2.2.2.1.slots) (hP : ∀ w' : Wd, P w' → P2 (.inr cn) w') : Go X g 0 0 (Fen X g 1 6 P2) w pc lp (.ref (g.1 48) :: st) :=
  kM_90 hc hd hcon hdd hst (by omega) (by omega) (fun v w' h => absurd h Tp_l) (fun cn2 w' h => by obtain ⟨rfl, h⟩ := h; exact x_out hc (hP w' h))
/-- PairedFieldModel: a call of PairedFieldModel.findBye -/
theorem kM_94 {d' k n : Nat} {P : Rt → Wd → Prop} (hc : Ok X g cc "PairedFieldModel" ret hx d) (hd : decode cc pc = .ok (.invokevirtual 94, 3)) (hcon : Con X.2.1 g yM_findBye bM_findBye 6 ((some .int)) [] d' k n (.ref (g.1 48) :: []) w P) (hdd : d' + 1 ≤ d) (hst : (st.map fun v => v.category).sum ≤ 8) (hcells : kc + k ≤ X.2.2.2.1.cells) (hslots : ks + n ≤ X.2.2.2.1.slots)
    (hret : ∀ (v : Option Value) (w' : Wd), P (.inl v) w' → Go X g (kc + k) (ks + n) Q w' (pc + 3) lp (v.toList ++ st)) (hthr : ∀ (cn : String) (w' : Wd), P (.inr cn) w' → GoX X g (kc + k) (ks + n) Q w' pc lp cn) : Go X g kc ks Q w pc lp (.ref (g.1 48) :: st) :=
  r_callv (av := []) (nL' := 6) (q := 48) (ci := 3) (C := R_M) (Tc := T_M) (N := 17) hc hd hcon (t3_mem 211 rfl rfl) (t3_mem 213 rfl rfl) (t0_mem 32 rfl rfl) (t3_mem 214 rfl rfl) (by decide) (by decide +kernel) (show (parseMethodDescriptor yM_findBye.desc).map (fun d => d.parameters.length) = some 0 by decide +kernel) (by decide) (ent_M g (w 48)) rfl hdd (by decide) (fun v hv => by cases hv) (Nat.le_of_ble_eq_true rfl) hst hcells hslots hret hthr
theorem kM_94r {d' : Nat} {P : Option Value → Wd → Prop} (hc : Ok X g cc "PairedFieldModel" ret hx d) (hd : decode cc pc = .ok (.invokevirtual 94, 3)) (hcon : Con X.2.1 g yM_findBye bM_findBye 6 ((some .int)) [] d' 0 0 (.ref (g.1 48) :: []) w (Rp P)) (hdd : d' + 1 ≤ d) (hst : (st.map fun v => v.category).sum ≤ 8) (hret : ∀ (v : Option Value) (w' : Wd), P v w' → Go X g 0 0 Q w' (pc + 3) lp (v.toList ++ st)) : Go X g 0 0 Q w pc lp (.ref (g.1 48) :: st) :=
  kM_94 hc hd hcon hdd hst (Nat.zero_le _) (Nat.zero_le _) (fun v w' h => hret v w' (Rp_l h)) (fun cn w' h => absurd h Rp_r)
theorem kM_94t {d' : Nat} {cn : String} {P : Wd → Prop} {P2 : Rt → Wd → Prop} (hc : Ok X g cc "PairedFieldModel" ret [] d) (hd : decode cc pc = .ok (.invokevirtual 94, 3)) (hcon : Con X.2.1 g yM_findBye bM_findBye 6 ((some .int)) [] d' 1 6 (.ref (g.1 48) :: []) w (Tp cn P)) (hdd : d' + 1 ≤ d) (hst : (st.map fun v => v.category).sum ≤ 8) (h1 : 1 ≤ X.2.2.2.1.cells) (h6 : 6 ≤ X.2.2.2.1.slots) (hP : ∀ w' : Wd, P w' → P2 (.inr cn) w') : Go X g 0 0 (Fen X g 1 6 P2) w pc lp (.ref (g.1 48) :: st) :=
  kM_94 hc hd hcon hdd hst (by omega) (by omega) (fun v w' h => absurd h Tp_l) (fun cn2 w' h => by obtain ⟨rfl, h⟩ := h; exact x_out hc (hP w' h))
/-- PairedFieldModel: a call of PairedFieldModel.byesOf -/
theorem kM_87 {d' k n : Nat} {P : Rt → Wd → Prop} {a0 : Int32} (hc : Ok X g cc "PairedFieldModel" ret hx d) (hd : decode cc pc = .ok (.invokevirtual 87, 3)) (hcon : Con X.2.1 g yM_byesOf bM_byesOf 4 ((some .int)) [] d' k n (.ref (g.1 48) :: [.int a0]) w P) (hdd : d' + 1 ≤ d) (hst : (st.map fun v => v.category).sum ≤ 8) (hcells : kc + k ≤ X.2.2.2.1.cells) (hslots : ks + n ≤ X.2.2.2.1.slots)
    (hret : ∀ (v : Option Value) (w' : Wd), P (.inl v) w' → Go X g (kc + k) (ks + n) Q w' (pc + 3) lp (v.toList ++ st)) (hthr : ∀ (cn : String) (w' : Wd), P (.inr cn) w' → GoX X g (kc + k) (ks + n) Q w' pc lp cn) : Go X g kc ks Q w pc lp (.int a0 :: .ref (g.1 48) :: st) :=
  r_callv (av := [.int a0]) (nL' := 4) (q := 48) (ci := 3) (C := R_M) (Tc := T_M) (N := 17) hc hd hcon (t3_mem 215 rfl rfl) (t3_mem 217 rfl rfl) (t0_mem 33 rfl rfl) (t3_mem 218 rfl rfl) (by decide) (by decide +kernel) (show (parseMethodDescriptor yM_byesOf.desc).map (fun d => d.parameters.length) = some 1 by decide +kernel) (by decide) (ent_M g (w 48)) rfl hdd (by decide) (fun v hv => by simp only [List.mem_cons, List.not_mem_nil, or_false] at hv; rcases hv with rfl <;> rfl) (Nat.le_of_ble_eq_true rfl) hst hcells hslots hret hthr
theorem kM_87r {d' : Nat} {P : Option Value → Wd → Prop} {a0 : Int32} (hc : Ok X g cc "PairedFieldModel" ret hx d) (hd : decode cc pc = .ok (.invokevirtual 87, 3)) (hcon : Con X.2.1 g yM_byesOf bM_byesOf 4 ((some .int)) [] d' 0 0 (.ref (g.1 48) :: [.int a0]) w (Rp P)) (hdd : d' + 1 ≤ d) (hst : (st.map fun v => v.category).sum ≤ 8) (hret : ∀ (v : Option Value) (w' : Wd), P v w' → Go X g 0 0 Q w' (pc + 3) lp (v.toList ++ st)) : Go X g 0 0 Q w pc lp (.int a0 :: .ref (g.1 48) :: st) :=
  kM_87 hc hd hcon hdd hst (Nat.zero_le _) (Nat.zero_le _) (fun v w' h => hret v w' (Rp_l h)) (fun cn w' h => absurd h Rp_r)
theorem kM_87t {d' : Nat} {cn : String} {P : Wd → Prop} {P2 : Rt → Wd → Prop} {a0 : Int32} (hc : Ok X g cc "PairedFieldModel" ret [] d) (hd : decode cc pc = .ok (.invokevirtual 87, 3)) (hcon : Con X.2.1 g yM_byesOf bM_byesOf 4 ((some .int)) [] d' 1 6 (.ref (g.1 48) :: [.int a0]) w (Tp cn P)) (hdd : d' + 1 ≤ d) (hst : (st.map fun v => v.category).sum ≤ 8) (h1 : 1 ≤ X.2.2.2.1.cells) (h6 : 6 ≤ X.2.2.2.1.slots) (hP : ∀ w' : Wd, P w' → P2 (.inr cn) w') : Go X g 0 0 (Fen X g 1 6 P2) w pc lp (.int a0 :: .ref (g.1 48) :: st) :=
  kM_87 hc hd hcon hdd hst (by omega) (by omega) (fun v w' h => absurd h Tp_l) (fun cn2 w' h => by obtain ⟨rfl, h⟩ := h; exact x_out hc (hP w' h))
/-- PairedFieldModel: a call of PairedFieldModel.scoreOf -/
theorem kM_70 {d' k n : Nat} {P : Rt → Wd → Prop} {a0 : Int32} (hc : Ok X g cc "PairedFieldModel" ret hx d) (hd : decode cc pc = .ok (.invokevirtual 70, 3)) (hcon : Con X.2.1 g yM_scoreOf bM_scoreOf 5 ((some .int)) [] d' k n (.ref (g.1 48) :: [.int a0]) w P) (hdd : d' + 1 ≤ d) (hst : (st.map fun v => v.category).sum ≤ 8) (hcells : kc + k ≤ X.2.2.2.1.cells) (hslots : ks + n ≤ X.2.2.2.1.slots)
    (hret : ∀ (v : Option Value) (w' : Wd), P (.inl v) w' → Go X g (kc + k) (ks + n) Q w' (pc + 3) lp (v.toList ++ st)) (hthr : ∀ (cn : String) (w' : Wd), P (.inr cn) w' → GoX X g (kc + k) (ks + n) Q w' pc lp cn) : Go X g kc ks Q w pc lp (.int a0 :: .ref (g.1 48) :: st) :=
  r_callv (av := [.int a0]) (nL' := 5) (q := 48) (ci := 3) (C := R_M) (Tc := T_M) (N := 17) hc hd hcon (t3_mem 219 rfl rfl) (t3_mem 221 rfl rfl) (t0_mem 34 rfl rfl) (t3_mem 222 rfl rfl) (by decide) (by decide +kernel) (show (parseMethodDescriptor yM_scoreOf.desc).map (fun d => d.parameters.length) = some 1 by decide +kernel) (by decide) (ent_M g (w 48)) rfl hdd (by decide) (fun v hv => by simp only [List.mem_cons, List.not_mem_nil, or_false] at hv; rcases hv with rfl <;> rfl) (Nat.le_of_ble_eq_true rfl) hst hcells hslots hret hthr
theorem kM_70r {d' : Nat} {P : Option Value → Wd → Prop} {a0 : Int32} (hc : Ok X g cc "PairedFieldModel" ret hx d) (hd : decode cc pc = .ok (.invokevirtual 70, 3)) (hcon : Con X.2.1 g yM_scoreOf bM_scoreOf 5 ((some .int)) [] d' 0 0 (.ref (g.1 48) :: [.int a0]) w (Rp P)) (hdd : d' + 1 ≤ d) (hst : (st.map fun v => v.category).sum ≤ 8) (hret : ∀ (v : Option Value) (w' : Wd), P v w' → Go X g 0 0 Q w' (pc + 3) lp (v.toList ++ st)) : Go X g 0 0 Q w pc lp (.int a0 :: .ref (g.1 48) :: st) :=
  kM_70 hc hd hcon hdd hst (Nat.zero_le _) (Nat.zero_le _) (fun v w' h => hret v w' (Rp_l h)) (fun cn w' h => absurd h Rp_r)
theorem kM_70t {d' : Nat} {cn : String} {P : Wd → Prop} {P2 : Rt → Wd → Prop} {a0 : Int32} (hc : Ok X g cc "PairedFieldModel" ret [] d) (hd : decode cc pc = .ok (.invokevirtual 70, 3)) (hcon : Con X.2.1 g yM_scoreOf bM_scoreOf 5 ((some .int)) [] d' 1 6 (.ref (g.1 48) :: [.int a0]) w (Tp cn P)) (hdd : d' + 1 ≤ d) (hst : (st.map fun v => v.category).sum ≤ 8) (h1 : 1 ≤ X.2.2.2.1.cells) (h6 : 6 ≤ X.2.2.2.1.slots) (hP : ∀ w' : Wd, P w' → P2 (.inr cn) w') : Go X g 0 0 (Fen X g 1 6 P2) w pc lp (.int a0 :: .ref (g.1 48) :: st) :=
  kM_70 hc hd hcon hdd hst (by omega) (by omega) (fun v w' h => absurd h Tp_l) (fun cn2 w' h => by obtain ⟨rfl, h⟩ := h; exact x_out hc (hP w' h))
/-- PairedFieldModel: a call of PairedFieldModel.hadEachOther -/
theorem kM_103 {d' k n : Nat} {P : Rt → Wd → Prop} {a0 : Int32} {a1 : Int32} (hc : Ok X g cc "PairedFieldModel" ret hx d) (hd : decode cc pc = .ok (.invokevirtual 103, 3)) (hcon : Con X.2.1 g yM_hadEachOther bM_hadEachOther 5 ((some .boolean)) [] d' k n (.ref (g.1 48) :: [.int a0, .int a1]) w P) (hdd : d' + 1 ≤ d) (hst : (st.map fun v => v.category).sum ≤ 8) (hcells : kc + k ≤ X.2.2.2.1.cells) (hslots : ks + n ≤ X.2.2.2.1.slots)
    (hret : ∀ (v : Option Value) (w' : Wd), P (.inl v) w' → Go X g (kc + k) (ks + n) Q w' (pc + 3) lp (v.toList ++ st)) (hthr : ∀ (cn : String) (w' : Wd), P (.inr cn) w' → GoX X g (kc + k) (ks + n) Q w' pc lp cn) : Go X g kc ks Q w pc lp (.int a1 :: .int a0 :: .ref (g.1 48) :: st) :=
  r_callv (av := [.int a0, .int a1]) (nL' := 5) (q := 48) (ci := 3) (C := R_M) (Tc := T_M) (N := 17) hc hd hcon (t3_mem 223 rfl rfl) (t3_mem 225 rfl rfl) (t0_mem 35 rfl rfl) (t3_mem 226 rfl rfl) (by decide) (by decide +kernel) (show (parseMethodDescriptor yM_hadEachOther.desc).map (fun d => d.parameters.length) = some 2 by decide +kernel) (by decide) (ent_M g (w 48)) rfl hdd (by decide) (fun v hv => by simp only [List.mem_cons, List.not_mem_nil, or_false] at hv; rcases hv with rfl | rfl <;> rfl) (Nat.le_of_ble_eq_true rfl) hst hcells hslots hret hthr
theorem kM_103r {d' : Nat} {P : Option Value → Wd → Prop} {a0 : Int32} {a1 : Int32} (hc : Ok X g cc "PairedFieldModel" ret hx d) (hd : decode cc pc = .ok (.invokevirtual 103, 3)) (hcon : Con X.2.1 g yM_hadEachOther bM_hadEachOther 5 ((some .boolean)) [] d' 0 0 (.ref (g.1 48) :: [.int a0, .int a1]) w (Rp P)) (hdd : d' + 1 ≤ d) (hst : (st.map fun v => v.category).sum ≤ 8) (hret : ∀ (v : Option Value) (w' : Wd), P v w' → Go X g 0 0 Q w' (pc + 3) lp (v.toList ++ st)) : Go X g 0 0 Q w pc lp (.int a1 :: .int a0 :: .ref (g.1 48) :: st) :=
  kM_103 hc hd hcon hdd hst (Nat.zero_le _) (Nat.zero_le _) (fun v w' h => hret v w' (Rp_l h)) (fun cn w' h => absurd h Rp_r)
theorem kM_103t {d' : Nat} {cn : String} {P : Wd → Prop} {P2 : Rt → Wd → Prop} {a0 : Int32} {a1 : Int32} (hc : Ok X g cc "PairedFieldModel" ret [] d) (hd : decode cc pc = .ok (.invokevirtual 103, 3)) (hcon : Con X.2.1 g yM_hadEachOther bM_hadEachOther 5 ((some .boolean)) [] d' 1 6 (.ref (g.1 48) :: [.int a0, .int a1]) w (Tp cn P)) (hdd : d' + 1 ≤ d) (hst : (st.map fun v => v.category).sum ≤ 8) (h1 : 1 ≤ X.2.2.2.1.cells) (h6 : 6 ≤ X.2.2.2.1.slots) (hP : ∀ w' : Wd, P w' → P2 (.inr cn) w') : Go X g 0 0 (Fen X g 1 6 P2) w pc lp (.int a1 :: .int a0 :: .ref (g.1 48) :: st) :=
  kM_103 hc hd hcon hdd hst (by omega) (by omega) (fun v w' h => absurd h Tp_l) (fun cn2 w' h => by obtain ⟨rfl, h⟩ := h; exact x_out hc (hP w' h))
/-- PairedFieldModel: a call of PairedFieldModel.costOf -/
theorem kM_106 {d' k n : Nat} {P : Rt → Wd → Prop} {a0 : Int32} {a1 : Int32} (hc : Ok X g cc "PairedFieldModel" ret hx d) (hd : decode cc pc = .ok (.invokevirtual 106, 3)) (hcon : Con X.2.1 g yM_costOf bM_costOf 5 ((some .int)) [] d' k n (.ref (g.1 48) :: [.int a0, .int a1]) w P) (hdd : d' + 1 ≤ d) (hst : (st.map fun v => v.category).sum ≤ 8) (hcells : kc + k ≤ X.2.2.2.1.cells) (hslots : ks + n ≤ X.2.2.2.1.slots)
    (hret : ∀ (v : Option Value) (w' : Wd), P (.inl v) w' → Go X g (kc + k) (ks + n) Q w' (pc + 3) lp (v.toList ++ st)) (hthr : ∀ (cn : String) (w' : Wd), P (.inr cn) w' → GoX X g (kc + k) (ks + n) Q w' pc lp cn) : Go X g kc ks Q w pc lp (.int a1 :: .int a0 :: .ref (g.1 48) :: st) :=
  r_callv (av := [.int a0, .int a1]) (nL' := 5) (q := 48) (ci := 3) (C := R_M) (Tc := T_M) (N := 17) hc hd hcon (t3_mem 227 rfl rfl) (t3_mem 229 rfl rfl) (t0_mem 36 rfl rfl) (t3_mem 230 rfl rfl) (by decide) (by decide +kernel) (show (parseMethodDescriptor yM_costOf.desc).map (fun d => d.parameters.length) = some 2 by decide +kernel) (by decide) (ent_M g (w 48)) rfl hdd (by decide) (fun v hv => by simp only [List.mem_cons, List.not_mem_nil, or_false] at hv; rcases hv with rfl | rfl <;> rfl) (Nat.le_of_ble_eq_true rfl) hst hcells hslots hret hthr
theorem kM_106r {d' : Nat} {P : Option Value → Wd → Prop} {a0 : Int32} {a1 : Int32} (hc : Ok X g cc "PairedFieldModel" ret hx d) (hd : decode cc pc = .ok (.invokevirtual 106, 3)) (hcon : Con X.2.1 g yM_costOf bM_costOf 5 ((some .int)) [] d' 0 0 (.ref (g.1 48) :: [.int a0, .int a1]) w (Rp P)) (hdd : d' + 1 ≤ d) (hst : (st.map fun v => v.category).sum ≤ 8) (hret : ∀ (v : Option Value) (w' : Wd), P v w' → Go X g 0 0 Q w' (pc + 3) lp (v.toList ++ st)) : Go X g 0 0 Q w pc lp (.int a1 :: .int a0 :: .ref (g.1 48) :: st) :=
  kM_106 hc hd hcon hdd hst (Nat.zero_le _) (Nat.zero_le _) (fun v w' h => hret v w' (Rp_l h)) (fun cn w' h => absurd h Rp_r)
theorem kM_106t {d' : Nat} {cn : String} {P : Wd → Prop} {P2 : Rt → Wd → Prop} {a0 : Int32} {a1 : Int32} (hc : Ok X g cc "PairedFieldModel" ret [] d) (hd : decode cc pc = .ok (.invokevirtual 106, 3)) (hcon : Con X.2.1 g yM_costOf bM_costOf 5 ((some .int)) [] d' 1 6 (.ref (g.1 48) :: [.int a0, .int a1]) w (Tp cn P)) (hdd : d' + 1 ≤ d) (hst : (st.map fun v => v.category).sum ≤ 8) (h1 : 1 ≤ X.2.2.2.1.cells) (h6 : 6 ≤ X.2.2.2.1.slots) (hP : ∀ w' : Wd, P w' → P2 (.inr cn) w') : Go X g 0 0 (Fen X g 1 6 P2) w pc lp (.int a1 :: .int a0 :: .ref (g.1 48) :: st) :=
  kM_106 hc hd hcon hdd hst (by omega) (by omega) (fun v w' h => absurd h Tp_l) (fun cn2 w' h => by obtain ⟨rfl, h⟩ := h; exact x_out hc (hP w' h))
/-- PairedFieldModel: a call of PairedFieldModel.isFirstWhite -/
theorem kM_81 {d' k n : Nat} {P : Rt → Wd → Prop} {a0 : Int32} {a1 : Int32} (hc : Ok X g cc "PairedFieldModel" ret hx d) (hd : decode cc pc = .ok (.invokevirtual 81, 3)) (hcon : Con X.2.1 g yM_isFirstWhite bM_isFirstWhite 7 ((some .boolean)) [] d' k n (.ref (g.1 48) :: [.int a0, .int a1]) w P) (hdd : d' + 1 ≤ d) (hst : (st.map fun v => v.category).sum ≤ 8) (hcells : kc + k ≤ X.2.2.2.1.cells) (hslots : ks + n ≤ X.2.2.2.1.slots)
    (hret : ∀ (v : Option Value) (w' : Wd), P (.inl v) w' → Go X g (kc + k) (ks + n) Q w' (pc + 3) lp (v.toList ++ st)) (hthr : ∀ (cn : String) (w' : Wd), P (.inr cn) w' → GoX X g (kc + k) (ks + n) Q w' pc lp cn) : Go X g kc ks Q w pc lp (.int a1 :: .int a0 :: .ref (g.1 48) :: st) :=
  r_callv (av := [.int a0, .int a1]) (nL' := 7) (q := 48) (ci := 3) (C := R_M) (Tc := T_M) (N := 17) hc hd hcon (t3_mem 231 rfl rfl) (t3_mem 233 rfl rfl) (t0_mem 37 rfl rfl) (t3_mem 234 rfl rfl) (by decide) (by decide +kernel) (show (parseMethodDescriptor yM_isFirstWhite.desc).map (fun d => d.parameters.length) = some 2 by decide +kernel) (by decide) (ent_M g (w 48)) rfl hdd (by decide) (fun v hv => by simp only [List.mem_cons, List.not_mem_nil, or_false] at hv; rcases hv with rfl | rfl <;> rfl) (Nat.le_of_ble_eq_true rfl) hst hcells hslots hret hthr
theorem kM_81r {d' : Nat} {P : Option Value → Wd → Prop} {a0 : Int32} {a1 : Int32} (hc : Ok X g cc "PairedFieldModel" ret hx d) (hd : decode cc pc = .ok (.invokevirtual 81, 3)) (hcon : Con X.2.1 g yM_isFirstWhite bM_isFirstWhite 7 ((some .boolean)) [] d' 0 0 (.ref (g.1 48) :: [.int a0, .int a1]) w (Rp P)) (hdd : d' + 1 ≤ d) (hst : (st.map fun v => v.category).sum ≤ 8) (hret : ∀ (v : Option Value) (w' : Wd), P v w' → Go X g 0 0 Q w' (pc + 3) lp (v.toList ++ st)) : Go X g 0 0 Q w pc lp (.int a1 :: .int a0 :: .ref (g.1 48) :: st) :=
  kM_81 hc hd hcon hdd hst (Nat.zero_le _) (Nat.zero_le _) (fun v w' h => hret v w' (Rp_l h)) (fun cn w' h => absurd h Rp_r)
theorem kM_81t {d' : Nat} {cn : String} {P : Wd → Prop} {P2 : Rt → Wd → Prop} {a0 : Int32} {a1 : Int32} (hc : Ok X g cc "PairedFieldModel" ret [] d) (hd : decode cc pc = .ok (.invokevirtual 81, 3)) (hcon : Con X.2.1 g yM_isFirstWhite bM_isFirstWhite 7 ((some .boolean)) [] d' 1 6 (.ref (g.1 48) :: [.int a0, .int a1]) w (Tp cn P)) (hdd : d' + 1 ≤ d) (hst : (st.map fun v => v.category).sum ≤ 8) (h1 : 1 ≤ X.2.2.2.1.cells) (h6 : 6 ≤ X.2.2.2.1.slots) (hP : ∀ w' : Wd, P w' → P2 (.inr cn) w') : Go X g 0 0 (Fen X g 1 6 P2) w pc lp (.int a1 :: .int a0 :: .ref (g.1 48) :: st) :=
  kM_81 hc hd hcon hdd hst (by omega) (by omega) (fun v w' h => absurd h Tp_l) (fun cn2 w' h => by obtain ⟨rfl, h⟩ := h; exact x_out hc (hP w' h))
/-- PairedFieldModel: a call of PairedFieldModel.balanceOf -/
theorem kM_74 {d' k n : Nat} {P : Rt → Wd → Prop} {a0 : Int32} (hc : Ok X g cc "PairedFieldModel" ret hx d) (hd : decode cc pc = .ok (.invokevirtual 74, 3)) (hcon : Con X.2.1 g yM_balanceOf bM_balanceOf 4 ((some .int)) [] d' k n (.ref (g.1 48) :: [.int a0]) w P) (hdd : d' + 1 ≤ d) (hst : (st.map fun v => v.category).sum ≤ 8) (hcells : kc + k ≤ X.2.2.2.1.cells) (hslots : ks + n ≤ X.2.2.2.1.slots)
    (hret : ∀ (v : Option Value) (w' : Wd), P (.inl v) w' → Go X g (kc + k) (ks + n) Q w' (pc + 3) lp (v.toList ++ st)) (hthr : ∀ (cn : String) (w' : Wd), P (.inr cn) w' → GoX X g (kc + k) (ks + n) Q w' pc lp cn) : Go X g kc ks Q w pc lp (.int a0 :: .ref (g.1 48) :: st) :=
  r_callv (av := [.int a0]) (nL' := 4) (q := 48) (ci := 3) (C := R_M) (Tc := T_M) (N := 17) hc hd hcon (t3_mem 235 rfl rfl) (t3_mem 237 rfl rfl) (t0_mem 38 rfl rfl) (t3_mem 238 rfl rfl) (by decide) (by decide +kernel) (show (parseMethodDescriptor yM_balanceOf.desc).map (fun d => d.parameters.length) = some 1 by decide +kernel) (by decide) (ent_M g (w 48)) rfl hdd (by decide) (fun v hv => by simp only [List.mem_cons, List.not_mem_nil, or_false] at hv; rcases hv with rfl <;> rfl) (Nat.le_of_ble_eq_true rfl) hst hcells hslots hret hthr
theorem kM_74r {d' : Nat} {P : Option Value → Wd → Prop} {a0 : Int32} (hc : Ok X g cc "PairedFieldModel" ret hx d) (hd : decode cc pc = .ok (.invokevirtual 74, 3)) (hcon : Con X.2.1 g yM_balanceOf bM_balanceOf 4 ((some .int)) [] d' 0 0 (.ref (g.1 48) :: [.int a0]) w (Rp P)) (hdd : d' + 1 ≤ d) (hst : (st.map fun v => v.category).sum ≤ 8) (hret : ∀ (v : Option Value) (w' : Wd), P v w' → Go X g 0 0 Q w' (pc + 3) lp (v.toList ++ st)) : Go X g 0 0 Q w pc lp (.int a0 :: .ref (g.1 48) :: st) :=
  kM_74 hc hd hcon hdd hst (Nat.zero_le _) (Nat.zero_le _) (fun v w' h => hret v w' (Rp_l h)) (fun cn w' h => absurd h Rp_r)
theorem kM_74t {d' : Nat} {cn : String} {P : Wd → Prop} {P2 : Rt → Wd → Prop} {a0 : Int32} (hc : Ok X g cc "PairedFieldModel" ret [] d) (hd : decode cc pc = .ok (.invokevirtual 74, 3)) (hcon : Con X.2.1 g yM_balanceOf bM_balanceOf 4 ((some .int)) [] d' 1 6 (.ref (g.1 48) :: [.int a0]) w (Tp cn P)) (hdd : d' + 1 ≤ d) (hst : (st.map fun v => v.category).sum ≤ 8) (h1 : 1 ≤ X.2.2.2.1.cells) (h6 : 6 ≤ X.2.2.2.1.slots) (hP : ∀ w' : Wd, P w' → P2 (.inr cn) w') : Go X g 0 0 (Fen X g 1 6 P2) w pc lp (.int a0 :: .ref (g.1 48) :: st) :=
  kM_74 hc hd hcon hdd hst (by omega) (by omega) (fun v w' h => absurd h Tp_l) (fun cn2 w' h => by obtain ⟨rfl, h⟩ := h; exact x_out hc (hP w' h))
/-- PairedFieldModel: a call of PairedFieldModel.hadGame -/
theorem kM_66 {d' k n : Nat} {P : Rt → Wd → Prop} {a0 : Int32} {a1 : Int32} (hc : Ok X g cc "PairedFieldModel" ret hx d) (hd : decode cc pc = .ok (.invokevirtual 66, 3)) (hcon : Con X.2.1 g yM_hadGame bM_hadGame 4 ((some .boolean)) [] d' k n (.ref (g.1 48) :: [.int a0, .int a1]) w P) (hdd : d' + 1 ≤ d) (hst : (st.map fun v => v.category).sum ≤ 8) (hcells : kc + k ≤ X.2.2.2.1.cells) (hslots : ks + n ≤ X.2.2.2.1.slots)
    (hret : ∀ (v : Option Value) (w' : Wd), P (.inl v) w' → Go X g (kc + k) (ks + n) Q w' (pc + 3) lp (v.toList ++ st)) (hthr : ∀ (cn : String) (w' : Wd), P (.inr cn) w' → GoX X g (kc + k) (ks + n) Q w' pc lp cn) : Go X g kc ks Q w pc lp (.int a1 :: .int a0 :: .ref (g.1 48) :: st) :=
  r_callv (av := [.int a0, .int a1]) (nL' := 4) (q := 48) (ci := 3) (C := R_M) (Tc := T_M) (N := 17) hc hd hcon (t3_mem 239 rfl rfl) (t4_mem 1 rfl rfl) (t0_mem 39 rfl rfl) (t4_mem 2 rfl rfl) (by decide) (by decide +kernel) (show (parseMethodDescriptor yM_hadGame.desc).map (fun d => d.parameters.length) = some 2 by decide +kernel) (by decide) (ent_M g (w 48)) rfl hdd (by decide) (fun v hv => by simp only [List.mem_cons, List.not_mem_nil, or_false] at hv; rcases hv with rfl | rfl <;> rfl) (Nat.le_of_ble_eq_true rfl) hst hcells hslots hret hthr
theorem kM_66r {d' : Nat} {P : Option Value → Wd → Prop} {a0 : Int32} {a1 : Int32} (hc : Ok X g cc "PairedFieldModel" ret hx d) (hd : decode cc pc = .ok (.invokevirtual 66, 3)) (hcon : Con X.2.1 g yM_hadGame bM_hadGame 4 ((some .boolean)) [] d' 0 0 (.ref (g.1 48) :: [.int a0, .int a1]) w (Rp P)) (hdd : d' + 1 ≤ d) (hst : (st.map fun v => v.category).sum ≤ 8) (hret : ∀ (v : Option Value) (w' : Wd), P v w' → Go X g 0 0 Q w' (pc + 3) lp (v.toList ++ st)) : Go X g 0 0 Q w pc lp (.int a1 :: .int a0 :: .ref (g.1 48) :: st) :=
  kM_66 hc hd hcon hdd hst (Nat.zero_le _) (Nat.zero_le _) (fun v w' h => hret v w' (Rp_l h)) (fun cn w' h => absurd h Rp_r)
theorem kM_66t {d' : Nat} {cn : String} {P : Wd → Prop} {P2 : Rt → Wd → Prop} {a0 : Int32} {a1 : Int32} (hc : Ok X g cc "PairedFieldModel" ret [] d) (hd : decode cc pc = .ok (.invokevirtual 66, 3)) (hcon : Con X.2.1 g yM_hadGame bM_hadGame 4 ((some .boolean)) [] d' 1 6 (.ref (g.1 48) :: [.int a0, .int a1]) w (Tp cn P)) (hdd : d' + 1 ≤ d) (hst : (st.map fun v => v.category).sum ≤ 8) (h1 : 1 ≤ X.2.2.2.1.cells) (h6 : 6 ≤ X.2.2.2.1.slots) (hP : ∀ w' : Wd, P w' → P2 (.inr cn) w') : Go X g 0 0 (Fen X g 1 6 P2) w pc lp (.int a1 :: .int a0 :: .ref (g.1 48) :: st) :=
  kM_66 hc hd hcon hdd hst (by omega) (by omega) (fun v w' h => absurd h Tp_l) (fun cn2 w' h => by obtain ⟨rfl, h⟩ := h; exact x_out hc (hP w' h))
/-- PairedFieldModel: a call of PairedFieldModel.colourOf -/
theorem kM_77 {d' k n : Nat} {P : Rt → Wd → Prop} {a0 : Int32} {a1 : Int32} (hc : Ok X g cc "PairedFieldModel" ret hx d) (hd : decode cc pc = .ok (.invokevirtual 77, 3)) (hcon : Con X.2.1 g yM_colourOf bM_colourOf 5 ((some .int)) [] d' k n (.ref (g.1 48) :: [.int a0, .int a1]) w P) (hdd : d' + 1 ≤ d) (hst : (st.map fun v => v.category).sum ≤ 8) (hcells : kc + k ≤ X.2.2.2.1.cells) (hslots : ks + n ≤ X.2.2.2.1.slots)
    (hret : ∀ (v : Option Value) (w' : Wd), P (.inl v) w' → Go X g (kc + k) (ks + n) Q w' (pc + 3) lp (v.toList ++ st)) (hthr : ∀ (cn : String) (w' : Wd), P (.inr cn) w' → GoX X g (kc + k) (ks + n) Q w' pc lp cn) : Go X g kc ks Q w pc lp (.int a1 :: .int a0 :: .ref (g.1 48) :: st) :=
  r_callv (av := [.int a0, .int a1]) (nL' := 5) (q := 48) (ci := 3) (C := R_M) (Tc := T_M) (N := 17) hc hd hcon (t4_mem 3 rfl rfl) (t4_mem 5 rfl rfl) (t0_mem 40 rfl rfl) (t4_mem 6 rfl rfl) (by decide) (by decide +kernel) (show (parseMethodDescriptor yM_colourOf.desc).map (fun d => d.parameters.length) = some 2 by decide +kernel) (by decide) (ent_M g (w 48)) rfl hdd (by decide) (fun v hv => by simp only [List.mem_cons, List.not_mem_nil, or_false] at hv; rcases hv with rfl | rfl <;> rfl) (Nat.le_of_ble_eq_true rfl) hst hcells hslots hret hthr
theorem kM_77r {d' : Nat} {P : Option Value → Wd → Prop} {a0 : Int32} {a1 : Int32} (hc : Ok X g cc "PairedFieldModel" ret hx d) (hd : decode cc pc = .ok (.invokevirtual 77, 3)) (hcon : Con X.2.1 g yM_colourOf bM_colourOf 5 ((some .int)) [] d' 0 0 (.ref (g.1 48) :: [.int a0, .int a1]) w (Rp P)) (hdd : d' + 1 ≤ d) (hst : (st.map fun v => v.category).sum ≤ 8) (hret : ∀ (v : Option Value) (w' : Wd), P v w' → Go X g 0 0 Q w' (pc + 3) lp (v.toList ++ st)) : Go X g 0 0 Q w pc lp (.int a1 :: .int a0 :: .ref (g.1 48) :: st) :=
  kM_77 hc hd hcon hdd hst (Nat.zero_le _) (Nat.zero_le _) (fun v w' h => hret v w' (Rp_l h)) (fun cn w' h => absurd h Rp_r)
theorem kM_77t {d' : Nat} {cn : String} {P : Wd → Prop} {P2 : Rt → Wd → Prop} {a0 : Int32} {a1 : Int32} (hc : Ok X g cc "PairedFieldModel" ret [] d) (hd : decode cc pc = .ok (.invokevirtual 77, 3)) (hcon : Con X.2.1 g yM_colourOf bM_colourOf 5 ((some .int)) [] d' 1 6 (.ref (g.1 48) :: [.int a0, .int a1]) w (Tp cn P)) (hdd : d' + 1 ≤ d) (hst : (st.map fun v => v.category).sum ≤ 8) (h1 : 1 ≤ X.2.2.2.1.cells) (h6 : 6 ≤ X.2.2.2.1.slots) (hP : ∀ w' : Wd, P w' → P2 (.inr cn) w') : Go X g 0 0 (Fen X g 1 6 P2) w pc lp (.int a1 :: .int a0 :: .ref (g.1 48) :: st) :=
  kM_77 hc hd hcon hdd hst (by omega) (by omega) (fun v w' h => absurd h Tp_l) (fun cn2 w' h => by obtain ⟨rfl, h⟩ := h; exact x_out hc (hP w' h))
/-- PairedFieldModel: a call of PairedFieldModel.clashes -/
theorem kM_84 {d' k n : Nat} {P : Rt → Wd → Prop} {a0 : Int32} {a1 : Int32} (hc : Ok X g cc "PairedFieldModel" ret hx d) (hd : decode cc pc = .ok (.invokevirtual 84, 3)) (hcon : Con X.2.1 g yM_clashes bM_clashes 5 ((some .int)) [] d' k n (.ref (g.1 48) :: [.int a0, .int a1]) w P) (hdd : d' + 1 ≤ d) (hst : (st.map fun v => v.category).sum ≤ 8) (hcells : kc + k ≤ X.2.2.2.1.cells) (hslots : ks + n ≤ X.2.2.2.1.slots)
    (hret : ∀ (v : Option Value) (w' : Wd), P (.inl v) w' → Go X g (kc + k) (ks + n) Q w' (pc + 3) lp (v.toList ++ st)) (hthr : ∀ (cn : String) (w' : Wd), P (.inr cn) w' → GoX X g (kc + k) (ks + n) Q w' pc lp cn) : Go X g kc ks Q w pc lp (.int a1 :: .int a0 :: .ref (g.1 48) :: st) :=
  r_callv (av := [.int a0, .int a1]) (nL' := 5) (q := 48) (ci := 3) (C := R_M) (Tc := T_M) (N := 17) hc hd hcon (t4_mem 7 rfl rfl) (t4_mem 9 rfl rfl) (t0_mem 41 rfl rfl) (t4_mem 10 rfl rfl) (by decide) (by decide +kernel) (show (parseMethodDescriptor yM_clashes.desc).map (fun d => d.parameters.length) = some 2 by decide +kernel) (by decide) (ent_M g (w 48)) rfl hdd (by decide) (fun v hv => by simp only [List.mem_cons, List.not_mem_nil, or_false] at hv; rcases hv with rfl | rfl <;> rfl) (Nat.le_of_ble_eq_true rfl) hst hcells hslots hret hthr
theorem kM_84r {d' : Nat} {P : Option Value → Wd → Prop} {a0 : Int32} {a1 : Int32} (hc : Ok X g cc "PairedFieldModel" ret hx d) (hd : decode cc pc = .ok (.invokevirtual 84, 3)) (hcon : Con X.2.1 g yM_clashes bM_clashes 5 ((some .int)) [] d' 0 0 (.ref (g.1 48) :: [.int a0, .int a1]) w (Rp P)) (hdd : d' + 1 ≤ d) (hst : (st.map fun v => v.category).sum ≤ 8) (hret : ∀ (v : Option Value) (w' : Wd), P v w' → Go X g 0 0 Q w' (pc + 3) lp (v.toList ++ st)) : Go X g 0 0 Q w pc lp (.int a1 :: .int a0 :: .ref (g.1 48) :: st) :=
  kM_84 hc hd hcon hdd hst (Nat.zero_le _) (Nat.zero_le _) (fun v w' h => hret v w' (Rp_l h)) (fun cn w' h => absurd h Rp_r)
theorem kM_84t {d' : Nat} {cn : String} {P : Wd → Prop} {P2 : Rt → Wd → Prop} {a0 : Int32} {a1 : Int32} (hc : Ok X g cc "PairedFieldModel" ret [] d) (hd : decode cc pc = .ok (.invokevirtual 84, 3)) (hcon : Con X.2.1 g yM_clashes bM_clashes 5 ((some .int)) [] d' 1 6 (.ref (g.1 48) :: [.int a0, .int a1]) w (Tp cn P)) (hdd : d' + 1 ≤ d) (hst : (st.map fun v => v.category).sum ≤ 8) (h1 : 1 ≤ X.2.2.2.1.cells) (h6 : 6 ≤ X.2.2.2.1.slots) (hP : ∀ w' : Wd, P w' → P2 (.inr cn) w') : Go X g 0 0 (Fen X g 1 6 P2) w pc lp (.int a1 :: .int a0 :: .ref (g.1 48) :: st) :=
  kM_84 hc hd hcon hdd hst (by omega) (by omega) (fun v w' h => absurd h Tp_l) (fun cn2 w' h => by obtain ⟨rfl, h⟩ := h; exact x_out hc (hP w' h))
/-- PairedFieldModel: a call of PairedFieldModel.whole -/
theorem kM_116 {d' k n : Nat} {P : Rt → Wd → Prop} (hc : Ok X g cc "PairedFieldModel" ret hx d) (hd : decode cc pc = .ok (.invokevirtual 116, 3)) (hcon : Con X.2.1 g yM_whole bM_whole 1 ((some .int)) [] d' k n (.ref (g.1 48) :: []) w P) (hdd : d' + 1 ≤ d) (hst : (st.map fun v => v.category).sum ≤ 8) (hcells : kc + k ≤ X.2.2.2.1.cells) (hslots : ks + n ≤ X.2.2.2.1.slots)
    (hret : ∀ (v : Option Value) (w' : Wd), P (.inl v) w' → Go X g (kc + k) (ks + n) Q w' (pc + 3) lp (v.toList ++ st)) (hthr : ∀ (cn : String) (w' : Wd), P (.inr cn) w' → GoX X g (kc + k) (ks + n) Q w' pc lp cn) : Go X g kc ks Q w pc lp (.ref (g.1 48) :: st) :=
  r_callv (av := []) (nL' := 1) (q := 48) (ci := 3) (C := R_M) (Tc := T_M) (N := 17) hc hd hcon (t4_mem 12 rfl rfl) (t4_mem 14 rfl rfl) (t0_mem 42 rfl rfl) (t4_mem 15 rfl rfl) (by decide) (by decide +kernel) (show (parseMethodDescriptor yM_whole.desc).map (fun d => d.parameters.length) = some 0 by decide +kernel) (by decide) (ent_M g (w 48)) rfl hdd (by decide) (fun v hv => by cases hv) (Nat.le_of_ble_eq_true rfl) hst hcells hslots hret hthr
theorem kM_116r {d' : Nat} {P : Option Value → Wd → Prop} (hc : Ok X g cc "PairedFieldModel" ret hx d) (hd : decode cc pc = .ok (.invokevirtual 116, 3)) (hcon : Con X.2.1 g yM_whole bM_whole 1 ((some .int)) [] d' 0 0 (.ref (g.1 48) :: []) w (Rp P)) (hdd : d' + 1 ≤ d) (hst : (st.map fun v => v.category).sum ≤ 8) (hret : ∀ (v : Option Value) (w' : Wd), P v w' → Go X g 0 0 Q w' (pc + 3) lp (v.toList ++ st)) : Go X g 0 0 Q w pc lp (.ref (g.1 48) :: st) :=
  kM_116 hc hd hcon hdd hst (Nat.zero_le _) (Nat.zero_le _) (fun v w' h => hret v w' (Rp_l h)) (fun cn w' h => absurd h Rp_r)
theorem kM_116t {d' : Nat} {cn : String} {P : Wd → Prop} {P2 : Rt → Wd → Prop} (hc : Ok X g cc "PairedFieldModel" ret [] d) (hd : decode cc pc = .ok (.invokevirtual 116, 3)) (hcon : Con X.2.1 g yM_whole bM_whole 1 ((some .int)) [] d' 1 6 (.ref (g.1 48) :: []) w (Tp cn P)) (hdd : d' + 1 ≤ d) (hst : (st.map fun v => v.category).sum ≤ 8) (h1 : 1 ≤ X.2.2.2.1.cells) (h6 : 6 ≤ X.2.2.2.1.slots) (hP : ∀ w' : Wd, P w' → P2 (.inr cn) w') : Go X g 0 0 (Fen X g 1 6 P2) w pc lp (.ref (g.1 48) :: st) :=
  kM_116 hc hd hcon hdd hst (by omega) (by omega) (fun v w' h => absurd h Tp_l) (fun cn2 w' h => by obtain ⟨rfl, h⟩ := h; exact x_out hc (hP w' h))
/-- PairedFieldModel: a call of PairedFieldModel.openRound -/
theorem kM_123 {d' k n : Nat} {P : Rt → Wd → Prop} (hc : Ok X g cc "PairedFieldModel" ret hx d) (hd : decode cc pc = .ok (.invokevirtual 123, 3)) (hcon : Con X.2.1 g yM_openRound bM_openRound 8 ((some .int)) [] d' k n (.ref (g.1 48) :: []) w P) (hdd : d' + 1 ≤ d) (hst : (st.map fun v => v.category).sum ≤ 8) (hcells : kc + k ≤ X.2.2.2.1.cells) (hslots : ks + n ≤ X.2.2.2.1.slots)
    (hret : ∀ (v : Option Value) (w' : Wd), P (.inl v) w' → Go X g (kc + k) (ks + n) Q w' (pc + 3) lp (v.toList ++ st)) (hthr : ∀ (cn : String) (w' : Wd), P (.inr cn) w' → GoX X g (kc + k) (ks + n) Q w' pc lp cn) : Go X g kc ks Q w pc lp (.ref (g.1 48) :: st) :=
  r_callv (av := []) (nL' := 8) (q := 48) (ci := 3) (C := R_M) (Tc := T_M) (N := 17) hc hd hcon (t4_mem 16 rfl rfl) (t4_mem 18 rfl rfl) (t0_mem 43 rfl rfl) (t4_mem 19 rfl rfl) (by decide) (by decide +kernel) (show (parseMethodDescriptor yM_openRound.desc).map (fun d => d.parameters.length) = some 0 by decide +kernel) (by decide) (ent_M g (w 48)) rfl hdd (by decide) (fun v hv => by cases hv) (Nat.le_of_ble_eq_true rfl) hst hcells hslots hret hthr
theorem kM_123r {d' : Nat} {P : Option Value → Wd → Prop} (hc : Ok X g cc "PairedFieldModel" ret hx d) (hd : decode cc pc = .ok (.invokevirtual 123, 3)) (hcon : Con X.2.1 g yM_openRound bM_openRound 8 ((some .int)) [] d' 0 0 (.ref (g.1 48) :: []) w (Rp P)) (hdd : d' + 1 ≤ d) (hst : (st.map fun v => v.category).sum ≤ 8) (hret : ∀ (v : Option Value) (w' : Wd), P v w' → Go X g 0 0 Q w' (pc + 3) lp (v.toList ++ st)) : Go X g 0 0 Q w pc lp (.ref (g.1 48) :: st) :=
  kM_123 hc hd hcon hdd hst (Nat.zero_le _) (Nat.zero_le _) (fun v w' h => hret v w' (Rp_l h)) (fun cn w' h => absurd h Rp_r)
theorem kM_123t {d' : Nat} {cn : String} {P : Wd → Prop} {P2 : Rt → Wd → Prop} (hc : Ok X g cc "PairedFieldModel" ret [] d) (hd : decode cc pc = .ok (.invokevirtual 123, 3)) (hcon : Con X.2.1 g yM_openRound bM_openRound 8 ((some .int)) [] d' 1 6 (.ref (g.1 48) :: []) w (Tp cn P)) (hdd : d' + 1 ≤ d) (hst : (st.map fun v => v.category).sum ≤ 8) (h1 : 1 ≤ X.2.2.2.1.cells) (h6 : 6 ≤ X.2.2.2.1.slots) (hP : ∀ w' : Wd, P w' → P2 (.inr cn) w') : Go X g 0 0 (Fen X g 1 6 P2) w pc lp (.ref (g.1 48) :: st) :=
  kM_123 hc hd hcon hdd hst (by omega) (by omega) (fun v w' h => absurd h Tp_l) (fun cn2 w' h => by obtain ⟨rfl, h⟩ := h; exact x_out hc (hP w' h))
/-- PairedFieldLaw: a call of PairedFieldModel.cost -/
theorem kL_100 {d' k n : Nat} {P : Rt → Wd → Prop} (hc : Ok X g cc "PairedFieldLaw" ret hx d) (hd : decode cc pc = .ok (.invokevirtual 100, 3)) (hcon : Con X.2.1 g yM_cost bM_cost 2 ((some .int)) [] d' k n (.ref (g.1 48) :: []) w P) (hdd : d' + 1 ≤ d) (hst : (st.map fun v => v.category).sum ≤ 8) (hcells : kc + k ≤ X.2.2.2.1.cells) (hslots : ks + n ≤ X.2.2.2.1.slots)
    (hret : ∀ (v : Option Value) (w' : Wd), P (.inl v) w' → Go X g (kc + k) (ks + n) Q w' (pc + 3) lp (v.toList ++ st)) (hthr : ∀ (cn : String) (w' : Wd), P (.inr cn) w' → GoX X g (kc + k) (ks + n) Q w' pc lp cn) : Go X g kc ks Q w pc lp (.ref (g.1 48) :: st) :=
  r_callv (av := []) (nL' := 2) (q := 48) (ci := 3) (C := R_M) (Tc := T_M) (N := 17) hc hd hcon (t4_mem 20 rfl rfl) (t4_mem 21 rfl rfl) (t4_mem 22 rfl rfl) (t4_mem 23 rfl rfl) (by decide) (by decide +kernel) (show (parseMethodDescriptor yM_cost.desc).map (fun d => d.parameters.length) = some 0 by decide +kernel) (by decide) (ent_M g (w 48)) rfl hdd (by decide) (fun v hv => by cases hv) (Nat.le_of_ble_eq_true rfl) hst hcells hslots hret hthr
theorem kL_100r {d' : Nat} {P : Option Value → Wd → Prop} (hc : Ok X g cc "PairedFieldLaw" ret hx d) (hd : decode cc pc = .ok (.invokevirtual 100, 3)) (hcon : Con X.2.1 g yM_cost bM_cost 2 ((some .int)) [] d' 0 0 (.ref (g.1 48) :: []) w (Rp P)) (hdd : d' + 1 ≤ d) (hst : (st.map fun v => v.category).sum ≤ 8) (hret : ∀ (v : Option Value) (w' : Wd), P v w' → Go X g 0 0 Q w' (pc + 3) lp (v.toList ++ st)) : Go X g 0 0 Q w pc lp (.ref (g.1 48) :: st) :=
  kL_100 hc hd hcon hdd hst (Nat.zero_le _) (Nat.zero_le _) (fun v w' h => hret v w' (Rp_l h)) (fun cn w' h => absurd h Rp_r)
theorem kL_100t {d' : Nat} {cn : String} {P : Wd → Prop} {P2 : Rt → Wd → Prop} (hc : Ok X g cc "PairedFieldLaw" ret [] d) (hd : decode cc pc = .ok (.invokevirtual 100, 3)) (hcon : Con X.2.1 g yM_cost bM_cost 2 ((some .int)) [] d' 1 6 (.ref (g.1 48) :: []) w (Tp cn P)) (hdd : d' + 1 ≤ d) (hst : (st.map fun v => v.category).sum ≤ 8) (h1 : 1 ≤ X.2.2.2.1.cells) (h6 : 6 ≤ X.2.2.2.1.slots) (hP : ∀ w' : Wd, P w' → P2 (.inr cn) w') : Go X g 0 0 (Fen X g 1 6 P2) w pc lp (.ref (g.1 48) :: st) :=
  kL_100 hc hd hcon hdd hst (by omega) (by omega) (fun v w' h => absurd h Tp_l) (fun cn2 w' h => by obtain ⟨rfl, h⟩ := h; exact x_out hc (hP w' h))
/-- PairedFieldLaw: a call of PairedFieldModel.ways -/
theorem kL_104 {d' k n : Nat} {P : Rt → Wd → Prop} (hc : Ok X g cc "PairedFieldLaw" ret hx d) (hd : decode cc pc = .ok (.invokevirtual 104, 3)) (hcon : Con X.2.1 g yM_ways bM_ways 1 ((some .int)) [] d' k n (.ref (g.1 48) :: []) w P) (hdd : d' + 1 ≤ d) (hst : (st.map fun v => v.category).sum ≤ 8) (hcells : kc + k ≤ X.2.2.2.1.cells) (hslots : ks + n ≤ X.2.2.2.1.slots)
    (hret : ∀ (v : Option Value) (w' : Wd), P (.inl v) w' → Go X g (kc + k) (ks + n) Q w' (pc + 3) lp (v.toList ++ st)) (hthr : ∀ (cn : String) (w' : Wd), P (.inr cn) w' → GoX X g (kc + k) (ks + n) Q w' pc lp cn) : Go X g kc ks Q w pc lp (.ref (g.1 48) :: st) :=
  r_callv (av := []) (nL' := 1) (q := 48) (ci := 3) (C := R_M) (Tc := T_M) (N := 17) hc hd hcon (t4_mem 24 rfl rfl) (t4_mem 25 rfl rfl) (t4_mem 26 rfl rfl) (t4_mem 27 rfl rfl) (by decide) (by decide +kernel) (show (parseMethodDescriptor yM_ways.desc).map (fun d => d.parameters.length) = some 0 by decide +kernel) (by decide) (ent_M g (w 48)) rfl hdd (by decide) (fun v hv => by cases hv) (Nat.le_of_ble_eq_true rfl) hst hcells hslots hret hthr
theorem kL_104r {d' : Nat} {P : Option Value → Wd → Prop} (hc : Ok X g cc "PairedFieldLaw" ret hx d) (hd : decode cc pc = .ok (.invokevirtual 104, 3)) (hcon : Con X.2.1 g yM_ways bM_ways 1 ((some .int)) [] d' 0 0 (.ref (g.1 48) :: []) w (Rp P)) (hdd : d' + 1 ≤ d) (hst : (st.map fun v => v.category).sum ≤ 8) (hret : ∀ (v : Option Value) (w' : Wd), P v w' → Go X g 0 0 Q w' (pc + 3) lp (v.toList ++ st)) : Go X g 0 0 Q w pc lp (.ref (g.1 48) :: st) :=
  kL_104 hc hd hcon hdd hst (Nat.zero_le _) (Nat.zero_le _) (fun v w' h => hret v w' (Rp_l h)) (fun cn w' h => absurd h Rp_r)
theorem kL_104t {d' : Nat} {cn : String} {P : Wd → Prop} {P2 : Rt → Wd → Prop} (hc : Ok X g cc "PairedFieldLaw" ret [] d) (hd : decode cc pc = .ok (.invokevirtual 104, 3)) (hcon : Con X.2.1 g yM_ways bM_ways 1 ((some .int)) [] d' 1 6 (.ref (g.1 48) :: []) w (Tp cn P)) (hdd : d' + 1 ≤ d) (hst : (st.map fun v => v.category).sum ≤ 8) (h1 : 1 ≤ X.2.2.2.1.cells) (h6 : 6 ≤ X.2.2.2.1.slots) (hP : ∀ w' : Wd, P w' → P2 (.inr cn) w') : Go X g 0 0 (Fen X g 1 6 P2) w pc lp (.ref (g.1 48) :: st) :=
  kL_104 hc hd hcon hdd hst (by omega) (by omega) (fun v w' h => absurd h Tp_l) (fun cn2 w' h => by obtain ⟨rfl, h⟩ := h; exact x_out hc (hP w' h))
/-- PairedFieldLaw: a call of PairedFieldModel.opponent -/
theorem kL_108 {d' k n : Nat} {P : Rt → Wd → Prop} {a0 : Int32} (hc : Ok X g cc "PairedFieldLaw" ret hx d) (hd : decode cc pc = .ok (.invokevirtual 108, 3)) (hcon : Con X.2.1 g yM_opponent bM_opponent 2 ((some .int)) [] d' k n (.ref (g.1 48) :: [.int a0]) w P) (hdd : d' + 1 ≤ d) (hst : (st.map fun v => v.category).sum ≤ 8) (hcells : kc + k ≤ X.2.2.2.1.cells) (hslots : ks + n ≤ X.2.2.2.1.slots)
    (hret : ∀ (v : Option Value) (w' : Wd), P (.inl v) w' → Go X g (kc + k) (ks + n) Q w' (pc + 3) lp (v.toList ++ st)) (hthr : ∀ (cn : String) (w' : Wd), P (.inr cn) w' → GoX X g (kc + k) (ks + n) Q w' pc lp cn) : Go X g kc ks Q w pc lp (.int a0 :: .ref (g.1 48) :: st) :=
  r_callv (av := [.int a0]) (nL' := 2) (q := 48) (ci := 3) (C := R_M) (Tc := T_M) (N := 17) hc hd hcon (t4_mem 28 rfl rfl) (t4_mem 29 rfl rfl) (t4_mem 30 rfl rfl) (t4_mem 31 rfl rfl) (by decide) (by decide +kernel) (show (parseMethodDescriptor yM_opponent.desc).map (fun d => d.parameters.length) = some 1 by decide +kernel) (by decide) (ent_M g (w 48)) rfl hdd (by decide) (fun v hv => by simp only [List.mem_cons, List.not_mem_nil, or_false] at hv; rcases hv with rfl <;> rfl) (Nat.le_of_ble_eq_true rfl) hst hcells hslots hret hthr
theorem kL_108r {d' : Nat} {P : Option Value → Wd → Prop} {a0 : Int32} (hc : Ok X g cc "PairedFieldLaw" ret hx d) (hd : decode cc pc = .ok (.invokevirtual 108, 3)) (hcon : Con X.2.1 g yM_opponent bM_opponent 2 ((some .int)) [] d' 0 0 (.ref (g.1 48) :: [.int a0]) w (Rp P)) (hdd : d' + 1 ≤ d) (hst : (st.map fun v => v.category).sum ≤ 8) (hret : ∀ (v : Option Value) (w' : Wd), P v w' → Go X g 0 0 Q w' (pc + 3) lp (v.toList ++ st)) : Go X g 0 0 Q w pc lp (.int a0 :: .ref (g.1 48) :: st) :=
  kL_108 hc hd hcon hdd hst (Nat.zero_le _) (Nat.zero_le _) (fun v w' h => hret v w' (Rp_l h)) (fun cn w' h => absurd h Rp_r)
theorem kL_108t {d' : Nat} {cn : String} {P : Wd → Prop} {P2 : Rt → Wd → Prop} {a0 : Int32} (hc : Ok X g cc "PairedFieldLaw" ret [] d) (hd : decode cc pc = .ok (.invokevirtual 108, 3)) (hcon : Con X.2.1 g yM_opponent bM_opponent 2 ((some .int)) [] d' 1 6 (.ref (g.1 48) :: [.int a0]) w (Tp cn P)) (hdd : d' + 1 ≤ d) (hst : (st.map fun v => v.category).sum ≤ 8) (h1 : 1 ≤ X.2.2.2.1.cells) (h6 : 6 ≤ X.2.2.2.1.slots) (hP : ∀ w' : Wd, P w' → P2 (.inr cn) w') : Go X g 0 0 (Fen X g 1 6 P2) w pc lp (.int a0 :: .ref (g.1 48) :: st) :=
  kL_108 hc hd hcon hdd hst (by omega) (by omega) (fun v w' h => absurd h Tp_l) (fun cn2 w' h => by obtain ⟨rfl, h⟩ := h; exact x_out hc (hP w' h))
/-- PairedFieldLaw: a call of PairedFieldModel.isWhite -/
theorem kL_111 {d' k n : Nat} {P : Rt → Wd → Prop} {a0 : Int32} (hc : Ok X g cc "PairedFieldLaw" ret hx d) (hd : decode cc pc = .ok (.invokevirtual 111, 3)) (hcon : Con X.2.1 g yM_isWhite bM_isWhite 2 ((some .boolean)) [] d' k n (.ref (g.1 48) :: [.int a0]) w P) (hdd : d' + 1 ≤ d) (hst : (st.map fun v => v.category).sum ≤ 8) (hcells : kc + k ≤ X.2.2.2.1.cells) (hslots : ks + n ≤ X.2.2.2.1.slots)
    (hret : ∀ (v : Option Value) (w' : Wd), P (.inl v) w' → Go X g (kc + k) (ks + n) Q w' (pc + 3) lp (v.toList ++ st)) (hthr : ∀ (cn : String) (w' : Wd), P (.inr cn) w' → GoX X g (kc + k) (ks + n) Q w' pc lp cn) : Go X g kc ks Q w pc lp (.int a0 :: .ref (g.1 48) :: st) :=
  r_callv (av := [.int a0]) (nL' := 2) (q := 48) (ci := 3) (C := R_M) (Tc := T_M) (N := 17) hc hd hcon (t4_mem 32 rfl rfl) (t4_mem 33 rfl rfl) (t4_mem 34 rfl rfl) (t4_mem 35 rfl rfl) (by decide) (by decide +kernel) (show (parseMethodDescriptor yM_isWhite.desc).map (fun d => d.parameters.length) = some 1 by decide +kernel) (by decide) (ent_M g (w 48)) rfl hdd (by decide) (fun v hv => by simp only [List.mem_cons, List.not_mem_nil, or_false] at hv; rcases hv with rfl <;> rfl) (Nat.le_of_ble_eq_true rfl) hst hcells hslots hret hthr
theorem kL_111r {d' : Nat} {P : Option Value → Wd → Prop} {a0 : Int32} (hc : Ok X g cc "PairedFieldLaw" ret hx d) (hd : decode cc pc = .ok (.invokevirtual 111, 3)) (hcon : Con X.2.1 g yM_isWhite bM_isWhite 2 ((some .boolean)) [] d' 0 0 (.ref (g.1 48) :: [.int a0]) w (Rp P)) (hdd : d' + 1 ≤ d) (hst : (st.map fun v => v.category).sum ≤ 8) (hret : ∀ (v : Option Value) (w' : Wd), P v w' → Go X g 0 0 Q w' (pc + 3) lp (v.toList ++ st)) : Go X g 0 0 Q w pc lp (.int a0 :: .ref (g.1 48) :: st) :=
  kL_111 hc hd hcon hdd hst (Nat.zero_le _) (Nat.zero_le _) (fun v w' h => hret v w' (Rp_l h)) (fun cn w' h => absurd h Rp_r)
theorem kL_111t {d' : Nat} {cn : String} {P : Wd → Prop} {P2 : Rt → Wd → Prop} {a0 : Int32} (hc : Ok X g cc "PairedFieldLaw" ret [] d) (hd : decode cc pc = .ok (.invokevirtual 111, 3)) (hcon : Con X.2.1 g yM_isWhite bM_isWhite 2 ((some .boolean)) [] d' 1 6 (.ref (g.1 48) :: [.int a0]) w (Tp cn P)) (hdd : d' + 1 ≤ d) (hst : (st.map fun v => v.category).sum ≤ 8) (h1 : 1 ≤ X.2.2.2.1.cells) (h6 : 6 ≤ X.2.2.2.1.slots) (hP : ∀ w' : Wd, P w' → P2 (.inr cn) w') : Go X g 0 0 (Fen X g 1 6 P2) w pc lp (.int a0 :: .ref (g.1 48) :: st) :=
  kL_111 hc hd hcon hdd hst (by omega) (by omega) (fun v w' h => absurd h Tp_l) (fun cn2 w' h => by obtain ⟨rfl, h⟩ := h; exact x_out hc (hP w' h))
/-- PairedFieldLaw: a call of PairedFieldModel.report -/
theorem kL_115 {d' k n : Nat} {P : Rt → Wd → Prop} {a0 : Int32} {a1 : Int32} (hc : Ok X g cc "PairedFieldLaw" ret hx d) (hd : decode cc pc = .ok (.invokevirtual 115, 3)) (hcon : Con X.2.1 g yM_report bM_report 4 ((none : Option Jvm.ClassFile.FieldType)) [] d' k n (.ref (g.1 48) :: [.int a0, .int a1]) w P) (hdd : d' + 1 ≤ d) (hst : (st.map fun v => v.category).sum ≤ 8) (hcells : kc + k ≤ X.2.2.2.1.cells) (hslots : ks + n ≤ X.2.2.2.1.slots)
    (hret : ∀ (v : Option Value) (w' : Wd), P (.inl v) w' → Go X g (kc + k) (ks + n) Q w' (pc + 3) lp (v.toList ++ st)) (hthr : ∀ (cn : String) (w' : Wd), P (.inr cn) w' → GoX X g (kc + k) (ks + n) Q w' pc lp cn) : Go X g kc ks Q w pc lp (.int a1 :: .int a0 :: .ref (g.1 48) :: st) :=
  r_callv (av := [.int a0, .int a1]) (nL' := 4) (q := 48) (ci := 3) (C := R_M) (Tc := T_M) (N := 17) hc hd hcon (t4_mem 36 rfl rfl) (t4_mem 37 rfl rfl) (t4_mem 38 rfl rfl) (t4_mem 39 rfl rfl) (by decide) (by decide +kernel) (show (parseMethodDescriptor yM_report.desc).map (fun d => d.parameters.length) = some 2 by decide +kernel) (by decide) (ent_M g (w 48)) rfl hdd (by decide) (fun v hv => by simp only [List.mem_cons, List.not_mem_nil, or_false] at hv; rcases hv with rfl | rfl <;> rfl) (Nat.le_of_ble_eq_true rfl) hst hcells hslots hret hthr
theorem kL_115r {d' : Nat} {P : Option Value → Wd → Prop} {a0 : Int32} {a1 : Int32} (hc : Ok X g cc "PairedFieldLaw" ret hx d) (hd : decode cc pc = .ok (.invokevirtual 115, 3)) (hcon : Con X.2.1 g yM_report bM_report 4 ((none : Option Jvm.ClassFile.FieldType)) [] d' 0 0 (.ref (g.1 48) :: [.int a0, .int a1]) w (Rp P)) (hdd : d' + 1 ≤ d) (hst : (st.map fun v => v.category).sum ≤ 8) (hret : ∀ (v : Option Value) (w' : Wd), P v w' → Go X g 0 0 Q w' (pc + 3) lp (v.toList ++ st)) : Go X g 0 0 Q w pc lp (.int a1 :: .int a0 :: .ref (g.1 48) :: st) :=
  kL_115 hc hd hcon hdd hst (Nat.zero_le _) (Nat.zero_le _) (fun v w' h => hret v w' (Rp_l h)) (fun cn w' h => absurd h Rp_r)
theorem kL_115t {d' : Nat} {cn : String} {P : Wd → Prop} {P2 : Rt → Wd → Prop} {a0 : Int32} {a1 : Int32} (hc : Ok X g cc "PairedFieldLaw" ret [] d) (hd : decode cc pc = .ok (.invokevirtual 115, 3)) (hcon : Con X.2.1 g yM_report bM_report 4 ((none : Option Jvm.ClassFile.FieldType)) [] d' 1 6 (.ref (g.1 48) :: [.int a0, .int a1]) w (Tp cn P)) (hdd : d' + 1 ≤ d) (hst : (st.map fun v => v.category).sum ≤ 8) (h1 : 1 ≤ X.2.2.2.1.cells) (h6 : 6 ≤ X.2.2.2.1.slots) (hP : ∀ w' : Wd, P w' → P2 (.inr cn) w') : Go X g 0 0 (Fen X g 1 6 P2) w pc lp (.int a1 :: .int a0 :: .ref (g.1 48) :: st) :=
  kL_115 hc hd hcon hdd hst (by omega) (by omega) (fun v w' h => absurd h Tp_l) (fun cn2 w' h => by obtain ⟨rfl, h⟩ := h; exact x_out hc (hP w' h))
/-- PairedFieldLaw: a call of PairedFieldModel.missing -/
theorem kL_118 {d' k n : Nat} {P : Rt → Wd → Prop} (hc : Ok X g cc "PairedFieldLaw" ret hx d) (hd : decode cc pc = .ok (.invokevirtual 118, 3)) (hcon : Con X.2.1 g yM_missing bM_missing 1 ((some .int)) [] d' k n (.ref (g.1 48) :: []) w P) (hdd : d' + 1 ≤ d) (hst : (st.map fun v => v.category).sum ≤ 8) (hcells : kc + k ≤ X.2.2.2.1.cells) (hslots : ks + n ≤ X.2.2.2.1.slots)
    (hret : ∀ (v : Option Value) (w' : Wd), P (.inl v) w' → Go X g (kc + k) (ks + n) Q w' (pc + 3) lp (v.toList ++ st)) (hthr : ∀ (cn : String) (w' : Wd), P (.inr cn) w' → GoX X g (kc + k) (ks + n) Q w' pc lp cn) : Go X g kc ks Q w pc lp (.ref (g.1 48) :: st) :=
  r_callv (av := []) (nL' := 1) (q := 48) (ci := 3) (C := R_M) (Tc := T_M) (N := 17) hc hd hcon (t4_mem 40 rfl rfl) (t4_mem 41 rfl rfl) (t4_mem 42 rfl rfl) (t4_mem 43 rfl rfl) (by decide) (by decide +kernel) (show (parseMethodDescriptor yM_missing.desc).map (fun d => d.parameters.length) = some 0 by decide +kernel) (by decide) (ent_M g (w 48)) rfl hdd (by decide) (fun v hv => by cases hv) (Nat.le_of_ble_eq_true rfl) hst hcells hslots hret hthr
theorem kL_118r {d' : Nat} {P : Option Value → Wd → Prop} (hc : Ok X g cc "PairedFieldLaw" ret hx d) (hd : decode cc pc = .ok (.invokevirtual 118, 3)) (hcon : Con X.2.1 g yM_missing bM_missing 1 ((some .int)) [] d' 0 0 (.ref (g.1 48) :: []) w (Rp P)) (hdd : d' + 1 ≤ d) (hst : (st.map fun v => v.category).sum ≤ 8) (hret : ∀ (v : Option Value) (w' : Wd), P v w' → Go X g 0 0 Q w' (pc + 3) lp (v.toList ++ st)) : Go X g 0 0 Q w pc lp (.ref (g.1 48) :: st) :=
  kL_118 hc hd hcon hdd hst (Nat.zero_le _) (Nat.zero_le _) (fun v w' h => hret v w' (Rp_l h)) (fun cn w' h => absurd h Rp_r)
theorem kL_118t {d' : Nat} {cn : String} {P : Wd → Prop} {P2 : Rt → Wd → Prop} (hc : Ok X g cc "PairedFieldLaw" ret [] d) (hd : decode cc pc = .ok (.invokevirtual 118, 3)) (hcon : Con X.2.1 g yM_missing bM_missing 1 ((some .int)) [] d' 1 6 (.ref (g.1 48) :: []) w (Tp cn P)) (hdd : d' + 1 ≤ d) (hst : (st.map fun v => v.category).sum ≤ 8) (h1 : 1 ≤ X.2.2.2.1.cells) (h6 : 6 ≤ X.2.2.2.1.slots) (hP : ∀ w' : Wd, P w' → P2 (.inr cn) w') : Go X g 0 0 (Fen X g 1 6 P2) w pc lp (.ref (g.1 48) :: st) :=
  kL_118 hc hd hcon hdd hst (by omega) (by omega) (fun v w' h => absurd h Tp_l) (fun cn2 w' h => by obtain ⟨rfl, h⟩ := h; exact x_out hc (hP w' h))
/-- PairedFieldModel: a call of PairedFieldModel.untold -/
theorem kM_126 {d' k n : Nat} {P : Rt → Wd → Prop} (hc : Ok X g cc "PairedFieldModel" ret hx d) (hd : decode cc pc = .ok (.invokevirtual 126, 3)) (hcon : Con X.2.1 g yM_untold bM_untold 3 ((some .int)) [] d' k n (.ref (g.1 48) :: []) w P) (hdd : d' + 1 ≤ d) (hst : (st.map fun v => v.category).sum ≤ 8) (hcells : kc + k ≤ X.2.2.2.1.cells) (hslots : ks + n ≤ X.2.2.2.1.slots)
    (hret : ∀ (v : Option Value) (w' : Wd), P (.inl v) w' → Go X g (kc + k) (ks + n) Q w' (pc + 3) lp (v.toList ++ st)) (hthr : ∀ (cn : String) (w' : Wd), P (.inr cn) w' → GoX X g (kc + k) (ks + n) Q w' pc lp cn) : Go X g kc ks Q w pc lp (.ref (g.1 48) :: st) :=
  r_callv (av := []) (nL' := 3) (q := 48) (ci := 3) (C := R_M) (Tc := T_M) (N := 17) hc hd hcon (t4_mem 44 rfl rfl) (t4_mem 46 rfl rfl) (t0_mem 44 rfl rfl) (t4_mem 47 rfl rfl) (by decide) (by decide +kernel) (show (parseMethodDescriptor yM_untold.desc).map (fun d => d.parameters.length) = some 0 by decide +kernel) (by decide) (ent_M g (w 48)) rfl hdd (by decide) (fun v hv => by cases hv) (Nat.le_of_ble_eq_true rfl) hst hcells hslots hret hthr
theorem kM_126r {d' : Nat} {P : Option Value → Wd → Prop} (hc : Ok X g cc "PairedFieldModel" ret hx d) (hd : decode cc pc = .ok (.invokevirtual 126, 3)) (hcon : Con X.2.1 g yM_untold bM_untold 3 ((some .int)) [] d' 0 0 (.ref (g.1 48) :: []) w (Rp P)) (hdd : d' + 1 ≤ d) (hst : (st.map fun v => v.category).sum ≤ 8) (hret : ∀ (v : Option Value) (w' : Wd), P v w' → Go X g 0 0 Q w' (pc + 3) lp (v.toList ++ st)) : Go X g 0 0 Q w pc lp (.ref (g.1 48) :: st) :=
  kM_126 hc hd hcon hdd hst (Nat.zero_le _) (Nat.zero_le _) (fun v w' h => hret v w' (Rp_l h)) (fun cn w' h => absurd h Rp_r)
theorem kM_126t {d' : Nat} {cn : String} {P : Wd → Prop} {P2 : Rt → Wd → Prop} (hc : Ok X g cc "PairedFieldModel" ret [] d) (hd : decode cc pc = .ok (.invokevirtual 126, 3)) (hcon : Con X.2.1 g yM_untold bM_untold 3 ((some .int)) [] d' 1 6 (.ref (g.1 48) :: []) w (Tp cn P)) (hdd : d' + 1 ≤ d) (hst : (st.map fun v => v.category).sum ≤ 8) (h1 : 1 ≤ X.2.2.2.1.cells) (h6 : 6 ≤ X.2.2.2.1.slots) (hP : ∀ w' : Wd, P w' → P2 (.inr cn) w') : Go X g 0 0 (Fen X g 1 6 P2) w pc lp (.ref (g.1 48) :: st) :=
  kM_126 hc hd hcon hdd hst (by omega) (by omega) (fun v w' h => absurd h Tp_l) (fun cn2 w' h => by obtain ⟨rfl, h⟩ := h; exact x_out hc (hP w' h))
/-- PairedFieldLaw: a call of PairedFieldModel.close -/
theorem kL_121 {d' k n : Nat} {P : Rt → Wd → Prop} (hc : Ok X g cc "PairedFieldLaw" ret hx d) (hd : decode cc pc = .ok (.invokevirtual 121, 3)) (hcon : Con X.2.1 g yM_close bM_close 1 ((some .int)) [] d' k n (.ref (g.1 48) :: []) w P) (hdd : d' + 1 ≤ d) (hst : (st.map fun v => v.category).sum ≤ 8) (hcells : kc + k ≤ X.2.2.2.1.cells) (hslots : ks + n ≤ X.2.2.2.1.slots)
    (hret : ∀ (v : Option Value) (w' : Wd), P (.inl v) w' → Go X g (kc + k) (ks + n) Q w' (pc + 3) lp (v.toList ++ st)) (hthr : ∀ (cn : String) (w' : Wd), P (.inr cn) w' → GoX X g (kc + k) (ks + n) Q w' pc lp cn) : Go X g kc ks Q w pc lp (.ref (g.1 48) :: st) :=
  r_callv (av := []) (nL' := 1) (q := 48) (ci := 3) (C := R_M) (Tc := T_M) (N := 17) hc hd hcon (t4_mem 48 rfl rfl) (t4_mem 49 rfl rfl) (t4_mem 50 rfl rfl) (t4_mem 51 rfl rfl) (by decide) (by decide +kernel) (show (parseMethodDescriptor yM_close.desc).map (fun d => d.parameters.length) = some 0 by decide +kernel) (by decide) (ent_M g (w 48)) rfl hdd (by decide) (fun v hv => by cases hv) (Nat.le_of_ble_eq_true rfl) hst hcells hslots hret hthr
theorem kL_121r {d' : Nat} {P : Option Value → Wd → Prop} (hc : Ok X g cc "PairedFieldLaw" ret hx d) (hd : decode cc pc = .ok (.invokevirtual 121, 3)) (hcon : Con X.2.1 g yM_close bM_close 1 ((some .int)) [] d' 0 0 (.ref (g.1 48) :: []) w (Rp P)) (hdd : d' + 1 ≤ d) (hst : (st.map fun v => v.category).sum ≤ 8) (hret : ∀ (v : Option Value) (w' : Wd), P v w' → Go X g 0 0 Q w' (pc + 3) lp (v.toList ++ st)) : Go X g 0 0 Q w pc lp (.ref (g.1 48) :: st) :=
  kL_121 hc hd hcon hdd hst (Nat.zero_le _) (Nat.zero_le _) (fun v w' h => hret v w' (Rp_l h)) (fun cn w' h => absurd h Rp_r)
theorem kL_121t {d' : Nat} {cn : String} {P : Wd → Prop} {P2 : Rt → Wd → Prop} (hc : Ok X g cc "PairedFieldLaw" ret [] d) (hd : decode cc pc = .ok (.invokevirtual 121, 3)) (hcon : Con X.2.1 g yM_close bM_close 1 ((some .int)) [] d' 1 6 (.ref (g.1 48) :: []) w (Tp cn P)) (hdd : d' + 1 ≤ d) (hst : (st.map fun v => v.category).sum ≤ 8) (h1 : 1 ≤ X.2.2.2.1.cells) (h6 : 6 ≤ X.2.2.2.1.slots) (hP : ∀ w' : Wd, P w' → P2 (.inr cn) w') : Go X g 0 0 (Fen X g 1 6 P2) w pc lp (.ref (g.1 48) :: st) :=
  kL_121 hc hd hcon hdd hst (by omega) (by omega) (fun v w' h => absurd h Tp_l) (fun cn2 w' h => by obtain ⟨rfl, h⟩ := h; exact x_out hc (hP w' h))
/-- PairedFieldLaw: a call of PairedFieldModel.back -/
theorem kL_124 {d' k n : Nat} {P : Rt → Wd → Prop} (hc : Ok X g cc "PairedFieldLaw" ret hx d) (hd : decode cc pc = .ok (.invokevirtual 124, 3)) (hcon : Con X.2.1 g yM_back bM_back 1 ((some .int)) [] d' k n (.ref (g.1 48) :: []) w P) (hdd : d' + 1 ≤ d) (hst : (st.map fun v => v.category).sum ≤ 8) (hcells : kc + k ≤ X.2.2.2.1.cells) (hslots : ks + n ≤ X.2.2.2.1.slots)
    (hret : ∀ (v : Option Value) (w' : Wd), P (.inl v) w' → Go X g (kc + k) (ks + n) Q w' (pc + 3) lp (v.toList ++ st)) (hthr : ∀ (cn : String) (w' : Wd), P (.inr cn) w' → GoX X g (kc + k) (ks + n) Q w' pc lp cn) : Go X g kc ks Q w pc lp (.ref (g.1 48) :: st) :=
  r_callv (av := []) (nL' := 1) (q := 48) (ci := 3) (C := R_M) (Tc := T_M) (N := 17) hc hd hcon (t4_mem 52 rfl rfl) (t4_mem 53 rfl rfl) (t4_mem 54 rfl rfl) (t4_mem 55 rfl rfl) (by decide) (by decide +kernel) (show (parseMethodDescriptor yM_back.desc).map (fun d => d.parameters.length) = some 0 by decide +kernel) (by decide) (ent_M g (w 48)) rfl hdd (by decide) (fun v hv => by cases hv) (Nat.le_of_ble_eq_true rfl) hst hcells hslots hret hthr
theorem kL_124r {d' : Nat} {P : Option Value → Wd → Prop} (hc : Ok X g cc "PairedFieldLaw" ret hx d) (hd : decode cc pc = .ok (.invokevirtual 124, 3)) (hcon : Con X.2.1 g yM_back bM_back 1 ((some .int)) [] d' 0 0 (.ref (g.1 48) :: []) w (Rp P)) (hdd : d' + 1 ≤ d) (hst : (st.map fun v => v.category).sum ≤ 8) (hret : ∀ (v : Option Value) (w' : Wd), P v w' → Go X g 0 0 Q w' (pc + 3) lp (v.toList ++ st)) : Go X g 0 0 Q w pc lp (.ref (g.1 48) :: st) :=
  kL_124 hc hd hcon hdd hst (Nat.zero_le _) (Nat.zero_le _) (fun v w' h => hret v w' (Rp_l h)) (fun cn w' h => absurd h Rp_r)
theorem kL_124t {d' : Nat} {cn : String} {P : Wd → Prop} {P2 : Rt → Wd → Prop} (hc : Ok X g cc "PairedFieldLaw" ret [] d) (hd : decode cc pc = .ok (.invokevirtual 124, 3)) (hcon : Con X.2.1 g yM_back bM_back 1 ((some .int)) [] d' 1 6 (.ref (g.1 48) :: []) w (Tp cn P)) (hdd : d' + 1 ≤ d) (hst : (st.map fun v => v.category).sum ≤ 8) (h1 : 1 ≤ X.2.2.2.1.cells) (h6 : 6 ≤ X.2.2.2.1.slots) (hP : ∀ w' : Wd, P w' → P2 (.inr cn) w') : Go X g 0 0 (Fen X g 1 6 P2) w pc lp (.ref (g.1 48) :: st) :=
  kL_124 hc hd hcon hdd hst (by omega) (by omega) (fun v w' h => absurd h Tp_l) (fun cn2 w' h => by obtain ⟨rfl, h⟩ := h; exact x_out hc (hP w' h))
/-- PairedFieldLaw: a call of PairedFieldModel.play -/
theorem kL_127 {d' k n : Nat} {P : Rt → Wd → Prop} {a0 : Int32} (hc : Ok X g cc "PairedFieldLaw" ret hx d) (hd : decode cc pc = .ok (.invokevirtual 127, 3)) (hcon : Con X.2.1 g yM_play bM_play 7 ((some .int)) [] d' k n (.ref (g.1 48) :: [.int a0]) w P) (hdd : d' + 1 ≤ d) (hst : (st.map fun v => v.category).sum ≤ 8) (hcells : kc + k ≤ X.2.2.2.1.cells) (hslots : ks + n ≤ X.2.2.2.1.slots)
    (hret : ∀ (v : Option Value) (w' : Wd), P (.inl v) w' → Go X g (kc + k) (ks + n) Q w' (pc + 3) lp (v.toList ++ st)) (hthr : ∀ (cn : String) (w' : Wd), P (.inr cn) w' → GoX X g (kc + k) (ks + n) Q w' pc lp cn) : Go X g kc ks Q w pc lp (.int a0 :: .ref (g.1 48) :: st) :=
  r_callv (av := [.int a0]) (nL' := 7) (q := 48) (ci := 3) (C := R_M) (Tc := T_M) (N := 17) hc hd hcon (t4_mem 56 rfl rfl) (t4_mem 57 rfl rfl) (t4_mem 58 rfl rfl) (t4_mem 59 rfl rfl) (by decide) (by decide +kernel) (show (parseMethodDescriptor yM_play.desc).map (fun d => d.parameters.length) = some 1 by decide +kernel) (by decide) (ent_M g (w 48)) rfl hdd (by decide) (fun v hv => by simp only [List.mem_cons, List.not_mem_nil, or_false] at hv; rcases hv with rfl <;> rfl) (Nat.le_of_ble_eq_true rfl) hst hcells hslots hret hthr
theorem kL_127r {d' : Nat} {P : Option Value → Wd → Prop} {a0 : Int32} (hc : Ok X g cc "PairedFieldLaw" ret hx d) (hd : decode cc pc = .ok (.invokevirtual 127, 3)) (hcon : Con X.2.1 g yM_play bM_play 7 ((some .int)) [] d' 0 0 (.ref (g.1 48) :: [.int a0]) w (Rp P)) (hdd : d' + 1 ≤ d) (hst : (st.map fun v => v.category).sum ≤ 8) (hret : ∀ (v : Option Value) (w' : Wd), P v w' → Go X g 0 0 Q w' (pc + 3) lp (v.toList ++ st)) : Go X g 0 0 Q w pc lp (.int a0 :: .ref (g.1 48) :: st) :=
  kL_127 hc hd hcon hdd hst (Nat.zero_le _) (Nat.zero_le _) (fun v w' h => hret v w' (Rp_l h)) (fun cn w' h => absurd h Rp_r)
theorem kL_127t {d' : Nat} {cn : String} {P : Wd → Prop} {P2 : Rt → Wd → Prop} {a0 : Int32} (hc : Ok X g cc "PairedFieldLaw" ret [] d) (hd : decode cc pc = .ok (.invokevirtual 127, 3)) (hcon : Con X.2.1 g yM_play bM_play 7 ((some .int)) [] d' 1 6 (.ref (g.1 48) :: [.int a0]) w (Tp cn P)) (hdd : d' + 1 ≤ d) (hst : (st.map fun v => v.category).sum ≤ 8) (h1 : 1 ≤ X.2.2.2.1.cells) (h6 : 6 ≤ X.2.2.2.1.slots) (hP : ∀ w' : Wd, P w' → P2 (.inr cn) w') : Go X g 0 0 (Fen X g 1 6 P2) w pc lp (.int a0 :: .ref (g.1 48) :: st) :=
  kL_127 hc hd hcon hdd hst (by omega) (by omega) (fun v w' h => absurd h Tp_l) (fun cn2 w' h => by obtain ⟨rfl, h⟩ := h; exact x_out hc (hP w' h))
/-- PairedFieldLaw: a call of PairedFieldModel.players -/
theorem kL_131 {d' k n : Nat} {P : Rt → Wd → Prop} (hc : Ok X g cc "PairedFieldLaw" ret hx d) (hd : decode cc pc = .ok (.invokevirtual 131, 3)) (hcon : Con X.2.1 g yM_players bM_players 1 ((some .int)) [] d' k n (.ref (g.1 48) :: []) w P) (hdd : d' + 1 ≤ d) (hst : (st.map fun v => v.category).sum ≤ 8) (hcells : kc + k ≤ X.2.2.2.1.cells) (hslots : ks + n ≤ X.2.2.2.1.slots)
    (hret : ∀ (v : Option Value) (w' : Wd), P (.inl v) w' → Go X g (kc + k) (ks + n) Q w' (pc + 3) lp (v.toList ++ st)) (hthr : ∀ (cn : String) (w' : Wd), P (.inr cn) w' → GoX X g (kc + k) (ks + n) Q w' pc lp cn) : Go X g kc ks Q w pc lp (.ref (g.1 48) :: st) :=
  r_callv (av := []) (nL' := 1) (q := 48) (ci := 3) (C := R_M) (Tc := T_M) (N := 17) hc hd hcon (t4_mem 60 rfl rfl) (t4_mem 61 rfl rfl) (t4_mem 62 rfl rfl) (t4_mem 63 rfl rfl) (by decide) (by decide +kernel) (show (parseMethodDescriptor yM_players.desc).map (fun d => d.parameters.length) = some 0 by decide +kernel) (by decide) (ent_M g (w 48)) rfl hdd (by decide) (fun v hv => by cases hv) (Nat.le_of_ble_eq_true rfl) hst hcells hslots hret hthr
theorem kL_131r {d' : Nat} {P : Option Value → Wd → Prop} (hc : Ok X g cc "PairedFieldLaw" ret hx d) (hd : decode cc pc = .ok (.invokevirtual 131, 3)) (hcon : Con X.2.1 g yM_players bM_players 1 ((some .int)) [] d' 0 0 (.ref (g.1 48) :: []) w (Rp P)) (hdd : d' + 1 ≤ d) (hst : (st.map fun v => v.category).sum ≤ 8) (hret : ∀ (v : Option Value) (w' : Wd), P v w' → Go X g 0 0 Q w' (pc + 3) lp (v.toList ++ st)) : Go X g 0 0 Q w pc lp (.ref (g.1 48) :: st) :=
  kL_131 hc hd hcon hdd hst (Nat.zero_le _) (Nat.zero_le _) (fun v w' h => hret v w' (Rp_l h)) (fun cn w' h => absurd h Rp_r)
theorem kL_131t {d' : Nat} {cn : String} {P : Wd → Prop} {P2 : Rt → Wd → Prop} (hc : Ok X g cc "PairedFieldLaw" ret [] d) (hd : decode cc pc = .ok (.invokevirtual 131, 3)) (hcon : Con X.2.1 g yM_players bM_players 1 ((some .int)) [] d' 1 6 (.ref (g.1 48) :: []) w (Tp cn P)) (hdd : d' + 1 ≤ d) (hst : (st.map fun v => v.category).sum ≤ 8) (h1 : 1 ≤ X.2.2.2.1.cells) (h6 : 6 ≤ X.2.2.2.1.slots) (hP : ∀ w' : Wd, P w' → P2 (.inr cn) w') : Go X g 0 0 (Fen X g 1 6 P2) w pc lp (.ref (g.1 48) :: st) :=
  kL_131 hc hd hcon hdd hst (by omega) (by omega) (fun v w' h => absurd h Tp_l) (fun cn2 w' h => by obtain ⟨rfl, h⟩ := h; exact x_out hc (hP w' h))
/-- PairedFieldLaw: a call of PairedFieldModel.rounds -/
theorem kL_135 {d' k n : Nat} {P : Rt → Wd → Prop} (hc : Ok X g cc "PairedFieldLaw" ret hx d) (hd : decode cc pc = .ok (.invokevirtual 135, 3)) (hcon : Con X.2.1 g yM_rounds bM_rounds 1 ((some .int)) [] d' k n (.ref (g.1 48) :: []) w P) (hdd : d' + 1 ≤ d) (hst : (st.map fun v => v.category).sum ≤ 8) (hcells : kc + k ≤ X.2.2.2.1.cells) (hslots : ks + n ≤ X.2.2.2.1.slots)
    (hret : ∀ (v : Option Value) (w' : Wd), P (.inl v) w' → Go X g (kc + k) (ks + n) Q w' (pc + 3) lp (v.toList ++ st)) (hthr : ∀ (cn : String) (w' : Wd), P (.inr cn) w' → GoX X g (kc + k) (ks + n) Q w' pc lp cn) : Go X g kc ks Q w pc lp (.ref (g.1 48) :: st) :=
  r_callv (av := []) (nL' := 1) (q := 48) (ci := 3) (C := R_M) (Tc := T_M) (N := 17) hc hd hcon (t4_mem 64 rfl rfl) (t4_mem 65 rfl rfl) (t4_mem 66 rfl rfl) (t4_mem 67 rfl rfl) (by decide) (by decide +kernel) (show (parseMethodDescriptor yM_rounds.desc).map (fun d => d.parameters.length) = some 0 by decide +kernel) (by decide) (ent_M g (w 48)) rfl hdd (by decide) (fun v hv => by cases hv) (Nat.le_of_ble_eq_true rfl) hst hcells hslots hret hthr
theorem kL_135r {d' : Nat} {P : Option Value → Wd → Prop} (hc : Ok X g cc "PairedFieldLaw" ret hx d) (hd : decode cc pc = .ok (.invokevirtual 135, 3)) (hcon : Con X.2.1 g yM_rounds bM_rounds 1 ((some .int)) [] d' 0 0 (.ref (g.1 48) :: []) w (Rp P)) (hdd : d' + 1 ≤ d) (hst : (st.map fun v => v.category).sum ≤ 8) (hret : ∀ (v : Option Value) (w' : Wd), P v w' → Go X g 0 0 Q w' (pc + 3) lp (v.toList ++ st)) : Go X g 0 0 Q w pc lp (.ref (g.1 48) :: st) :=
  kL_135 hc hd hcon hdd hst (Nat.zero_le _) (Nat.zero_le _) (fun v w' h => hret v w' (Rp_l h)) (fun cn w' h => absurd h Rp_r)
theorem kL_135t {d' : Nat} {cn : String} {P : Wd → Prop} {P2 : Rt → Wd → Prop} (hc : Ok X g cc "PairedFieldLaw" ret [] d) (hd : decode cc pc = .ok (.invokevirtual 135, 3)) (hcon : Con X.2.1 g yM_rounds bM_rounds 1 ((some .int)) [] d' 1 6 (.ref (g.1 48) :: []) w (Tp cn P)) (hdd : d' + 1 ≤ d) (hst : (st.map fun v => v.category).sum ≤ 8) (h1 : 1 ≤ X.2.2.2.1.cells) (h6 : 6 ≤ X.2.2.2.1.slots) (hP : ∀ w' : Wd, P w' → P2 (.inr cn) w') : Go X g 0 0 (Fen X g 1 6 P2) w pc lp (.ref (g.1 48) :: st) :=
  kL_135 hc hd hcon hdd hst (by omega) (by omega) (fun v w' h => absurd h Tp_l) (fun cn2 w' h => by obtain ⟨rfl, h⟩ := h; exact x_out hc (hP w' h))
/-- PairedFieldLaw: a call of PairedFieldModel.isIn -/
theorem kL_139 {d' k n : Nat} {P : Rt → Wd → Prop} {a0 : Int32} (hc : Ok X g cc "PairedFieldLaw" ret hx d) (hd : decode cc pc = .ok (.invokevirtual 139, 3)) (hcon : Con X.2.1 g yM_isIn bM_isIn 2 ((some .boolean)) [] d' k n (.ref (g.1 48) :: [.int a0]) w P) (hdd : d' + 1 ≤ d) (hst : (st.map fun v => v.category).sum ≤ 8) (hcells : kc + k ≤ X.2.2.2.1.cells) (hslots : ks + n ≤ X.2.2.2.1.slots)
    (hret : ∀ (v : Option Value) (w' : Wd), P (.inl v) w' → Go X g (kc + k) (ks + n) Q w' (pc + 3) lp (v.toList ++ st)) (hthr : ∀ (cn : String) (w' : Wd), P (.inr cn) w' → GoX X g (kc + k) (ks + n) Q w' pc lp cn) : Go X g kc ks Q w pc lp (.int a0 :: .ref (g.1 48) :: st) :=
  r_callv (av := [.int a0]) (nL' := 2) (q := 48) (ci := 3) (C := R_M) (Tc := T_M) (N := 17) hc hd hcon (t4_mem 68 rfl rfl) (t4_mem 69 rfl rfl) (t4_mem 70 rfl rfl) (t4_mem 71 rfl rfl) (by decide) (by decide +kernel) (show (parseMethodDescriptor yM_isIn.desc).map (fun d => d.parameters.length) = some 1 by decide +kernel) (by decide) (ent_M g (w 48)) rfl hdd (by decide) (fun v hv => by simp only [List.mem_cons, List.not_mem_nil, or_false] at hv; rcases hv with rfl <;> rfl) (Nat.le_of_ble_eq_true rfl) hst hcells hslots hret hthr
theorem kL_139r {d' : Nat} {P : Option Value → Wd → Prop} {a0 : Int32} (hc : Ok X g cc "PairedFieldLaw" ret hx d) (hd : decode cc pc = .ok (.invokevirtual 139, 3)) (hcon : Con X.2.1 g yM_isIn bM_isIn 2 ((some .boolean)) [] d' 0 0 (.ref (g.1 48) :: [.int a0]) w (Rp P)) (hdd : d' + 1 ≤ d) (hst : (st.map fun v => v.category).sum ≤ 8) (hret : ∀ (v : Option Value) (w' : Wd), P v w' → Go X g 0 0 Q w' (pc + 3) lp (v.toList ++ st)) : Go X g 0 0 Q w pc lp (.int a0 :: .ref (g.1 48) :: st) :=
  kL_139 hc hd hcon hdd hst (Nat.zero_le _) (Nat.zero_le _) (fun v w' h => hret v w' (Rp_l h)) (fun cn w' h => absurd h Rp_r)
theorem kL_139t {d' : Nat} {cn : String} {P : Wd → Prop} {P2 : Rt → Wd → Prop} {a0 : Int32} (hc : Ok X g cc "PairedFieldLaw" ret [] d) (hd : decode cc pc = .ok (.invokevirtual 139, 3)) (hcon : Con X.2.1 g yM_isIn bM_isIn 2 ((some .boolean)) [] d' 1 6 (.ref (g.1 48) :: [.int a0]) w (Tp cn P)) (hdd : d' + 1 ≤ d) (hst : (st.map fun v => v.category).sum ≤ 8) (h1 : 1 ≤ X.2.2.2.1.cells) (h6 : 6 ≤ X.2.2.2.1.slots) (hP : ∀ w' : Wd, P w' → P2 (.inr cn) w') : Go X g 0 0 (Fen X g 1 6 P2) w pc lp (.int a0 :: .ref (g.1 48) :: st) :=
  kL_139 hc hd hcon hdd hst (by omega) (by omega) (fun v w' h => absurd h Tp_l) (fun cn2 w' h => by obtain ⟨rfl, h⟩ := h; exact x_out hc (hP w' h))
/-- PairedFieldLaw: a call of PairedFieldModel.tell -/
theorem kL_143 {d' k n : Nat} {P : Rt → Wd → Prop} {a0 : Int32} {a1 : Int32} (hc : Ok X g cc "PairedFieldLaw" ret hx d) (hd : decode cc pc = .ok (.invokevirtual 143, 3)) (hcon : Con X.2.1 g yM_tell bM_tell 3 ((some .int)) [] d' k n (.ref (g.1 48) :: [.int a0, .int a1]) w P) (hdd : d' + 1 ≤ d) (hst : (st.map fun v => v.category).sum ≤ 8) (hcells : kc + k ≤ X.2.2.2.1.cells) (hslots : ks + n ≤ X.2.2.2.1.slots)
    (hret : ∀ (v : Option Value) (w' : Wd), P (.inl v) w' → Go X g (kc + k) (ks + n) Q w' (pc + 3) lp (v.toList ++ st)) (hthr : ∀ (cn : String) (w' : Wd), P (.inr cn) w' → GoX X g (kc + k) (ks + n) Q w' pc lp cn) : Go X g kc ks Q w pc lp (.int a1 :: .int a0 :: .ref (g.1 48) :: st) :=
  r_callv (av := [.int a0, .int a1]) (nL' := 3) (q := 48) (ci := 3) (C := R_M) (Tc := T_M) (N := 17) hc hd hcon (t4_mem 72 rfl rfl) (t4_mem 73 rfl rfl) (t4_mem 74 rfl rfl) (t4_mem 75 rfl rfl) (by decide) (by decide +kernel) (show (parseMethodDescriptor yM_tell.desc).map (fun d => d.parameters.length) = some 2 by decide +kernel) (by decide) (ent_M g (w 48)) rfl hdd (by decide) (fun v hv => by simp only [List.mem_cons, List.not_mem_nil, or_false] at hv; rcases hv with rfl | rfl <;> rfl) (Nat.le_of_ble_eq_true rfl) hst hcells hslots hret hthr
theorem kL_143r {d' : Nat} {P : Option Value → Wd → Prop} {a0 : Int32} {a1 : Int32} (hc : Ok X g cc "PairedFieldLaw" ret hx d) (hd : decode cc pc = .ok (.invokevirtual 143, 3)) (hcon : Con X.2.1 g yM_tell bM_tell 3 ((some .int)) [] d' 0 0 (.ref (g.1 48) :: [.int a0, .int a1]) w (Rp P)) (hdd : d' + 1 ≤ d) (hst : (st.map fun v => v.category).sum ≤ 8) (hret : ∀ (v : Option Value) (w' : Wd), P v w' → Go X g 0 0 Q w' (pc + 3) lp (v.toList ++ st)) : Go X g 0 0 Q w pc lp (.int a1 :: .int a0 :: .ref (g.1 48) :: st) :=
  kL_143 hc hd hcon hdd hst (Nat.zero_le _) (Nat.zero_le _) (fun v w' h => hret v w' (Rp_l h)) (fun cn w' h => absurd h Rp_r)
theorem kL_143t {d' : Nat} {cn : String} {P : Wd → Prop} {P2 : Rt → Wd → Prop} {a0 : Int32} {a1 : Int32} (hc : Ok X g cc "PairedFieldLaw" ret [] d) (hd : decode cc pc = .ok (.invokevirtual 143, 3)) (hcon : Con X.2.1 g yM_tell bM_tell 3 ((some .int)) [] d' 1 6 (.ref (g.1 48) :: [.int a0, .int a1]) w (Tp cn P)) (hdd : d' + 1 ≤ d) (hst : (st.map fun v => v.category).sum ≤ 8) (h1 : 1 ≤ X.2.2.2.1.cells) (h6 : 6 ≤ X.2.2.2.1.slots) (hP : ∀ w' : Wd, P w' → P2 (.inr cn) w') : Go X g 0 0 (Fen X g 1 6 P2) w pc lp (.int a1 :: .int a0 :: .ref (g.1 48) :: st) :=
  kL_143 hc hd hcon hdd hst (by omega) (by omega) (fun v w' h => absurd h Tp_l) (fun cn2 w' h => by obtain ⟨rfl, h⟩ := h; exact x_out hc (hP w' h))
/-- PairedFieldModel: a call of PairedFieldModel.buchholzOf -/
theorem kM_129 {d' k n : Nat} {P : Rt → Wd → Prop} {a0 : Int32} (hc : Ok X g cc "PairedFieldModel" ret hx d) (hd : decode cc pc = .ok (.invokevirtual 129, 3)) (hcon : Con X.2.1 g yM_buchholzOf bM_buchholzOf 4 ((some .int)) [] d' k n (.ref (g.1 48) :: [.int a0]) w P) (hdd : d' + 1 ≤ d) (hst : (st.map fun v => v.category).sum ≤ 8) (hcells : kc + k ≤ X.2.2.2.1.cells) (hslots : ks + n ≤ X.2.2.2.1.slots)
    (hret : ∀ (v : Option Value) (w' : Wd), P (.inl v) w' → Go X g (kc + k) (ks + n) Q w' (pc + 3) lp (v.toList ++ st)) (hthr : ∀ (cn : String) (w' : Wd), P (.inr cn) w' → GoX X g (kc + k) (ks + n) Q w' pc lp cn) : Go X g kc ks Q w pc lp (.int a0 :: .ref (g.1 48) :: st) :=
  r_callv (av := [.int a0]) (nL' := 4) (q := 48) (ci := 3) (C := R_M) (Tc := T_M) (N := 17) hc hd hcon (t4_mem 76 rfl rfl) (t4_mem 78 rfl rfl) (t0_mem 45 rfl rfl) (t4_mem 79 rfl rfl) (by decide) (by decide +kernel) (show (parseMethodDescriptor yM_buchholzOf.desc).map (fun d => d.parameters.length) = some 1 by decide +kernel) (by decide) (ent_M g (w 48)) rfl hdd (by decide) (fun v hv => by simp only [List.mem_cons, List.not_mem_nil, or_false] at hv; rcases hv with rfl <;> rfl) (Nat.le_of_ble_eq_true rfl) hst hcells hslots hret hthr
theorem kM_129r {d' : Nat} {P : Option Value → Wd → Prop} {a0 : Int32} (hc : Ok X g cc "PairedFieldModel" ret hx d) (hd : decode cc pc = .ok (.invokevirtual 129, 3)) (hcon : Con X.2.1 g yM_buchholzOf bM_buchholzOf 4 ((some .int)) [] d' 0 0 (.ref (g.1 48) :: [.int a0]) w (Rp P)) (hdd : d' + 1 ≤ d) (hst : (st.map fun v => v.category).sum ≤ 8) (hret : ∀ (v : Option Value) (w' : Wd), P v w' → Go X g 0 0 Q w' (pc + 3) lp (v.toList ++ st)) : Go X g 0 0 Q w pc lp (.int a0 :: .ref (g.1 48) :: st) :=
  kM_129 hc hd hcon hdd hst (Nat.zero_le _) (Nat.zero_le _) (fun v w' h => hret v w' (Rp_l h)) (fun cn w' h => absurd h Rp_r)
theorem kM_129t {d' : Nat} {cn : String} {P : Wd → Prop} {P2 : Rt → Wd → Prop} {a0 : Int32} (hc : Ok X g cc "PairedFieldModel" ret [] d) (hd : decode cc pc = .ok (.invokevirtual 129, 3)) (hcon : Con X.2.1 g yM_buchholzOf bM_buchholzOf 4 ((some .int)) [] d' 1 6 (.ref (g.1 48) :: [.int a0]) w (Tp cn P)) (hdd : d' + 1 ≤ d) (hst : (st.map fun v => v.category).sum ≤ 8) (h1 : 1 ≤ X.2.2.2.1.cells) (h6 : 6 ≤ X.2.2.2.1.slots) (hP : ∀ w' : Wd, P w' → P2 (.inr cn) w') : Go X g 0 0 (Fen X g 1 6 P2) w pc lp (.int a0 :: .ref (g.1 48) :: st) :=
  kM_129 hc hd hcon hdd hst (by omega) (by omega) (fun v w' h => absurd h Tp_l) (fun cn2 w' h => by obtain ⟨rfl, h⟩ := h; exact x_out hc (hP w' h))
/-- PairedFieldModel: a call of PairedFieldModel.bergerOf -/
theorem kM_132 {d' k n : Nat} {P : Rt → Wd → Prop} {a0 : Int32} (hc : Ok X g cc "PairedFieldModel" ret hx d) (hd : decode cc pc = .ok (.invokevirtual 132, 3)) (hcon : Con X.2.1 g yM_bergerOf bM_bergerOf 4 ((some .int)) [] d' k n (.ref (g.1 48) :: [.int a0]) w P) (hdd : d' + 1 ≤ d) (hst : (st.map fun v => v.category).sum ≤ 8) (hcells : kc + k ≤ X.2.2.2.1.cells) (hslots : ks + n ≤ X.2.2.2.1.slots)
    (hret : ∀ (v : Option Value) (w' : Wd), P (.inl v) w' → Go X g (kc + k) (ks + n) Q w' (pc + 3) lp (v.toList ++ st)) (hthr : ∀ (cn : String) (w' : Wd), P (.inr cn) w' → GoX X g (kc + k) (ks + n) Q w' pc lp cn) : Go X g kc ks Q w pc lp (.int a0 :: .ref (g.1 48) :: st) :=
  r_callv (av := [.int a0]) (nL' := 4) (q := 48) (ci := 3) (C := R_M) (Tc := T_M) (N := 17) hc hd hcon (t4_mem 80 rfl rfl) (t4_mem 82 rfl rfl) (t0_mem 46 rfl rfl) (t4_mem 83 rfl rfl) (by decide) (by decide +kernel) (show (parseMethodDescriptor yM_bergerOf.desc).map (fun d => d.parameters.length) = some 1 by decide +kernel) (by decide) (ent_M g (w 48)) rfl hdd (by decide) (fun v hv => by simp only [List.mem_cons, List.not_mem_nil, or_false] at hv; rcases hv with rfl <;> rfl) (Nat.le_of_ble_eq_true rfl) hst hcells hslots hret hthr
theorem kM_132r {d' : Nat} {P : Option Value → Wd → Prop} {a0 : Int32} (hc : Ok X g cc "PairedFieldModel" ret hx d) (hd : decode cc pc = .ok (.invokevirtual 132, 3)) (hcon : Con X.2.1 g yM_bergerOf bM_bergerOf 4 ((some .int)) [] d' 0 0 (.ref (g.1 48) :: [.int a0]) w (Rp P)) (hdd : d' + 1 ≤ d) (hst : (st.map fun v => v.category).sum ≤ 8) (hret : ∀ (v : Option Value) (w' : Wd), P v w' → Go X g 0 0 Q w' (pc + 3) lp (v.toList ++ st)) : Go X g 0 0 Q w pc lp (.int a0 :: .ref (g.1 48) :: st) :=
  kM_132 hc hd hcon hdd hst (Nat.zero_le _) (Nat.zero_le _) (fun v w' h => hret v w' (Rp_l h)) (fun cn w' h => absurd h Rp_r)
theorem kM_132t {d' : Nat} {cn : String} {P : Wd → Prop} {P2 : Rt → Wd → Prop} {a0 : Int32} (hc : Ok X g cc "PairedFieldModel" ret [] d) (hd : decode cc pc = .ok (.invokevirtual 132, 3)) (hcon : Con X.2.1 g yM_bergerOf bM_bergerOf 4 ((some .int)) [] d' 1 6 (.ref (g.1 48) :: [.int a0]) w (Tp cn P)) (hdd : d' + 1 ≤ d) (hst : (st.map fun v => v.category).sum ≤ 8) (h1 : 1 ≤ X.2.2.2.1.cells) (h6 : 6 ≤ X.2.2.2.1.slots) (hP : ∀ w' : Wd, P w' → P2 (.inr cn) w') : Go X g 0 0 (Fen X g 1 6 P2) w pc lp (.int a0 :: .ref (g.1 48) :: st) :=
  kM_132 hc hd hcon hdd hst (by omega) (by omega) (fun v w' h => absurd h Tp_l) (fun cn2 w' h => by obtain ⟨rfl, h⟩ := h; exact x_out hc (hP w' h))
/-- PairedFieldModel: a call of PairedFieldModel.wonOf -/
theorem kM_135 {d' k n : Nat} {P : Rt → Wd → Prop} {a0 : Int32} (hc : Ok X g cc "PairedFieldModel" ret hx d) (hd : decode cc pc = .ok (.invokevirtual 135, 3)) (hcon : Con X.2.1 g yM_wonOf bM_wonOf 4 ((some .int)) [] d' k n (.ref (g.1 48) :: [.int a0]) w P) (hdd : d' + 1 ≤ d) (hst : (st.map fun v => v.category).sum ≤ 8) (hcells : kc + k ≤ X.2.2.2.1.cells) (hslots : ks + n ≤ X.2.2.2.1.slots)
    (hret : ∀ (v : Option Value) (w' : Wd), P (.inl v) w' → Go X g (kc + k) (ks + n) Q w' (pc + 3) lp (v.toList ++ st)) (hthr : ∀ (cn : String) (w' : Wd), P (.inr cn) w' → GoX X g (kc + k) (ks + n) Q w' pc lp cn) : Go X g kc ks Q w pc lp (.int a0 :: .ref (g.1 48) :: st) :=
  r_callv (av := [.int a0]) (nL' := 4) (q := 48) (ci := 3) (C := R_M) (Tc := T_M) (N := 17) hc hd hcon (t4_mem 84 rfl rfl) (t4_mem 86 rfl rfl) (t0_mem 47 rfl rfl) (t4_mem 87 rfl rfl) (by decide) (by decide +kernel) (show (parseMethodDescriptor yM_wonOf.desc).map (fun d => d.parameters.length) = some 1 by decide +kernel) (by decide) (ent_M g (w 48)) rfl hdd (by decide) (fun v hv => by simp only [List.mem_cons, List.not_mem_nil, or_false] at hv; rcases hv with rfl <;> rfl) (Nat.le_of_ble_eq_true rfl) hst hcells hslots hret hthr
theorem kM_135r {d' : Nat} {P : Option Value → Wd → Prop} {a0 : Int32} (hc : Ok X g cc "PairedFieldModel" ret hx d) (hd : decode cc pc = .ok (.invokevirtual 135, 3)) (hcon : Con X.2.1 g yM_wonOf bM_wonOf 4 ((some .int)) [] d' 0 0 (.ref (g.1 48) :: [.int a0]) w (Rp P)) (hdd : d' + 1 ≤ d) (hst : (st.map fun v => v.category).sum ≤ 8) (hret : ∀ (v : Option Value) (w' : Wd), P v w' → Go X g 0 0 Q w' (pc + 3) lp (v.toList ++ st)) : Go X g 0 0 Q w pc lp (.int a0 :: .ref (g.1 48) :: st) :=
  kM_135 hc hd hcon hdd hst (Nat.zero_le _) (Nat.zero_le _) (fun v w' h => hret v w' (Rp_l h)) (fun cn w' h => absurd h Rp_r)
theorem kM_135t {d' : Nat} {cn : String} {P : Wd → Prop} {P2 : Rt → Wd → Prop} {a0 : Int32} (hc : Ok X g cc "PairedFieldModel" ret [] d) (hd : decode cc pc = .ok (.invokevirtual 135, 3)) (hcon : Con X.2.1 g yM_wonOf bM_wonOf 4 ((some .int)) [] d' 1 6 (.ref (g.1 48) :: [.int a0]) w (Tp cn P)) (hdd : d' + 1 ≤ d) (hst : (st.map fun v => v.category).sum ≤ 8) (h1 : 1 ≤ X.2.2.2.1.cells) (h6 : 6 ≤ X.2.2.2.1.slots) (hP : ∀ w' : Wd, P w' → P2 (.inr cn) w') : Go X g 0 0 (Fen X g 1 6 P2) w pc lp (.int a0 :: .ref (g.1 48) :: st) :=
  kM_135 hc hd hcon hdd hst (by omega) (by omega) (fun v w' h => absurd h Tp_l) (fun cn2 w' h => by obtain ⟨rfl, h⟩ := h; exact x_out hc (hP w' h))
/-- PairedFieldModel: a call of PairedFieldModel.gamesOf -/
theorem kM_138 {d' k n : Nat} {P : Rt → Wd → Prop} {a0 : Int32} (hc : Ok X g cc "PairedFieldModel" ret hx d) (hd : decode cc pc = .ok (.invokevirtual 138, 3)) (hcon : Con X.2.1 g yM_gamesOf bM_gamesOf 4 ((some .int)) [] d' k n (.ref (g.1 48) :: [.int a0]) w P) (hdd : d' + 1 ≤ d) (hst : (st.map fun v => v.category).sum ≤ 8) (hcells : kc + k ≤ X.2.2.2.1.cells) (hslots : ks + n ≤ X.2.2.2.1.slots)
    (hret : ∀ (v : Option Value) (w' : Wd), P (.inl v) w' → Go X g (kc + k) (ks + n) Q w' (pc + 3) lp (v.toList ++ st)) (hthr : ∀ (cn : String) (w' : Wd), P (.inr cn) w' → GoX X g (kc + k) (ks + n) Q w' pc lp cn) : Go X g kc ks Q w pc lp (.int a0 :: .ref (g.1 48) :: st) :=
  r_callv (av := [.int a0]) (nL' := 4) (q := 48) (ci := 3) (C := R_M) (Tc := T_M) (N := 17) hc hd hcon (t4_mem 88 rfl rfl) (t4_mem 90 rfl rfl) (t0_mem 48 rfl rfl) (t4_mem 91 rfl rfl) (by decide) (by decide +kernel) (show (parseMethodDescriptor yM_gamesOf.desc).map (fun d => d.parameters.length) = some 1 by decide +kernel) (by decide) (ent_M g (w 48)) rfl hdd (by decide) (fun v hv => by simp only [List.mem_cons, List.not_mem_nil, or_false] at hv; rcases hv with rfl <;> rfl) (Nat.le_of_ble_eq_true rfl) hst hcells hslots hret hthr
theorem kM_138r {d' : Nat} {P : Option Value → Wd → Prop} {a0 : Int32} (hc : Ok X g cc "PairedFieldModel" ret hx d) (hd : decode cc pc = .ok (.invokevirtual 138, 3)) (hcon : Con X.2.1 g yM_gamesOf bM_gamesOf 4 ((some .int)) [] d' 0 0 (.ref (g.1 48) :: [.int a0]) w (Rp P)) (hdd : d' + 1 ≤ d) (hst : (st.map fun v => v.category).sum ≤ 8) (hret : ∀ (v : Option Value) (w' : Wd), P v w' → Go X g 0 0 Q w' (pc + 3) lp (v.toList ++ st)) : Go X g 0 0 Q w pc lp (.int a0 :: .ref (g.1 48) :: st) :=
  kM_138 hc hd hcon hdd hst (Nat.zero_le _) (Nat.zero_le _) (fun v w' h => hret v w' (Rp_l h)) (fun cn w' h => absurd h Rp_r)
theorem kM_138t {d' : Nat} {cn : String} {P : Wd → Prop} {P2 : Rt → Wd → Prop} {a0 : Int32} (hc : Ok X g cc "PairedFieldModel" ret [] d) (hd : decode cc pc = .ok (.invokevirtual 138, 3)) (hcon : Con X.2.1 g yM_gamesOf bM_gamesOf 4 ((some .int)) [] d' 1 6 (.ref (g.1 48) :: [.int a0]) w (Tp cn P)) (hdd : d' + 1 ≤ d) (hst : (st.map fun v => v.category).sum ≤ 8) (h1 : 1 ≤ X.2.2.2.1.cells) (h6 : 6 ≤ X.2.2.2.1.slots) (hP : ∀ w' : Wd, P w' → P2 (.inr cn) w') : Go X g 0 0 (Fen X g 1 6 P2) w pc lp (.int a0 :: .ref (g.1 48) :: st) :=
  kM_138 hc hd hcon hdd hst (by omega) (by omega) (fun v w' h => absurd h Tp_l) (fun cn2 w' h => by obtain ⟨rfl, h⟩ := h; exact x_out hc (hP w' h))
/-- PairedFieldLaw: a call of PairedFieldModel.had -/
theorem kL_146 {d' k n : Nat} {P : Rt → Wd → Prop} {a0 : Int32} {a1 : Int32} (hc : Ok X g cc "PairedFieldLaw" ret hx d) (hd : decode cc pc = .ok (.invokevirtual 146, 3)) (hcon : Con X.2.1 g yM_had bM_had 5 ((some .int)) [] d' k n (.ref (g.1 48) :: [.int a0, .int a1]) w P) (hdd : d' + 1 ≤ d) (hst : (st.map fun v => v.category).sum ≤ 8) (hcells : kc + k ≤ X.2.2.2.1.cells) (hslots : ks + n ≤ X.2.2.2.1.slots)
    (hret : ∀ (v : Option Value) (w' : Wd), P (.inl v) w' → Go X g (kc + k) (ks + n) Q w' (pc + 3) lp (v.toList ++ st)) (hthr : ∀ (cn : String) (w' : Wd), P (.inr cn) w' → GoX X g (kc + k) (ks + n) Q w' pc lp cn) : Go X g kc ks Q w pc lp (.int a1 :: .int a0 :: .ref (g.1 48) :: st) :=
  r_callv (av := [.int a0, .int a1]) (nL' := 5) (q := 48) (ci := 3) (C := R_M) (Tc := T_M) (N := 17) hc hd hcon (t4_mem 92 rfl rfl) (t4_mem 93 rfl rfl) (t4_mem 94 rfl rfl) (t4_mem 95 rfl rfl) (by decide) (by decide +kernel) (show (parseMethodDescriptor yM_had.desc).map (fun d => d.parameters.length) = some 2 by decide +kernel) (by decide) (ent_M g (w 48)) rfl hdd (by decide) (fun v hv => by simp only [List.mem_cons, List.not_mem_nil, or_false] at hv; rcases hv with rfl | rfl <;> rfl) (Nat.le_of_ble_eq_true rfl) hst hcells hslots hret hthr
theorem kL_146r {d' : Nat} {P : Option Value → Wd → Prop} {a0 : Int32} {a1 : Int32} (hc : Ok X g cc "PairedFieldLaw" ret hx d) (hd : decode cc pc = .ok (.invokevirtual 146, 3)) (hcon : Con X.2.1 g yM_had bM_had 5 ((some .int)) [] d' 0 0 (.ref (g.1 48) :: [.int a0, .int a1]) w (Rp P)) (hdd : d' + 1 ≤ d) (hst : (st.map fun v => v.category).sum ≤ 8) (hret : ∀ (v : Option Value) (w' : Wd), P v w' → Go X g 0 0 Q w' (pc + 3) lp (v.toList ++ st)) : Go X g 0 0 Q w pc lp (.int a1 :: .int a0 :: .ref (g.1 48) :: st) :=
  kL_146 hc hd hcon hdd hst (Nat.zero_le _) (Nat.zero_le _) (fun v w' h => hret v w' (Rp_l h)) (fun cn w' h => absurd h Rp_r)
theorem kL_146t {d' : Nat} {cn : String} {P : Wd → Prop} {P2 : Rt → Wd → Prop} {a0 : Int32} {a1 : Int32} (hc : Ok X g cc "PairedFieldLaw" ret [] d) (hd : decode cc pc = .ok (.invokevirtual 146, 3)) (hcon : Con X.2.1 g yM_had bM_had 5 ((some .int)) [] d' 1 6 (.ref (g.1 48) :: [.int a0, .int a1]) w (Tp cn P)) (hdd : d' + 1 ≤ d) (hst : (st.map fun v => v.category).sum ≤ 8) (h1 : 1 ≤ X.2.2.2.1.cells) (h6 : 6 ≤ X.2.2.2.1.slots) (hP : ∀ w' : Wd, P w' → P2 (.inr cn) w') : Go X g 0 0 (Fen X g 1 6 P2) w pc lp (.int a1 :: .int a0 :: .ref (g.1 48) :: st) :=
  kL_146 hc hd hcon hdd hst (by omega) (by omega) (fun v w' h => absurd h Tp_l) (fun cn2 w' h => by obtain ⟨rfl, h⟩ := h; exact x_out hc (hP w' h))
/-- PairedFieldLaw: a call of PairedFieldModel.table -/
theorem kL_149 {d' k n : Nat} {P : Rt → Wd → Prop} {a0 : Int32} (hc : Ok X g cc "PairedFieldLaw" ret hx d) (hd : decode cc pc = .ok (.invokevirtual 149, 3)) (hcon : Con X.2.1 g yM_table bM_table 5 ((some .int)) [] d' k n (.ref (g.1 48) :: [.int a0]) w P) (hdd : d' + 1 ≤ d) (hst : (st.map fun v => v.category).sum ≤ 8) (hcells : kc + k ≤ X.2.2.2.1.cells) (hslots : ks + n ≤ X.2.2.2.1.slots)
    (hret : ∀ (v : Option Value) (w' : Wd), P (.inl v) w' → Go X g (kc + k) (ks + n) Q w' (pc + 3) lp (v.toList ++ st)) (hthr : ∀ (cn : String) (w' : Wd), P (.inr cn) w' → GoX X g (kc + k) (ks + n) Q w' pc lp cn) : Go X g kc ks Q w pc lp (.int a0 :: .ref (g.1 48) :: st) :=
  r_callv (av := [.int a0]) (nL' := 5) (q := 48) (ci := 3) (C := R_M) (Tc := T_M) (N := 17) hc hd hcon (t4_mem 96 rfl rfl) (t4_mem 97 rfl rfl) (t4_mem 98 rfl rfl) (t4_mem 99 rfl rfl) (by decide) (by decide +kernel) (show (parseMethodDescriptor yM_table.desc).map (fun d => d.parameters.length) = some 1 by decide +kernel) (by decide) (ent_M g (w 48)) rfl hdd (by decide) (fun v hv => by simp only [List.mem_cons, List.not_mem_nil, or_false] at hv; rcases hv with rfl <;> rfl) (Nat.le_of_ble_eq_true rfl) hst hcells hslots hret hthr
theorem kL_149r {d' : Nat} {P : Option Value → Wd → Prop} {a0 : Int32} (hc : Ok X g cc "PairedFieldLaw" ret hx d) (hd : decode cc pc = .ok (.invokevirtual 149, 3)) (hcon : Con X.2.1 g yM_table bM_table 5 ((some .int)) [] d' 0 0 (.ref (g.1 48) :: [.int a0]) w (Rp P)) (hdd : d' + 1 ≤ d) (hst : (st.map fun v => v.category).sum ≤ 8) (hret : ∀ (v : Option Value) (w' : Wd), P v w' → Go X g 0 0 Q w' (pc + 3) lp (v.toList ++ st)) : Go X g 0 0 Q w pc lp (.int a0 :: .ref (g.1 48) :: st) :=
  kL_149 hc hd hcon hdd hst (Nat.zero_le _) (Nat.zero_le _) (fun v w' h => hret v w' (Rp_l h)) (fun cn w' h => absurd h Rp_r)
theorem kL_149t {d' : Nat} {cn : String} {P : Wd → Prop} {P2 : Rt → Wd → Prop} {a0 : Int32} (hc : Ok X g cc "PairedFieldLaw" ret [] d) (hd : decode cc pc = .ok (.invokevirtual 149, 3)) (hcon : Con X.2.1 g yM_table bM_table 5 ((some .int)) [] d' 1 6 (.ref (g.1 48) :: [.int a0]) w (Tp cn P)) (hdd : d' + 1 ≤ d) (hst : (st.map fun v => v.category).sum ≤ 8) (h1 : 1 ≤ X.2.2.2.1.cells) (h6 : 6 ≤ X.2.2.2.1.slots) (hP : ∀ w' : Wd, P w' → P2 (.inr cn) w') : Go X g 0 0 (Fen X g 1 6 P2) w pc lp (.int a0 :: .ref (g.1 48) :: st) :=
  kL_149 hc hd hcon hdd hst (by omega) (by omega) (fun v w' h => absurd h Tp_l) (fun cn2 w' h => by obtain ⟨rfl, h⟩ := h; exact x_out hc (hP w' h))
/-- PairedFieldModel: a call of PairedFieldModel.isBefore -/
theorem kM_141 {d' k n : Nat} {P : Rt → Wd → Prop} {a0 : Int32} {a1 : Int32} (hc : Ok X g cc "PairedFieldModel" ret hx d) (hd : decode cc pc = .ok (.invokevirtual 141, 3)) (hcon : Con X.2.1 g yM_isBefore bM_isBefore 7 ((some .boolean)) [] d' k n (.ref (g.1 48) :: [.int a0, .int a1]) w P) (hdd : d' + 1 ≤ d) (hst : (st.map fun v => v.category).sum ≤ 8) (hcells : kc + k ≤ X.2.2.2.1.cells) (hslots : ks + n ≤ X.2.2.2.1.slots)
    (hret : ∀ (v : Option Value) (w' : Wd), P (.inl v) w' → Go X g (kc + k) (ks + n) Q w' (pc + 3) lp (v.toList ++ st)) (hthr : ∀ (cn : String) (w' : Wd), P (.inr cn) w' → GoX X g (kc + k) (ks + n) Q w' pc lp cn) : Go X g kc ks Q w pc lp (.int a1 :: .int a0 :: .ref (g.1 48) :: st) :=
  r_callv (av := [.int a0, .int a1]) (nL' := 7) (q := 48) (ci := 3) (C := R_M) (Tc := T_M) (N := 17) hc hd hcon (t4_mem 100 rfl rfl) (t4_mem 102 rfl rfl) (t0_mem 49 rfl rfl) (t4_mem 103 rfl rfl) (by decide) (by decide +kernel) (show (parseMethodDescriptor yM_isBefore.desc).map (fun d => d.parameters.length) = some 2 by decide +kernel) (by decide) (ent_M g (w 48)) rfl hdd (by decide) (fun v hv => by simp only [List.mem_cons, List.not_mem_nil, or_false] at hv; rcases hv with rfl | rfl <;> rfl) (Nat.le_of_ble_eq_true rfl) hst hcells hslots hret hthr
theorem kM_141r {d' : Nat} {P : Option Value → Wd → Prop} {a0 : Int32} {a1 : Int32} (hc : Ok X g cc "PairedFieldModel" ret hx d) (hd : decode cc pc = .ok (.invokevirtual 141, 3)) (hcon : Con X.2.1 g yM_isBefore bM_isBefore 7 ((some .boolean)) [] d' 0 0 (.ref (g.1 48) :: [.int a0, .int a1]) w (Rp P)) (hdd : d' + 1 ≤ d) (hst : (st.map fun v => v.category).sum ≤ 8) (hret : ∀ (v : Option Value) (w' : Wd), P v w' → Go X g 0 0 Q w' (pc + 3) lp (v.toList ++ st)) : Go X g 0 0 Q w pc lp (.int a1 :: .int a0 :: .ref (g.1 48) :: st) :=
  kM_141 hc hd hcon hdd hst (Nat.zero_le _) (Nat.zero_le _) (fun v w' h => hret v w' (Rp_l h)) (fun cn w' h => absurd h Rp_r)
theorem kM_141t {d' : Nat} {cn : String} {P : Wd → Prop} {P2 : Rt → Wd → Prop} {a0 : Int32} {a1 : Int32} (hc : Ok X g cc "PairedFieldModel" ret [] d) (hd : decode cc pc = .ok (.invokevirtual 141, 3)) (hcon : Con X.2.1 g yM_isBefore bM_isBefore 7 ((some .boolean)) [] d' 1 6 (.ref (g.1 48) :: [.int a0, .int a1]) w (Tp cn P)) (hdd : d' + 1 ≤ d) (hst : (st.map fun v => v.category).sum ≤ 8) (h1 : 1 ≤ X.2.2.2.1.cells) (h6 : 6 ≤ X.2.2.2.1.slots) (hP : ∀ w' : Wd, P w' → P2 (.inr cn) w') : Go X g 0 0 (Fen X g 1 6 P2) w pc lp (.int a1 :: .int a0 :: .ref (g.1 48) :: st) :=
  kM_141 hc hd hcon hdd hst (by omega) (by omega) (fun v w' h => absurd h Tp_l) (fun cn2 w' h => by obtain ⟨rfl, h⟩ := h; exact x_out hc (hP w' h))
end LNK
end
