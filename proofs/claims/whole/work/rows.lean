section
-- ===== PART A: goes FIRST, ahead of the names: the tables' words, and 'selects' of the private methods out of them =====
/-- a private method of a class that the tables say can be made, by its rows of tables_1 -/
def lw_okq (q : MethodName × Nat) : Prop := (q.1.cls ≠ "java/lang/invoke/MethodHandle" ∧ q.1.cls ≠ "java/lang/invoke/VarHandle") ∧ Cond.instantiable q.1.cls q.2 ∈ tables_1 ∧ Cond.privateMethod q.1 ∈ tables_1 ∧ Cond.instanceMethod q.1 ∈ tables_1
theorem lw_p0 : lw_okq (⟨"PairedField", "workOutPairing", "()V"⟩, 8) := ⟨⟨by decide +kernel, by decide +kernel⟩, List.mem_of_getElem? (i := 17) (by decide +kernel), List.mem_of_getElem? (i := 135) (by decide +kernel), List.mem_of_getElem? (i := 136) (by decide +kernel)⟩
theorem lw_p1 : lw_okq (⟨"PairedField$Pairing", "chooseBye", "(LPairedField$Standing;[Z)V"⟩, 6) := ⟨⟨by decide +kernel, by decide +kernel⟩, List.mem_of_getElem? (i := 74) (by decide +kernel), List.mem_of_getElem? (i := 143) (by decide +kernel), List.mem_of_getElem? (i := 144) (by decide +kernel)⟩
theorem lw_p2 : lw_okq (⟨"PairedField$Pairing", "seatPlayers", "(LPairedField$Standing;[Z)V"⟩, 6) := ⟨⟨by decide +kernel, by decide +kernel⟩, List.mem_of_getElem? (i := 74) (by decide +kernel), List.mem_of_getElem? (i := 151) (by decide +kernel), List.mem_of_getElem? (i := 152) (by decide +kernel)⟩
theorem lw_p3 : lw_okq (⟨"PairedField$Pairing", "seatOne", "(LPairedField$Standing;I)V"⟩, 6) := ⟨⟨by decide +kernel, by decide +kernel⟩, List.mem_of_getElem? (i := 74) (by decide +kernel), List.mem_of_getElem? (i := 155) (by decide +kernel), List.mem_of_getElem? (i := 156) (by decide +kernel)⟩
theorem lw_p4 : lw_okq (⟨"PairedField$Pairing", "priceGames", "(LPairedField$Standing;[II)V"⟩, 6) := ⟨⟨by decide +kernel, by decide +kernel⟩, List.mem_of_getElem? (i := 74) (by decide +kernel), List.mem_of_getElem? (i := 163) (by decide +kernel), List.mem_of_getElem? (i := 164) (by decide +kernel)⟩
theorem lw_p5 : lw_okq (⟨"PairedField$Standing", "clashes", "(II)I"⟩, 10) := ⟨⟨by decide +kernel, by decide +kernel⟩, List.mem_of_getElem? (i := 27) (by decide +kernel), List.mem_of_getElem? (i := 175) (by decide +kernel), List.mem_of_getElem? (i := 176) (by decide +kernel)⟩
theorem lw_p6 : lw_okq (⟨"PairedField$Pairing", "solve", "()V"⟩, 6) := ⟨⟨by decide +kernel, by decide +kernel⟩, List.mem_of_getElem? (i := 74) (by decide +kernel), List.mem_of_getElem? (i := 179) (by decide +kernel), List.mem_of_getElem? (i := 180) (by decide +kernel)⟩
theorem lw_p7 : lw_okq (⟨"PairedField$Pairing", "canBeLeft", "(I)Z"⟩, 6) := ⟨⟨by decide +kernel, by decide +kernel⟩, List.mem_of_getElem? (i := 74) (by decide +kernel), List.mem_of_getElem? (i := 192) (by decide +kernel), List.mem_of_getElem? (i := 193) (by decide +kernel)⟩
theorem lw_p8 : lw_okq (⟨"PairedField$Pairing", "solveSet", "(I)V"⟩, 6) := ⟨⟨by decide +kernel, by decide +kernel⟩, List.mem_of_getElem? (i := 74) (by decide +kernel), List.mem_of_getElem? (i := 200) (by decide +kernel), List.mem_of_getElem? (i := 201) (by decide +kernel)⟩
theorem lw_p9 : lw_okq (⟨"PairedField$Pairing", "mayPlay", "(III)Z"⟩, 6) := ⟨⟨by decide +kernel, by decide +kernel⟩, List.mem_of_getElem? (i := 74) (by decide +kernel), List.mem_of_getElem? (i := 210) (by decide +kernel), List.mem_of_getElem? (i := 211) (by decide +kernel)⟩
theorem lw_p10 : lw_okq (⟨"PairedField$Pairing", "allSeats", "()I"⟩, 6) := ⟨⟨by decide +kernel, by decide +kernel⟩, List.mem_of_getElem? (i := 74) (by decide +kernel), List.mem_of_getElem? (i := 219) (by decide +kernel), List.mem_of_getElem? (i := 220) (by decide +kernel)⟩
theorem lw_p11 : lw_okq (⟨"PairedField", "isPlayer", "(I)Z"⟩, 8) := ⟨⟨by decide +kernel, by decide +kernel⟩, List.mem_of_getElem? (i := 17) (by decide +kernel), List.mem_of_getElem? (i := 235) (by decide +kernel), List.mem_of_getElem? (i := 236) (by decide +kernel)⟩
theorem lw_p12 : lw_okq (⟨"PairedField", "refuseOpenRound", "()V"⟩, 8) := ⟨⟨by decide +kernel, by decide +kernel⟩, List.mem_of_getElem? (i := 17) (by decide +kernel), List.mem_of_getElem? (i := 250) (by decide +kernel), List.mem_of_getElem? (i := 251) (by decide +kernel)⟩
theorem lw_p13 : lw_okq (⟨"java/lang/Throwable", "fillInStackTrace", "(I)Ljava/lang/Throwable;"⟩, 6) := ⟨⟨by decide +kernel, by decide +kernel⟩, List.mem_of_getElem? (i := 293) (by decide +kernel), List.mem_of_getElem? (i := 291) (by decide +kernel), List.mem_of_getElem? (i := 292) (by decide +kernel)⟩
theorem lw_p14 : lw_okq (⟨"PairedField", "refuseNoPlayer", "(I)V"⟩, 8) := ⟨⟨by decide +kernel, by decide +kernel⟩, List.mem_of_getElem? (i := 17) (by decide +kernel), List.mem_of_getElem? (i := 333) (by decide +kernel), List.mem_of_getElem? (i := 334) (by decide +kernel)⟩
theorem lw_p15 : lw_okq (⟨"PairedField", "openNextRound", "()Z"⟩, 8) := ⟨⟨by decide +kernel, by decide +kernel⟩, List.mem_of_getElem? (i := 17) (by decide +kernel), List.mem_of_getElem? (i := 401) (by decide +kernel), List.mem_of_getElem? (i := 402) (by decide +kernel)⟩
def lw_privs_1 : List (MethodName × Nat) := [(⟨"PairedField", "workOutPairing", "()V"⟩, 8), (⟨"PairedField$Pairing", "chooseBye", "(LPairedField$Standing;[Z)V"⟩, 6), (⟨"PairedField$Pairing", "seatPlayers", "(LPairedField$Standing;[Z)V"⟩, 6), (⟨"PairedField$Pairing", "seatOne", "(LPairedField$Standing;I)V"⟩, 6), (⟨"PairedField$Pairing", "priceGames", "(LPairedField$Standing;[II)V"⟩, 6), (⟨"PairedField$Standing", "clashes", "(II)I"⟩, 10), (⟨"PairedField$Pairing", "solve", "()V"⟩, 6), (⟨"PairedField$Pairing", "canBeLeft", "(I)Z"⟩, 6), (⟨"PairedField$Pairing", "solveSet", "(I)V"⟩, 6), (⟨"PairedField$Pairing", "mayPlay", "(III)Z"⟩, 6), (⟨"PairedField$Pairing", "allSeats", "()I"⟩, 6), (⟨"PairedField", "isPlayer", "(I)Z"⟩, 8), (⟨"PairedField", "refuseOpenRound", "()V"⟩, 8), (⟨"java/lang/Throwable", "fillInStackTrace", "(I)Ljava/lang/Throwable;"⟩, 6), (⟨"PairedField", "refuseNoPlayer", "(I)V"⟩, 8), (⟨"PairedField", "openNextRound", "()Z"⟩, 8)]
theorem lw_r1 : ∀ q ∈ lw_privs_1, lw_okq q := List.forall_mem_cons.mpr ⟨lw_p0, List.forall_mem_cons.mpr ⟨lw_p1, List.forall_mem_cons.mpr ⟨lw_p2, List.forall_mem_cons.mpr ⟨lw_p3, List.forall_mem_cons.mpr ⟨lw_p4, List.forall_mem_cons.mpr ⟨lw_p5, List.forall_mem_cons.mpr ⟨lw_p6, List.forall_mem_cons.mpr ⟨lw_p7, List.forall_mem_cons.mpr ⟨lw_p8, List.forall_mem_cons.mpr ⟨lw_p9, List.forall_mem_cons.mpr ⟨lw_p10, List.forall_mem_cons.mpr ⟨lw_p11, List.forall_mem_cons.mpr ⟨lw_p12, List.forall_mem_cons.mpr ⟨lw_p13, List.forall_mem_cons.mpr ⟨lw_p14, List.forall_mem_cons.mpr ⟨lw_p15, fun _ h => absurd h List.not_mem_nil⟩⟩⟩⟩⟩⟩⟩⟩⟩⟩⟩⟩⟩⟩⟩⟩
theorem lw_p16 : lw_okq (⟨"PairedField$Pairing", "bestPartner", "(II)I"⟩, 6) := ⟨⟨by decide +kernel, by decide +kernel⟩, List.mem_of_getElem? (i := 74) (by decide +kernel), List.mem_of_getElem? (i := 421) (by decide +kernel), List.mem_of_getElem? (i := 422) (by decide +kernel)⟩
theorem lw_p17 : lw_okq (⟨"PairedField", "refuseNoRound", "()V"⟩, 8) := ⟨⟨by decide +kernel, by decide +kernel⟩, List.mem_of_getElem? (i := 17) (by decide +kernel), List.mem_of_getElem? (i := 452) (by decide +kernel), List.mem_of_getElem? (i := 453) (by decide +kernel)⟩
theorem lw_p18 : lw_okq (⟨"PairedField", "noteResult", "(II)V"⟩, 8) := ⟨⟨by decide +kernel, by decide +kernel⟩, List.mem_of_getElem? (i := 17) (by decide +kernel), List.mem_of_getElem? (i := 489) (by decide +kernel), List.mem_of_getElem? (i := 490) (by decide +kernel)⟩
theorem lw_p19 : lw_okq (⟨"PairedField", "countUntold", "()I"⟩, 8) := ⟨⟨by decide +kernel, by decide +kernel⟩, List.mem_of_getElem? (i := 17) (by decide +kernel), List.mem_of_getElem? (i := 501) (by decide +kernel), List.mem_of_getElem? (i := 502) (by decide +kernel)⟩
theorem lw_p20 : lw_okq (⟨"PairedField", "closeRound", "()V"⟩, 8) := ⟨⟨by decide +kernel, by decide +kernel⟩, List.mem_of_getElem? (i := 17) (by decide +kernel), List.mem_of_getElem? (i := 513) (by decide +kernel), List.mem_of_getElem? (i := 514) (by decide +kernel)⟩
theorem lw_p21 : lw_okq (⟨"PairedField$Standing", "clear", "()V"⟩, 10) := ⟨⟨by decide +kernel, by decide +kernel⟩, List.mem_of_getElem? (i := 27) (by decide +kernel), List.mem_of_getElem? (i := 521) (by decide +kernel), List.mem_of_getElem? (i := 522) (by decide +kernel)⟩
theorem lw_p22 : lw_okq (⟨"PairedField$Standing", "countCell", "(II)V"⟩, 10) := ⟨⟨by decide +kernel, by decide +kernel⟩, List.mem_of_getElem? (i := 27) (by decide +kernel), List.mem_of_getElem? (i := 526) (by decide +kernel), List.mem_of_getElem? (i := 527) (by decide +kernel)⟩
theorem lw_p23 : lw_okq (⟨"PairedField$Standing", "countOpponent", "(II)V"⟩, 10) := ⟨⟨by decide +kernel, by decide +kernel⟩, List.mem_of_getElem? (i := 27) (by decide +kernel), List.mem_of_getElem? (i := 534) (by decide +kernel), List.mem_of_getElem? (i := 535) (by decide +kernel)⟩
theorem lw_p24 : lw_okq (⟨"PairedField", "noteResultsByNumber", "()V"⟩, 8) := ⟨⟨by decide +kernel, by decide +kernel⟩, List.mem_of_getElem? (i := 17) (by decide +kernel), List.mem_of_getElem? (i := 554) (by decide +kernel), List.mem_of_getElem? (i := 555) (by decide +kernel)⟩
theorem lw_p25 : lw_okq (⟨"PairedField$Standing", "isBeforeInTable", "(II)Z"⟩, 10) := ⟨⟨by decide +kernel, by decide +kernel⟩, List.mem_of_getElem? (i := 27) (by decide +kernel), List.mem_of_getElem? (i := 586) (by decide +kernel), List.mem_of_getElem? (i := 587) (by decide +kernel)⟩
theorem lw_p26 : lw_okq (⟨"PairedFieldModel", "refused", "(ZZZ)Z"⟩, 17) := ⟨⟨by decide +kernel, by decide +kernel⟩, List.mem_of_getElem? (i := 590) (by decide +kernel), List.mem_of_getElem? (i := 656) (by decide +kernel), List.mem_of_getElem? (i := 657) (by decide +kernel)⟩
theorem lw_p27 : lw_okq (⟨"PairedFieldModel", "isPlayer", "(I)Z"⟩, 17) := ⟨⟨by decide +kernel, by decide +kernel⟩, List.mem_of_getElem? (i := 590) (by decide +kernel), List.mem_of_getElem? (i := 664) (by decide +kernel), List.mem_of_getElem? (i := 665) (by decide +kernel)⟩
theorem lw_p28 : lw_okq (⟨"PairedFieldModel", "canPair", "()Z"⟩, 17) := ⟨⟨by decide +kernel, by decide +kernel⟩, List.mem_of_getElem? (i := 590) (by decide +kernel), List.mem_of_getElem? (i := 676) (by decide +kernel), List.mem_of_getElem? (i := 677) (by decide +kernel)⟩
theorem lw_p29 : lw_okq (⟨"PairedFieldModel", "work", "()V"⟩, 17) := ⟨⟨by decide +kernel, by decide +kernel⟩, List.mem_of_getElem? (i := 590) (by decide +kernel), List.mem_of_getElem? (i := 680) (by decide +kernel), List.mem_of_getElem? (i := 681) (by decide +kernel)⟩
theorem lw_p30 : lw_okq (⟨"PairedFieldModel", "lineUp", "()V"⟩, 17) := ⟨⟨by decide +kernel, by decide +kernel⟩, List.mem_of_getElem? (i := 590) (by decide +kernel), List.mem_of_getElem? (i := 684) (by decide +kernel), List.mem_of_getElem? (i := 685) (by decide +kernel)⟩
theorem lw_p31 : lw_okq (⟨"PairedFieldModel", "inMany", "()I"⟩, 17) := ⟨⟨by decide +kernel, by decide +kernel⟩, List.mem_of_getElem? (i := 590) (by decide +kernel), List.mem_of_getElem? (i := 688) (by decide +kernel), List.mem_of_getElem? (i := 689) (by decide +kernel)⟩
def lw_privs_2 : List (MethodName × Nat) := [(⟨"PairedField$Pairing", "bestPartner", "(II)I"⟩, 6), (⟨"PairedField", "refuseNoRound", "()V"⟩, 8), (⟨"PairedField", "noteResult", "(II)V"⟩, 8), (⟨"PairedField", "countUntold", "()I"⟩, 8), (⟨"PairedField", "closeRound", "()V"⟩, 8), (⟨"PairedField$Standing", "clear", "()V"⟩, 10), (⟨"PairedField$Standing", "countCell", "(II)V"⟩, 10), (⟨"PairedField$Standing", "countOpponent", "(II)V"⟩, 10), (⟨"PairedField", "noteResultsByNumber", "()V"⟩, 8), (⟨"PairedField$Standing", "isBeforeInTable", "(II)Z"⟩, 10), (⟨"PairedFieldModel", "refused", "(ZZZ)Z"⟩, 17), (⟨"PairedFieldModel", "isPlayer", "(I)Z"⟩, 17), (⟨"PairedFieldModel", "canPair", "()Z"⟩, 17), (⟨"PairedFieldModel", "work", "()V"⟩, 17), (⟨"PairedFieldModel", "lineUp", "()V"⟩, 17), (⟨"PairedFieldModel", "inMany", "()I"⟩, 17)]
theorem lw_r2 : ∀ q ∈ lw_privs_2, lw_okq q := List.forall_mem_cons.mpr ⟨lw_p16, List.forall_mem_cons.mpr ⟨lw_p17, List.forall_mem_cons.mpr ⟨lw_p18, List.forall_mem_cons.mpr ⟨lw_p19, List.forall_mem_cons.mpr ⟨lw_p20, List.forall_mem_cons.mpr ⟨lw_p21, List.forall_mem_cons.mpr ⟨lw_p22, List.forall_mem_cons.mpr ⟨lw_p23, List.forall_mem_cons.mpr ⟨lw_p24, List.forall_mem_cons.mpr ⟨lw_p25, List.forall_mem_cons.mpr ⟨lw_p26, List.forall_mem_cons.mpr ⟨lw_p27, List.forall_mem_cons.mpr ⟨lw_p28, List.forall_mem_cons.mpr ⟨lw_p29, List.forall_mem_cons.mpr ⟨lw_p30, List.forall_mem_cons.mpr ⟨lw_p31, fun _ h => absurd h List.not_mem_nil⟩⟩⟩⟩⟩⟩⟩⟩⟩⟩⟩⟩⟩⟩⟩⟩
theorem lw_p32 : lw_okq (⟨"PairedFieldModel", "findBye", "()I"⟩, 17) := ⟨⟨by decide +kernel, by decide +kernel⟩, List.mem_of_getElem? (i := 590) (by decide +kernel), List.mem_of_getElem? (i := 692) (by decide +kernel), List.mem_of_getElem? (i := 693) (by decide +kernel)⟩
theorem lw_p33 : lw_okq (⟨"PairedFieldModel", "byesOf", "(I)I"⟩, 17) := ⟨⟨by decide +kernel, by decide +kernel⟩, List.mem_of_getElem? (i := 590) (by decide +kernel), List.mem_of_getElem? (i := 696) (by decide +kernel), List.mem_of_getElem? (i := 697) (by decide +kernel)⟩
theorem lw_p34 : lw_okq (⟨"PairedFieldModel", "scoreOf", "(I)I"⟩, 17) := ⟨⟨by decide +kernel, by decide +kernel⟩, List.mem_of_getElem? (i := 590) (by decide +kernel), List.mem_of_getElem? (i := 700) (by decide +kernel), List.mem_of_getElem? (i := 701) (by decide +kernel)⟩
theorem lw_p35 : lw_okq (⟨"PairedFieldModel", "hadEachOther", "(II)Z"⟩, 17) := ⟨⟨by decide +kernel, by decide +kernel⟩, List.mem_of_getElem? (i := 590) (by decide +kernel), List.mem_of_getElem? (i := 704) (by decide +kernel), List.mem_of_getElem? (i := 705) (by decide +kernel)⟩
theorem lw_p36 : lw_okq (⟨"PairedFieldModel", "costOf", "(II)I"⟩, 17) := ⟨⟨by decide +kernel, by decide +kernel⟩, List.mem_of_getElem? (i := 590) (by decide +kernel), List.mem_of_getElem? (i := 708) (by decide +kernel), List.mem_of_getElem? (i := 709) (by decide +kernel)⟩
theorem lw_p37 : lw_okq (⟨"PairedFieldModel", "isFirstWhite", "(II)Z"⟩, 17) := ⟨⟨by decide +kernel, by decide +kernel⟩, List.mem_of_getElem? (i := 590) (by decide +kernel), List.mem_of_getElem? (i := 712) (by decide +kernel), List.mem_of_getElem? (i := 713) (by decide +kernel)⟩
theorem lw_p38 : lw_okq (⟨"PairedFieldModel", "balanceOf", "(I)I"⟩, 17) := ⟨⟨by decide +kernel, by decide +kernel⟩, List.mem_of_getElem? (i := 590) (by decide +kernel), List.mem_of_getElem? (i := 716) (by decide +kernel), List.mem_of_getElem? (i := 717) (by decide +kernel)⟩
theorem lw_p39 : lw_okq (⟨"PairedFieldModel", "hadGame", "(II)Z"⟩, 17) := ⟨⟨by decide +kernel, by decide +kernel⟩, List.mem_of_getElem? (i := 590) (by decide +kernel), List.mem_of_getElem? (i := 720) (by decide +kernel), List.mem_of_getElem? (i := 721) (by decide +kernel)⟩
theorem lw_p40 : lw_okq (⟨"PairedFieldModel", "colourOf", "(II)I"⟩, 17) := ⟨⟨by decide +kernel, by decide +kernel⟩, List.mem_of_getElem? (i := 590) (by decide +kernel), List.mem_of_getElem? (i := 724) (by decide +kernel), List.mem_of_getElem? (i := 725) (by decide +kernel)⟩
theorem lw_p41 : lw_okq (⟨"PairedFieldModel", "clashes", "(II)I"⟩, 17) := ⟨⟨by decide +kernel, by decide +kernel⟩, List.mem_of_getElem? (i := 590) (by decide +kernel), List.mem_of_getElem? (i := 728) (by decide +kernel), List.mem_of_getElem? (i := 729) (by decide +kernel)⟩
theorem lw_p42 : lw_okq (⟨"PairedFieldModel", "whole", "()I"⟩, 17) := ⟨⟨by decide +kernel, by decide +kernel⟩, List.mem_of_getElem? (i := 590) (by decide +kernel), List.mem_of_getElem? (i := 733) (by decide +kernel), List.mem_of_getElem? (i := 734) (by decide +kernel)⟩
theorem lw_p43 : lw_okq (⟨"PairedFieldModel", "openRound", "()I"⟩, 17) := ⟨⟨by decide +kernel, by decide +kernel⟩, List.mem_of_getElem? (i := 590) (by decide +kernel), List.mem_of_getElem? (i := 737) (by decide +kernel), List.mem_of_getElem? (i := 738) (by decide +kernel)⟩
theorem lw_p44 : lw_okq (⟨"PairedFieldModel", "untold", "()I"⟩, 17) := ⟨⟨by decide +kernel, by decide +kernel⟩, List.mem_of_getElem? (i := 590) (by decide +kernel), List.mem_of_getElem? (i := 765) (by decide +kernel), List.mem_of_getElem? (i := 766) (by decide +kernel)⟩
theorem lw_p45 : lw_okq (⟨"PairedFieldModel", "buchholzOf", "(I)I"⟩, 17) := ⟨⟨by decide +kernel, by decide +kernel⟩, List.mem_of_getElem? (i := 590) (by decide +kernel), List.mem_of_getElem? (i := 797) (by decide +kernel), List.mem_of_getElem? (i := 798) (by decide +kernel)⟩
theorem lw_p46 : lw_okq (⟨"PairedFieldModel", "bergerOf", "(I)I"⟩, 17) := ⟨⟨by decide +kernel, by decide +kernel⟩, List.mem_of_getElem? (i := 590) (by decide +kernel), List.mem_of_getElem? (i := 801) (by decide +kernel), List.mem_of_getElem? (i := 802) (by decide +kernel)⟩
theorem lw_p47 : lw_okq (⟨"PairedFieldModel", "wonOf", "(I)I"⟩, 17) := ⟨⟨by decide +kernel, by decide +kernel⟩, List.mem_of_getElem? (i := 590) (by decide +kernel), List.mem_of_getElem? (i := 805) (by decide +kernel), List.mem_of_getElem? (i := 806) (by decide +kernel)⟩
def lw_privs_3 : List (MethodName × Nat) := [(⟨"PairedFieldModel", "findBye", "()I"⟩, 17), (⟨"PairedFieldModel", "byesOf", "(I)I"⟩, 17), (⟨"PairedFieldModel", "scoreOf", "(I)I"⟩, 17), (⟨"PairedFieldModel", "hadEachOther", "(II)Z"⟩, 17), (⟨"PairedFieldModel", "costOf", "(II)I"⟩, 17), (⟨"PairedFieldModel", "isFirstWhite", "(II)Z"⟩, 17), (⟨"PairedFieldModel", "balanceOf", "(I)I"⟩, 17), (⟨"PairedFieldModel", "hadGame", "(II)Z"⟩, 17), (⟨"PairedFieldModel", "colourOf", "(II)I"⟩, 17), (⟨"PairedFieldModel", "clashes", "(II)I"⟩, 17), (⟨"PairedFieldModel", "whole", "()I"⟩, 17), (⟨"PairedFieldModel", "openRound", "()I"⟩, 17), (⟨"PairedFieldModel", "untold", "()I"⟩, 17), (⟨"PairedFieldModel", "buchholzOf", "(I)I"⟩, 17), (⟨"PairedFieldModel", "bergerOf", "(I)I"⟩, 17), (⟨"PairedFieldModel", "wonOf", "(I)I"⟩, 17)]
theorem lw_r3 : ∀ q ∈ lw_privs_3, lw_okq q := List.forall_mem_cons.mpr ⟨lw_p32, List.forall_mem_cons.mpr ⟨lw_p33, List.forall_mem_cons.mpr ⟨lw_p34, List.forall_mem_cons.mpr ⟨lw_p35, List.forall_mem_cons.mpr ⟨lw_p36, List.forall_mem_cons.mpr ⟨lw_p37, List.forall_mem_cons.mpr ⟨lw_p38, List.forall_mem_cons.mpr ⟨lw_p39, List.forall_mem_cons.mpr ⟨lw_p40, List.forall_mem_cons.mpr ⟨lw_p41, List.forall_mem_cons.mpr ⟨lw_p42, List.forall_mem_cons.mpr ⟨lw_p43, List.forall_mem_cons.mpr ⟨lw_p44, List.forall_mem_cons.mpr ⟨lw_p45, List.forall_mem_cons.mpr ⟨lw_p46, List.forall_mem_cons.mpr ⟨lw_p47, fun _ h => absurd h List.not_mem_nil⟩⟩⟩⟩⟩⟩⟩⟩⟩⟩⟩⟩⟩⟩⟩⟩
theorem lw_p48 : lw_okq (⟨"PairedFieldModel", "gamesOf", "(I)I"⟩, 17) := ⟨⟨by decide +kernel, by decide +kernel⟩, List.mem_of_getElem? (i := 590) (by decide +kernel), List.mem_of_getElem? (i := 809) (by decide +kernel), List.mem_of_getElem? (i := 810) (by decide +kernel)⟩
theorem lw_p49 : lw_okq (⟨"PairedFieldModel", "isBefore", "(II)Z"⟩, 17) := ⟨⟨by decide +kernel, by decide +kernel⟩, List.mem_of_getElem? (i := 590) (by decide +kernel), List.mem_of_getElem? (i := 821) (by decide +kernel), List.mem_of_getElem? (i := 822) (by decide +kernel)⟩
def lw_privs_4 : List (MethodName × Nat) := [(⟨"PairedFieldModel", "gamesOf", "(I)I"⟩, 17), (⟨"PairedFieldModel", "isBefore", "(II)Z"⟩, 17)]
theorem lw_r4 : ∀ q ∈ lw_privs_4, lw_okq q := List.forall_mem_cons.mpr ⟨lw_p48, List.forall_mem_cons.mpr ⟨lw_p49, fun _ h => absurd h List.not_mem_nil⟩⟩
def lw_privs : List (MethodName × Nat) := lw_privs_1 ++ (lw_privs_2 ++ (lw_privs_3 ++ (lw_privs_4)))
def lw_tbl : List Cond := k2_sels lw_privs ++ tables_1
theorem lw_privs_ok : ∀ q ∈ lw_privs, lw_okq q := by
  show ∀ q ∈ lw_privs_1 ++ (lw_privs_2 ++ (lw_privs_3 ++ (lw_privs_4))), lw_okq q
  exact List.forall_mem_append.mpr ⟨lw_r1, List.forall_mem_append.mpr ⟨lw_r2, List.forall_mem_append.mpr ⟨lw_r3, lw_r4⟩⟩⟩

/-! the words of the tables, by their places -/
/-- a word that stays true as the tables warm -/
def okW (w : Cond) : Bool := match w with
  | .arrayClass _ => true
  | .stringRef _ _ _ => true
  | .methodLinkNest _ _ _ _ => true
  | .fieldLinkNest _ _ _ _ _ _ => true
  | w => w.onTables && w.keepsFace
theorem okW_warm {w : Cond} (h : okW w = true) {args a' : Array Value} {s U : State} (hW : s.WarmedH U.vm) (hb : w.before args s = true) : w.before a' U = true := by
  have gen : w.onTables = true → w.keepsFace = true → w.before a' U = true := fun h1 h2 =>
    va_tabs h1 (rfl : (s.setVm U.vm).vm = U.vm) (Cond.before_shiftedFace (State.Shifted.of_warmed hW) _ h2 hb)
  cases w with
  | arrayClass ty => exact (Cond.before_shiftedFace (State.Shifted.of_warmed hW) (Cond.arrayClass ty) rfl hb : (Cond.arrayClass ty).before args (s.setVm U.vm) = true)
  | methodLinkNest a i x h => exact va_tabs rfl (rfl : (s.setVm U.vm).vm = U.vm) (Cond.methodLinkNest_warmed (args := args) hW hb)
  | fieldLinkNest a i b n d h => exact va_tabs rfl (rfl : (s.setVm U.vm).vm = U.vm) (Cond.fieldLinkNest_warmed (args := args) hW hb)
  | stringRef a i x => exact (Cond.stringRef_warmed hW hb : (Cond.stringRef a i x).before args (s.setVm U.vm) = true)
  | _ =>
    first
      | (simp only [okW, Bool.and_eq_true] at h; exact gen h.1 h.2)
      | (exfalso; revert h; simp [okW, Cond.onTables])
def Ttab : List Cond := lw_tbl.filter okW
theorem lw_mem {w : Cond} (h : w ∈ lw_tbl) (hk : okW w = true) : w ∈ Ttab := List.mem_filter.mpr ⟨h, hk⟩
theorem t1_mem {w : Cond} (i : Nat) (h : tables_1_1[i]? = some w) (hk : okW w = true) : w ∈ Ttab := lw_mem (List.mem_append_right _ (List.mem_append_left _ (List.mem_of_getElem? h))) hk
theorem t2_mem {w : Cond} (i : Nat) (h : tables_1_2[i]? = some w) (hk : okW w = true) : w ∈ Ttab := lw_mem (List.mem_append_right _ (List.mem_append_right _ (List.mem_append_left _ (List.mem_of_getElem? h)))) hk
theorem t3_mem {w : Cond} (i : Nat) (h : tables_1_3[i]? = some w) (hk : okW w = true) : w ∈ Ttab := lw_mem (List.mem_append_right _ (List.mem_append_right _ (List.mem_append_right _ (List.mem_append_left _ (List.mem_of_getElem? h))))) hk
theorem t4_mem {w : Cond} (i : Nat) (h : tables_1_4[i]? = some w) (hk : okW w = true) : w ∈ Ttab := lw_mem (List.mem_append_right _ (List.mem_append_right _ (List.mem_append_right _ (List.mem_append_right _ (List.mem_of_getElem? h))))) hk
theorem t0_mem {w : Cond} (i : Nat) (h : (k2_sels lw_privs)[i]? = some w) (hk : okW w = true) : w ∈ Ttab := lw_mem (List.mem_append_left _ (List.mem_of_getElem? h)) hk
def Tb (args : Array Value) (s : State) : Prop := ∀ w ∈ Ttab, w.before args s = true
theorem Tb.warm {args a' : Array Value} {s U : State} (hW : s.WarmedH U.vm) (h : Tb args s) : Tb a' U := fun w hw => okW_warm (List.mem_filter.mp hw).2 hW (h w hw)
end
section
/-! names -/
abbrev bA_fill : ByteArray := prog_16_method_103_code
def yA_fill : MethodName := ⟨"java/util/Arrays", "fill", "([II)V"⟩
abbrev bC_colourIn : ByteArray := prog_2_method_7_code
def yC_colourIn : MethodName := ⟨"PairedField$Cell", "colourIn", "(I)I"⟩
abbrev bC_isGame : ByteArray := prog_2_method_4_code
def yC_isGame : MethodName := ⟨"PairedField$Cell", "isGame", "(I)Z"⟩
abbrev bC_isUntold : ByteArray := prog_2_method_5_code
def yC_isUntold : MethodName := ⟨"PairedField$Cell", "isUntold", "(I)Z"⟩
abbrev bC_opponentIn : ByteArray := prog_2_method_6_code
def yC_opponentIn : MethodName := ⟨"PairedField$Cell", "opponentIn", "(I)I"⟩
abbrev bC_resultIn : ByteArray := prog_2_method_8_code
def yC_resultIn : MethodName := ⟨"PairedField$Cell", "resultIn", "(I)I"⟩
abbrev bC_untoldGame : ByteArray := prog_2_method_2_code
def yC_untoldGame : MethodName := ⟨"PairedField$Cell", "untoldGame", "(II)I"⟩
abbrev bC_withResult : ByteArray := prog_2_method_3_code
def yC_withResult : MethodName := ⟨"PairedField$Cell", "withResult", "(II)I"⟩
abbrev bF_apart : ByteArray := prog_1_method_4_code
def yF_apart : MethodName := ⟨"PairedField", "apart", "(IIZ)Z"⟩
abbrev bF_back : ByteArray := prog_1_method_13_code
def yF_back : MethodName := ⟨"PairedField", "back", "()I"⟩
abbrev bF_close : ByteArray := prog_1_method_12_code
def yF_close : MethodName := ⟨"PairedField", "close", "()I"⟩
abbrev bF_closeRound : ByteArray := prog_1_method_27_code
def yF_closeRound : MethodName := ⟨"PairedField", "closeRound", "()V"⟩
abbrev bF_cost : ByteArray := prog_1_method_6_code
def yF_cost : MethodName := ⟨"PairedField", "cost", "()I"⟩
abbrev bF_countUntold : ByteArray := prog_1_method_30_code
def yF_countUntold : MethodName := ⟨"PairedField", "countUntold", "()I"⟩
abbrev bF_enter : ByteArray := prog_1_method_2_code
def yF_enter : MethodName := ⟨"PairedField", "enter", "()I"⟩
abbrev bF_had : ByteArray := prog_1_method_19_code
def yF_had : MethodName := ⟨"PairedField", "had", "(II)I"⟩
abbrev bF_init : ByteArray := prog_1_method_1_code
def yF_init : MethodName := ⟨"PairedField", "<init>", "(I)V"⟩
abbrev bF_isIn : ByteArray := prog_1_method_17_code
def yF_isIn : MethodName := ⟨"PairedField", "isIn", "(I)Z"⟩
abbrev bF_isPlayer : ByteArray := prog_1_method_21_code
def yF_isPlayer : MethodName := ⟨"PairedField", "isPlayer", "(I)Z"⟩
abbrev bF_isWhite : ByteArray := prog_1_method_9_code
def yF_isWhite : MethodName := ⟨"PairedField", "isWhite", "(I)Z"⟩
abbrev bF_leave : ByteArray := prog_1_method_3_code
def yF_leave : MethodName := ⟨"PairedField", "leave", "(I)V"⟩
abbrev bF_missing : ByteArray := prog_1_method_11_code
def yF_missing : MethodName := ⟨"PairedField", "missing", "()I"⟩
abbrev bF_noteResult : ByteArray := prog_1_method_28_code
def yF_noteResult : MethodName := ⟨"PairedField", "noteResult", "(II)V"⟩
abbrev bF_noteResultsByNumber : ByteArray := prog_1_method_29_code
def yF_noteResultsByNumber : MethodName := ⟨"PairedField", "noteResultsByNumber", "()V"⟩
abbrev bF_openNextRound : ByteArray := prog_1_method_26_code
def yF_openNextRound : MethodName := ⟨"PairedField", "openNextRound", "()Z"⟩
abbrev bF_opponent : ByteArray := prog_1_method_8_code
def yF_opponent : MethodName := ⟨"PairedField", "opponent", "(I)I"⟩
abbrev bF_pair : ByteArray := prog_1_method_5_code
def yF_pair : MethodName := ⟨"PairedField", "pair", "()I"⟩
abbrev bF_play : ByteArray := prog_1_method_14_code
def yF_play : MethodName := ⟨"PairedField", "play", "(I)I"⟩
abbrev bF_players : ByteArray := prog_1_method_15_code
def yF_players : MethodName := ⟨"PairedField", "players", "()I"⟩
abbrev bF_refuseNoPlayer : ByteArray := prog_1_method_22_code
def yF_refuseNoPlayer : MethodName := ⟨"PairedField", "refuseNoPlayer", "(I)V"⟩
abbrev bF_refuseNoRound : ByteArray := prog_1_method_24_code
def yF_refuseNoRound : MethodName := ⟨"PairedField", "refuseNoRound", "()V"⟩
abbrev bF_refuseOpenRound : ByteArray := prog_1_method_23_code
def yF_refuseOpenRound : MethodName := ⟨"PairedField", "refuseOpenRound", "()V"⟩
abbrev bF_report : ByteArray := prog_1_method_10_code
def yF_report : MethodName := ⟨"PairedField", "report", "(II)V"⟩
abbrev bF_rounds : ByteArray := prog_1_method_16_code
def yF_rounds : MethodName := ⟨"PairedField", "rounds", "()I"⟩
abbrev bF_table : ByteArray := prog_1_method_20_code
def yF_table : MethodName := ⟨"PairedField", "table", "(I)I"⟩
abbrev bF_tell : ByteArray := prog_1_method_18_code
def yF_tell : MethodName := ⟨"PairedField", "tell", "(II)I"⟩
abbrev bF_ways : ByteArray := prog_1_method_7_code
def yF_ways : MethodName := ⟨"PairedField", "ways", "()I"⟩
abbrev bF_workOutPairing : ByteArray := prog_1_method_25_code
def yF_workOutPairing : MethodName := ⟨"PairedField", "workOutPairing", "()V"⟩
abbrev bH_max : ByteArray := prog_12_method_65_code
def yH_max : MethodName := ⟨"java/lang/Math", "max", "(II)I"⟩
abbrev bH_min : ByteArray := prog_12_method_69_code
def yH_min : MethodName := ⟨"java/lang/Math", "min", "(II)I"⟩
abbrev bI_bitCount : ByteArray := prog_11_method_49_code
def yI_bitCount : MethodName := ⟨"java/lang/Integer", "bitCount", "(I)I"⟩
abbrev bI_numberOfTrailingZeros : ByteArray := prog_11_method_48_code
def yI_numberOfTrailingZeros : MethodName := ⟨"java/lang/Integer", "numberOfTrailingZeros", "(I)I"⟩
abbrev bL_apart : ByteArray := method_5_code
def yL_apart : MethodName := ⟨"PairedFieldLaw", "apart", "(LPairedField;IIZ[J)I"⟩
abbrev bL_back : ByteArray := method_13_code
def yL_back : MethodName := ⟨"PairedFieldLaw", "back", "(LPairedField;[J)I"⟩
abbrev bL_cell : ByteArray := method_2_code
def yL_cell : MethodName := ⟨"PairedFieldLaw", "cell", "([II)I"⟩
abbrev bL_close : ByteArray := method_12_code
def yL_close : MethodName := ⟨"PairedFieldLaw", "close", "(LPairedField;[J)I"⟩
abbrev bL_cost : ByteArray := method_7_code
def yL_cost : MethodName := ⟨"PairedFieldLaw", "cost", "(LPairedField;[J)I"⟩
abbrev bL_enter : ByteArray := method_3_code
def yL_enter : MethodName := ⟨"PairedFieldLaw", "enter", "(LPairedField;[J)I"⟩
abbrev bL_had : ByteArray := method_16_code
def yL_had : MethodName := ⟨"PairedFieldLaw", "had", "(LPairedField;II[J)I"⟩
abbrev bL_isWhite : ByteArray := method_9_code
def yL_isWhite : MethodName := ⟨"PairedFieldLaw", "isWhite", "(LPairedField;I[J)I"⟩
abbrev bL_leave : ByteArray := method_4_code
def yL_leave : MethodName := ⟨"PairedFieldLaw", "leave", "(LPairedField;I)I"⟩
abbrev bL_missing : ByteArray := method_11_code
def yL_missing : MethodName := ⟨"PairedFieldLaw", "missing", "(LPairedField;[J)I"⟩
abbrev bL_opponent : ByteArray := method_8_code
def yL_opponent : MethodName := ⟨"PairedFieldLaw", "opponent", "(LPairedField;I[J)I"⟩
abbrev bL_pair : ByteArray := method_6_code
def yL_pair : MethodName := ⟨"PairedFieldLaw", "pair", "(LPairedField;[J)I"⟩
abbrev bL_play : ByteArray := method_14_code
def yL_play : MethodName := ⟨"PairedFieldLaw", "play", "(LPairedField;I[J)I"⟩
abbrev bL_report : ByteArray := method_10_code
def yL_report : MethodName := ⟨"PairedFieldLaw", "report", "(LPairedField;II)I"⟩
abbrev bL_table : ByteArray := method_17_code
def yL_table : MethodName := ⟨"PairedFieldLaw", "table", "(LPairedField;I[J)I"⟩
abbrev bL_tell : ByteArray := method_15_code
def yL_tell : MethodName := ⟨"PairedFieldLaw", "tell", "(LPairedField;II[J)I"⟩
abbrev bM_apart : ByteArray := prog_6_method_7_code
def yM_apart : MethodName := ⟨"PairedFieldModel", "apart", "(IIZ)Z"⟩
abbrev bM_back : ByteArray := prog_6_method_37_code
def yM_back : MethodName := ⟨"PairedFieldModel", "back", "()I"⟩
abbrev bM_balanceOf : ByteArray := prog_6_method_10_code
def yM_balanceOf : MethodName := ⟨"PairedFieldModel", "balanceOf", "(I)I"⟩
abbrev bM_bergerOf : ByteArray := prog_6_method_16_code
def yM_bergerOf : MethodName := ⟨"PairedFieldModel", "bergerOf", "(I)I"⟩
abbrev bM_buchholzOf : ByteArray := prog_6_method_15_code
def yM_buchholzOf : MethodName := ⟨"PairedFieldModel", "buchholzOf", "(I)I"⟩
abbrev bM_byesOf : ByteArray := prog_6_method_12_code
def yM_byesOf : MethodName := ⟨"PairedFieldModel", "byesOf", "(I)I"⟩
abbrev bM_canPair : ByteArray := prog_6_method_26_code
def yM_canPair : MethodName := ⟨"PairedFieldModel", "canPair", "()Z"⟩
abbrev bM_clashes : ByteArray := prog_6_method_19_code
def yM_clashes : MethodName := ⟨"PairedFieldModel", "clashes", "(II)I"⟩
abbrev bM_close : ByteArray := prog_6_method_36_code
def yM_close : MethodName := ⟨"PairedFieldModel", "close", "()I"⟩
abbrev bM_colourOf : ByteArray := prog_6_method_11_code
def yM_colourOf : MethodName := ⟨"PairedFieldModel", "colourOf", "(II)I"⟩
abbrev bM_cost : ByteArray := prog_6_method_29_code
def yM_cost : MethodName := ⟨"PairedFieldModel", "cost", "()I"⟩
abbrev bM_costOf : ByteArray := prog_6_method_20_code
def yM_costOf : MethodName := ⟨"PairedFieldModel", "costOf", "(II)I"⟩
abbrev bM_enter : ByteArray := prog_6_method_5_code
def yM_enter : MethodName := ⟨"PairedFieldModel", "enter", "()I"⟩
abbrev bM_findBye : ByteArray := prog_6_method_22_code
def yM_findBye : MethodName := ⟨"PairedFieldModel", "findBye", "()I"⟩
abbrev bM_gamesOf : ByteArray := prog_6_method_14_code
def yM_gamesOf : MethodName := ⟨"PairedFieldModel", "gamesOf", "(I)I"⟩
abbrev bM_had : ByteArray := prog_6_method_43_code
def yM_had : MethodName := ⟨"PairedFieldModel", "had", "(II)I"⟩
abbrev bM_hadEachOther : ByteArray := prog_6_method_17_code
def yM_hadEachOther : MethodName := ⟨"PairedFieldModel", "hadEachOther", "(II)Z"⟩
abbrev bM_hadGame : ByteArray := prog_6_method_8_code
def yM_hadGame : MethodName := ⟨"PairedFieldModel", "hadGame", "(II)Z"⟩
abbrev bM_inMany : ByteArray := prog_6_method_21_code
def yM_inMany : MethodName := ⟨"PairedFieldModel", "inMany", "()I"⟩
abbrev bM_init : ByteArray := prog_6_method_1_code
def yM_init : MethodName := ⟨"PairedFieldModel", "<init>", "(I)V"⟩
abbrev bM_isBefore : ByteArray := prog_6_method_44_code
def yM_isBefore : MethodName := ⟨"PairedFieldModel", "isBefore", "(II)Z"⟩
abbrev bM_isFirstWhite : ByteArray := prog_6_method_18_code
def yM_isFirstWhite : MethodName := ⟨"PairedFieldModel", "isFirstWhite", "(II)Z"⟩
abbrev bM_isIn : ByteArray := prog_6_method_41_code
def yM_isIn : MethodName := ⟨"PairedFieldModel", "isIn", "(I)Z"⟩
abbrev bM_isPlayer : ByteArray := prog_6_method_3_code
def yM_isPlayer : MethodName := ⟨"PairedFieldModel", "isPlayer", "(I)Z"⟩
abbrev bM_isWhite : ByteArray := prog_6_method_32_code
def yM_isWhite : MethodName := ⟨"PairedFieldModel", "isWhite", "(I)Z"⟩
abbrev bM_leave : ByteArray := prog_6_method_6_code
def yM_leave : MethodName := ⟨"PairedFieldModel", "leave", "(I)V"⟩
abbrev bM_lineUp : ByteArray := prog_6_method_23_code
def yM_lineUp : MethodName := ⟨"PairedFieldModel", "lineUp", "()V"⟩
abbrev bM_missing : ByteArray := prog_6_method_35_code
def yM_missing : MethodName := ⟨"PairedFieldModel", "missing", "()I"⟩
abbrev bM_openRound : ByteArray := prog_6_method_27_code
def yM_openRound : MethodName := ⟨"PairedFieldModel", "openRound", "()I"⟩
abbrev bM_opponent : ByteArray := prog_6_method_31_code
def yM_opponent : MethodName := ⟨"PairedFieldModel", "opponent", "(I)I"⟩
abbrev bM_pair : ByteArray := prog_6_method_28_code
def yM_pair : MethodName := ⟨"PairedFieldModel", "pair", "()I"⟩
abbrev bM_play : ByteArray := prog_6_method_38_code
def yM_play : MethodName := ⟨"PairedFieldModel", "play", "(I)I"⟩
abbrev bM_players : ByteArray := prog_6_method_39_code
def yM_players : MethodName := ⟨"PairedFieldModel", "players", "()I"⟩
abbrev bM_refused : ByteArray := prog_6_method_4_code
def yM_refused : MethodName := ⟨"PairedFieldModel", "refused", "(ZZZ)Z"⟩
abbrev bM_report : ByteArray := prog_6_method_33_code
def yM_report : MethodName := ⟨"PairedFieldModel", "report", "(II)V"⟩
abbrev bM_rounds : ByteArray := prog_6_method_40_code
def yM_rounds : MethodName := ⟨"PairedFieldModel", "rounds", "()I"⟩
abbrev bM_scoreOf : ByteArray := prog_6_method_9_code
def yM_scoreOf : MethodName := ⟨"PairedFieldModel", "scoreOf", "(I)I"⟩
abbrev bM_table : ByteArray := prog_6_method_45_code
def yM_table : MethodName := ⟨"PairedFieldModel", "table", "(I)I"⟩
abbrev bM_tell : ByteArray := prog_6_method_42_code
def yM_tell : MethodName := ⟨"PairedFieldModel", "tell", "(II)I"⟩
abbrev bM_thrown : ByteArray := prog_6_method_2_code
def yM_thrown : MethodName := ⟨"PairedFieldModel", "thrown", "()I"⟩
abbrev bM_untold : ByteArray := prog_6_method_34_code
def yM_untold : MethodName := ⟨"PairedFieldModel", "untold", "()I"⟩
abbrev bM_ways : ByteArray := prog_6_method_30_code
def yM_ways : MethodName := ⟨"PairedFieldModel", "ways", "()I"⟩
abbrev bM_whole : ByteArray := prog_6_method_25_code
def yM_whole : MethodName := ⟨"PairedFieldModel", "whole", "()I"⟩
abbrev bM_wonOf : ByteArray := prog_6_method_13_code
def yM_wonOf : MethodName := ⟨"PairedFieldModel", "wonOf", "(I)I"⟩
abbrev bM_work : ByteArray := prog_6_method_24_code
def yM_work : MethodName := ⟨"PairedFieldModel", "work", "()V"⟩
abbrev bP_allSeats : ByteArray := prog_3_method_17_code
def yP_allSeats : MethodName := ⟨"PairedField$Pairing", "allSeats", "()I"⟩
abbrev bP_bestPartner : ByteArray := prog_3_method_14_code
def yP_bestPartner : MethodName := ⟨"PairedField$Pairing", "bestPartner", "(II)I"⟩
abbrev bP_canBeLeft : ByteArray := prog_3_method_16_code
def yP_canBeLeft : MethodName := ⟨"PairedField$Pairing", "canBeLeft", "(I)Z"⟩
abbrev bP_chooseBye : ByteArray := prog_3_method_8_code
def yP_chooseBye : MethodName := ⟨"PairedField$Pairing", "chooseBye", "(LPairedField$Standing;[Z)V"⟩
abbrev bP_count : ByteArray := prog_3_method_6_code
def yP_count : MethodName := ⟨"PairedField$Pairing", "count", "()I"⟩
abbrev bP_evenSet : ByteArray := prog_3_method_20_code
def yP_evenSet : MethodName := ⟨"PairedField$Pairing", "evenSet", "(I)I"⟩
abbrev bP_games : ByteArray := prog_3_method_4_code
def yP_games : MethodName := ⟨"PairedField$Pairing", "games", "()I"⟩
abbrev bP_indexOf : ByteArray := prog_3_method_19_code
def yP_indexOf : MethodName := ⟨"PairedField$Pairing", "indexOf", "(I)I"⟩
abbrev bP_init : ByteArray := prog_3_method_1_code
def yP_init : MethodName := ⟨"PairedField$Pairing", "<init>", "()V"⟩
abbrev bP_isPossible : ByteArray := prog_3_method_3_code
def yP_isPossible : MethodName := ⟨"PairedField$Pairing", "isPossible", "()Z"⟩
abbrev bP_leastCost : ByteArray := prog_3_method_5_code
def yP_leastCost : MethodName := ⟨"PairedField$Pairing", "leastCost", "()I"⟩
abbrev bP_mayPlay : ByteArray := prog_3_method_15_code
def yP_mayPlay : MethodName := ⟨"PairedField$Pairing", "mayPlay", "(III)Z"⟩
abbrev bP_priceGames : ByteArray := prog_3_method_11_code
def yP_priceGames : MethodName := ⟨"PairedField$Pairing", "priceGames", "(LPairedField$Standing;[II)V"⟩
abbrev bP_seatOne : ByteArray := prog_3_method_10_code
def yP_seatOne : MethodName := ⟨"PairedField$Pairing", "seatOne", "(LPairedField$Standing;I)V"⟩
abbrev bP_seatPlayers : ByteArray := prog_3_method_9_code
def yP_seatPlayers : MethodName := ⟨"PairedField$Pairing", "seatPlayers", "(LPairedField$Standing;[Z)V"⟩
abbrev bP_solve : ByteArray := prog_3_method_12_code
def yP_solve : MethodName := ⟨"PairedField$Pairing", "solve", "()V"⟩
abbrev bP_solveSet : ByteArray := prog_3_method_13_code
def yP_solveSet : MethodName := ⟨"PairedField$Pairing", "solveSet", "(I)V"⟩
abbrev bP_without : ByteArray := prog_3_method_18_code
def yP_without : MethodName := ⟨"PairedField$Pairing", "without", "(III)I"⟩
abbrev bP_workOut : ByteArray := prog_3_method_2_code
def yP_workOut : MethodName := ⟨"PairedField$Pairing", "workOut", "(LPairedField$Standing;[Z[II)V"⟩
abbrev bP_writeTo : ByteArray := prog_3_method_7_code
def yP_writeTo : MethodName := ⟨"PairedField$Pairing", "writeTo", "([ILPairedField$Standing;I)V"⟩
abbrev bS_clashes : ByteArray := prog_4_method_12_code
def yS_clashes : MethodName := ⟨"PairedField$Standing", "clashes", "(II)I"⟩
abbrev bS_clear : ByteArray := prog_4_method_3_code
def yS_clear : MethodName := ⟨"PairedField$Standing", "clear", "()V"⟩
abbrev bS_colourOfFirst : ByteArray := prog_4_method_10_code
def yS_colourOfFirst : MethodName := ⟨"PairedField$Standing", "colourOfFirst", "(III)I"⟩
abbrev bS_costOfGame : ByteArray := prog_4_method_11_code
def yS_costOfGame : MethodName := ⟨"PairedField$Standing", "costOfGame", "(III)I"⟩
abbrev bS_countCell : ByteArray := prog_4_method_4_code
def yS_countCell : MethodName := ⟨"PairedField$Standing", "countCell", "(II)V"⟩
abbrev bS_countOpponent : ByteArray := prog_4_method_5_code
def yS_countOpponent : MethodName := ⟨"PairedField$Standing", "countOpponent", "(II)V"⟩
abbrev bS_getsByeBefore : ByteArray := prog_4_method_9_code
def yS_getsByeBefore : MethodName := ⟨"PairedField$Standing", "getsByeBefore", "(II)Z"⟩
abbrev bS_init : ByteArray := prog_4_method_1_code
def yS_init : MethodName := ⟨"PairedField$Standing", "<init>", "()V"⟩
abbrev bS_isBeforeInOrder : ByteArray := prog_4_method_6_code
def yS_isBeforeInOrder : MethodName := ⟨"PairedField$Standing", "isBeforeInOrder", "(II)Z"⟩
abbrev bS_isBeforeInTable : ByteArray := prog_4_method_7_code
def yS_isBeforeInTable : MethodName := ⟨"PairedField$Standing", "isBeforeInTable", "(II)Z"⟩
abbrev bS_playerAt : ByteArray := prog_4_method_8_code
def yS_playerAt : MethodName := ⟨"PairedField$Standing", "playerAt", "(II)I"⟩
abbrev bS_recount : ByteArray := prog_4_method_2_code
def yS_recount : MethodName := ⟨"PairedField$Standing", "recount", "([[II)V"⟩
def R_F : String := "PairedField"
def T_F : u_T := fun k => match k with
  | 0 => ("PairedField", "cells", "[[I", true)
  | 1 => ("PairedField", "present", "[Z", true)
  | 2 => ("PairedField", "apartFrom", "[I", true)
  | 3 => ("PairedField", "standing", "LPairedField$Standing;", true)
  | 4 => ("PairedField", "pairing", "LPairedField$Pairing;", true)
  | 5 => ("PairedField", "playerCount", "I", false)
  | 6 => ("PairedField", "closedRounds", "I", false)
  | _ => ("PairedField", "open", "Z", false)
def ty_F : Nat → FieldType := fun k => match k with
  | 0 => .array (.array .int)
  | 1 => .array .boolean
  | 2 => .array .int
  | 3 => .object "PairedField$Standing"
  | 4 => .object "PairedField$Pairing"
  | 5 => .int
  | 6 => .int
  | _ => .boolean
theorem nm_F : ∀ a, a < 8 → ∀ b, b < 8 → a ≠ b → (T_F a).2.1 ≠ (T_F b).2.1 := by decide +kernel
theorem tk_F : ∀ k, k < 8 → parseFieldDescriptor (T_F k).2.2.1 = some (ty_F k) := by decide +kernel
theorem in_F : ∀ x ∈ u_ws R_F T_F 8, x ∈ Ttab := by
  intro x hx
  have h : x ∈ ([.laysFinal "PairedField" "PairedField" "cells" "[[I", .laysFinal "PairedField" "PairedField" "present" "[Z", .laysFinal "PairedField" "PairedField" "apartFrom" "[I", .laysFinal "PairedField" "PairedField" "standing" "LPairedField$Standing;", .laysFinal "PairedField" "PairedField" "pairing" "LPairedField$Pairing;", .lays "PairedField" "PairedField" "playerCount" "I", .lays "PairedField" "PairedField" "closedRounds" "I", .lays "PairedField" "PairedField" "open" "Z"] : List Cond) := hx
  simp only [List.mem_cons, List.not_mem_nil, or_false] at h
  rcases h with rfl | rfl | rfl | rfl | rfl | rfl | rfl | rfl
  · exact t1_mem 113 rfl rfl
  · exact t1_mem 115 rfl rfl
  · exact t1_mem 117 rfl rfl
  · exact t1_mem 119 rfl rfl
  · exact t1_mem 121 rfl rfl
  · exact t1_mem 123 rfl rfl
  · exact t1_mem 125 rfl rfl
  · exact t1_mem 127 rfl rfl
def R_S : String := "PairedField$Standing"
def T_S : u_T := fun k => match k with
  | 0 => ("PairedField$Standing", "score", "[I", true)
  | 1 => ("PairedField$Standing", "balance", "[I", true)
  | 2 => ("PairedField$Standing", "buchholz", "[I", true)
  | 3 => ("PairedField$Standing", "berger", "[I", true)
  | 4 => ("PairedField$Standing", "wins", "[I", true)
  | 5 => ("PairedField$Standing", "byes", "[I", true)
  | 6 => ("PairedField$Standing", "games", "[I", true)
  | 7 => ("PairedField$Standing", "latest", "[I", true)
  | 8 => ("PairedField$Standing", "lastButOne", "[I", true)
  | _ => ("PairedField$Standing", "met", "[I", true)
def ty_S : Nat → FieldType := fun k => match k with
  | 0 => .array .int
  | 1 => .array .int
  | 2 => .array .int
  | 3 => .array .int
  | 4 => .array .int
  | 5 => .array .int
  | 6 => .array .int
  | 7 => .array .int
  | 8 => .array .int
  | _ => .array .int
theorem nm_S : ∀ a, a < 10 → ∀ b, b < 10 → a ≠ b → (T_S a).2.1 ≠ (T_S b).2.1 := by decide +kernel
theorem tk_S : ∀ k, k < 10 → parseFieldDescriptor (T_S k).2.2.1 = some (ty_S k) := by decide +kernel
theorem in_S : ∀ x ∈ u_ws R_S T_S 10, x ∈ Ttab := by
  intro x hx
  have h : x ∈ ([.laysFinal "PairedField$Standing" "PairedField$Standing" "score" "[I", .laysFinal "PairedField$Standing" "PairedField$Standing" "balance" "[I", .laysFinal "PairedField$Standing" "PairedField$Standing" "buchholz" "[I", .laysFinal "PairedField$Standing" "PairedField$Standing" "berger" "[I", .laysFinal "PairedField$Standing" "PairedField$Standing" "wins" "[I", .laysFinal "PairedField$Standing" "PairedField$Standing" "byes" "[I", .laysFinal "PairedField$Standing" "PairedField$Standing" "games" "[I", .laysFinal "PairedField$Standing" "PairedField$Standing" "latest" "[I", .laysFinal "PairedField$Standing" "PairedField$Standing" "lastButOne" "[I", .laysFinal "PairedField$Standing" "PairedField$Standing" "met" "[I"] : List Cond) := hx
  simp only [List.mem_cons, List.not_mem_nil, or_false] at h
  rcases h with rfl | rfl | rfl | rfl | rfl | rfl | rfl | rfl | rfl | rfl
  · exact t1_mem 50 rfl rfl
  · exact t1_mem 52 rfl rfl
  · exact t1_mem 54 rfl rfl
  · exact t1_mem 56 rfl rfl
  · exact t1_mem 58 rfl rfl
  · exact t1_mem 60 rfl rfl
  · exact t1_mem 62 rfl rfl
  · exact t1_mem 64 rfl rfl
  · exact t1_mem 66 rfl rfl
  · exact t1_mem 68 rfl rfl
def R_P : String := "PairedField$Pairing"
def T_P : u_T := fun k => match k with
  | 0 => ("PairedField$Pairing", "seated", "[I", true)
  | 1 => ("PairedField$Pairing", "seats", "I", false)
  | 2 => ("PairedField$Pairing", "byePlayer", "I", false)
  | 3 => ("PairedField$Pairing", "price", "[[I", true)
  | 4 => ("PairedField$Pairing", "least", "[I", true)
  | _ => ("PairedField$Pairing", "counted", "[I", true)
def ty_P : Nat → FieldType := fun k => match k with
  | 0 => .array .int
  | 1 => .int
  | 2 => .int
  | 3 => .array (.array .int)
  | 4 => .array .int
  | _ => .array .int
theorem nm_P : ∀ a, a < 6 → ∀ b, b < 6 → a ≠ b → (T_P a).2.1 ≠ (T_P b).2.1 := by decide +kernel
theorem tk_P : ∀ k, k < 6 → parseFieldDescriptor (T_P k).2.2.1 = some (ty_P k) := by decide +kernel
theorem in_P : ∀ x ∈ u_ws R_P T_P 6, x ∈ Ttab := by
  intro x hx
  have h : x ∈ ([.laysFinal "PairedField$Pairing" "PairedField$Pairing" "seated" "[I", .lays "PairedField$Pairing" "PairedField$Pairing" "seats" "I", .lays "PairedField$Pairing" "PairedField$Pairing" "byePlayer" "I", .laysFinal "PairedField$Pairing" "PairedField$Pairing" "price" "[[I", .laysFinal "PairedField$Pairing" "PairedField$Pairing" "least" "[I", .laysFinal "PairedField$Pairing" "PairedField$Pairing" "counted" "[I"] : List Cond) := hx
  simp only [List.mem_cons, List.not_mem_nil, or_false] at h
  rcases h with rfl | rfl | rfl | rfl | rfl | rfl
  · exact t1_mem 86 rfl rfl
  · exact t1_mem 88 rfl rfl
  · exact t1_mem 90 rfl rfl
  · exact t1_mem 92 rfl rfl
  · exact t1_mem 94 rfl rfl
  · exact t1_mem 96 rfl rfl
def R_M : String := "PairedFieldModel"
def T_M : u_T := fun k => match k with
  | 0 => ("PairedFieldModel", "thrown", "I", false)
  | 1 => ("PairedFieldModel", "players", "I", false)
  | 2 => ("PairedFieldModel", "in", "[Z", true)
  | 3 => ("PairedFieldModel", "kept", "[Z", true)
  | 4 => ("PairedFieldModel", "closed", "I", false)
  | 5 => ("PairedFieldModel", "open", "Z", false)
  | 6 => ("PairedFieldModel", "opponents", "[I", true)
  | 7 => ("PairedFieldModel", "whites", "[Z", true)
  | 8 => ("PairedFieldModel", "results", "[I", true)
  | 9 => ("PairedFieldModel", "many", "I", false)
  | 10 => ("PairedFieldModel", "order", "[I", true)
  | 11 => ("PairedFieldModel", "bye", "I", false)
  | 12 => ("PairedFieldModel", "costs", "[I", true)
  | 13 => ("PairedFieldModel", "best", "[I", true)
  | 14 => ("PairedFieldModel", "pick", "[I", true)
  | 15 => ("PairedFieldModel", "waysOf", "[I", true)
  | _ => ("PairedFieldModel", "places", "[I", true)
def ty_M : Nat → FieldType := fun k => match k with
  | 0 => .int
  | 1 => .int
  | 2 => .array .boolean
  | 3 => .array .boolean
  | 4 => .int
  | 5 => .boolean
  | 6 => .array .int
  | 7 => .array .boolean
  | 8 => .array .int
  | 9 => .int
  | 10 => .array .int
  | 11 => .int
  | 12 => .array .int
  | 13 => .array .int
  | 14 => .array .int
  | 15 => .array .int
  | _ => .array .int
theorem nm_M : ∀ a, a < 17 → ∀ b, b < 17 → a ≠ b → (T_M a).2.1 ≠ (T_M b).2.1 := by decide +kernel
theorem tk_M : ∀ k, k < 17 → parseFieldDescriptor (T_M k).2.2.1 = some (ty_M k) := by decide +kernel
theorem in_M : ∀ x ∈ u_ws R_M T_M 17, x ∈ Ttab := by
  intro x hx
  have h : x ∈ ([.lays "PairedFieldModel" "PairedFieldModel" "thrown" "I", .lays "PairedFieldModel" "PairedFieldModel" "players" "I", .laysFinal "PairedFieldModel" "PairedFieldModel" "in" "[Z", .laysFinal "PairedFieldModel" "PairedFieldModel" "kept" "[Z", .lays "PairedFieldModel" "PairedFieldModel" "closed" "I", .lays "PairedFieldModel" "PairedFieldModel" "open" "Z", .laysFinal "PairedFieldModel" "PairedFieldModel" "opponents" "[I", .laysFinal "PairedFieldModel" "PairedFieldModel" "whites" "[Z", .laysFinal "PairedFieldModel" "PairedFieldModel" "results" "[I", .lays "PairedFieldModel" "PairedFieldModel" "many" "I", .laysFinal "PairedFieldModel" "PairedFieldModel" "order" "[I", .lays "PairedFieldModel" "PairedFieldModel" "bye" "I", .laysFinal "PairedFieldModel" "PairedFieldModel" "costs" "[I", .laysFinal "PairedFieldModel" "PairedFieldModel" "best" "[I", .laysFinal "PairedFieldModel" "PairedFieldModel" "pick" "[I", .laysFinal "PairedFieldModel" "PairedFieldModel" "waysOf" "[I", .laysFinal "PairedFieldModel" "PairedFieldModel" "places" "[I"] : List Cond) := hx
  simp only [List.mem_cons, List.not_mem_nil, or_false] at h
  rcases h with rfl | rfl | rfl | rfl | rfl | rfl | rfl | rfl | rfl | rfl | rfl | rfl | rfl | rfl | rfl | rfl | rfl
  · exact t3_mem 132 rfl rfl
  · exact t3_mem 134 rfl rfl
  · exact t3_mem 136 rfl rfl
  · exact t3_mem 138 rfl rfl
  · exact t3_mem 140 rfl rfl
  · exact t3_mem 142 rfl rfl
  · exact t3_mem 144 rfl rfl
  · exact t3_mem 146 rfl rfl
  · exact t3_mem 148 rfl rfl
  · exact t3_mem 150 rfl rfl
  · exact t3_mem 152 rfl rfl
  · exact t3_mem 154 rfl rfl
  · exact t3_mem 156 rfl rfl
  · exact t3_mem 158 rfl rfl
  · exact t3_mem 160 rfl rfl
  · exact t3_mem 162 rfl rfl
  · exact t3_mem 164 rfl rfl
abbrev classes : List vw_C := [(R_F, T_F, 8), (R_S, T_S, 10), (R_P, T_P, 6), (R_M, T_M, 17)]
/-- where the cells stand; class numbers and slots; the array classes of int, boolean, int[], long -/
abbrev GG : Type := (Nat → Nat) × va_G × (ClassId × ClassId × ClassId × ClassId)
abbrev tysOf (g : GG) : List (ClassId × FieldType) := [(g.2.2.1, .int), (g.2.2.2.1, .boolean), (g.2.2.2.2.1, .array .int), (g.2.2.2.2.2, .long)]
abbrev Wd : Type := Nat → Nat → Int32
abbrev NC : Nat := 61
/-- how long an array of ints is; 0: the cell is none -/
def lenI (q : Nat) : Nat := if 2 ≤ q ∧ q < 18 then 12 else if q = 19 then 12 else if 21 ≤ q ∧ q < 31 then 12 else if q = 32 then 12 else if 34 ≤ q ∧ q < 46 then 12 else if q = 46 ∨ q = 47 then 2048 else if q = 51 ∨ q = 53 then 204 else if q = 54 ∨ q = 59 then 12 else if q = 55 then 144 else if q = 56 ∨ q = 57 ∨ q = 58 then 4096 else 0
def lenZ (q : Nat) : Nat := if q = 18 ∨ q = 49 then 12 else if q = 50 then 144 else if q = 52 then 204 else 0
def lenA (q : Nat) : Nat := if q = 1 then 16 else if q = 33 then 12 else 0
/-- what a cell is -/
def ent (g : GG) (f : Nat → Int32) (q : Nat) : va_E :=
  if 0 < lenI q then .inl (g.2.2.1, lenI q, .inl f)
  else if 0 < lenZ q then .inl (g.2.2.2.1, lenZ q, .inl f)
  else if 0 < lenA q then .inl (g.2.2.2.2.1, lenA q, .inr (.inr (.inr (.inr (fun j => some (g.1 (q + 1 + j)))))))
  else if q = 0 then .inr (0, [.ref (g.1 1), .ref (g.1 18), .ref (g.1 19), .ref (g.1 20), .ref (g.1 31), .int (f 5), .int (f 6), .int (f 7)])
  else if q = 20 then .inr (1, [.ref (g.1 21), .ref (g.1 22), .ref (g.1 23), .ref (g.1 24), .ref (g.1 25), .ref (g.1 26), .ref (g.1 27), .ref (g.1 28), .ref (g.1 29), .ref (g.1 30)])
  else if q = 31 then .inr (2, [.ref (g.1 32), .int (f 1), .int (f 2), .ref (g.1 33), .ref (g.1 46), .ref (g.1 47)])
  else if q = 48 then .inr (3, [.int (f 0), .int (f 1), .ref (g.1 49), .ref (g.1 50), .int (f 4), .int (f 5), .ref (g.1 51), .ref (g.1 52), .ref (g.1 53), .int (f 9), .ref (g.1 54), .int (f 11), .ref (g.1 55), .ref (g.1 56), .ref (g.1 57), .ref (g.1 58), .ref (g.1 59)])
  else .inl (g.2.2.2.2.2, 1, .inr (.inl (fun i => (f i).toInt64)))
def cellsOf (g : GG) (w : Wd) : va_W := (List.range NC).map (fun k => (g.1 k, ent g (w k) k))
theorem lenI_lt {q : Nat} (h : 0 < lenI q) : q < NC := by
  unfold lenI at h
  unfold NC
  split at h
  · omega
  · repeat (split at h; omega)
    exact absurd h (Nat.lt_irrefl 0)
theorem lenI_le (q : Nat) : lenI q ≤ 4096 := by
  unfold lenI
  repeat (split; omega)
  omega
theorem lenZ_le (q : Nat) : lenZ q ≤ 204 := by
  unfold lenZ
  repeat (split; omega)
  omega
theorem lenZ_lt {q : Nat} (h : 0 < lenZ q) : q < NC ∧ lenI q = 0 := by
  have hq : q = 18 ∨ q = 49 ∨ q = 50 ∨ q = 52 := by
    unfold lenZ at h
    split at h
    · omega
    · repeat (split at h; omega)
      exact absurd h (Nat.lt_irrefl 0)
  rcases hq with rfl | rfl | rfl | rfl <;> exact ⟨by decide, by decide⟩
theorem lenA_lt {q : Nat} (h : 0 < lenA q) : q < NC ∧ lenI q = 0 ∧ lenZ q = 0 := by
  have hq : q = 1 ∨ q = 33 := by
    unfold lenA at h
    split at h
    · omega
    · repeat (split at h; omega)
      exact absurd h (Nat.lt_irrefl 0)
  rcases hq with rfl | rfl <;> exact ⟨by decide, by decide, by decide⟩
theorem ent_I {q : Nat} (h : 0 < lenI q) (g : GG) (f : Nat → Int32) : q < NC ∧ ent g f q = .inl (g.2.2.1, lenI q, .inl f) := ⟨lenI_lt h, by unfold ent; rw [if_pos h]⟩
theorem ent_Z {q : Nat} (h : 0 < lenZ q) (g : GG) (f : Nat → Int32) : q < NC ∧ ent g f q = .inl (g.2.2.2.1, lenZ q, .inl f) := by
  obtain ⟨h1, h2⟩ := lenZ_lt h
  refine ⟨h1, ?_⟩
  unfold ent
  rw [if_neg (by omega), if_pos h]
theorem ent_A {q : Nat} (h : 0 < lenA q) (g : GG) (f : Nat → Int32) : q < NC ∧ ent g f q = .inl (g.2.2.2.2.1, lenA q, .inr (.inr (.inr (.inr (fun j => some (g.1 (q + 1 + j))))))) := by
  obtain ⟨h1, h2, h3⟩ := lenA_lt h
  refine ⟨h1, ?_⟩
  unfold ent
  rw [if_neg (by omega), if_neg (by omega), if_pos h]
theorem ent_F (g : GG) (f : Nat → Int32) : ent g f 0 = .inr (0, [.ref (g.1 1), .ref (g.1 18), .ref (g.1 19), .ref (g.1 20), .ref (g.1 31), .int (f 5), .int (f 6), .int (f 7)]) := rfl
theorem ent_S (g : GG) (f : Nat → Int32) : ent g f 20 = .inr (1, [.ref (g.1 21), .ref (g.1 22), .ref (g.1 23), .ref (g.1 24), .ref (g.1 25), .ref (g.1 26), .ref (g.1 27), .ref (g.1 28), .ref (g.1 29), .ref (g.1 30)]) := rfl
theorem ent_P (g : GG) (f : Nat → Int32) : ent g f 31 = .inr (2, [.ref (g.1 32), .int (f 1), .int (f 2), .ref (g.1 33), .ref (g.1 46), .ref (g.1 47)]) := rfl
theorem ent_M (g : GG) (f : Nat → Int32) : ent g f 48 = .inr (3, [.int (f 0), .int (f 1), .ref (g.1 49), .ref (g.1 50), .int (f 4), .int (f 5), .ref (g.1 51), .ref (g.1 52), .ref (g.1 53), .int (f 9), .ref (g.1 54), .int (f 11), .ref (g.1 55), .ref (g.1 56), .ref (g.1 57), .ref (g.1 58), .ref (g.1 59)]) := rfl
theorem ent_out (g : GG) (f : Nat → Int32) : ent g f 60 = .inl (g.2.2.2.2.2, 1, .inr (.inl (fun i => (f i).toInt64))) := rfl
end
section
theorem dA_fill_0 : decode bA_fill 0 = .ok (.iconst 0, 1) := by decide +kernel
theorem dA_fill_1 : decode bA_fill 1 = .ok (.istore_n 2, 1) := by decide +kernel
theorem dA_fill_2 : decode bA_fill 2 = .ok (.aload_n 0, 1) := by decide +kernel
theorem dA_fill_3 : decode bA_fill 3 = .ok (.arraylength, 1) := by decide +kernel
theorem dA_fill_4 : decode bA_fill 4 = .ok (.istore_n 3, 1) := by decide +kernel
theorem dA_fill_5 : decode bA_fill 5 = .ok (.iload_n 2, 1) := by decide +kernel
theorem dA_fill_6 : decode bA_fill 6 = .ok (.iload_n 3, 1) := by decide +kernel
theorem dA_fill_7 : decode bA_fill 7 = .ok (.if_icmp .ge 13, 3) := by decide +kernel
theorem dA_fill_10 : decode bA_fill 10 = .ok (.aload_n 0, 1) := by decide +kernel
theorem dA_fill_11 : decode bA_fill 11 = .ok (.iload_n 2, 1) := by decide +kernel
theorem dA_fill_12 : decode bA_fill 12 = .ok (.iload_n 1, 1) := by decide +kernel
theorem dA_fill_13 : decode bA_fill 13 = .ok (.iastore, 1) := by decide +kernel
theorem dA_fill_14 : decode bA_fill 14 = .ok (.iinc 2 1, 3) := by decide +kernel
theorem dA_fill_17 : decode bA_fill 17 = .ok (.goto (-12), 3) := by decide +kernel
theorem dA_fill_20 : decode bA_fill 20 = .ok (.return_, 1) := by decide +kernel
theorem dC_colourIn_0 : decode bC_colourIn 0 = .ok (.iload_n 0, 1) := by decide +kernel
theorem dC_colourIn_1 : decode bC_colourIn 1 = .ok (.bipush 16, 2) := by decide +kernel
theorem dC_colourIn_3 : decode bC_colourIn 3 = .ok (.iand, 1) := by decide +kernel
theorem dC_colourIn_4 : decode bC_colourIn 4 = .ok (.ifCond .eq 7, 3) := by decide +kernel
theorem dC_colourIn_7 : decode bC_colourIn 7 = .ok (.iconst 1, 1) := by decide +kernel
theorem dC_colourIn_8 : decode bC_colourIn 8 = .ok (.goto 4, 3) := by decide +kernel
theorem dC_colourIn_11 : decode bC_colourIn 11 = .ok (.iconst (-1), 1) := by decide +kernel
theorem dC_colourIn_12 : decode bC_colourIn 12 = .ok (.ireturn, 1) := by decide +kernel
theorem dC_isGame_0 : decode bC_isGame 0 = .ok (.iload_n 0, 1) := by decide +kernel
theorem dC_isGame_1 : decode bC_isGame 1 = .ok (.iconst (-1), 1) := by decide +kernel
theorem dC_isGame_2 : decode bC_isGame 2 = .ok (.if_icmp .eq 13, 3) := by decide +kernel
theorem dC_isGame_5 : decode bC_isGame 5 = .ok (.iload_n 0, 1) := by decide +kernel
theorem dC_isGame_6 : decode bC_isGame 6 = .ok (.bipush 76, 2) := by decide +kernel
theorem dC_isGame_8 : decode bC_isGame 8 = .ok (.if_icmp .eq 7, 3) := by decide +kernel
theorem dC_isGame_11 : decode bC_isGame 11 = .ok (.iconst 1, 1) := by decide +kernel
theorem dC_isGame_12 : decode bC_isGame 12 = .ok (.goto 4, 3) := by decide +kernel
theorem dC_isGame_15 : decode bC_isGame 15 = .ok (.iconst 0, 1) := by decide +kernel
theorem dC_isGame_16 : decode bC_isGame 16 = .ok (.ireturn, 1) := by decide +kernel
theorem dC_isUntold_0 : decode bC_isUntold 0 = .ok (.iload_n 0, 1) := by decide +kernel
theorem dC_isUntold_1 : decode bC_isUntold 1 = .ok (.invokestatic 15, 3) := by decide +kernel
theorem dC_isUntold_4 : decode bC_isUntold 4 = .ok (.ifCond .eq 15, 3) := by decide +kernel
theorem dC_isUntold_7 : decode bC_isUntold 7 = .ok (.iload_n 0, 1) := by decide +kernel
theorem dC_isUntold_8 : decode bC_isUntold 8 = .ok (.invokestatic 19, 3) := by decide +kernel
theorem dC_isUntold_11 : decode bC_isUntold 11 = .ok (.iconst 3, 1) := by decide +kernel
theorem dC_isUntold_12 : decode bC_isUntold 12 = .ok (.if_icmp .ne 7, 3) := by decide +kernel
theorem dC_isUntold_15 : decode bC_isUntold 15 = .ok (.iconst 1, 1) := by decide +kernel
theorem dC_isUntold_16 : decode bC_isUntold 16 = .ok (.goto 4, 3) := by decide +kernel
theorem dC_isUntold_19 : decode bC_isUntold 19 = .ok (.iconst 0, 1) := by decide +kernel
theorem dC_isUntold_20 : decode bC_isUntold 20 = .ok (.ireturn, 1) := by decide +kernel
theorem dC_opponentIn_0 : decode bC_opponentIn 0 = .ok (.iload_n 0, 1) := by decide +kernel
theorem dC_opponentIn_1 : decode bC_opponentIn 1 = .ok (.bipush 15, 2) := by decide +kernel
theorem dC_opponentIn_3 : decode bC_opponentIn 3 = .ok (.iand, 1) := by decide +kernel
theorem dC_opponentIn_4 : decode bC_opponentIn 4 = .ok (.ireturn, 1) := by decide +kernel
theorem dC_resultIn_0 : decode bC_resultIn 0 = .ok (.iload_n 0, 1) := by decide +kernel
theorem dC_resultIn_1 : decode bC_resultIn 1 = .ok (.iconst 5, 1) := by decide +kernel
theorem dC_resultIn_2 : decode bC_resultIn 2 = .ok (.ishr, 1) := by decide +kernel
theorem dC_resultIn_3 : decode bC_resultIn 3 = .ok (.ireturn, 1) := by decide +kernel
theorem dC_untoldGame_0 : decode bC_untoldGame 0 = .ok (.iload_n 0, 1) := by decide +kernel
theorem dC_untoldGame_1 : decode bC_untoldGame 1 = .ok (.iload_n 1, 1) := by decide +kernel
theorem dC_untoldGame_2 : decode bC_untoldGame 2 = .ok (.iconst 1, 1) := by decide +kernel
theorem dC_untoldGame_3 : decode bC_untoldGame 3 = .ok (.if_icmp .ne 8, 3) := by decide +kernel
theorem dC_untoldGame_6 : decode bC_untoldGame 6 = .ok (.bipush 16, 2) := by decide +kernel
theorem dC_untoldGame_8 : decode bC_untoldGame 8 = .ok (.goto 4, 3) := by decide +kernel
theorem dC_untoldGame_11 : decode bC_untoldGame 11 = .ok (.iconst 0, 1) := by decide +kernel
theorem dC_untoldGame_12 : decode bC_untoldGame 12 = .ok (.iadd, 1) := by decide +kernel
theorem dC_untoldGame_13 : decode bC_untoldGame 13 = .ok (.iconst 3, 1) := by decide +kernel
theorem dC_untoldGame_14 : decode bC_untoldGame 14 = .ok (.invokestatic 11, 3) := by decide +kernel
theorem dC_untoldGame_17 : decode bC_untoldGame 17 = .ok (.ireturn, 1) := by decide +kernel
theorem dC_withResult_0 : decode bC_withResult 0 = .ok (.iload_n 0, 1) := by decide +kernel
theorem dC_withResult_1 : decode bC_withResult 1 = .ok (.bipush 31, 2) := by decide +kernel
theorem dC_withResult_3 : decode bC_withResult 3 = .ok (.iand, 1) := by decide +kernel
theorem dC_withResult_4 : decode bC_withResult 4 = .ok (.iload_n 1, 1) := by decide +kernel
theorem dC_withResult_5 : decode bC_withResult 5 = .ok (.iconst 5, 1) := by decide +kernel
theorem dC_withResult_6 : decode bC_withResult 6 = .ok (.ishl, 1) := by decide +kernel
theorem dC_withResult_7 : decode bC_withResult 7 = .ok (.iadd, 1) := by decide +kernel
theorem dC_withResult_8 : decode bC_withResult 8 = .ok (.ireturn, 1) := by decide +kernel
theorem dH_max_0 : decode bH_max 0 = .ok (.iload_n 0, 1) := by decide +kernel
theorem dH_max_1 : decode bH_max 1 = .ok (.iload_n 1, 1) := by decide +kernel
theorem dH_max_2 : decode bH_max 2 = .ok (.if_icmp .lt 7, 3) := by decide +kernel
theorem dH_max_5 : decode bH_max 5 = .ok (.iload_n 0, 1) := by decide +kernel
theorem dH_max_6 : decode bH_max 6 = .ok (.goto 4, 3) := by decide +kernel
theorem dH_max_9 : decode bH_max 9 = .ok (.iload_n 1, 1) := by decide +kernel
theorem dH_max_10 : decode bH_max 10 = .ok (.ireturn, 1) := by decide +kernel
theorem dH_min_0 : decode bH_min 0 = .ok (.iload_n 0, 1) := by decide +kernel
theorem dH_min_1 : decode bH_min 1 = .ok (.iload_n 1, 1) := by decide +kernel
theorem dH_min_2 : decode bH_min 2 = .ok (.if_icmp .gt 7, 3) := by decide +kernel
theorem dH_min_5 : decode bH_min 5 = .ok (.iload_n 0, 1) := by decide +kernel
theorem dH_min_6 : decode bH_min 6 = .ok (.goto 4, 3) := by decide +kernel
theorem dH_min_9 : decode bH_min 9 = .ok (.iload_n 1, 1) := by decide +kernel
theorem dH_min_10 : decode bH_min 10 = .ok (.ireturn, 1) := by decide +kernel
theorem dI_bitCount_0 : decode bI_bitCount 0 = .ok (.iload_n 0, 1) := by decide +kernel
theorem dI_bitCount_1 : decode bI_bitCount 1 = .ok (.iload_n 0, 1) := by decide +kernel
theorem dI_bitCount_2 : decode bI_bitCount 2 = .ok (.iconst 1, 1) := by decide +kernel
theorem dI_bitCount_3 : decode bI_bitCount 3 = .ok (.iushr, 1) := by decide +kernel
theorem dI_bitCount_4 : decode bI_bitCount 4 = .ok (.ldc_w 265, 3) := by decide +kernel
theorem dI_bitCount_7 : decode bI_bitCount 7 = .ok (.iand, 1) := by decide +kernel
theorem dI_bitCount_8 : decode bI_bitCount 8 = .ok (.isub, 1) := by decide +kernel
theorem dI_bitCount_9 : decode bI_bitCount 9 = .ok (.istore_n 0, 1) := by decide +kernel
theorem dI_bitCount_10 : decode bI_bitCount 10 = .ok (.iload_n 0, 1) := by decide +kernel
theorem dI_bitCount_11 : decode bI_bitCount 11 = .ok (.ldc_w 266, 3) := by decide +kernel
theorem dI_bitCount_14 : decode bI_bitCount 14 = .ok (.iand, 1) := by decide +kernel
theorem dI_bitCount_15 : decode bI_bitCount 15 = .ok (.iload_n 0, 1) := by decide +kernel
theorem dI_bitCount_16 : decode bI_bitCount 16 = .ok (.iconst 2, 1) := by decide +kernel
theorem dI_bitCount_17 : decode bI_bitCount 17 = .ok (.iushr, 1) := by decide +kernel
theorem dI_bitCount_18 : decode bI_bitCount 18 = .ok (.ldc_w 266, 3) := by decide +kernel
theorem dI_bitCount_21 : decode bI_bitCount 21 = .ok (.iand, 1) := by decide +kernel
theorem dI_bitCount_22 : decode bI_bitCount 22 = .ok (.iadd, 1) := by decide +kernel
theorem dI_bitCount_23 : decode bI_bitCount 23 = .ok (.istore_n 0, 1) := by decide +kernel
theorem dI_bitCount_24 : decode bI_bitCount 24 = .ok (.iload_n 0, 1) := by decide +kernel
theorem dI_bitCount_25 : decode bI_bitCount 25 = .ok (.iload_n 0, 1) := by decide +kernel
theorem dI_bitCount_26 : decode bI_bitCount 26 = .ok (.iconst 4, 1) := by decide +kernel
theorem dI_bitCount_27 : decode bI_bitCount 27 = .ok (.iushr, 1) := by decide +kernel
theorem dI_bitCount_28 : decode bI_bitCount 28 = .ok (.iadd, 1) := by decide +kernel
theorem dI_bitCount_29 : decode bI_bitCount 29 = .ok (.ldc_w 267, 3) := by decide +kernel
theorem dI_bitCount_32 : decode bI_bitCount 32 = .ok (.iand, 1) := by decide +kernel
theorem dI_bitCount_33 : decode bI_bitCount 33 = .ok (.istore_n 0, 1) := by decide +kernel
theorem dI_bitCount_34 : decode bI_bitCount 34 = .ok (.iload_n 0, 1) := by decide +kernel
theorem dI_bitCount_35 : decode bI_bitCount 35 = .ok (.iload_n 0, 1) := by decide +kernel
theorem dI_bitCount_36 : decode bI_bitCount 36 = .ok (.bipush 8, 2) := by decide +kernel
theorem dI_bitCount_38 : decode bI_bitCount 38 = .ok (.iushr, 1) := by decide +kernel
theorem dI_bitCount_39 : decode bI_bitCount 39 = .ok (.iadd, 1) := by decide +kernel
theorem dI_bitCount_40 : decode bI_bitCount 40 = .ok (.istore_n 0, 1) := by decide +kernel
theorem dI_bitCount_41 : decode bI_bitCount 41 = .ok (.iload_n 0, 1) := by decide +kernel
theorem dI_bitCount_42 : decode bI_bitCount 42 = .ok (.iload_n 0, 1) := by decide +kernel
theorem dI_bitCount_43 : decode bI_bitCount 43 = .ok (.bipush 16, 2) := by decide +kernel
theorem dI_bitCount_45 : decode bI_bitCount 45 = .ok (.iushr, 1) := by decide +kernel
theorem dI_bitCount_46 : decode bI_bitCount 46 = .ok (.iadd, 1) := by decide +kernel
theorem dI_bitCount_47 : decode bI_bitCount 47 = .ok (.istore_n 0, 1) := by decide +kernel
theorem dI_bitCount_48 : decode bI_bitCount 48 = .ok (.iload_n 0, 1) := by decide +kernel
theorem dI_bitCount_49 : decode bI_bitCount 49 = .ok (.bipush 63, 2) := by decide +kernel
theorem dI_bitCount_51 : decode bI_bitCount 51 = .ok (.iand, 1) := by decide +kernel
theorem dI_bitCount_52 : decode bI_bitCount 52 = .ok (.ireturn, 1) := by decide +kernel
theorem dI_numberOfTrailingZeros_0 : decode bI_numberOfTrailingZeros 0 = .ok (.iload_n 0, 1) := by decide +kernel
theorem dI_numberOfTrailingZeros_1 : decode bI_numberOfTrailingZeros 1 = .ok (.iconst (-1), 1) := by decide +kernel
theorem dI_numberOfTrailingZeros_2 : decode bI_numberOfTrailingZeros 2 = .ok (.ixor, 1) := by decide +kernel
theorem dI_numberOfTrailingZeros_3 : decode bI_numberOfTrailingZeros 3 = .ok (.iload_n 0, 1) := by decide +kernel
theorem dI_numberOfTrailingZeros_4 : decode bI_numberOfTrailingZeros 4 = .ok (.iconst 1, 1) := by decide +kernel
theorem dI_numberOfTrailingZeros_5 : decode bI_numberOfTrailingZeros 5 = .ok (.isub, 1) := by decide +kernel
theorem dI_numberOfTrailingZeros_6 : decode bI_numberOfTrailingZeros 6 = .ok (.iand, 1) := by decide +kernel
theorem dI_numberOfTrailingZeros_7 : decode bI_numberOfTrailingZeros 7 = .ok (.istore_n 0, 1) := by decide +kernel
theorem dI_numberOfTrailingZeros_8 : decode bI_numberOfTrailingZeros 8 = .ok (.iload_n 0, 1) := by decide +kernel
theorem dI_numberOfTrailingZeros_9 : decode bI_numberOfTrailingZeros 9 = .ok (.ifCond .gt 8, 3) := by decide +kernel
theorem dI_numberOfTrailingZeros_12 : decode bI_numberOfTrailingZeros 12 = .ok (.iload_n 0, 1) := by decide +kernel
theorem dI_numberOfTrailingZeros_13 : decode bI_numberOfTrailingZeros 13 = .ok (.bipush 32, 2) := by decide +kernel
theorem dI_numberOfTrailingZeros_15 : decode bI_numberOfTrailingZeros 15 = .ok (.iand, 1) := by decide +kernel
theorem dI_numberOfTrailingZeros_16 : decode bI_numberOfTrailingZeros 16 = .ok (.ireturn, 1) := by decide +kernel
theorem dI_numberOfTrailingZeros_17 : decode bI_numberOfTrailingZeros 17 = .ok (.iconst 1, 1) := by decide +kernel
theorem dI_numberOfTrailingZeros_18 : decode bI_numberOfTrailingZeros 18 = .ok (.istore_n 1, 1) := by decide +kernel
theorem dI_numberOfTrailingZeros_19 : decode bI_numberOfTrailingZeros 19 = .ok (.iload_n 0, 1) := by decide +kernel
theorem dI_numberOfTrailingZeros_20 : decode bI_numberOfTrailingZeros 20 = .ok (.ldc_w 264, 3) := by decide +kernel
theorem dI_numberOfTrailingZeros_23 : decode bI_numberOfTrailingZeros 23 = .ok (.if_icmp .le 11, 3) := by decide +kernel
theorem dI_numberOfTrailingZeros_26 : decode bI_numberOfTrailingZeros 26 = .ok (.iinc 1 16, 3) := by decide +kernel
theorem dI_numberOfTrailingZeros_29 : decode bI_numberOfTrailingZeros 29 = .ok (.iload_n 0, 1) := by decide +kernel
theorem dI_numberOfTrailingZeros_30 : decode bI_numberOfTrailingZeros 30 = .ok (.bipush 16, 2) := by decide +kernel
theorem dI_numberOfTrailingZeros_32 : decode bI_numberOfTrailingZeros 32 = .ok (.iushr, 1) := by decide +kernel
theorem dI_numberOfTrailingZeros_33 : decode bI_numberOfTrailingZeros 33 = .ok (.istore_n 0, 1) := by decide +kernel
theorem dI_numberOfTrailingZeros_34 : decode bI_numberOfTrailingZeros 34 = .ok (.iload_n 0, 1) := by decide +kernel
theorem dI_numberOfTrailingZeros_35 : decode bI_numberOfTrailingZeros 35 = .ok (.sipush 256, 3) := by decide +kernel
theorem dI_numberOfTrailingZeros_38 : decode bI_numberOfTrailingZeros 38 = .ok (.if_icmp .le 11, 3) := by decide +kernel
theorem dI_numberOfTrailingZeros_41 : decode bI_numberOfTrailingZeros 41 = .ok (.iinc 1 8, 3) := by decide +kernel
theorem dI_numberOfTrailingZeros_44 : decode bI_numberOfTrailingZeros 44 = .ok (.iload_n 0, 1) := by decide +kernel
theorem dI_numberOfTrailingZeros_45 : decode bI_numberOfTrailingZeros 45 = .ok (.bipush 8, 2) := by decide +kernel
theorem dI_numberOfTrailingZeros_47 : decode bI_numberOfTrailingZeros 47 = .ok (.iushr, 1) := by decide +kernel
theorem dI_numberOfTrailingZeros_48 : decode bI_numberOfTrailingZeros 48 = .ok (.istore_n 0, 1) := by decide +kernel
theorem dI_numberOfTrailingZeros_49 : decode bI_numberOfTrailingZeros 49 = .ok (.iload_n 0, 1) := by decide +kernel
theorem dI_numberOfTrailingZeros_50 : decode bI_numberOfTrailingZeros 50 = .ok (.bipush 16, 2) := by decide +kernel
theorem dI_numberOfTrailingZeros_52 : decode bI_numberOfTrailingZeros 52 = .ok (.if_icmp .le 10, 3) := by decide +kernel
theorem dI_numberOfTrailingZeros_55 : decode bI_numberOfTrailingZeros 55 = .ok (.iinc 1 4, 3) := by decide +kernel
theorem dI_numberOfTrailingZeros_58 : decode bI_numberOfTrailingZeros 58 = .ok (.iload_n 0, 1) := by decide +kernel
theorem dI_numberOfTrailingZeros_59 : decode bI_numberOfTrailingZeros 59 = .ok (.iconst 4, 1) := by decide +kernel
theorem dI_numberOfTrailingZeros_60 : decode bI_numberOfTrailingZeros 60 = .ok (.iushr, 1) := by decide +kernel
theorem dI_numberOfTrailingZeros_61 : decode bI_numberOfTrailingZeros 61 = .ok (.istore_n 0, 1) := by decide +kernel
theorem dI_numberOfTrailingZeros_62 : decode bI_numberOfTrailingZeros 62 = .ok (.iload_n 0, 1) := by decide +kernel
theorem dI_numberOfTrailingZeros_63 : decode bI_numberOfTrailingZeros 63 = .ok (.iconst 4, 1) := by decide +kernel
theorem dI_numberOfTrailingZeros_64 : decode bI_numberOfTrailingZeros 64 = .ok (.if_icmp .le 10, 3) := by decide +kernel
theorem dI_numberOfTrailingZeros_67 : decode bI_numberOfTrailingZeros 67 = .ok (.iinc 1 2, 3) := by decide +kernel
theorem dI_numberOfTrailingZeros_70 : decode bI_numberOfTrailingZeros 70 = .ok (.iload_n 0, 1) := by decide +kernel
theorem dI_numberOfTrailingZeros_71 : decode bI_numberOfTrailingZeros 71 = .ok (.iconst 2, 1) := by decide +kernel
theorem dI_numberOfTrailingZeros_72 : decode bI_numberOfTrailingZeros 72 = .ok (.iushr, 1) := by decide +kernel
theorem dI_numberOfTrailingZeros_73 : decode bI_numberOfTrailingZeros 73 = .ok (.istore_n 0, 1) := by decide +kernel
theorem dI_numberOfTrailingZeros_74 : decode bI_numberOfTrailingZeros 74 = .ok (.iload_n 1, 1) := by decide +kernel
theorem dI_numberOfTrailingZeros_75 : decode bI_numberOfTrailingZeros 75 = .ok (.iload_n 0, 1) := by decide +kernel
theorem dI_numberOfTrailingZeros_76 : decode bI_numberOfTrailingZeros 76 = .ok (.iconst 1, 1) := by decide +kernel
theorem dI_numberOfTrailingZeros_77 : decode bI_numberOfTrailingZeros 77 = .ok (.iushr, 1) := by decide +kernel
theorem dI_numberOfTrailingZeros_78 : decode bI_numberOfTrailingZeros 78 = .ok (.iadd, 1) := by decide +kernel
theorem dI_numberOfTrailingZeros_79 : decode bI_numberOfTrailingZeros 79 = .ok (.ireturn, 1) := by decide +kernel
theorem dP_allSeats_0 : decode bP_allSeats 0 = .ok (.iconst 1, 1) := by decide +kernel
theorem dP_allSeats_1 : decode bP_allSeats 1 = .ok (.aload_n 0, 1) := by decide +kernel
theorem dP_allSeats_2 : decode bP_allSeats 2 = .ok (.getfield 44, 3) := by decide +kernel
theorem dP_allSeats_5 : decode bP_allSeats 5 = .ok (.ishl, 1) := by decide +kernel
theorem dP_allSeats_6 : decode bP_allSeats 6 = .ok (.iconst 1, 1) := by decide +kernel
theorem dP_allSeats_7 : decode bP_allSeats 7 = .ok (.isub, 1) := by decide +kernel
theorem dP_allSeats_8 : decode bP_allSeats 8 = .ok (.ireturn, 1) := by decide +kernel
theorem dP_bestPartner_0 : decode bP_bestPartner 0 = .ok (.iload_n 2, 1) := by decide +kernel
theorem dP_bestPartner_1 : decode bP_bestPartner 1 = .ok (.iconst 1, 1) := by decide +kernel
theorem dP_bestPartner_2 : decode bP_bestPartner 2 = .ok (.iadd, 1) := by decide +kernel
theorem dP_bestPartner_3 : decode bP_bestPartner 3 = .ok (.istore_n 3, 1) := by decide +kernel
theorem dP_bestPartner_4 : decode bP_bestPartner 4 = .ok (.iload_n 3, 1) := by decide +kernel
theorem dP_bestPartner_5 : decode bP_bestPartner 5 = .ok (.aload_n 0, 1) := by decide +kernel
theorem dP_bestPartner_6 : decode bP_bestPartner 6 = .ok (.getfield 44, 3) := by decide +kernel
theorem dP_bestPartner_9 : decode bP_bestPartner 9 = .ok (.if_icmp .ge 70, 3) := by decide +kernel
theorem dP_bestPartner_12 : decode bP_bestPartner 12 = .ok (.iload_n 1, 1) := by decide +kernel
theorem dP_bestPartner_13 : decode bP_bestPartner 13 = .ok (.iload_n 2, 1) := by decide +kernel
theorem dP_bestPartner_14 : decode bP_bestPartner 14 = .ok (.iload_n 3, 1) := by decide +kernel
theorem dP_bestPartner_15 : decode bP_bestPartner 15 = .ok (.invokestatic 87, 3) := by decide +kernel
theorem dP_bestPartner_18 : decode bP_bestPartner 18 = .ok (.invokestatic 54, 3) := by decide +kernel
theorem dP_bestPartner_21 : decode bP_bestPartner 21 = .ok (.istore 4, 2) := by decide +kernel
theorem dP_bestPartner_23 : decode bP_bestPartner 23 = .ok (.aload_n 0, 1) := by decide +kernel
theorem dP_bestPartner_24 : decode bP_bestPartner 24 = .ok (.iload_n 1, 1) := by decide +kernel
theorem dP_bestPartner_25 : decode bP_bestPartner 25 = .ok (.iload_n 2, 1) := by decide +kernel
theorem dP_bestPartner_26 : decode bP_bestPartner 26 = .ok (.iload_n 3, 1) := by decide +kernel
theorem dP_bestPartner_27 : decode bP_bestPartner 27 = .ok (.invokevirtual 118, 3) := by decide +kernel
theorem dP_bestPartner_30 : decode bP_bestPartner 30 = .ok (.ifCond .eq 43, 3) := by decide +kernel
theorem dP_bestPartner_33 : decode bP_bestPartner 33 = .ok (.aload_n 0, 1) := by decide +kernel
theorem dP_bestPartner_34 : decode bP_bestPartner 34 = .ok (.getfield 27, 3) := by decide +kernel
theorem dP_bestPartner_37 : decode bP_bestPartner 37 = .ok (.iload 4, 2) := by decide +kernel
theorem dP_bestPartner_39 : decode bP_bestPartner 39 = .ok (.iaload, 1) := by decide +kernel
theorem dP_bestPartner_40 : decode bP_bestPartner 40 = .ok (.ifCond .le 33, 3) := by decide +kernel
theorem dP_bestPartner_43 : decode bP_bestPartner 43 = .ok (.aload_n 0, 1) := by decide +kernel
theorem dP_bestPartner_44 : decode bP_bestPartner 44 = .ok (.getfield 21, 3) := by decide +kernel
theorem dP_bestPartner_47 : decode bP_bestPartner 47 = .ok (.iload_n 2, 1) := by decide +kernel
theorem dP_bestPartner_48 : decode bP_bestPartner 48 = .ok (.aaload, 1) := by decide +kernel
theorem dP_bestPartner_49 : decode bP_bestPartner 49 = .ok (.iload_n 3, 1) := by decide +kernel
theorem dP_bestPartner_50 : decode bP_bestPartner 50 = .ok (.iaload, 1) := by decide +kernel
theorem dP_bestPartner_51 : decode bP_bestPartner 51 = .ok (.aload_n 0, 1) := by decide +kernel
theorem dP_bestPartner_52 : decode bP_bestPartner 52 = .ok (.getfield 24, 3) := by decide +kernel
theorem dP_bestPartner_55 : decode bP_bestPartner 55 = .ok (.iload 4, 2) := by decide +kernel
theorem dP_bestPartner_57 : decode bP_bestPartner 57 = .ok (.iaload, 1) := by decide +kernel
theorem dP_bestPartner_58 : decode bP_bestPartner 58 = .ok (.iadd, 1) := by decide +kernel
theorem dP_bestPartner_59 : decode bP_bestPartner 59 = .ok (.aload_n 0, 1) := by decide +kernel
theorem dP_bestPartner_60 : decode bP_bestPartner 60 = .ok (.getfield 24, 3) := by decide +kernel
theorem dP_bestPartner_63 : decode bP_bestPartner 63 = .ok (.iload_n 1, 1) := by decide +kernel
theorem dP_bestPartner_64 : decode bP_bestPartner 64 = .ok (.invokestatic 54, 3) := by decide +kernel
theorem dP_bestPartner_67 : decode bP_bestPartner 67 = .ok (.iaload, 1) := by decide +kernel
theorem dP_bestPartner_68 : decode bP_bestPartner 68 = .ok (.if_icmp .ne 5, 3) := by decide +kernel
theorem dP_bestPartner_71 : decode bP_bestPartner 71 = .ok (.iload_n 3, 1) := by decide +kernel
theorem dP_bestPartner_72 : decode bP_bestPartner 72 = .ok (.ireturn, 1) := by decide +kernel
theorem dP_bestPartner_73 : decode bP_bestPartner 73 = .ok (.iinc 3 1, 3) := by decide +kernel
theorem dP_bestPartner_76 : decode bP_bestPartner 76 = .ok (.goto (-72), 3) := by decide +kernel
theorem dP_bestPartner_79 : decode bP_bestPartner 79 = .ok (.iload_n 2, 1) := by decide +kernel
theorem dP_bestPartner_80 : decode bP_bestPartner 80 = .ok (.ireturn, 1) := by decide +kernel
theorem dP_canBeLeft_0 : decode bP_canBeLeft 0 = .ok (.aload_n 0, 1) := by decide +kernel
theorem dP_canBeLeft_1 : decode bP_canBeLeft 1 = .ok (.getfield 44, 3) := by decide +kernel
theorem dP_canBeLeft_4 : decode bP_canBeLeft 4 = .ok (.iload_n 1, 1) := by decide +kernel
theorem dP_canBeLeft_5 : decode bP_canBeLeft 5 = .ok (.invokestatic 127, 3) := by decide +kernel
theorem dP_canBeLeft_8 : decode bP_canBeLeft 8 = .ok (.isub, 1) := by decide +kernel
theorem dP_canBeLeft_9 : decode bP_canBeLeft 9 = .ok (.iconst 2, 1) := by decide +kernel
theorem dP_canBeLeft_10 : decode bP_canBeLeft 10 = .ok (.idiv, 1) := by decide +kernel
theorem dP_canBeLeft_11 : decode bP_canBeLeft 11 = .ok (.istore_n 2, 1) := by decide +kernel
theorem dP_canBeLeft_12 : decode bP_canBeLeft 12 = .ok (.iload_n 2, 1) := by decide +kernel
theorem dP_canBeLeft_13 : decode bP_canBeLeft 13 = .ok (.iload_n 1, 1) := by decide +kernel
theorem dP_canBeLeft_14 : decode bP_canBeLeft 14 = .ok (.invokestatic 69, 3) := by decide +kernel
theorem dP_canBeLeft_17 : decode bP_canBeLeft 17 = .ok (.if_icmp .gt 7, 3) := by decide +kernel
theorem dP_canBeLeft_20 : decode bP_canBeLeft 20 = .ok (.iconst 1, 1) := by decide +kernel
theorem dP_canBeLeft_21 : decode bP_canBeLeft 21 = .ok (.goto 4, 3) := by decide +kernel
theorem dP_canBeLeft_24 : decode bP_canBeLeft 24 = .ok (.iconst 0, 1) := by decide +kernel
theorem dP_canBeLeft_25 : decode bP_canBeLeft 25 = .ok (.ireturn, 1) := by decide +kernel
theorem dP_chooseBye_0 : decode bP_chooseBye 0 = .ok (.iconst 0, 1) := by decide +kernel
theorem dP_chooseBye_1 : decode bP_chooseBye 1 = .ok (.istore_n 3, 1) := by decide +kernel
theorem dP_chooseBye_2 : decode bP_chooseBye 2 = .ok (.iconst (-1), 1) := by decide +kernel
theorem dP_chooseBye_3 : decode bP_chooseBye 3 = .ok (.istore 4, 2) := by decide +kernel
theorem dP_chooseBye_5 : decode bP_chooseBye 5 = .ok (.iconst 0, 1) := by decide +kernel
theorem dP_chooseBye_6 : decode bP_chooseBye 6 = .ok (.istore 5, 2) := by decide +kernel
theorem dP_chooseBye_8 : decode bP_chooseBye 8 = .ok (.iload 5, 2) := by decide +kernel
theorem dP_chooseBye_10 : decode bP_chooseBye 10 = .ok (.bipush 12, 2) := by decide +kernel
theorem dP_chooseBye_12 : decode bP_chooseBye 12 = .ok (.if_icmp .ge 40, 3) := by decide +kernel
theorem dP_chooseBye_15 : decode bP_chooseBye 15 = .ok (.aload_n 2, 1) := by decide +kernel
theorem dP_chooseBye_16 : decode bP_chooseBye 16 = .ok (.iload 5, 2) := by decide +kernel
theorem dP_chooseBye_18 : decode bP_chooseBye 18 = .ok (.baload, 1) := by decide +kernel
theorem dP_chooseBye_19 : decode bP_chooseBye 19 = .ok (.ifCond .eq 27, 3) := by decide +kernel
theorem dP_chooseBye_22 : decode bP_chooseBye 22 = .ok (.iinc 3 1, 3) := by decide +kernel
theorem dP_chooseBye_25 : decode bP_chooseBye 25 = .ok (.iload 4, 2) := by decide +kernel
theorem dP_chooseBye_27 : decode bP_chooseBye 27 = .ok (.iconst (-1), 1) := by decide +kernel
theorem dP_chooseBye_28 : decode bP_chooseBye 28 = .ok (.if_icmp .eq 14, 3) := by decide +kernel
theorem dP_chooseBye_31 : decode bP_chooseBye 31 = .ok (.aload_n 1, 1) := by decide +kernel
theorem dP_chooseBye_32 : decode bP_chooseBye 32 = .ok (.iload 5, 2) := by decide +kernel
theorem dP_chooseBye_34 : decode bP_chooseBye 34 = .ok (.iload 4, 2) := by decide +kernel
theorem dP_chooseBye_36 : decode bP_chooseBye 36 = .ok (.invokevirtual 90, 3) := by decide +kernel
theorem dP_chooseBye_39 : decode bP_chooseBye 39 = .ok (.ifCond .eq 7, 3) := by decide +kernel
theorem dP_chooseBye_42 : decode bP_chooseBye 42 = .ok (.iload 5, 2) := by decide +kernel
theorem dP_chooseBye_44 : decode bP_chooseBye 44 = .ok (.istore 4, 2) := by decide +kernel
theorem dP_chooseBye_46 : decode bP_chooseBye 46 = .ok (.iinc 5 1, 3) := by decide +kernel
theorem dP_chooseBye_49 : decode bP_chooseBye 49 = .ok (.goto (-41), 3) := by decide +kernel
theorem dP_chooseBye_52 : decode bP_chooseBye 52 = .ok (.aload_n 0, 1) := by decide +kernel
theorem dP_chooseBye_53 : decode bP_chooseBye 53 = .ok (.iload_n 3, 1) := by decide +kernel
theorem dP_chooseBye_54 : decode bP_chooseBye 54 = .ok (.iconst 2, 1) := by decide +kernel
theorem dP_chooseBye_55 : decode bP_chooseBye 55 = .ok (.irem, 1) := by decide +kernel
theorem dP_chooseBye_56 : decode bP_chooseBye 56 = .ok (.iconst 1, 1) := by decide +kernel
theorem dP_chooseBye_57 : decode bP_chooseBye 57 = .ok (.if_icmp .ne 8, 3) := by decide +kernel
theorem dP_chooseBye_60 : decode bP_chooseBye 60 = .ok (.iload 4, 2) := by decide +kernel
theorem dP_chooseBye_62 : decode bP_chooseBye 62 = .ok (.goto 4, 3) := by decide +kernel
theorem dP_chooseBye_65 : decode bP_chooseBye 65 = .ok (.iconst (-1), 1) := by decide +kernel
theorem dP_chooseBye_66 : decode bP_chooseBye 66 = .ok (.putfield 15, 3) := by decide +kernel
theorem dP_chooseBye_69 : decode bP_chooseBye 69 = .ok (.return_, 1) := by decide +kernel
theorem dP_count_0 : decode bP_count 0 = .ok (.aload_n 0, 1) := by decide +kernel
theorem dP_count_1 : decode bP_count 1 = .ok (.getfield 27, 3) := by decide +kernel
theorem dP_count_4 : decode bP_count 4 = .ok (.aload_n 0, 1) := by decide +kernel
theorem dP_count_5 : decode bP_count 5 = .ok (.invokevirtual 51, 3) := by decide +kernel
theorem dP_count_8 : decode bP_count 8 = .ok (.invokestatic 54, 3) := by decide +kernel
theorem dP_count_11 : decode bP_count 11 = .ok (.iaload, 1) := by decide +kernel
theorem dP_count_12 : decode bP_count 12 = .ok (.ireturn, 1) := by decide +kernel
theorem dP_evenSet_0 : decode bP_evenSet 0 = .ok (.iload_n 0, 1) := by decide +kernel
theorem dP_evenSet_1 : decode bP_evenSet 1 = .ok (.iconst 1, 1) := by decide +kernel
theorem dP_evenSet_2 : decode bP_evenSet 2 = .ok (.ishl, 1) := by decide +kernel
theorem dP_evenSet_3 : decode bP_evenSet 3 = .ok (.iload_n 0, 1) := by decide +kernel
theorem dP_evenSet_4 : decode bP_evenSet 4 = .ok (.invokestatic 127, 3) := by decide +kernel
theorem dP_evenSet_7 : decode bP_evenSet 7 = .ok (.iconst 1, 1) := by decide +kernel
theorem dP_evenSet_8 : decode bP_evenSet 8 = .ok (.iand, 1) := by decide +kernel
theorem dP_evenSet_9 : decode bP_evenSet 9 = .ok (.ior, 1) := by decide +kernel
theorem dP_evenSet_10 : decode bP_evenSet 10 = .ok (.ireturn, 1) := by decide +kernel
theorem dP_games_0 : decode bP_games 0 = .ok (.aload_n 0, 1) := by decide +kernel
theorem dP_games_1 : decode bP_games 1 = .ok (.getfield 44, 3) := by decide +kernel
theorem dP_games_4 : decode bP_games 4 = .ok (.iconst 2, 1) := by decide +kernel
theorem dP_games_5 : decode bP_games 5 = .ok (.idiv, 1) := by decide +kernel
theorem dP_games_6 : decode bP_games 6 = .ok (.ireturn, 1) := by decide +kernel
theorem dP_indexOf_0 : decode bP_indexOf 0 = .ok (.iload_n 0, 1) := by decide +kernel
theorem dP_indexOf_1 : decode bP_indexOf 1 = .ok (.iconst 1, 1) := by decide +kernel
theorem dP_indexOf_2 : decode bP_indexOf 2 = .ok (.ishr, 1) := by decide +kernel
theorem dP_indexOf_3 : decode bP_indexOf 3 = .ok (.ireturn, 1) := by decide +kernel
theorem dP_init_0 : decode bP_init 0 = .ok (.aload_n 0, 1) := by decide +kernel
theorem dP_init_1 : decode bP_init 1 = .ok (.invokespecial 3, 3) := by decide +kernel
theorem dP_init_4 : decode bP_init 4 = .ok (.aload_n 0, 1) := by decide +kernel
theorem dP_init_5 : decode bP_init 5 = .ok (.bipush 12, 2) := by decide +kernel
theorem dP_init_7 : decode bP_init 7 = .ok (.newarray .int, 2) := by decide +kernel
theorem dP_init_9 : decode bP_init 9 = .ok (.putfield 9, 3) := by decide +kernel
theorem dP_init_12 : decode bP_init 12 = .ok (.aload_n 0, 1) := by decide +kernel
theorem dP_init_13 : decode bP_init 13 = .ok (.iconst (-1), 1) := by decide +kernel
theorem dP_init_14 : decode bP_init 14 = .ok (.putfield 15, 3) := by decide +kernel
theorem dP_init_17 : decode bP_init 17 = .ok (.aload_n 0, 1) := by decide +kernel
theorem dP_init_18 : decode bP_init 18 = .ok (.bipush 12, 2) := by decide +kernel
theorem dP_init_20 : decode bP_init 20 = .ok (.bipush 12, 2) := by decide +kernel
theorem dP_init_22 : decode bP_init 22 = .ok (.multianewarray 19 2, 4) := by decide +kernel
theorem dP_init_26 : decode bP_init 26 = .ok (.putfield 21, 3) := by decide +kernel
theorem dP_init_29 : decode bP_init 29 = .ok (.aload_n 0, 1) := by decide +kernel
theorem dP_init_30 : decode bP_init 30 = .ok (.sipush 2048, 3) := by decide +kernel
theorem dP_init_33 : decode bP_init 33 = .ok (.newarray .int, 2) := by decide +kernel
theorem dP_init_35 : decode bP_init 35 = .ok (.putfield 24, 3) := by decide +kernel
theorem dP_init_38 : decode bP_init 38 = .ok (.aload_n 0, 1) := by decide +kernel
theorem dP_init_39 : decode bP_init 39 = .ok (.sipush 2048, 3) := by decide +kernel
theorem dP_init_42 : decode bP_init 42 = .ok (.newarray .int, 2) := by decide +kernel
theorem dP_init_44 : decode bP_init 44 = .ok (.putfield 27, 3) := by decide +kernel
theorem dP_init_47 : decode bP_init 47 = .ok (.return_, 1) := by decide +kernel
theorem dP_isPossible_0 : decode bP_isPossible 0 = .ok (.aload_n 0, 1) := by decide +kernel
theorem dP_isPossible_1 : decode bP_isPossible 1 = .ok (.getfield 44, 3) := by decide +kernel
theorem dP_isPossible_4 : decode bP_isPossible 4 = .ok (.ifCond .gt 11, 3) := by decide +kernel
theorem dP_isPossible_7 : decode bP_isPossible 7 = .ok (.aload_n 0, 1) := by decide +kernel
theorem dP_isPossible_8 : decode bP_isPossible 8 = .ok (.getfield 15, 3) := by decide +kernel
theorem dP_isPossible_11 : decode bP_isPossible 11 = .ok (.iconst (-1), 1) := by decide +kernel
theorem dP_isPossible_12 : decode bP_isPossible 12 = .ok (.if_icmp .eq 14, 3) := by decide +kernel
theorem dP_isPossible_15 : decode bP_isPossible 15 = .ok (.aload_n 0, 1) := by decide +kernel
theorem dP_isPossible_16 : decode bP_isPossible 16 = .ok (.invokevirtual 47, 3) := by decide +kernel
theorem dP_isPossible_19 : decode bP_isPossible 19 = .ok (.ifCond .le 7, 3) := by decide +kernel
theorem dP_isPossible_22 : decode bP_isPossible 22 = .ok (.iconst 1, 1) := by decide +kernel
theorem dP_isPossible_23 : decode bP_isPossible 23 = .ok (.goto 4, 3) := by decide +kernel
theorem dP_isPossible_26 : decode bP_isPossible 26 = .ok (.iconst 0, 1) := by decide +kernel
theorem dP_isPossible_27 : decode bP_isPossible 27 = .ok (.ireturn, 1) := by decide +kernel
theorem dP_leastCost_0 : decode bP_leastCost 0 = .ok (.aload_n 0, 1) := by decide +kernel
theorem dP_leastCost_1 : decode bP_leastCost 1 = .ok (.getfield 24, 3) := by decide +kernel
theorem dP_leastCost_4 : decode bP_leastCost 4 = .ok (.aload_n 0, 1) := by decide +kernel
theorem dP_leastCost_5 : decode bP_leastCost 5 = .ok (.invokevirtual 51, 3) := by decide +kernel
theorem dP_leastCost_8 : decode bP_leastCost 8 = .ok (.invokestatic 54, 3) := by decide +kernel
theorem dP_leastCost_11 : decode bP_leastCost 11 = .ok (.iaload, 1) := by decide +kernel
theorem dP_leastCost_12 : decode bP_leastCost 12 = .ok (.ireturn, 1) := by decide +kernel
theorem dP_mayPlay_0 : decode bP_mayPlay 0 = .ok (.iload_n 1, 1) := by decide +kernel
theorem dP_mayPlay_1 : decode bP_mayPlay 1 = .ok (.iload_n 3, 1) := by decide +kernel
theorem dP_mayPlay_2 : decode bP_mayPlay 2 = .ok (.ishr, 1) := by decide +kernel
theorem dP_mayPlay_3 : decode bP_mayPlay 3 = .ok (.iconst 1, 1) := by decide +kernel
theorem dP_mayPlay_4 : decode bP_mayPlay 4 = .ok (.iand, 1) := by decide +kernel
theorem dP_mayPlay_5 : decode bP_mayPlay 5 = .ok (.iconst 1, 1) := by decide +kernel
theorem dP_mayPlay_6 : decode bP_mayPlay 6 = .ok (.if_icmp .ne 19, 3) := by decide +kernel
theorem dP_mayPlay_9 : decode bP_mayPlay 9 = .ok (.aload_n 0, 1) := by decide +kernel
theorem dP_mayPlay_10 : decode bP_mayPlay 10 = .ok (.getfield 21, 3) := by decide +kernel
theorem dP_mayPlay_13 : decode bP_mayPlay 13 = .ok (.iload_n 2, 1) := by decide +kernel
theorem dP_mayPlay_14 : decode bP_mayPlay 14 = .ok (.aaload, 1) := by decide +kernel
theorem dP_mayPlay_15 : decode bP_mayPlay 15 = .ok (.iload_n 3, 1) := by decide +kernel
theorem dP_mayPlay_16 : decode bP_mayPlay 16 = .ok (.iaload, 1) := by decide +kernel
theorem dP_mayPlay_17 : decode bP_mayPlay 17 = .ok (.iconst (-1), 1) := by decide +kernel
theorem dP_mayPlay_18 : decode bP_mayPlay 18 = .ok (.if_icmp .eq 7, 3) := by decide +kernel
theorem dP_mayPlay_21 : decode bP_mayPlay 21 = .ok (.iconst 1, 1) := by decide +kernel
theorem dP_mayPlay_22 : decode bP_mayPlay 22 = .ok (.goto 4, 3) := by decide +kernel
theorem dP_mayPlay_25 : decode bP_mayPlay 25 = .ok (.iconst 0, 1) := by decide +kernel
theorem dP_mayPlay_26 : decode bP_mayPlay 26 = .ok (.ireturn, 1) := by decide +kernel
theorem dP_priceGames_0 : decode bP_priceGames 0 = .ok (.iconst 0, 1) := by decide +kernel
theorem dP_priceGames_1 : decode bP_priceGames 1 = .ok (.istore 4, 2) := by decide +kernel
theorem dP_priceGames_3 : decode bP_priceGames 3 = .ok (.iload 4, 2) := by decide +kernel
theorem dP_priceGames_5 : decode bP_priceGames 5 = .ok (.aload_n 0, 1) := by decide +kernel
theorem dP_priceGames_6 : decode bP_priceGames 6 = .ok (.getfield 44, 3) := by decide +kernel
theorem dP_priceGames_9 : decode bP_priceGames 9 = .ok (.if_icmp .ge 107, 3) := by decide +kernel
theorem dP_priceGames_12 : decode bP_priceGames 12 = .ok (.aload_n 0, 1) := by decide +kernel
theorem dP_priceGames_13 : decode bP_priceGames 13 = .ok (.getfield 9, 3) := by decide +kernel
theorem dP_priceGames_16 : decode bP_priceGames 16 = .ok (.iload 4, 2) := by decide +kernel
theorem dP_priceGames_18 : decode bP_priceGames 18 = .ok (.iaload, 1) := by decide +kernel
theorem dP_priceGames_19 : decode bP_priceGames 19 = .ok (.istore 5, 2) := by decide +kernel
theorem dP_priceGames_21 : decode bP_priceGames 21 = .ok (.aload_n 1, 1) := by decide +kernel
theorem dP_priceGames_22 : decode bP_priceGames 22 = .ok (.getfield 101, 3) := by decide +kernel
theorem dP_priceGames_25 : decode bP_priceGames 25 = .ok (.iload 5, 2) := by decide +kernel
theorem dP_priceGames_27 : decode bP_priceGames 27 = .ok (.iaload, 1) := by decide +kernel
theorem dP_priceGames_28 : decode bP_priceGames 28 = .ok (.aload_n 2, 1) := by decide +kernel
theorem dP_priceGames_29 : decode bP_priceGames 29 = .ok (.iload 5, 2) := by decide +kernel
theorem dP_priceGames_31 : decode bP_priceGames 31 = .ok (.iaload, 1) := by decide +kernel
theorem dP_priceGames_32 : decode bP_priceGames 32 = .ok (.ior, 1) := by decide +kernel
theorem dP_priceGames_33 : decode bP_priceGames 33 = .ok (.istore 6, 2) := by decide +kernel
theorem dP_priceGames_35 : decode bP_priceGames 35 = .ok (.iload 4, 2) := by decide +kernel
theorem dP_priceGames_37 : decode bP_priceGames 37 = .ok (.iconst 1, 1) := by decide +kernel
theorem dP_priceGames_38 : decode bP_priceGames 38 = .ok (.iadd, 1) := by decide +kernel
theorem dP_priceGames_39 : decode bP_priceGames 39 = .ok (.istore 7, 2) := by decide +kernel
theorem dP_priceGames_41 : decode bP_priceGames 41 = .ok (.iload 7, 2) := by decide +kernel
theorem dP_priceGames_43 : decode bP_priceGames 43 = .ok (.aload_n 0, 1) := by decide +kernel
theorem dP_priceGames_44 : decode bP_priceGames 44 = .ok (.getfield 44, 3) := by decide +kernel
theorem dP_priceGames_47 : decode bP_priceGames 47 = .ok (.if_icmp .ge 63, 3) := by decide +kernel
theorem dP_priceGames_50 : decode bP_priceGames 50 = .ok (.aload_n 0, 1) := by decide +kernel
theorem dP_priceGames_51 : decode bP_priceGames 51 = .ok (.getfield 9, 3) := by decide +kernel
theorem dP_priceGames_54 : decode bP_priceGames 54 = .ok (.iload 7, 2) := by decide +kernel
theorem dP_priceGames_56 : decode bP_priceGames 56 = .ok (.iaload, 1) := by decide +kernel
theorem dP_priceGames_57 : decode bP_priceGames 57 = .ok (.istore 8, 2) := by decide +kernel
theorem dP_priceGames_59 : decode bP_priceGames 59 = .ok (.iload 6, 2) := by decide +kernel
theorem dP_priceGames_61 : decode bP_priceGames 61 = .ok (.iload 8, 2) := by decide +kernel
theorem dP_priceGames_63 : decode bP_priceGames 63 = .ok (.ishr, 1) := by decide +kernel
theorem dP_priceGames_64 : decode bP_priceGames 64 = .ok (.iconst 1, 1) := by decide +kernel
theorem dP_priceGames_65 : decode bP_priceGames 65 = .ok (.iand, 1) := by decide +kernel
theorem dP_priceGames_66 : decode bP_priceGames 66 = .ok (.ifCond .ne 7, 3) := by decide +kernel
theorem dP_priceGames_69 : decode bP_priceGames 69 = .ok (.iconst 1, 1) := by decide +kernel
theorem dP_priceGames_70 : decode bP_priceGames 70 = .ok (.goto 4, 3) := by decide +kernel
theorem dP_priceGames_73 : decode bP_priceGames 73 = .ok (.iconst 0, 1) := by decide +kernel
theorem dP_priceGames_74 : decode bP_priceGames 74 = .ok (.istore 9, 2) := by decide +kernel
theorem dP_priceGames_76 : decode bP_priceGames 76 = .ok (.aload_n 0, 1) := by decide +kernel
theorem dP_priceGames_77 : decode bP_priceGames 77 = .ok (.getfield 21, 3) := by decide +kernel
theorem dP_priceGames_80 : decode bP_priceGames 80 = .ok (.iload 4, 2) := by decide +kernel
theorem dP_priceGames_82 : decode bP_priceGames 82 = .ok (.aaload, 1) := by decide +kernel
theorem dP_priceGames_83 : decode bP_priceGames 83 = .ok (.iload 7, 2) := by decide +kernel
theorem dP_priceGames_85 : decode bP_priceGames 85 = .ok (.iload 9, 2) := by decide +kernel
theorem dP_priceGames_87 : decode bP_priceGames 87 = .ok (.ifCond .eq 15, 3) := by decide +kernel
theorem dP_priceGames_90 : decode bP_priceGames 90 = .ok (.aload_n 1, 1) := by decide +kernel
theorem dP_priceGames_91 : decode bP_priceGames 91 = .ok (.iload 5, 2) := by decide +kernel
theorem dP_priceGames_93 : decode bP_priceGames 93 = .ok (.iload 8, 2) := by decide +kernel
theorem dP_priceGames_95 : decode bP_priceGames 95 = .ok (.iload_n 3, 1) := by decide +kernel
theorem dP_priceGames_96 : decode bP_priceGames 96 = .ok (.invokevirtual 104, 3) := by decide +kernel
theorem dP_priceGames_99 : decode bP_priceGames 99 = .ok (.goto 4, 3) := by decide +kernel
theorem dP_priceGames_102 : decode bP_priceGames 102 = .ok (.iconst (-1), 1) := by decide +kernel
theorem dP_priceGames_103 : decode bP_priceGames 103 = .ok (.iastore, 1) := by decide +kernel
theorem dP_priceGames_104 : decode bP_priceGames 104 = .ok (.iinc 7 1, 3) := by decide +kernel
theorem dP_priceGames_107 : decode bP_priceGames 107 = .ok (.goto (-66), 3) := by decide +kernel
theorem dP_priceGames_110 : decode bP_priceGames 110 = .ok (.iinc 4 1, 3) := by decide +kernel
theorem dP_priceGames_113 : decode bP_priceGames 113 = .ok (.goto (-110), 3) := by decide +kernel
theorem dP_priceGames_116 : decode bP_priceGames 116 = .ok (.return_, 1) := by decide +kernel
theorem dP_seatOne_0 : decode bP_seatOne 0 = .ok (.aload_n 0, 1) := by decide +kernel
theorem dP_seatOne_1 : decode bP_seatOne 1 = .ok (.getfield 44, 3) := by decide +kernel
theorem dP_seatOne_4 : decode bP_seatOne 4 = .ok (.istore_n 3, 1) := by decide +kernel
theorem dP_seatOne_5 : decode bP_seatOne 5 = .ok (.iload_n 3, 1) := by decide +kernel
theorem dP_seatOne_6 : decode bP_seatOne 6 = .ok (.ifCond .le 39, 3) := by decide +kernel
theorem dP_seatOne_9 : decode bP_seatOne 9 = .ok (.aload_n 1, 1) := by decide +kernel
theorem dP_seatOne_10 : decode bP_seatOne 10 = .ok (.iload_n 2, 1) := by decide +kernel
theorem dP_seatOne_11 : decode bP_seatOne 11 = .ok (.aload_n 0, 1) := by decide +kernel
theorem dP_seatOne_12 : decode bP_seatOne 12 = .ok (.getfield 9, 3) := by decide +kernel
theorem dP_seatOne_15 : decode bP_seatOne 15 = .ok (.iload_n 3, 1) := by decide +kernel
theorem dP_seatOne_16 : decode bP_seatOne 16 = .ok (.iconst 1, 1) := by decide +kernel
theorem dP_seatOne_17 : decode bP_seatOne 17 = .ok (.isub, 1) := by decide +kernel
theorem dP_seatOne_18 : decode bP_seatOne 18 = .ok (.iaload, 1) := by decide +kernel
theorem dP_seatOne_19 : decode bP_seatOne 19 = .ok (.invokevirtual 98, 3) := by decide +kernel
theorem dP_seatOne_22 : decode bP_seatOne 22 = .ok (.ifCond .eq 23, 3) := by decide +kernel
theorem dP_seatOne_25 : decode bP_seatOne 25 = .ok (.aload_n 0, 1) := by decide +kernel
theorem dP_seatOne_26 : decode bP_seatOne 26 = .ok (.getfield 9, 3) := by decide +kernel
theorem dP_seatOne_29 : decode bP_seatOne 29 = .ok (.iload_n 3, 1) := by decide +kernel
theorem dP_seatOne_30 : decode bP_seatOne 30 = .ok (.aload_n 0, 1) := by decide +kernel
theorem dP_seatOne_31 : decode bP_seatOne 31 = .ok (.getfield 9, 3) := by decide +kernel
theorem dP_seatOne_34 : decode bP_seatOne 34 = .ok (.iload_n 3, 1) := by decide +kernel
theorem dP_seatOne_35 : decode bP_seatOne 35 = .ok (.iconst 1, 1) := by decide +kernel
theorem dP_seatOne_36 : decode bP_seatOne 36 = .ok (.isub, 1) := by decide +kernel
theorem dP_seatOne_37 : decode bP_seatOne 37 = .ok (.iaload, 1) := by decide +kernel
theorem dP_seatOne_38 : decode bP_seatOne 38 = .ok (.iastore, 1) := by decide +kernel
theorem dP_seatOne_39 : decode bP_seatOne 39 = .ok (.iinc 3 (-1), 3) := by decide +kernel
theorem dP_seatOne_42 : decode bP_seatOne 42 = .ok (.goto (-37), 3) := by decide +kernel
theorem dP_seatOne_45 : decode bP_seatOne 45 = .ok (.aload_n 0, 1) := by decide +kernel
theorem dP_seatOne_46 : decode bP_seatOne 46 = .ok (.getfield 9, 3) := by decide +kernel
theorem dP_seatOne_49 : decode bP_seatOne 49 = .ok (.iload_n 3, 1) := by decide +kernel
theorem dP_seatOne_50 : decode bP_seatOne 50 = .ok (.iload_n 2, 1) := by decide +kernel
theorem dP_seatOne_51 : decode bP_seatOne 51 = .ok (.iastore, 1) := by decide +kernel
theorem dP_seatOne_52 : decode bP_seatOne 52 = .ok (.aload_n 0, 1) := by decide +kernel
theorem dP_seatOne_53 : decode bP_seatOne 53 = .ok (.dup, 1) := by decide +kernel
theorem dP_seatOne_54 : decode bP_seatOne 54 = .ok (.getfield 44, 3) := by decide +kernel
theorem dP_seatOne_57 : decode bP_seatOne 57 = .ok (.iconst 1, 1) := by decide +kernel
theorem dP_seatOne_58 : decode bP_seatOne 58 = .ok (.iadd, 1) := by decide +kernel
theorem dP_seatOne_59 : decode bP_seatOne 59 = .ok (.putfield 44, 3) := by decide +kernel
theorem dP_seatOne_62 : decode bP_seatOne 62 = .ok (.return_, 1) := by decide +kernel
theorem dP_seatPlayers_0 : decode bP_seatPlayers 0 = .ok (.aload_n 0, 1) := by decide +kernel
theorem dP_seatPlayers_1 : decode bP_seatPlayers 1 = .ok (.iconst 0, 1) := by decide +kernel
theorem dP_seatPlayers_2 : decode bP_seatPlayers 2 = .ok (.putfield 44, 3) := by decide +kernel
theorem dP_seatPlayers_5 : decode bP_seatPlayers 5 = .ok (.iconst 0, 1) := by decide +kernel
theorem dP_seatPlayers_6 : decode bP_seatPlayers 6 = .ok (.istore_n 3, 1) := by decide +kernel
theorem dP_seatPlayers_7 : decode bP_seatPlayers 7 = .ok (.iload_n 3, 1) := by decide +kernel
theorem dP_seatPlayers_8 : decode bP_seatPlayers 8 = .ok (.bipush 12, 2) := by decide +kernel
theorem dP_seatPlayers_10 : decode bP_seatPlayers 10 = .ok (.if_icmp .ge 29, 3) := by decide +kernel
theorem dP_seatPlayers_13 : decode bP_seatPlayers 13 = .ok (.aload_n 2, 1) := by decide +kernel
theorem dP_seatPlayers_14 : decode bP_seatPlayers 14 = .ok (.iload_n 3, 1) := by decide +kernel
theorem dP_seatPlayers_15 : decode bP_seatPlayers 15 = .ok (.baload, 1) := by decide +kernel
theorem dP_seatPlayers_16 : decode bP_seatPlayers 16 = .ok (.ifCond .eq 17, 3) := by decide +kernel
theorem dP_seatPlayers_19 : decode bP_seatPlayers 19 = .ok (.iload_n 3, 1) := by decide +kernel
theorem dP_seatPlayers_20 : decode bP_seatPlayers 20 = .ok (.aload_n 0, 1) := by decide +kernel
theorem dP_seatPlayers_21 : decode bP_seatPlayers 21 = .ok (.getfield 15, 3) := by decide +kernel
theorem dP_seatPlayers_24 : decode bP_seatPlayers 24 = .ok (.if_icmp .eq 9, 3) := by decide +kernel
theorem dP_seatPlayers_27 : decode bP_seatPlayers 27 = .ok (.aload_n 0, 1) := by decide +kernel
theorem dP_seatPlayers_28 : decode bP_seatPlayers 28 = .ok (.aload_n 1, 1) := by decide +kernel
theorem dP_seatPlayers_29 : decode bP_seatPlayers 29 = .ok (.iload_n 3, 1) := by decide +kernel
theorem dP_seatPlayers_30 : decode bP_seatPlayers 30 = .ok (.invokevirtual 94, 3) := by decide +kernel
theorem dP_seatPlayers_33 : decode bP_seatPlayers 33 = .ok (.iinc 3 1, 3) := by decide +kernel
theorem dP_seatPlayers_36 : decode bP_seatPlayers 36 = .ok (.goto (-29), 3) := by decide +kernel
theorem dP_seatPlayers_39 : decode bP_seatPlayers 39 = .ok (.return_, 1) := by decide +kernel
theorem dP_solve_0 : decode bP_solve 0 = .ok (.aload_n 0, 1) := by decide +kernel
theorem dP_solve_1 : decode bP_solve 1 = .ok (.getfield 24, 3) := by decide +kernel
theorem dP_solve_4 : decode bP_solve 4 = .ok (.iconst 0, 1) := by decide +kernel
theorem dP_solve_5 : decode bP_solve 5 = .ok (.iconst 0, 1) := by decide +kernel
theorem dP_solve_6 : decode bP_solve 6 = .ok (.iastore, 1) := by decide +kernel
theorem dP_solve_7 : decode bP_solve 7 = .ok (.aload_n 0, 1) := by decide +kernel
theorem dP_solve_8 : decode bP_solve 8 = .ok (.getfield 27, 3) := by decide +kernel
theorem dP_solve_11 : decode bP_solve 11 = .ok (.iconst 0, 1) := by decide +kernel
theorem dP_solve_12 : decode bP_solve 12 = .ok (.iconst 1, 1) := by decide +kernel
theorem dP_solve_13 : decode bP_solve 13 = .ok (.iastore, 1) := by decide +kernel
theorem dP_solve_14 : decode bP_solve 14 = .ok (.aload_n 0, 1) := by decide +kernel
theorem dP_solve_15 : decode bP_solve 15 = .ok (.getfield 44, 3) := by decide +kernel
theorem dP_solve_18 : decode bP_solve 18 = .ok (.ifCond .ne 7, 3) := by decide +kernel
theorem dP_solve_21 : decode bP_solve 21 = .ok (.iconst 1, 1) := by decide +kernel
theorem dP_solve_22 : decode bP_solve 22 = .ok (.goto 11, 3) := by decide +kernel
theorem dP_solve_25 : decode bP_solve 25 = .ok (.iconst 1, 1) := by decide +kernel
theorem dP_solve_26 : decode bP_solve 26 = .ok (.aload_n 0, 1) := by decide +kernel
theorem dP_solve_27 : decode bP_solve 27 = .ok (.getfield 44, 3) := by decide +kernel
theorem dP_solve_30 : decode bP_solve 30 = .ok (.iconst 1, 1) := by decide +kernel
theorem dP_solve_31 : decode bP_solve 31 = .ok (.isub, 1) := by decide +kernel
theorem dP_solve_32 : decode bP_solve 32 = .ok (.ishl, 1) := by decide +kernel
theorem dP_solve_33 : decode bP_solve 33 = .ok (.istore_n 1, 1) := by decide +kernel
theorem dP_solve_34 : decode bP_solve 34 = .ok (.iconst 1, 1) := by decide +kernel
theorem dP_solve_35 : decode bP_solve 35 = .ok (.istore_n 2, 1) := by decide +kernel
theorem dP_solve_36 : decode bP_solve 36 = .ok (.iload_n 2, 1) := by decide +kernel
theorem dP_solve_37 : decode bP_solve 37 = .ok (.iload_n 1, 1) := by decide +kernel
theorem dP_solve_38 : decode bP_solve 38 = .ok (.if_icmp .ge 27, 3) := by decide +kernel
theorem dP_solve_41 : decode bP_solve 41 = .ok (.iload_n 2, 1) := by decide +kernel
theorem dP_solve_42 : decode bP_solve 42 = .ok (.invokestatic 107, 3) := by decide +kernel
theorem dP_solve_45 : decode bP_solve 45 = .ok (.istore_n 3, 1) := by decide +kernel
theorem dP_solve_46 : decode bP_solve 46 = .ok (.aload_n 0, 1) := by decide +kernel
theorem dP_solve_47 : decode bP_solve 47 = .ok (.iload_n 3, 1) := by decide +kernel
theorem dP_solve_48 : decode bP_solve 48 = .ok (.invokevirtual 110, 3) := by decide +kernel
theorem dP_solve_51 : decode bP_solve 51 = .ok (.ifCond .eq 8, 3) := by decide +kernel
theorem dP_solve_54 : decode bP_solve 54 = .ok (.aload_n 0, 1) := by decide +kernel
theorem dP_solve_55 : decode bP_solve 55 = .ok (.iload_n 3, 1) := by decide +kernel
theorem dP_solve_56 : decode bP_solve 56 = .ok (.invokevirtual 114, 3) := by decide +kernel
theorem dP_solve_59 : decode bP_solve 59 = .ok (.iinc 2 1, 3) := by decide +kernel
theorem dP_solve_62 : decode bP_solve 62 = .ok (.goto (-26), 3) := by decide +kernel
theorem dP_solve_65 : decode bP_solve 65 = .ok (.return_, 1) := by decide +kernel
theorem dP_solveSet_0 : decode bP_solveSet 0 = .ok (.iload_n 1, 1) := by decide +kernel
theorem dP_solveSet_1 : decode bP_solveSet 1 = .ok (.invokestatic 69, 3) := by decide +kernel
theorem dP_solveSet_4 : decode bP_solveSet 4 = .ok (.istore_n 2, 1) := by decide +kernel
theorem dP_solveSet_5 : decode bP_solveSet 5 = .ok (.iconst 0, 1) := by decide +kernel
theorem dP_solveSet_6 : decode bP_solveSet 6 = .ok (.istore_n 3, 1) := by decide +kernel
theorem dP_solveSet_7 : decode bP_solveSet 7 = .ok (.iconst 0, 1) := by decide +kernel
theorem dP_solveSet_8 : decode bP_solveSet 8 = .ok (.istore 4, 2) := by decide +kernel
theorem dP_solveSet_10 : decode bP_solveSet 10 = .ok (.iload_n 2, 1) := by decide +kernel
theorem dP_solveSet_11 : decode bP_solveSet 11 = .ok (.iconst 1, 1) := by decide +kernel
theorem dP_solveSet_12 : decode bP_solveSet 12 = .ok (.iadd, 1) := by decide +kernel
theorem dP_solveSet_13 : decode bP_solveSet 13 = .ok (.istore 5, 2) := by decide +kernel
theorem dP_solveSet_15 : decode bP_solveSet 15 = .ok (.iload 5, 2) := by decide +kernel
theorem dP_solveSet_17 : decode bP_solveSet 17 = .ok (.aload_n 0, 1) := by decide +kernel
theorem dP_solveSet_18 : decode bP_solveSet 18 = .ok (.getfield 44, 3) := by decide +kernel
theorem dP_solveSet_21 : decode bP_solveSet 21 = .ok (.if_icmp .ge 90, 3) := by decide +kernel
theorem dP_solveSet_24 : decode bP_solveSet 24 = .ok (.iload_n 1, 1) := by decide +kernel
theorem dP_solveSet_25 : decode bP_solveSet 25 = .ok (.iload_n 2, 1) := by decide +kernel
theorem dP_solveSet_26 : decode bP_solveSet 26 = .ok (.iload 5, 2) := by decide +kernel
theorem dP_solveSet_28 : decode bP_solveSet 28 = .ok (.invokestatic 87, 3) := by decide +kernel
theorem dP_solveSet_31 : decode bP_solveSet 31 = .ok (.invokestatic 54, 3) := by decide +kernel
theorem dP_solveSet_34 : decode bP_solveSet 34 = .ok (.istore 6, 2) := by decide +kernel
theorem dP_solveSet_36 : decode bP_solveSet 36 = .ok (.aload_n 0, 1) := by decide +kernel
theorem dP_solveSet_37 : decode bP_solveSet 37 = .ok (.iload_n 1, 1) := by decide +kernel
theorem dP_solveSet_38 : decode bP_solveSet 38 = .ok (.iload_n 2, 1) := by decide +kernel
theorem dP_solveSet_39 : decode bP_solveSet 39 = .ok (.iload 5, 2) := by decide +kernel
theorem dP_solveSet_41 : decode bP_solveSet 41 = .ok (.invokevirtual 118, 3) := by decide +kernel
theorem dP_solveSet_44 : decode bP_solveSet 44 = .ok (.ifCond .eq 61, 3) := by decide +kernel
theorem dP_solveSet_47 : decode bP_solveSet 47 = .ok (.aload_n 0, 1) := by decide +kernel
theorem dP_solveSet_48 : decode bP_solveSet 48 = .ok (.getfield 27, 3) := by decide +kernel
theorem dP_solveSet_51 : decode bP_solveSet 51 = .ok (.iload 6, 2) := by decide +kernel
theorem dP_solveSet_53 : decode bP_solveSet 53 = .ok (.iaload, 1) := by decide +kernel
theorem dP_solveSet_54 : decode bP_solveSet 54 = .ok (.ifCond .le 51, 3) := by decide +kernel
theorem dP_solveSet_57 : decode bP_solveSet 57 = .ok (.aload_n 0, 1) := by decide +kernel
theorem dP_solveSet_58 : decode bP_solveSet 58 = .ok (.getfield 21, 3) := by decide +kernel
theorem dP_solveSet_61 : decode bP_solveSet 61 = .ok (.iload_n 2, 1) := by decide +kernel
theorem dP_solveSet_62 : decode bP_solveSet 62 = .ok (.aaload, 1) := by decide +kernel
theorem dP_solveSet_63 : decode bP_solveSet 63 = .ok (.iload 5, 2) := by decide +kernel
theorem dP_solveSet_65 : decode bP_solveSet 65 = .ok (.iaload, 1) := by decide +kernel
theorem dP_solveSet_66 : decode bP_solveSet 66 = .ok (.aload_n 0, 1) := by decide +kernel
theorem dP_solveSet_67 : decode bP_solveSet 67 = .ok (.getfield 24, 3) := by decide +kernel
theorem dP_solveSet_70 : decode bP_solveSet 70 = .ok (.iload 6, 2) := by decide +kernel
theorem dP_solveSet_72 : decode bP_solveSet 72 = .ok (.iaload, 1) := by decide +kernel
theorem dP_solveSet_73 : decode bP_solveSet 73 = .ok (.iadd, 1) := by decide +kernel
theorem dP_solveSet_74 : decode bP_solveSet 74 = .ok (.istore 7, 2) := by decide +kernel
theorem dP_solveSet_76 : decode bP_solveSet 76 = .ok (.iload 4, 2) := by decide +kernel
theorem dP_solveSet_78 : decode bP_solveSet 78 = .ok (.ifCond .ne 8, 3) := by decide +kernel
theorem dP_solveSet_81 : decode bP_solveSet 81 = .ok (.iload 7, 2) := by decide +kernel
theorem dP_solveSet_83 : decode bP_solveSet 83 = .ok (.goto 9, 3) := by decide +kernel
theorem dP_solveSet_86 : decode bP_solveSet 86 = .ok (.iload_n 3, 1) := by decide +kernel
theorem dP_solveSet_87 : decode bP_solveSet 87 = .ok (.iload 7, 2) := by decide +kernel
theorem dP_solveSet_89 : decode bP_solveSet 89 = .ok (.invokestatic 122, 3) := by decide +kernel
theorem dP_solveSet_92 : decode bP_solveSet 92 = .ok (.istore_n 3, 1) := by decide +kernel
theorem dP_solveSet_93 : decode bP_solveSet 93 = .ok (.iload 4, 2) := by decide +kernel
theorem dP_solveSet_95 : decode bP_solveSet 95 = .ok (.aload_n 0, 1) := by decide +kernel
theorem dP_solveSet_96 : decode bP_solveSet 96 = .ok (.getfield 27, 3) := by decide +kernel
theorem dP_solveSet_99 : decode bP_solveSet 99 = .ok (.iload 6, 2) := by decide +kernel
theorem dP_solveSet_101 : decode bP_solveSet 101 = .ok (.iaload, 1) := by decide +kernel
theorem dP_solveSet_102 : decode bP_solveSet 102 = .ok (.iadd, 1) := by decide +kernel
theorem dP_solveSet_103 : decode bP_solveSet 103 = .ok (.istore 4, 2) := by decide +kernel
theorem dP_solveSet_105 : decode bP_solveSet 105 = .ok (.iinc 5 1, 3) := by decide +kernel
theorem dP_solveSet_108 : decode bP_solveSet 108 = .ok (.goto (-93), 3) := by decide +kernel
theorem dP_solveSet_111 : decode bP_solveSet 111 = .ok (.aload_n 0, 1) := by decide +kernel
theorem dP_solveSet_112 : decode bP_solveSet 112 = .ok (.getfield 24, 3) := by decide +kernel
theorem dP_solveSet_115 : decode bP_solveSet 115 = .ok (.iload_n 1, 1) := by decide +kernel
theorem dP_solveSet_116 : decode bP_solveSet 116 = .ok (.invokestatic 54, 3) := by decide +kernel
theorem dP_solveSet_119 : decode bP_solveSet 119 = .ok (.iload_n 3, 1) := by decide +kernel
theorem dP_solveSet_120 : decode bP_solveSet 120 = .ok (.iastore, 1) := by decide +kernel
theorem dP_solveSet_121 : decode bP_solveSet 121 = .ok (.aload_n 0, 1) := by decide +kernel
theorem dP_solveSet_122 : decode bP_solveSet 122 = .ok (.getfield 27, 3) := by decide +kernel
theorem dP_solveSet_125 : decode bP_solveSet 125 = .ok (.iload_n 1, 1) := by decide +kernel
theorem dP_solveSet_126 : decode bP_solveSet 126 = .ok (.invokestatic 54, 3) := by decide +kernel
theorem dP_solveSet_129 : decode bP_solveSet 129 = .ok (.iload 4, 2) := by decide +kernel
theorem dP_solveSet_131 : decode bP_solveSet 131 = .ok (.iastore, 1) := by decide +kernel
theorem dP_solveSet_132 : decode bP_solveSet 132 = .ok (.return_, 1) := by decide +kernel
theorem dP_without_0 : decode bP_without 0 = .ok (.iload_n 0, 1) := by decide +kernel
theorem dP_without_1 : decode bP_without 1 = .ok (.iconst 1, 1) := by decide +kernel
theorem dP_without_2 : decode bP_without 2 = .ok (.iload_n 1, 1) := by decide +kernel
theorem dP_without_3 : decode bP_without 3 = .ok (.ishl, 1) := by decide +kernel
theorem dP_without_4 : decode bP_without 4 = .ok (.iconst 1, 1) := by decide +kernel
theorem dP_without_5 : decode bP_without 5 = .ok (.iload_n 2, 1) := by decide +kernel
theorem dP_without_6 : decode bP_without 6 = .ok (.ishl, 1) := by decide +kernel
theorem dP_without_7 : decode bP_without 7 = .ok (.ior, 1) := by decide +kernel
theorem dP_without_8 : decode bP_without 8 = .ok (.iconst (-1), 1) := by decide +kernel
theorem dP_without_9 : decode bP_without 9 = .ok (.ixor, 1) := by decide +kernel
theorem dP_without_10 : decode bP_without 10 = .ok (.iand, 1) := by decide +kernel
theorem dP_without_11 : decode bP_without 11 = .ok (.ireturn, 1) := by decide +kernel
theorem dP_workOut_0 : decode bP_workOut 0 = .ok (.aload_n 0, 1) := by decide +kernel
theorem dP_workOut_1 : decode bP_workOut 1 = .ok (.aload_n 1, 1) := by decide +kernel
theorem dP_workOut_2 : decode bP_workOut 2 = .ok (.aload_n 2, 1) := by decide +kernel
theorem dP_workOut_3 : decode bP_workOut 3 = .ok (.invokevirtual 30, 3) := by decide +kernel
theorem dP_workOut_6 : decode bP_workOut 6 = .ok (.aload_n 0, 1) := by decide +kernel
theorem dP_workOut_7 : decode bP_workOut 7 = .ok (.aload_n 1, 1) := by decide +kernel
theorem dP_workOut_8 : decode bP_workOut 8 = .ok (.aload_n 2, 1) := by decide +kernel
theorem dP_workOut_9 : decode bP_workOut 9 = .ok (.invokevirtual 34, 3) := by decide +kernel
theorem dP_workOut_12 : decode bP_workOut 12 = .ok (.aload_n 0, 1) := by decide +kernel
theorem dP_workOut_13 : decode bP_workOut 13 = .ok (.aload_n 1, 1) := by decide +kernel
theorem dP_workOut_14 : decode bP_workOut 14 = .ok (.aload_n 3, 1) := by decide +kernel
theorem dP_workOut_15 : decode bP_workOut 15 = .ok (.iload 4, 2) := by decide +kernel
theorem dP_workOut_17 : decode bP_workOut 17 = .ok (.invokevirtual 37, 3) := by decide +kernel
theorem dP_workOut_20 : decode bP_workOut 20 = .ok (.aload_n 0, 1) := by decide +kernel
theorem dP_workOut_21 : decode bP_workOut 21 = .ok (.invokevirtual 41, 3) := by decide +kernel
theorem dP_workOut_24 : decode bP_workOut 24 = .ok (.return_, 1) := by decide +kernel
theorem dP_writeTo_0 : decode bP_writeTo 0 = .ok (.aload_n 1, 1) := by decide +kernel
theorem dP_writeTo_1 : decode bP_writeTo 1 = .ok (.iconst (-1), 1) := by decide +kernel
theorem dP_writeTo_2 : decode bP_writeTo 2 = .ok (.invokestatic 58, 3) := by decide +kernel
theorem dP_writeTo_5 : decode bP_writeTo 5 = .ok (.aload_n 0, 1) := by decide +kernel
theorem dP_writeTo_6 : decode bP_writeTo 6 = .ok (.getfield 15, 3) := by decide +kernel
theorem dP_writeTo_9 : decode bP_writeTo 9 = .ok (.iconst (-1), 1) := by decide +kernel
theorem dP_writeTo_10 : decode bP_writeTo 10 = .ok (.if_icmp .eq 11, 3) := by decide +kernel
theorem dP_writeTo_13 : decode bP_writeTo 13 = .ok (.aload_n 1, 1) := by decide +kernel
theorem dP_writeTo_14 : decode bP_writeTo 14 = .ok (.aload_n 0, 1) := by decide +kernel
theorem dP_writeTo_15 : decode bP_writeTo 15 = .ok (.getfield 15, 3) := by decide +kernel
theorem dP_writeTo_18 : decode bP_writeTo 18 = .ok (.bipush 76, 2) := by decide +kernel
theorem dP_writeTo_20 : decode bP_writeTo 20 = .ok (.iastore, 1) := by decide +kernel
theorem dP_writeTo_21 : decode bP_writeTo 21 = .ok (.aload_n 0, 1) := by decide +kernel
theorem dP_writeTo_22 : decode bP_writeTo 22 = .ok (.invokevirtual 51, 3) := by decide +kernel
theorem dP_writeTo_25 : decode bP_writeTo 25 = .ok (.istore 4, 2) := by decide +kernel
theorem dP_writeTo_27 : decode bP_writeTo 27 = .ok (.iconst 0, 1) := by decide +kernel
theorem dP_writeTo_28 : decode bP_writeTo 28 = .ok (.istore 5, 2) := by decide +kernel
theorem dP_writeTo_30 : decode bP_writeTo 30 = .ok (.iload 5, 2) := by decide +kernel
theorem dP_writeTo_32 : decode bP_writeTo 32 = .ok (.aload_n 0, 1) := by decide +kernel
theorem dP_writeTo_33 : decode bP_writeTo 33 = .ok (.invokevirtual 66, 3) := by decide +kernel
theorem dP_writeTo_36 : decode bP_writeTo 36 = .ok (.if_icmp .ge 89, 3) := by decide +kernel
theorem dP_writeTo_39 : decode bP_writeTo 39 = .ok (.iload 4, 2) := by decide +kernel
theorem dP_writeTo_41 : decode bP_writeTo 41 = .ok (.invokestatic 69, 3) := by decide +kernel
theorem dP_writeTo_44 : decode bP_writeTo 44 = .ok (.istore 6, 2) := by decide +kernel
theorem dP_writeTo_46 : decode bP_writeTo 46 = .ok (.aload_n 0, 1) := by decide +kernel
theorem dP_writeTo_47 : decode bP_writeTo 47 = .ok (.iload 4, 2) := by decide +kernel
theorem dP_writeTo_49 : decode bP_writeTo 49 = .ok (.iload 6, 2) := by decide +kernel
theorem dP_writeTo_51 : decode bP_writeTo 51 = .ok (.invokevirtual 74, 3) := by decide +kernel
theorem dP_writeTo_54 : decode bP_writeTo 54 = .ok (.istore 7, 2) := by decide +kernel
theorem dP_writeTo_56 : decode bP_writeTo 56 = .ok (.aload_n 0, 1) := by decide +kernel
theorem dP_writeTo_57 : decode bP_writeTo 57 = .ok (.getfield 9, 3) := by decide +kernel
theorem dP_writeTo_60 : decode bP_writeTo 60 = .ok (.iload 6, 2) := by decide +kernel
theorem dP_writeTo_62 : decode bP_writeTo 62 = .ok (.iaload, 1) := by decide +kernel
theorem dP_writeTo_63 : decode bP_writeTo 63 = .ok (.istore 8, 2) := by decide +kernel
theorem dP_writeTo_65 : decode bP_writeTo 65 = .ok (.aload_n 0, 1) := by decide +kernel
theorem dP_writeTo_66 : decode bP_writeTo 66 = .ok (.getfield 9, 3) := by decide +kernel
theorem dP_writeTo_69 : decode bP_writeTo 69 = .ok (.iload 7, 2) := by decide +kernel
theorem dP_writeTo_71 : decode bP_writeTo 71 = .ok (.iaload, 1) := by decide +kernel
theorem dP_writeTo_72 : decode bP_writeTo 72 = .ok (.istore 9, 2) := by decide +kernel
theorem dP_writeTo_74 : decode bP_writeTo 74 = .ok (.aload_n 2, 1) := by decide +kernel
theorem dP_writeTo_75 : decode bP_writeTo 75 = .ok (.iload 8, 2) := by decide +kernel
theorem dP_writeTo_77 : decode bP_writeTo 77 = .ok (.iload 9, 2) := by decide +kernel
theorem dP_writeTo_79 : decode bP_writeTo 79 = .ok (.iload_n 3, 1) := by decide +kernel
theorem dP_writeTo_80 : decode bP_writeTo 80 = .ok (.invokevirtual 78, 3) := by decide +kernel
theorem dP_writeTo_83 : decode bP_writeTo 83 = .ok (.istore 10, 2) := by decide +kernel
theorem dP_writeTo_85 : decode bP_writeTo 85 = .ok (.aload_n 1, 1) := by decide +kernel
theorem dP_writeTo_86 : decode bP_writeTo 86 = .ok (.iload 8, 2) := by decide +kernel
theorem dP_writeTo_88 : decode bP_writeTo 88 = .ok (.iload 9, 2) := by decide +kernel
theorem dP_writeTo_90 : decode bP_writeTo 90 = .ok (.iload 10, 2) := by decide +kernel
theorem dP_writeTo_92 : decode bP_writeTo 92 = .ok (.invokestatic 84, 3) := by decide +kernel
theorem dP_writeTo_95 : decode bP_writeTo 95 = .ok (.iastore, 1) := by decide +kernel
theorem dP_writeTo_96 : decode bP_writeTo 96 = .ok (.aload_n 1, 1) := by decide +kernel
theorem dP_writeTo_97 : decode bP_writeTo 97 = .ok (.iload 9, 2) := by decide +kernel
theorem dP_writeTo_99 : decode bP_writeTo 99 = .ok (.iload 8, 2) := by decide +kernel
theorem dP_writeTo_101 : decode bP_writeTo 101 = .ok (.iload 10, 2) := by decide +kernel
theorem dP_writeTo_103 : decode bP_writeTo 103 = .ok (.ineg, 1) := by decide +kernel
theorem dP_writeTo_104 : decode bP_writeTo 104 = .ok (.invokestatic 84, 3) := by decide +kernel
theorem dP_writeTo_107 : decode bP_writeTo 107 = .ok (.iastore, 1) := by decide +kernel
theorem dP_writeTo_108 : decode bP_writeTo 108 = .ok (.iload 4, 2) := by decide +kernel
theorem dP_writeTo_110 : decode bP_writeTo 110 = .ok (.iload 6, 2) := by decide +kernel
theorem dP_writeTo_112 : decode bP_writeTo 112 = .ok (.iload 7, 2) := by decide +kernel
theorem dP_writeTo_114 : decode bP_writeTo 114 = .ok (.invokestatic 87, 3) := by decide +kernel
theorem dP_writeTo_117 : decode bP_writeTo 117 = .ok (.istore 4, 2) := by decide +kernel
theorem dP_writeTo_119 : decode bP_writeTo 119 = .ok (.iinc 5 1, 3) := by decide +kernel
theorem dP_writeTo_122 : decode bP_writeTo 122 = .ok (.goto (-92), 3) := by decide +kernel
theorem dP_writeTo_125 : decode bP_writeTo 125 = .ok (.return_, 1) := by decide +kernel
end
section
theorem dS_clashes_0 : decode bS_clashes 0 = .ok (.iconst 0, 1) := by decide +kernel
theorem dS_clashes_1 : decode bS_clashes 1 = .ok (.istore_n 3, 1) := by decide +kernel
theorem dS_clashes_2 : decode bS_clashes 2 = .ok (.aload_n 0, 1) := by decide +kernel
theorem dS_clashes_3 : decode bS_clashes 3 = .ok (.getfield 33, 3) := by decide +kernel
theorem dS_clashes_6 : decode bS_clashes 6 = .ok (.iload_n 1, 1) := by decide +kernel
theorem dS_clashes_7 : decode bS_clashes 7 = .ok (.iaload, 1) := by decide +kernel
theorem dS_clashes_8 : decode bS_clashes 8 = .ok (.iload_n 2, 1) := by decide +kernel
theorem dS_clashes_9 : decode bS_clashes 9 = .ok (.if_icmp .ne 16, 3) := by decide +kernel
theorem dS_clashes_12 : decode bS_clashes 12 = .ok (.aload_n 0, 1) := by decide +kernel
theorem dS_clashes_13 : decode bS_clashes 13 = .ok (.getfield 36, 3) := by decide +kernel
theorem dS_clashes_16 : decode bS_clashes 16 = .ok (.iload_n 1, 1) := by decide +kernel
theorem dS_clashes_17 : decode bS_clashes 17 = .ok (.iaload, 1) := by decide +kernel
theorem dS_clashes_18 : decode bS_clashes 18 = .ok (.iload_n 2, 1) := by decide +kernel
theorem dS_clashes_19 : decode bS_clashes 19 = .ok (.if_icmp .ne 6, 3) := by decide +kernel
theorem dS_clashes_22 : decode bS_clashes 22 = .ok (.iinc 3 1, 3) := by decide +kernel
theorem dS_clashes_25 : decode bS_clashes 25 = .ok (.aload_n 0, 1) := by decide +kernel
theorem dS_clashes_26 : decode bS_clashes 26 = .ok (.getfield 15, 3) := by decide +kernel
theorem dS_clashes_29 : decode bS_clashes 29 = .ok (.iload_n 1, 1) := by decide +kernel
theorem dS_clashes_30 : decode bS_clashes 30 = .ok (.iaload, 1) := by decide +kernel
theorem dS_clashes_31 : decode bS_clashes 31 = .ok (.iload_n 2, 1) := by decide +kernel
theorem dS_clashes_32 : decode bS_clashes 32 = .ok (.iadd, 1) := by decide +kernel
theorem dS_clashes_33 : decode bS_clashes 33 = .ok (.istore 4, 2) := by decide +kernel
theorem dS_clashes_35 : decode bS_clashes 35 = .ok (.iload 4, 2) := by decide +kernel
theorem dS_clashes_37 : decode bS_clashes 37 = .ok (.iconst 3, 1) := by decide +kernel
theorem dS_clashes_38 : decode bS_clashes 38 = .ok (.if_icmp .ge 10, 3) := by decide +kernel
theorem dS_clashes_41 : decode bS_clashes 41 = .ok (.iload 4, 2) := by decide +kernel
theorem dS_clashes_43 : decode bS_clashes 43 = .ok (.bipush (-3), 2) := by decide +kernel
theorem dS_clashes_45 : decode bS_clashes 45 = .ok (.if_icmp .gt 6, 3) := by decide +kernel
theorem dS_clashes_48 : decode bS_clashes 48 = .ok (.iinc 3 1, 3) := by decide +kernel
theorem dS_clashes_51 : decode bS_clashes 51 = .ok (.iload_n 3, 1) := by decide +kernel
theorem dS_clashes_52 : decode bS_clashes 52 = .ok (.ireturn, 1) := by decide +kernel
theorem dS_clear_0 : decode bS_clear 0 = .ok (.aload_n 0, 1) := by decide +kernel
theorem dS_clear_1 : decode bS_clear 1 = .ok (.getfield 9, 3) := by decide +kernel
theorem dS_clear_4 : decode bS_clear 4 = .ok (.iconst 0, 1) := by decide +kernel
theorem dS_clear_5 : decode bS_clear 5 = .ok (.invokestatic 52, 3) := by decide +kernel
theorem dS_clear_8 : decode bS_clear 8 = .ok (.aload_n 0, 1) := by decide +kernel
theorem dS_clear_9 : decode bS_clear 9 = .ok (.getfield 15, 3) := by decide +kernel
theorem dS_clear_12 : decode bS_clear 12 = .ok (.iconst 0, 1) := by decide +kernel
theorem dS_clear_13 : decode bS_clear 13 = .ok (.invokestatic 52, 3) := by decide +kernel
theorem dS_clear_16 : decode bS_clear 16 = .ok (.aload_n 0, 1) := by decide +kernel
theorem dS_clear_17 : decode bS_clear 17 = .ok (.getfield 18, 3) := by decide +kernel
theorem dS_clear_20 : decode bS_clear 20 = .ok (.iconst 0, 1) := by decide +kernel
theorem dS_clear_21 : decode bS_clear 21 = .ok (.invokestatic 52, 3) := by decide +kernel
theorem dS_clear_24 : decode bS_clear 24 = .ok (.aload_n 0, 1) := by decide +kernel
theorem dS_clear_25 : decode bS_clear 25 = .ok (.getfield 21, 3) := by decide +kernel
theorem dS_clear_28 : decode bS_clear 28 = .ok (.iconst 0, 1) := by decide +kernel
theorem dS_clear_29 : decode bS_clear 29 = .ok (.invokestatic 52, 3) := by decide +kernel
theorem dS_clear_32 : decode bS_clear 32 = .ok (.aload_n 0, 1) := by decide +kernel
theorem dS_clear_33 : decode bS_clear 33 = .ok (.getfield 24, 3) := by decide +kernel
theorem dS_clear_36 : decode bS_clear 36 = .ok (.iconst 0, 1) := by decide +kernel
theorem dS_clear_37 : decode bS_clear 37 = .ok (.invokestatic 52, 3) := by decide +kernel
theorem dS_clear_40 : decode bS_clear 40 = .ok (.aload_n 0, 1) := by decide +kernel
theorem dS_clear_41 : decode bS_clear 41 = .ok (.getfield 27, 3) := by decide +kernel
theorem dS_clear_44 : decode bS_clear 44 = .ok (.iconst 0, 1) := by decide +kernel
theorem dS_clear_45 : decode bS_clear 45 = .ok (.invokestatic 52, 3) := by decide +kernel
theorem dS_clear_48 : decode bS_clear 48 = .ok (.aload_n 0, 1) := by decide +kernel
theorem dS_clear_49 : decode bS_clear 49 = .ok (.getfield 30, 3) := by decide +kernel
theorem dS_clear_52 : decode bS_clear 52 = .ok (.iconst 0, 1) := by decide +kernel
theorem dS_clear_53 : decode bS_clear 53 = .ok (.invokestatic 52, 3) := by decide +kernel
theorem dS_clear_56 : decode bS_clear 56 = .ok (.aload_n 0, 1) := by decide +kernel
theorem dS_clear_57 : decode bS_clear 57 = .ok (.getfield 33, 3) := by decide +kernel
theorem dS_clear_60 : decode bS_clear 60 = .ok (.iconst 0, 1) := by decide +kernel
theorem dS_clear_61 : decode bS_clear 61 = .ok (.invokestatic 52, 3) := by decide +kernel
theorem dS_clear_64 : decode bS_clear 64 = .ok (.aload_n 0, 1) := by decide +kernel
theorem dS_clear_65 : decode bS_clear 65 = .ok (.getfield 36, 3) := by decide +kernel
theorem dS_clear_68 : decode bS_clear 68 = .ok (.iconst 0, 1) := by decide +kernel
theorem dS_clear_69 : decode bS_clear 69 = .ok (.invokestatic 52, 3) := by decide +kernel
theorem dS_clear_72 : decode bS_clear 72 = .ok (.aload_n 0, 1) := by decide +kernel
theorem dS_clear_73 : decode bS_clear 73 = .ok (.getfield 39, 3) := by decide +kernel
theorem dS_clear_76 : decode bS_clear 76 = .ok (.iconst 0, 1) := by decide +kernel
theorem dS_clear_77 : decode bS_clear 77 = .ok (.invokestatic 52, 3) := by decide +kernel
theorem dS_clear_80 : decode bS_clear 80 = .ok (.return_, 1) := by decide +kernel
theorem dS_colourOfFirst_0 : decode bS_colourOfFirst 0 = .ok (.aload_n 0, 1) := by decide +kernel
theorem dS_colourOfFirst_1 : decode bS_colourOfFirst 1 = .ok (.getfield 15, 3) := by decide +kernel
theorem dS_colourOfFirst_4 : decode bS_colourOfFirst 4 = .ok (.iload_n 1, 1) := by decide +kernel
theorem dS_colourOfFirst_5 : decode bS_colourOfFirst 5 = .ok (.iaload, 1) := by decide +kernel
theorem dS_colourOfFirst_6 : decode bS_colourOfFirst 6 = .ok (.aload_n 0, 1) := by decide +kernel
theorem dS_colourOfFirst_7 : decode bS_colourOfFirst 7 = .ok (.getfield 15, 3) := by decide +kernel
theorem dS_colourOfFirst_10 : decode bS_colourOfFirst 10 = .ok (.iload_n 2, 1) := by decide +kernel
theorem dS_colourOfFirst_11 : decode bS_colourOfFirst 11 = .ok (.iaload, 1) := by decide +kernel
theorem dS_colourOfFirst_12 : decode bS_colourOfFirst 12 = .ok (.if_icmp .eq 24, 3) := by decide +kernel
theorem dS_colourOfFirst_15 : decode bS_colourOfFirst 15 = .ok (.aload_n 0, 1) := by decide +kernel
theorem dS_colourOfFirst_16 : decode bS_colourOfFirst 16 = .ok (.getfield 15, 3) := by decide +kernel
theorem dS_colourOfFirst_19 : decode bS_colourOfFirst 19 = .ok (.iload_n 1, 1) := by decide +kernel
theorem dS_colourOfFirst_20 : decode bS_colourOfFirst 20 = .ok (.iaload, 1) := by decide +kernel
theorem dS_colourOfFirst_21 : decode bS_colourOfFirst 21 = .ok (.aload_n 0, 1) := by decide +kernel
theorem dS_colourOfFirst_22 : decode bS_colourOfFirst 22 = .ok (.getfield 15, 3) := by decide +kernel
theorem dS_colourOfFirst_25 : decode bS_colourOfFirst 25 = .ok (.iload_n 2, 1) := by decide +kernel
theorem dS_colourOfFirst_26 : decode bS_colourOfFirst 26 = .ok (.iaload, 1) := by decide +kernel
theorem dS_colourOfFirst_27 : decode bS_colourOfFirst 27 = .ok (.if_icmp .ge 7, 3) := by decide +kernel
theorem dS_colourOfFirst_30 : decode bS_colourOfFirst 30 = .ok (.iconst 1, 1) := by decide +kernel
theorem dS_colourOfFirst_31 : decode bS_colourOfFirst 31 = .ok (.goto 4, 3) := by decide +kernel
theorem dS_colourOfFirst_34 : decode bS_colourOfFirst 34 = .ok (.iconst (-1), 1) := by decide +kernel
theorem dS_colourOfFirst_35 : decode bS_colourOfFirst 35 = .ok (.ireturn, 1) := by decide +kernel
theorem dS_colourOfFirst_36 : decode bS_colourOfFirst 36 = .ok (.aload_n 0, 1) := by decide +kernel
theorem dS_colourOfFirst_37 : decode bS_colourOfFirst 37 = .ok (.getfield 33, 3) := by decide +kernel
theorem dS_colourOfFirst_40 : decode bS_colourOfFirst 40 = .ok (.iload_n 1, 1) := by decide +kernel
theorem dS_colourOfFirst_41 : decode bS_colourOfFirst 41 = .ok (.iaload, 1) := by decide +kernel
theorem dS_colourOfFirst_42 : decode bS_colourOfFirst 42 = .ok (.aload_n 0, 1) := by decide +kernel
theorem dS_colourOfFirst_43 : decode bS_colourOfFirst 43 = .ok (.getfield 33, 3) := by decide +kernel
theorem dS_colourOfFirst_46 : decode bS_colourOfFirst 46 = .ok (.iload_n 2, 1) := by decide +kernel
theorem dS_colourOfFirst_47 : decode bS_colourOfFirst 47 = .ok (.iaload, 1) := by decide +kernel
theorem dS_colourOfFirst_48 : decode bS_colourOfFirst 48 = .ok (.ineg, 1) := by decide +kernel
theorem dS_colourOfFirst_49 : decode bS_colourOfFirst 49 = .ok (.if_icmp .ne 20, 3) := by decide +kernel
theorem dS_colourOfFirst_52 : decode bS_colourOfFirst 52 = .ok (.aload_n 0, 1) := by decide +kernel
theorem dS_colourOfFirst_53 : decode bS_colourOfFirst 53 = .ok (.getfield 33, 3) := by decide +kernel
theorem dS_colourOfFirst_56 : decode bS_colourOfFirst 56 = .ok (.iload_n 1, 1) := by decide +kernel
theorem dS_colourOfFirst_57 : decode bS_colourOfFirst 57 = .ok (.iaload, 1) := by decide +kernel
theorem dS_colourOfFirst_58 : decode bS_colourOfFirst 58 = .ok (.ifCond .eq 11, 3) := by decide +kernel
theorem dS_colourOfFirst_61 : decode bS_colourOfFirst 61 = .ok (.aload_n 0, 1) := by decide +kernel
theorem dS_colourOfFirst_62 : decode bS_colourOfFirst 62 = .ok (.getfield 33, 3) := by decide +kernel
theorem dS_colourOfFirst_65 : decode bS_colourOfFirst 65 = .ok (.iload_n 1, 1) := by decide +kernel
theorem dS_colourOfFirst_66 : decode bS_colourOfFirst 66 = .ok (.iaload, 1) := by decide +kernel
theorem dS_colourOfFirst_67 : decode bS_colourOfFirst 67 = .ok (.ineg, 1) := by decide +kernel
theorem dS_colourOfFirst_68 : decode bS_colourOfFirst 68 = .ok (.ireturn, 1) := by decide +kernel
theorem dS_colourOfFirst_69 : decode bS_colourOfFirst 69 = .ok (.iload_n 3, 1) := by decide +kernel
theorem dS_colourOfFirst_70 : decode bS_colourOfFirst 70 = .ok (.iconst 2, 1) := by decide +kernel
theorem dS_colourOfFirst_71 : decode bS_colourOfFirst 71 = .ok (.irem, 1) := by decide +kernel
theorem dS_colourOfFirst_72 : decode bS_colourOfFirst 72 = .ok (.ifCond .ne 7, 3) := by decide +kernel
theorem dS_colourOfFirst_75 : decode bS_colourOfFirst 75 = .ok (.iconst 1, 1) := by decide +kernel
theorem dS_colourOfFirst_76 : decode bS_colourOfFirst 76 = .ok (.goto 4, 3) := by decide +kernel
theorem dS_colourOfFirst_79 : decode bS_colourOfFirst 79 = .ok (.iconst (-1), 1) := by decide +kernel
theorem dS_colourOfFirst_80 : decode bS_colourOfFirst 80 = .ok (.ireturn, 1) := by decide +kernel
theorem dS_costOfGame_0 : decode bS_costOfGame 0 = .ok (.aload_n 0, 1) := by decide +kernel
theorem dS_costOfGame_1 : decode bS_costOfGame 1 = .ok (.getfield 9, 3) := by decide +kernel
theorem dS_costOfGame_4 : decode bS_costOfGame 4 = .ok (.iload_n 1, 1) := by decide +kernel
theorem dS_costOfGame_5 : decode bS_costOfGame 5 = .ok (.iaload, 1) := by decide +kernel
theorem dS_costOfGame_6 : decode bS_costOfGame 6 = .ok (.aload_n 0, 1) := by decide +kernel
theorem dS_costOfGame_7 : decode bS_costOfGame 7 = .ok (.getfield 9, 3) := by decide +kernel
theorem dS_costOfGame_10 : decode bS_costOfGame 10 = .ok (.iload_n 2, 1) := by decide +kernel
theorem dS_costOfGame_11 : decode bS_costOfGame 11 = .ok (.iaload, 1) := by decide +kernel
theorem dS_costOfGame_12 : decode bS_costOfGame 12 = .ok (.isub, 1) := by decide +kernel
theorem dS_costOfGame_13 : decode bS_costOfGame 13 = .ok (.istore 4, 2) := by decide +kernel
theorem dS_costOfGame_15 : decode bS_costOfGame 15 = .ok (.aload_n 0, 1) := by decide +kernel
theorem dS_costOfGame_16 : decode bS_costOfGame 16 = .ok (.iload_n 1, 1) := by decide +kernel
theorem dS_costOfGame_17 : decode bS_costOfGame 17 = .ok (.iload_n 2, 1) := by decide +kernel
theorem dS_costOfGame_18 : decode bS_costOfGame 18 = .ok (.iload_n 3, 1) := by decide +kernel
theorem dS_costOfGame_19 : decode bS_costOfGame 19 = .ok (.invokevirtual 78, 3) := by decide +kernel
theorem dS_costOfGame_22 : decode bS_costOfGame 22 = .ok (.istore 5, 2) := by decide +kernel
theorem dS_costOfGame_24 : decode bS_costOfGame 24 = .ok (.bipush 64, 2) := by decide +kernel
theorem dS_costOfGame_26 : decode bS_costOfGame 26 = .ok (.iload 4, 2) := by decide +kernel
theorem dS_costOfGame_28 : decode bS_costOfGame 28 = .ok (.imul, 1) := by decide +kernel
theorem dS_costOfGame_29 : decode bS_costOfGame 29 = .ok (.iload 4, 2) := by decide +kernel
theorem dS_costOfGame_31 : decode bS_costOfGame 31 = .ok (.imul, 1) := by decide +kernel
theorem dS_costOfGame_32 : decode bS_costOfGame 32 = .ok (.aload_n 0, 1) := by decide +kernel
theorem dS_costOfGame_33 : decode bS_costOfGame 33 = .ok (.iload_n 1, 1) := by decide +kernel
theorem dS_costOfGame_34 : decode bS_costOfGame 34 = .ok (.iload 5, 2) := by decide +kernel
theorem dS_costOfGame_36 : decode bS_costOfGame 36 = .ok (.invokevirtual 82, 3) := by decide +kernel
theorem dS_costOfGame_39 : decode bS_costOfGame 39 = .ok (.iadd, 1) := by decide +kernel
theorem dS_costOfGame_40 : decode bS_costOfGame 40 = .ok (.aload_n 0, 1) := by decide +kernel
theorem dS_costOfGame_41 : decode bS_costOfGame 41 = .ok (.iload_n 2, 1) := by decide +kernel
theorem dS_costOfGame_42 : decode bS_costOfGame 42 = .ok (.iload 5, 2) := by decide +kernel
theorem dS_costOfGame_44 : decode bS_costOfGame 44 = .ok (.ineg, 1) := by decide +kernel
theorem dS_costOfGame_45 : decode bS_costOfGame 45 = .ok (.invokevirtual 82, 3) := by decide +kernel
theorem dS_costOfGame_48 : decode bS_costOfGame 48 = .ok (.iadd, 1) := by decide +kernel
theorem dS_costOfGame_49 : decode bS_costOfGame 49 = .ok (.ireturn, 1) := by decide +kernel
theorem dS_countCell_0 : decode bS_countCell 0 = .ok (.iload_n 2, 1) := by decide +kernel
theorem dS_countCell_1 : decode bS_countCell 1 = .ok (.iconst (-1), 1) := by decide +kernel
theorem dS_countCell_2 : decode bS_countCell 2 = .ok (.if_icmp .ne 4, 3) := by decide +kernel
theorem dS_countCell_5 : decode bS_countCell 5 = .ok (.return_, 1) := by decide +kernel
theorem dS_countCell_6 : decode bS_countCell 6 = .ok (.aload_n 0, 1) := by decide +kernel
theorem dS_countCell_7 : decode bS_countCell 7 = .ok (.getfield 9, 3) := by decide +kernel
theorem dS_countCell_10 : decode bS_countCell 10 = .ok (.iload_n 1, 1) := by decide +kernel
theorem dS_countCell_11 : decode bS_countCell 11 = .ok (.dup2, 1) := by decide +kernel
theorem dS_countCell_12 : decode bS_countCell 12 = .ok (.iaload, 1) := by decide +kernel
theorem dS_countCell_13 : decode bS_countCell 13 = .ok (.iload_n 2, 1) := by decide +kernel
theorem dS_countCell_14 : decode bS_countCell 14 = .ok (.invokestatic 58, 3) := by decide +kernel
theorem dS_countCell_17 : decode bS_countCell 17 = .ok (.iadd, 1) := by decide +kernel
theorem dS_countCell_18 : decode bS_countCell 18 = .ok (.iastore, 1) := by decide +kernel
theorem dS_countCell_19 : decode bS_countCell 19 = .ok (.iload_n 2, 1) := by decide +kernel
theorem dS_countCell_20 : decode bS_countCell 20 = .ok (.invokestatic 64, 3) := by decide +kernel
theorem dS_countCell_23 : decode bS_countCell 23 = .ok (.ifCond .ne 14, 3) := by decide +kernel
theorem dS_countCell_26 : decode bS_countCell 26 = .ok (.aload_n 0, 1) := by decide +kernel
theorem dS_countCell_27 : decode bS_countCell 27 = .ok (.getfield 27, 3) := by decide +kernel
theorem dS_countCell_30 : decode bS_countCell 30 = .ok (.iload_n 1, 1) := by decide +kernel
theorem dS_countCell_31 : decode bS_countCell 31 = .ok (.dup2, 1) := by decide +kernel
theorem dS_countCell_32 : decode bS_countCell 32 = .ok (.iaload, 1) := by decide +kernel
theorem dS_countCell_33 : decode bS_countCell 33 = .ok (.iconst 1, 1) := by decide +kernel
theorem dS_countCell_34 : decode bS_countCell 34 = .ok (.iadd, 1) := by decide +kernel
theorem dS_countCell_35 : decode bS_countCell 35 = .ok (.iastore, 1) := by decide +kernel
theorem dS_countCell_36 : decode bS_countCell 36 = .ok (.return_, 1) := by decide +kernel
theorem dS_countCell_37 : decode bS_countCell 37 = .ok (.aload_n 0, 1) := by decide +kernel
theorem dS_countCell_38 : decode bS_countCell 38 = .ok (.getfield 30, 3) := by decide +kernel
theorem dS_countCell_41 : decode bS_countCell 41 = .ok (.iload_n 1, 1) := by decide +kernel
theorem dS_countCell_42 : decode bS_countCell 42 = .ok (.dup2, 1) := by decide +kernel
theorem dS_countCell_43 : decode bS_countCell 43 = .ok (.iaload, 1) := by decide +kernel
theorem dS_countCell_44 : decode bS_countCell 44 = .ok (.iconst 1, 1) := by decide +kernel
theorem dS_countCell_45 : decode bS_countCell 45 = .ok (.iadd, 1) := by decide +kernel
theorem dS_countCell_46 : decode bS_countCell 46 = .ok (.iastore, 1) := by decide +kernel
theorem dS_countCell_47 : decode bS_countCell 47 = .ok (.iload_n 2, 1) := by decide +kernel
theorem dS_countCell_48 : decode bS_countCell 48 = .ok (.invokestatic 58, 3) := by decide +kernel
theorem dS_countCell_51 : decode bS_countCell 51 = .ok (.iconst 2, 1) := by decide +kernel
theorem dS_countCell_52 : decode bS_countCell 52 = .ok (.if_icmp .ne 13, 3) := by decide +kernel
theorem dS_countCell_55 : decode bS_countCell 55 = .ok (.aload_n 0, 1) := by decide +kernel
theorem dS_countCell_56 : decode bS_countCell 56 = .ok (.getfield 24, 3) := by decide +kernel
theorem dS_countCell_59 : decode bS_countCell 59 = .ok (.iload_n 1, 1) := by decide +kernel
theorem dS_countCell_60 : decode bS_countCell 60 = .ok (.dup2, 1) := by decide +kernel
theorem dS_countCell_61 : decode bS_countCell 61 = .ok (.iaload, 1) := by decide +kernel
theorem dS_countCell_62 : decode bS_countCell 62 = .ok (.iconst 1, 1) := by decide +kernel
theorem dS_countCell_63 : decode bS_countCell 63 = .ok (.iadd, 1) := by decide +kernel
theorem dS_countCell_64 : decode bS_countCell 64 = .ok (.iastore, 1) := by decide +kernel
theorem dS_countCell_65 : decode bS_countCell 65 = .ok (.iload_n 2, 1) := by decide +kernel
theorem dS_countCell_66 : decode bS_countCell 66 = .ok (.invokestatic 68, 3) := by decide +kernel
theorem dS_countCell_69 : decode bS_countCell 69 = .ok (.istore_n 3, 1) := by decide +kernel
theorem dS_countCell_70 : decode bS_countCell 70 = .ok (.aload_n 0, 1) := by decide +kernel
theorem dS_countCell_71 : decode bS_countCell 71 = .ok (.getfield 15, 3) := by decide +kernel
theorem dS_countCell_74 : decode bS_countCell 74 = .ok (.iload_n 1, 1) := by decide +kernel
theorem dS_countCell_75 : decode bS_countCell 75 = .ok (.dup2, 1) := by decide +kernel
theorem dS_countCell_76 : decode bS_countCell 76 = .ok (.iaload, 1) := by decide +kernel
theorem dS_countCell_77 : decode bS_countCell 77 = .ok (.iload_n 3, 1) := by decide +kernel
theorem dS_countCell_78 : decode bS_countCell 78 = .ok (.iadd, 1) := by decide +kernel
theorem dS_countCell_79 : decode bS_countCell 79 = .ok (.iastore, 1) := by decide +kernel
theorem dS_countCell_80 : decode bS_countCell 80 = .ok (.aload_n 0, 1) := by decide +kernel
theorem dS_countCell_81 : decode bS_countCell 81 = .ok (.getfield 36, 3) := by decide +kernel
theorem dS_countCell_84 : decode bS_countCell 84 = .ok (.iload_n 1, 1) := by decide +kernel
theorem dS_countCell_85 : decode bS_countCell 85 = .ok (.aload_n 0, 1) := by decide +kernel
theorem dS_countCell_86 : decode bS_countCell 86 = .ok (.getfield 33, 3) := by decide +kernel
theorem dS_countCell_89 : decode bS_countCell 89 = .ok (.iload_n 1, 1) := by decide +kernel
theorem dS_countCell_90 : decode bS_countCell 90 = .ok (.iaload, 1) := by decide +kernel
theorem dS_countCell_91 : decode bS_countCell 91 = .ok (.iastore, 1) := by decide +kernel
theorem dS_countCell_92 : decode bS_countCell 92 = .ok (.aload_n 0, 1) := by decide +kernel
theorem dS_countCell_93 : decode bS_countCell 93 = .ok (.getfield 33, 3) := by decide +kernel
theorem dS_countCell_96 : decode bS_countCell 96 = .ok (.iload_n 1, 1) := by decide +kernel
theorem dS_countCell_97 : decode bS_countCell 97 = .ok (.iload_n 3, 1) := by decide +kernel
theorem dS_countCell_98 : decode bS_countCell 98 = .ok (.iastore, 1) := by decide +kernel
theorem dS_countCell_99 : decode bS_countCell 99 = .ok (.aload_n 0, 1) := by decide +kernel
theorem dS_countCell_100 : decode bS_countCell 100 = .ok (.getfield 39, 3) := by decide +kernel
theorem dS_countCell_103 : decode bS_countCell 103 = .ok (.iload_n 1, 1) := by decide +kernel
theorem dS_countCell_104 : decode bS_countCell 104 = .ok (.dup2, 1) := by decide +kernel
theorem dS_countCell_105 : decode bS_countCell 105 = .ok (.iaload, 1) := by decide +kernel
theorem dS_countCell_106 : decode bS_countCell 106 = .ok (.iconst 1, 1) := by decide +kernel
theorem dS_countCell_107 : decode bS_countCell 107 = .ok (.iload_n 2, 1) := by decide +kernel
theorem dS_countCell_108 : decode bS_countCell 108 = .ok (.invokestatic 71, 3) := by decide +kernel
theorem dS_countCell_111 : decode bS_countCell 111 = .ok (.ishl, 1) := by decide +kernel
theorem dS_countCell_112 : decode bS_countCell 112 = .ok (.ior, 1) := by decide +kernel
theorem dS_countCell_113 : decode bS_countCell 113 = .ok (.iastore, 1) := by decide +kernel
theorem dS_countCell_114 : decode bS_countCell 114 = .ok (.return_, 1) := by decide +kernel
theorem dS_countOpponent_0 : decode bS_countOpponent 0 = .ok (.iload_n 2, 1) := by decide +kernel
theorem dS_countOpponent_1 : decode bS_countOpponent 1 = .ok (.invokestatic 64, 3) := by decide +kernel
theorem dS_countOpponent_4 : decode bS_countOpponent 4 = .ok (.ifCond .eq 38, 3) := by decide +kernel
theorem dS_countOpponent_7 : decode bS_countOpponent 7 = .ok (.aload_n 0, 1) := by decide +kernel
theorem dS_countOpponent_8 : decode bS_countOpponent 8 = .ok (.getfield 9, 3) := by decide +kernel
theorem dS_countOpponent_11 : decode bS_countOpponent 11 = .ok (.iload_n 2, 1) := by decide +kernel
theorem dS_countOpponent_12 : decode bS_countOpponent 12 = .ok (.invokestatic 71, 3) := by decide +kernel
theorem dS_countOpponent_15 : decode bS_countOpponent 15 = .ok (.iaload, 1) := by decide +kernel
theorem dS_countOpponent_16 : decode bS_countOpponent 16 = .ok (.istore_n 3, 1) := by decide +kernel
theorem dS_countOpponent_17 : decode bS_countOpponent 17 = .ok (.aload_n 0, 1) := by decide +kernel
theorem dS_countOpponent_18 : decode bS_countOpponent 18 = .ok (.getfield 18, 3) := by decide +kernel
theorem dS_countOpponent_21 : decode bS_countOpponent 21 = .ok (.iload_n 1, 1) := by decide +kernel
theorem dS_countOpponent_22 : decode bS_countOpponent 22 = .ok (.dup2, 1) := by decide +kernel
theorem dS_countOpponent_23 : decode bS_countOpponent 23 = .ok (.iaload, 1) := by decide +kernel
theorem dS_countOpponent_24 : decode bS_countOpponent 24 = .ok (.iload_n 3, 1) := by decide +kernel
theorem dS_countOpponent_25 : decode bS_countOpponent 25 = .ok (.iadd, 1) := by decide +kernel
theorem dS_countOpponent_26 : decode bS_countOpponent 26 = .ok (.iastore, 1) := by decide +kernel
theorem dS_countOpponent_27 : decode bS_countOpponent 27 = .ok (.aload_n 0, 1) := by decide +kernel
theorem dS_countOpponent_28 : decode bS_countOpponent 28 = .ok (.getfield 21, 3) := by decide +kernel
theorem dS_countOpponent_31 : decode bS_countOpponent 31 = .ok (.iload_n 1, 1) := by decide +kernel
theorem dS_countOpponent_32 : decode bS_countOpponent 32 = .ok (.dup2, 1) := by decide +kernel
theorem dS_countOpponent_33 : decode bS_countOpponent 33 = .ok (.iaload, 1) := by decide +kernel
theorem dS_countOpponent_34 : decode bS_countOpponent 34 = .ok (.iload_n 2, 1) := by decide +kernel
theorem dS_countOpponent_35 : decode bS_countOpponent 35 = .ok (.invokestatic 58, 3) := by decide +kernel
theorem dS_countOpponent_38 : decode bS_countOpponent 38 = .ok (.iload_n 3, 1) := by decide +kernel
theorem dS_countOpponent_39 : decode bS_countOpponent 39 = .ok (.imul, 1) := by decide +kernel
theorem dS_countOpponent_40 : decode bS_countOpponent 40 = .ok (.iadd, 1) := by decide +kernel
theorem dS_countOpponent_41 : decode bS_countOpponent 41 = .ok (.iastore, 1) := by decide +kernel
theorem dS_countOpponent_42 : decode bS_countOpponent 42 = .ok (.return_, 1) := by decide +kernel
theorem dS_getsByeBefore_0 : decode bS_getsByeBefore 0 = .ok (.aload_n 0, 1) := by decide +kernel
theorem dS_getsByeBefore_1 : decode bS_getsByeBefore 1 = .ok (.getfield 27, 3) := by decide +kernel
theorem dS_getsByeBefore_4 : decode bS_getsByeBefore 4 = .ok (.iload_n 1, 1) := by decide +kernel
theorem dS_getsByeBefore_5 : decode bS_getsByeBefore 5 = .ok (.iaload, 1) := by decide +kernel
theorem dS_getsByeBefore_6 : decode bS_getsByeBefore 6 = .ok (.aload_n 0, 1) := by decide +kernel
theorem dS_getsByeBefore_7 : decode bS_getsByeBefore 7 = .ok (.getfield 27, 3) := by decide +kernel
theorem dS_getsByeBefore_10 : decode bS_getsByeBefore 10 = .ok (.iload_n 2, 1) := by decide +kernel
theorem dS_getsByeBefore_11 : decode bS_getsByeBefore 11 = .ok (.iaload, 1) := by decide +kernel
theorem dS_getsByeBefore_12 : decode bS_getsByeBefore 12 = .ok (.if_icmp .eq 24, 3) := by decide +kernel
theorem dS_getsByeBefore_15 : decode bS_getsByeBefore 15 = .ok (.aload_n 0, 1) := by decide +kernel
theorem dS_getsByeBefore_16 : decode bS_getsByeBefore 16 = .ok (.getfield 27, 3) := by decide +kernel
theorem dS_getsByeBefore_19 : decode bS_getsByeBefore 19 = .ok (.iload_n 1, 1) := by decide +kernel
theorem dS_getsByeBefore_20 : decode bS_getsByeBefore 20 = .ok (.iaload, 1) := by decide +kernel
theorem dS_getsByeBefore_21 : decode bS_getsByeBefore 21 = .ok (.aload_n 0, 1) := by decide +kernel
theorem dS_getsByeBefore_22 : decode bS_getsByeBefore 22 = .ok (.getfield 27, 3) := by decide +kernel
theorem dS_getsByeBefore_25 : decode bS_getsByeBefore 25 = .ok (.iload_n 2, 1) := by decide +kernel
theorem dS_getsByeBefore_26 : decode bS_getsByeBefore 26 = .ok (.iaload, 1) := by decide +kernel
theorem dS_getsByeBefore_27 : decode bS_getsByeBefore 27 = .ok (.if_icmp .ge 7, 3) := by decide +kernel
theorem dS_getsByeBefore_30 : decode bS_getsByeBefore 30 = .ok (.iconst 1, 1) := by decide +kernel
theorem dS_getsByeBefore_31 : decode bS_getsByeBefore 31 = .ok (.goto 4, 3) := by decide +kernel
theorem dS_getsByeBefore_34 : decode bS_getsByeBefore 34 = .ok (.iconst 0, 1) := by decide +kernel
theorem dS_getsByeBefore_35 : decode bS_getsByeBefore 35 = .ok (.ireturn, 1) := by decide +kernel
theorem dS_getsByeBefore_36 : decode bS_getsByeBefore 36 = .ok (.aload_n 0, 1) := by decide +kernel
theorem dS_getsByeBefore_37 : decode bS_getsByeBefore 37 = .ok (.getfield 9, 3) := by decide +kernel
theorem dS_getsByeBefore_40 : decode bS_getsByeBefore 40 = .ok (.iload_n 1, 1) := by decide +kernel
theorem dS_getsByeBefore_41 : decode bS_getsByeBefore 41 = .ok (.iaload, 1) := by decide +kernel
theorem dS_getsByeBefore_42 : decode bS_getsByeBefore 42 = .ok (.aload_n 0, 1) := by decide +kernel
theorem dS_getsByeBefore_43 : decode bS_getsByeBefore 43 = .ok (.getfield 9, 3) := by decide +kernel
theorem dS_getsByeBefore_46 : decode bS_getsByeBefore 46 = .ok (.iload_n 2, 1) := by decide +kernel
theorem dS_getsByeBefore_47 : decode bS_getsByeBefore 47 = .ok (.iaload, 1) := by decide +kernel
theorem dS_getsByeBefore_48 : decode bS_getsByeBefore 48 = .ok (.if_icmp .eq 26, 3) := by decide +kernel
theorem dS_getsByeBefore_51 : decode bS_getsByeBefore 51 = .ok (.aload_n 0, 1) := by decide +kernel
theorem dS_getsByeBefore_52 : decode bS_getsByeBefore 52 = .ok (.getfield 9, 3) := by decide +kernel
theorem dS_getsByeBefore_55 : decode bS_getsByeBefore 55 = .ok (.iload_n 1, 1) := by decide +kernel
theorem dS_getsByeBefore_56 : decode bS_getsByeBefore 56 = .ok (.iaload, 1) := by decide +kernel
theorem dS_getsByeBefore_57 : decode bS_getsByeBefore 57 = .ok (.aload_n 0, 1) := by decide +kernel
theorem dS_getsByeBefore_58 : decode bS_getsByeBefore 58 = .ok (.getfield 9, 3) := by decide +kernel
theorem dS_getsByeBefore_61 : decode bS_getsByeBefore 61 = .ok (.iload_n 2, 1) := by decide +kernel
theorem dS_getsByeBefore_62 : decode bS_getsByeBefore 62 = .ok (.iaload, 1) := by decide +kernel
theorem dS_getsByeBefore_63 : decode bS_getsByeBefore 63 = .ok (.if_icmp .ge 7, 3) := by decide +kernel
theorem dS_getsByeBefore_66 : decode bS_getsByeBefore 66 = .ok (.iconst 1, 1) := by decide +kernel
theorem dS_getsByeBefore_67 : decode bS_getsByeBefore 67 = .ok (.goto 17, 3) := by decide +kernel
theorem dS_getsByeBefore_70 : decode bS_getsByeBefore 70 = .ok (.iconst 0, 1) := by decide +kernel
theorem dS_getsByeBefore_71 : decode bS_getsByeBefore 71 = .ok (.goto 13, 3) := by decide +kernel
theorem dS_getsByeBefore_74 : decode bS_getsByeBefore 74 = .ok (.iload_n 1, 1) := by decide +kernel
theorem dS_getsByeBefore_75 : decode bS_getsByeBefore 75 = .ok (.iload_n 2, 1) := by decide +kernel
theorem dS_getsByeBefore_76 : decode bS_getsByeBefore 76 = .ok (.if_icmp .le 7, 3) := by decide +kernel
theorem dS_getsByeBefore_79 : decode bS_getsByeBefore 79 = .ok (.iconst 1, 1) := by decide +kernel
theorem dS_getsByeBefore_80 : decode bS_getsByeBefore 80 = .ok (.goto 4, 3) := by decide +kernel
theorem dS_getsByeBefore_83 : decode bS_getsByeBefore 83 = .ok (.iconst 0, 1) := by decide +kernel
theorem dS_getsByeBefore_84 : decode bS_getsByeBefore 84 = .ok (.ireturn, 1) := by decide +kernel
theorem dS_init_0 : decode bS_init 0 = .ok (.aload_n 0, 1) := by decide +kernel
theorem dS_init_1 : decode bS_init 1 = .ok (.invokespecial 3, 3) := by decide +kernel
theorem dS_init_4 : decode bS_init 4 = .ok (.aload_n 0, 1) := by decide +kernel
theorem dS_init_5 : decode bS_init 5 = .ok (.bipush 12, 2) := by decide +kernel
theorem dS_init_7 : decode bS_init 7 = .ok (.newarray .int, 2) := by decide +kernel
theorem dS_init_9 : decode bS_init 9 = .ok (.putfield 9, 3) := by decide +kernel
theorem dS_init_12 : decode bS_init 12 = .ok (.aload_n 0, 1) := by decide +kernel
theorem dS_init_13 : decode bS_init 13 = .ok (.bipush 12, 2) := by decide +kernel
theorem dS_init_15 : decode bS_init 15 = .ok (.newarray .int, 2) := by decide +kernel
theorem dS_init_17 : decode bS_init 17 = .ok (.putfield 15, 3) := by decide +kernel
theorem dS_init_20 : decode bS_init 20 = .ok (.aload_n 0, 1) := by decide +kernel
theorem dS_init_21 : decode bS_init 21 = .ok (.bipush 12, 2) := by decide +kernel
theorem dS_init_23 : decode bS_init 23 = .ok (.newarray .int, 2) := by decide +kernel
theorem dS_init_25 : decode bS_init 25 = .ok (.putfield 18, 3) := by decide +kernel
theorem dS_init_28 : decode bS_init 28 = .ok (.aload_n 0, 1) := by decide +kernel
theorem dS_init_29 : decode bS_init 29 = .ok (.bipush 12, 2) := by decide +kernel
theorem dS_init_31 : decode bS_init 31 = .ok (.newarray .int, 2) := by decide +kernel
theorem dS_init_33 : decode bS_init 33 = .ok (.putfield 21, 3) := by decide +kernel
theorem dS_init_36 : decode bS_init 36 = .ok (.aload_n 0, 1) := by decide +kernel
theorem dS_init_37 : decode bS_init 37 = .ok (.bipush 12, 2) := by decide +kernel
theorem dS_init_39 : decode bS_init 39 = .ok (.newarray .int, 2) := by decide +kernel
theorem dS_init_41 : decode bS_init 41 = .ok (.putfield 24, 3) := by decide +kernel
theorem dS_init_44 : decode bS_init 44 = .ok (.aload_n 0, 1) := by decide +kernel
theorem dS_init_45 : decode bS_init 45 = .ok (.bipush 12, 2) := by decide +kernel
theorem dS_init_47 : decode bS_init 47 = .ok (.newarray .int, 2) := by decide +kernel
theorem dS_init_49 : decode bS_init 49 = .ok (.putfield 27, 3) := by decide +kernel
theorem dS_init_52 : decode bS_init 52 = .ok (.aload_n 0, 1) := by decide +kernel
theorem dS_init_53 : decode bS_init 53 = .ok (.bipush 12, 2) := by decide +kernel
theorem dS_init_55 : decode bS_init 55 = .ok (.newarray .int, 2) := by decide +kernel
theorem dS_init_57 : decode bS_init 57 = .ok (.putfield 30, 3) := by decide +kernel
theorem dS_init_60 : decode bS_init 60 = .ok (.aload_n 0, 1) := by decide +kernel
theorem dS_init_61 : decode bS_init 61 = .ok (.bipush 12, 2) := by decide +kernel
theorem dS_init_63 : decode bS_init 63 = .ok (.newarray .int, 2) := by decide +kernel
theorem dS_init_65 : decode bS_init 65 = .ok (.putfield 33, 3) := by decide +kernel
theorem dS_init_68 : decode bS_init 68 = .ok (.aload_n 0, 1) := by decide +kernel
theorem dS_init_69 : decode bS_init 69 = .ok (.bipush 12, 2) := by decide +kernel
theorem dS_init_71 : decode bS_init 71 = .ok (.newarray .int, 2) := by decide +kernel
theorem dS_init_73 : decode bS_init 73 = .ok (.putfield 36, 3) := by decide +kernel
theorem dS_init_76 : decode bS_init 76 = .ok (.aload_n 0, 1) := by decide +kernel
theorem dS_init_77 : decode bS_init 77 = .ok (.bipush 12, 2) := by decide +kernel
theorem dS_init_79 : decode bS_init 79 = .ok (.newarray .int, 2) := by decide +kernel
theorem dS_init_81 : decode bS_init 81 = .ok (.putfield 39, 3) := by decide +kernel
theorem dS_init_84 : decode bS_init 84 = .ok (.return_, 1) := by decide +kernel
theorem dS_isBeforeInOrder_0 : decode bS_isBeforeInOrder 0 = .ok (.aload_n 0, 1) := by decide +kernel
theorem dS_isBeforeInOrder_1 : decode bS_isBeforeInOrder 1 = .ok (.getfield 9, 3) := by decide +kernel
theorem dS_isBeforeInOrder_4 : decode bS_isBeforeInOrder 4 = .ok (.iload_n 1, 1) := by decide +kernel
theorem dS_isBeforeInOrder_5 : decode bS_isBeforeInOrder 5 = .ok (.iaload, 1) := by decide +kernel
theorem dS_isBeforeInOrder_6 : decode bS_isBeforeInOrder 6 = .ok (.aload_n 0, 1) := by decide +kernel
theorem dS_isBeforeInOrder_7 : decode bS_isBeforeInOrder 7 = .ok (.getfield 9, 3) := by decide +kernel
theorem dS_isBeforeInOrder_10 : decode bS_isBeforeInOrder 10 = .ok (.iload_n 2, 1) := by decide +kernel
theorem dS_isBeforeInOrder_11 : decode bS_isBeforeInOrder 11 = .ok (.iaload, 1) := by decide +kernel
theorem dS_isBeforeInOrder_12 : decode bS_isBeforeInOrder 12 = .ok (.if_icmp .eq 26, 3) := by decide +kernel
theorem dS_isBeforeInOrder_15 : decode bS_isBeforeInOrder 15 = .ok (.aload_n 0, 1) := by decide +kernel
theorem dS_isBeforeInOrder_16 : decode bS_isBeforeInOrder 16 = .ok (.getfield 9, 3) := by decide +kernel
theorem dS_isBeforeInOrder_19 : decode bS_isBeforeInOrder 19 = .ok (.iload_n 1, 1) := by decide +kernel
theorem dS_isBeforeInOrder_20 : decode bS_isBeforeInOrder 20 = .ok (.iaload, 1) := by decide +kernel
theorem dS_isBeforeInOrder_21 : decode bS_isBeforeInOrder 21 = .ok (.aload_n 0, 1) := by decide +kernel
theorem dS_isBeforeInOrder_22 : decode bS_isBeforeInOrder 22 = .ok (.getfield 9, 3) := by decide +kernel
theorem dS_isBeforeInOrder_25 : decode bS_isBeforeInOrder 25 = .ok (.iload_n 2, 1) := by decide +kernel
theorem dS_isBeforeInOrder_26 : decode bS_isBeforeInOrder 26 = .ok (.iaload, 1) := by decide +kernel
theorem dS_isBeforeInOrder_27 : decode bS_isBeforeInOrder 27 = .ok (.if_icmp .le 7, 3) := by decide +kernel
theorem dS_isBeforeInOrder_30 : decode bS_isBeforeInOrder 30 = .ok (.iconst 1, 1) := by decide +kernel
theorem dS_isBeforeInOrder_31 : decode bS_isBeforeInOrder 31 = .ok (.goto 17, 3) := by decide +kernel
theorem dS_isBeforeInOrder_34 : decode bS_isBeforeInOrder 34 = .ok (.iconst 0, 1) := by decide +kernel
theorem dS_isBeforeInOrder_35 : decode bS_isBeforeInOrder 35 = .ok (.goto 13, 3) := by decide +kernel
theorem dS_isBeforeInOrder_38 : decode bS_isBeforeInOrder 38 = .ok (.iload_n 1, 1) := by decide +kernel
theorem dS_isBeforeInOrder_39 : decode bS_isBeforeInOrder 39 = .ok (.iload_n 2, 1) := by decide +kernel
theorem dS_isBeforeInOrder_40 : decode bS_isBeforeInOrder 40 = .ok (.if_icmp .ge 7, 3) := by decide +kernel
theorem dS_isBeforeInOrder_43 : decode bS_isBeforeInOrder 43 = .ok (.iconst 1, 1) := by decide +kernel
theorem dS_isBeforeInOrder_44 : decode bS_isBeforeInOrder 44 = .ok (.goto 4, 3) := by decide +kernel
theorem dS_isBeforeInOrder_47 : decode bS_isBeforeInOrder 47 = .ok (.iconst 0, 1) := by decide +kernel
theorem dS_isBeforeInOrder_48 : decode bS_isBeforeInOrder 48 = .ok (.ireturn, 1) := by decide +kernel
theorem dS_isBeforeInTable_0 : decode bS_isBeforeInTable 0 = .ok (.aload_n 0, 1) := by decide +kernel
theorem dS_isBeforeInTable_1 : decode bS_isBeforeInTable 1 = .ok (.getfield 9, 3) := by decide +kernel
theorem dS_isBeforeInTable_4 : decode bS_isBeforeInTable 4 = .ok (.iload_n 1, 1) := by decide +kernel
theorem dS_isBeforeInTable_5 : decode bS_isBeforeInTable 5 = .ok (.iaload, 1) := by decide +kernel
theorem dS_isBeforeInTable_6 : decode bS_isBeforeInTable 6 = .ok (.aload_n 0, 1) := by decide +kernel
theorem dS_isBeforeInTable_7 : decode bS_isBeforeInTable 7 = .ok (.getfield 9, 3) := by decide +kernel
theorem dS_isBeforeInTable_10 : decode bS_isBeforeInTable 10 = .ok (.iload_n 2, 1) := by decide +kernel
theorem dS_isBeforeInTable_11 : decode bS_isBeforeInTable 11 = .ok (.iaload, 1) := by decide +kernel
theorem dS_isBeforeInTable_12 : decode bS_isBeforeInTable 12 = .ok (.if_icmp .eq 24, 3) := by decide +kernel
theorem dS_isBeforeInTable_15 : decode bS_isBeforeInTable 15 = .ok (.aload_n 0, 1) := by decide +kernel
theorem dS_isBeforeInTable_16 : decode bS_isBeforeInTable 16 = .ok (.getfield 9, 3) := by decide +kernel
theorem dS_isBeforeInTable_19 : decode bS_isBeforeInTable 19 = .ok (.iload_n 1, 1) := by decide +kernel
theorem dS_isBeforeInTable_20 : decode bS_isBeforeInTable 20 = .ok (.iaload, 1) := by decide +kernel
theorem dS_isBeforeInTable_21 : decode bS_isBeforeInTable 21 = .ok (.aload_n 0, 1) := by decide +kernel
theorem dS_isBeforeInTable_22 : decode bS_isBeforeInTable 22 = .ok (.getfield 9, 3) := by decide +kernel
theorem dS_isBeforeInTable_25 : decode bS_isBeforeInTable 25 = .ok (.iload_n 2, 1) := by decide +kernel
theorem dS_isBeforeInTable_26 : decode bS_isBeforeInTable 26 = .ok (.iaload, 1) := by decide +kernel
theorem dS_isBeforeInTable_27 : decode bS_isBeforeInTable 27 = .ok (.if_icmp .le 7, 3) := by decide +kernel
theorem dS_isBeforeInTable_30 : decode bS_isBeforeInTable 30 = .ok (.iconst 1, 1) := by decide +kernel
theorem dS_isBeforeInTable_31 : decode bS_isBeforeInTable 31 = .ok (.goto 4, 3) := by decide +kernel
theorem dS_isBeforeInTable_34 : decode bS_isBeforeInTable 34 = .ok (.iconst 0, 1) := by decide +kernel
theorem dS_isBeforeInTable_35 : decode bS_isBeforeInTable 35 = .ok (.ireturn, 1) := by decide +kernel
theorem dS_isBeforeInTable_36 : decode bS_isBeforeInTable 36 = .ok (.aload_n 0, 1) := by decide +kernel
theorem dS_isBeforeInTable_37 : decode bS_isBeforeInTable 37 = .ok (.getfield 18, 3) := by decide +kernel
theorem dS_isBeforeInTable_40 : decode bS_isBeforeInTable 40 = .ok (.iload_n 1, 1) := by decide +kernel
theorem dS_isBeforeInTable_41 : decode bS_isBeforeInTable 41 = .ok (.iaload, 1) := by decide +kernel
theorem dS_isBeforeInTable_42 : decode bS_isBeforeInTable 42 = .ok (.aload_n 0, 1) := by decide +kernel
theorem dS_isBeforeInTable_43 : decode bS_isBeforeInTable 43 = .ok (.getfield 18, 3) := by decide +kernel
theorem dS_isBeforeInTable_46 : decode bS_isBeforeInTable 46 = .ok (.iload_n 2, 1) := by decide +kernel
theorem dS_isBeforeInTable_47 : decode bS_isBeforeInTable 47 = .ok (.iaload, 1) := by decide +kernel
theorem dS_isBeforeInTable_48 : decode bS_isBeforeInTable 48 = .ok (.if_icmp .eq 24, 3) := by decide +kernel
theorem dS_isBeforeInTable_51 : decode bS_isBeforeInTable 51 = .ok (.aload_n 0, 1) := by decide +kernel
theorem dS_isBeforeInTable_52 : decode bS_isBeforeInTable 52 = .ok (.getfield 18, 3) := by decide +kernel
theorem dS_isBeforeInTable_55 : decode bS_isBeforeInTable 55 = .ok (.iload_n 1, 1) := by decide +kernel
theorem dS_isBeforeInTable_56 : decode bS_isBeforeInTable 56 = .ok (.iaload, 1) := by decide +kernel
theorem dS_isBeforeInTable_57 : decode bS_isBeforeInTable 57 = .ok (.aload_n 0, 1) := by decide +kernel
theorem dS_isBeforeInTable_58 : decode bS_isBeforeInTable 58 = .ok (.getfield 18, 3) := by decide +kernel
theorem dS_isBeforeInTable_61 : decode bS_isBeforeInTable 61 = .ok (.iload_n 2, 1) := by decide +kernel
theorem dS_isBeforeInTable_62 : decode bS_isBeforeInTable 62 = .ok (.iaload, 1) := by decide +kernel
theorem dS_isBeforeInTable_63 : decode bS_isBeforeInTable 63 = .ok (.if_icmp .le 7, 3) := by decide +kernel
theorem dS_isBeforeInTable_66 : decode bS_isBeforeInTable 66 = .ok (.iconst 1, 1) := by decide +kernel
theorem dS_isBeforeInTable_67 : decode bS_isBeforeInTable 67 = .ok (.goto 4, 3) := by decide +kernel
theorem dS_isBeforeInTable_70 : decode bS_isBeforeInTable 70 = .ok (.iconst 0, 1) := by decide +kernel
theorem dS_isBeforeInTable_71 : decode bS_isBeforeInTable 71 = .ok (.ireturn, 1) := by decide +kernel
theorem dS_isBeforeInTable_72 : decode bS_isBeforeInTable 72 = .ok (.aload_n 0, 1) := by decide +kernel
theorem dS_isBeforeInTable_73 : decode bS_isBeforeInTable 73 = .ok (.getfield 21, 3) := by decide +kernel
theorem dS_isBeforeInTable_76 : decode bS_isBeforeInTable 76 = .ok (.iload_n 1, 1) := by decide +kernel
theorem dS_isBeforeInTable_77 : decode bS_isBeforeInTable 77 = .ok (.iaload, 1) := by decide +kernel
theorem dS_isBeforeInTable_78 : decode bS_isBeforeInTable 78 = .ok (.aload_n 0, 1) := by decide +kernel
theorem dS_isBeforeInTable_79 : decode bS_isBeforeInTable 79 = .ok (.getfield 21, 3) := by decide +kernel
theorem dS_isBeforeInTable_82 : decode bS_isBeforeInTable 82 = .ok (.iload_n 2, 1) := by decide +kernel
theorem dS_isBeforeInTable_83 : decode bS_isBeforeInTable 83 = .ok (.iaload, 1) := by decide +kernel
theorem dS_isBeforeInTable_84 : decode bS_isBeforeInTable 84 = .ok (.if_icmp .eq 24, 3) := by decide +kernel
theorem dS_isBeforeInTable_87 : decode bS_isBeforeInTable 87 = .ok (.aload_n 0, 1) := by decide +kernel
theorem dS_isBeforeInTable_88 : decode bS_isBeforeInTable 88 = .ok (.getfield 21, 3) := by decide +kernel
theorem dS_isBeforeInTable_91 : decode bS_isBeforeInTable 91 = .ok (.iload_n 1, 1) := by decide +kernel
theorem dS_isBeforeInTable_92 : decode bS_isBeforeInTable 92 = .ok (.iaload, 1) := by decide +kernel
theorem dS_isBeforeInTable_93 : decode bS_isBeforeInTable 93 = .ok (.aload_n 0, 1) := by decide +kernel
theorem dS_isBeforeInTable_94 : decode bS_isBeforeInTable 94 = .ok (.getfield 21, 3) := by decide +kernel
theorem dS_isBeforeInTable_97 : decode bS_isBeforeInTable 97 = .ok (.iload_n 2, 1) := by decide +kernel
theorem dS_isBeforeInTable_98 : decode bS_isBeforeInTable 98 = .ok (.iaload, 1) := by decide +kernel
theorem dS_isBeforeInTable_99 : decode bS_isBeforeInTable 99 = .ok (.if_icmp .le 7, 3) := by decide +kernel
theorem dS_isBeforeInTable_102 : decode bS_isBeforeInTable 102 = .ok (.iconst 1, 1) := by decide +kernel
theorem dS_isBeforeInTable_103 : decode bS_isBeforeInTable 103 = .ok (.goto 4, 3) := by decide +kernel
theorem dS_isBeforeInTable_106 : decode bS_isBeforeInTable 106 = .ok (.iconst 0, 1) := by decide +kernel
theorem dS_isBeforeInTable_107 : decode bS_isBeforeInTable 107 = .ok (.ireturn, 1) := by decide +kernel
theorem dS_isBeforeInTable_108 : decode bS_isBeforeInTable 108 = .ok (.aload_n 0, 1) := by decide +kernel
theorem dS_isBeforeInTable_109 : decode bS_isBeforeInTable 109 = .ok (.getfield 24, 3) := by decide +kernel
theorem dS_isBeforeInTable_112 : decode bS_isBeforeInTable 112 = .ok (.iload_n 1, 1) := by decide +kernel
theorem dS_isBeforeInTable_113 : decode bS_isBeforeInTable 113 = .ok (.iaload, 1) := by decide +kernel
theorem dS_isBeforeInTable_114 : decode bS_isBeforeInTable 114 = .ok (.aload_n 0, 1) := by decide +kernel
theorem dS_isBeforeInTable_115 : decode bS_isBeforeInTable 115 = .ok (.getfield 24, 3) := by decide +kernel
theorem dS_isBeforeInTable_118 : decode bS_isBeforeInTable 118 = .ok (.iload_n 2, 1) := by decide +kernel
theorem dS_isBeforeInTable_119 : decode bS_isBeforeInTable 119 = .ok (.iaload, 1) := by decide +kernel
theorem dS_isBeforeInTable_120 : decode bS_isBeforeInTable 120 = .ok (.if_icmp .eq 26, 3) := by decide +kernel
theorem dS_isBeforeInTable_123 : decode bS_isBeforeInTable 123 = .ok (.aload_n 0, 1) := by decide +kernel
theorem dS_isBeforeInTable_124 : decode bS_isBeforeInTable 124 = .ok (.getfield 24, 3) := by decide +kernel
theorem dS_isBeforeInTable_127 : decode bS_isBeforeInTable 127 = .ok (.iload_n 1, 1) := by decide +kernel
theorem dS_isBeforeInTable_128 : decode bS_isBeforeInTable 128 = .ok (.iaload, 1) := by decide +kernel
theorem dS_isBeforeInTable_129 : decode bS_isBeforeInTable 129 = .ok (.aload_n 0, 1) := by decide +kernel
theorem dS_isBeforeInTable_130 : decode bS_isBeforeInTable 130 = .ok (.getfield 24, 3) := by decide +kernel
theorem dS_isBeforeInTable_133 : decode bS_isBeforeInTable 133 = .ok (.iload_n 2, 1) := by decide +kernel
theorem dS_isBeforeInTable_134 : decode bS_isBeforeInTable 134 = .ok (.iaload, 1) := by decide +kernel
theorem dS_isBeforeInTable_135 : decode bS_isBeforeInTable 135 = .ok (.if_icmp .le 7, 3) := by decide +kernel
theorem dS_isBeforeInTable_138 : decode bS_isBeforeInTable 138 = .ok (.iconst 1, 1) := by decide +kernel
theorem dS_isBeforeInTable_139 : decode bS_isBeforeInTable 139 = .ok (.goto 17, 3) := by decide +kernel
theorem dS_isBeforeInTable_142 : decode bS_isBeforeInTable 142 = .ok (.iconst 0, 1) := by decide +kernel
theorem dS_isBeforeInTable_143 : decode bS_isBeforeInTable 143 = .ok (.goto 13, 3) := by decide +kernel
theorem dS_isBeforeInTable_146 : decode bS_isBeforeInTable 146 = .ok (.iload_n 1, 1) := by decide +kernel
theorem dS_isBeforeInTable_147 : decode bS_isBeforeInTable 147 = .ok (.iload_n 2, 1) := by decide +kernel
theorem dS_isBeforeInTable_148 : decode bS_isBeforeInTable 148 = .ok (.if_icmp .ge 7, 3) := by decide +kernel
theorem dS_isBeforeInTable_151 : decode bS_isBeforeInTable 151 = .ok (.iconst 1, 1) := by decide +kernel
theorem dS_isBeforeInTable_152 : decode bS_isBeforeInTable 152 = .ok (.goto 4, 3) := by decide +kernel
theorem dS_isBeforeInTable_155 : decode bS_isBeforeInTable 155 = .ok (.iconst 0, 1) := by decide +kernel
theorem dS_isBeforeInTable_156 : decode bS_isBeforeInTable 156 = .ok (.ireturn, 1) := by decide +kernel
theorem dS_playerAt_0 : decode bS_playerAt 0 = .ok (.iconst 0, 1) := by decide +kernel
theorem dS_playerAt_1 : decode bS_playerAt 1 = .ok (.istore_n 3, 1) := by decide +kernel
theorem dS_playerAt_2 : decode bS_playerAt 2 = .ok (.iload_n 3, 1) := by decide +kernel
theorem dS_playerAt_3 : decode bS_playerAt 3 = .ok (.iload_n 2, 1) := by decide +kernel
theorem dS_playerAt_4 : decode bS_playerAt 4 = .ok (.if_icmp .ge 48, 3) := by decide +kernel
theorem dS_playerAt_7 : decode bS_playerAt 7 = .ok (.iconst 0, 1) := by decide +kernel
theorem dS_playerAt_8 : decode bS_playerAt 8 = .ok (.istore 4, 2) := by decide +kernel
theorem dS_playerAt_10 : decode bS_playerAt 10 = .ok (.iconst 0, 1) := by decide +kernel
theorem dS_playerAt_11 : decode bS_playerAt 11 = .ok (.istore 5, 2) := by decide +kernel
theorem dS_playerAt_13 : decode bS_playerAt 13 = .ok (.iload 5, 2) := by decide +kernel
theorem dS_playerAt_15 : decode bS_playerAt 15 = .ok (.iload_n 2, 1) := by decide +kernel
theorem dS_playerAt_16 : decode bS_playerAt 16 = .ok (.if_icmp .ge 22, 3) := by decide +kernel
theorem dS_playerAt_19 : decode bS_playerAt 19 = .ok (.aload_n 0, 1) := by decide +kernel
theorem dS_playerAt_20 : decode bS_playerAt 20 = .ok (.iload 5, 2) := by decide +kernel
theorem dS_playerAt_22 : decode bS_playerAt 22 = .ok (.iload_n 3, 1) := by decide +kernel
theorem dS_playerAt_23 : decode bS_playerAt 23 = .ok (.invokevirtual 74, 3) := by decide +kernel
theorem dS_playerAt_26 : decode bS_playerAt 26 = .ok (.ifCond .eq 6, 3) := by decide +kernel
theorem dS_playerAt_29 : decode bS_playerAt 29 = .ok (.iinc 4 1, 3) := by decide +kernel
theorem dS_playerAt_32 : decode bS_playerAt 32 = .ok (.iinc 5 1, 3) := by decide +kernel
theorem dS_playerAt_35 : decode bS_playerAt 35 = .ok (.goto (-22), 3) := by decide +kernel
theorem dS_playerAt_38 : decode bS_playerAt 38 = .ok (.iload 4, 2) := by decide +kernel
theorem dS_playerAt_40 : decode bS_playerAt 40 = .ok (.iload_n 1, 1) := by decide +kernel
theorem dS_playerAt_41 : decode bS_playerAt 41 = .ok (.if_icmp .ne 5, 3) := by decide +kernel
theorem dS_playerAt_44 : decode bS_playerAt 44 = .ok (.iload_n 3, 1) := by decide +kernel
theorem dS_playerAt_45 : decode bS_playerAt 45 = .ok (.ireturn, 1) := by decide +kernel
theorem dS_playerAt_46 : decode bS_playerAt 46 = .ok (.iinc 3 1, 3) := by decide +kernel
theorem dS_playerAt_49 : decode bS_playerAt 49 = .ok (.goto (-47), 3) := by decide +kernel
theorem dS_playerAt_52 : decode bS_playerAt 52 = .ok (.iconst (-1), 1) := by decide +kernel
theorem dS_playerAt_53 : decode bS_playerAt 53 = .ok (.ireturn, 1) := by decide +kernel
theorem dS_recount_0 : decode bS_recount 0 = .ok (.aload_n 0, 1) := by decide +kernel
theorem dS_recount_1 : decode bS_recount 1 = .ok (.invokevirtual 42, 3) := by decide +kernel
theorem dS_recount_4 : decode bS_recount 4 = .ok (.iconst 0, 1) := by decide +kernel
theorem dS_recount_5 : decode bS_recount 5 = .ok (.istore_n 3, 1) := by decide +kernel
theorem dS_recount_6 : decode bS_recount 6 = .ok (.iload_n 3, 1) := by decide +kernel
theorem dS_recount_7 : decode bS_recount 7 = .ok (.iload_n 2, 1) := by decide +kernel
theorem dS_recount_8 : decode bS_recount 8 = .ok (.if_icmp .ge 37, 3) := by decide +kernel
theorem dS_recount_11 : decode bS_recount 11 = .ok (.iconst 0, 1) := by decide +kernel
theorem dS_recount_12 : decode bS_recount 12 = .ok (.istore 4, 2) := by decide +kernel
theorem dS_recount_14 : decode bS_recount 14 = .ok (.iload 4, 2) := by decide +kernel
theorem dS_recount_16 : decode bS_recount 16 = .ok (.bipush 12, 2) := by decide +kernel
theorem dS_recount_18 : decode bS_recount 18 = .ok (.if_icmp .ge 21, 3) := by decide +kernel
theorem dS_recount_21 : decode bS_recount 21 = .ok (.aload_n 0, 1) := by decide +kernel
theorem dS_recount_22 : decode bS_recount 22 = .ok (.iload 4, 2) := by decide +kernel
theorem dS_recount_24 : decode bS_recount 24 = .ok (.aload_n 1, 1) := by decide +kernel
theorem dS_recount_25 : decode bS_recount 25 = .ok (.iload_n 3, 1) := by decide +kernel
theorem dS_recount_26 : decode bS_recount 26 = .ok (.aaload, 1) := by decide +kernel
theorem dS_recount_27 : decode bS_recount 27 = .ok (.iload 4, 2) := by decide +kernel
theorem dS_recount_29 : decode bS_recount 29 = .ok (.iaload, 1) := by decide +kernel
theorem dS_recount_30 : decode bS_recount 30 = .ok (.invokevirtual 45, 3) := by decide +kernel
theorem dS_recount_33 : decode bS_recount 33 = .ok (.iinc 4 1, 3) := by decide +kernel
theorem dS_recount_36 : decode bS_recount 36 = .ok (.goto (-22), 3) := by decide +kernel
theorem dS_recount_39 : decode bS_recount 39 = .ok (.iinc 3 1, 3) := by decide +kernel
theorem dS_recount_42 : decode bS_recount 42 = .ok (.goto (-36), 3) := by decide +kernel
theorem dS_recount_45 : decode bS_recount 45 = .ok (.iconst 0, 1) := by decide +kernel
theorem dS_recount_46 : decode bS_recount 46 = .ok (.istore_n 3, 1) := by decide +kernel
theorem dS_recount_47 : decode bS_recount 47 = .ok (.iload_n 3, 1) := by decide +kernel
theorem dS_recount_48 : decode bS_recount 48 = .ok (.iload_n 2, 1) := by decide +kernel
theorem dS_recount_49 : decode bS_recount 49 = .ok (.if_icmp .ge 37, 3) := by decide +kernel
theorem dS_recount_52 : decode bS_recount 52 = .ok (.iconst 0, 1) := by decide +kernel
theorem dS_recount_53 : decode bS_recount 53 = .ok (.istore 4, 2) := by decide +kernel
theorem dS_recount_55 : decode bS_recount 55 = .ok (.iload 4, 2) := by decide +kernel
theorem dS_recount_57 : decode bS_recount 57 = .ok (.bipush 12, 2) := by decide +kernel
theorem dS_recount_59 : decode bS_recount 59 = .ok (.if_icmp .ge 21, 3) := by decide +kernel
theorem dS_recount_62 : decode bS_recount 62 = .ok (.aload_n 0, 1) := by decide +kernel
theorem dS_recount_63 : decode bS_recount 63 = .ok (.iload 4, 2) := by decide +kernel
theorem dS_recount_65 : decode bS_recount 65 = .ok (.aload_n 1, 1) := by decide +kernel
theorem dS_recount_66 : decode bS_recount 66 = .ok (.iload_n 3, 1) := by decide +kernel
theorem dS_recount_67 : decode bS_recount 67 = .ok (.aaload, 1) := by decide +kernel
theorem dS_recount_68 : decode bS_recount 68 = .ok (.iload 4, 2) := by decide +kernel
theorem dS_recount_70 : decode bS_recount 70 = .ok (.iaload, 1) := by decide +kernel
theorem dS_recount_71 : decode bS_recount 71 = .ok (.invokevirtual 49, 3) := by decide +kernel
theorem dS_recount_74 : decode bS_recount 74 = .ok (.iinc 4 1, 3) := by decide +kernel
theorem dS_recount_77 : decode bS_recount 77 = .ok (.goto (-22), 3) := by decide +kernel
theorem dS_recount_80 : decode bS_recount 80 = .ok (.iinc 3 1, 3) := by decide +kernel
theorem dS_recount_83 : decode bS_recount 83 = .ok (.goto (-36), 3) := by decide +kernel
theorem dS_recount_86 : decode bS_recount 86 = .ok (.return_, 1) := by decide +kernel
end
section
theorem dF_apart_0 : decode bF_apart 0 = .ok (.aload_n 0, 1) := by decide +kernel
theorem dF_apart_1 : decode bF_apart 1 = .ok (.iload_n 1, 1) := by decide +kernel
theorem dF_apart_2 : decode bF_apart 2 = .ok (.invokevirtual 59, 3) := by decide +kernel
theorem dF_apart_5 : decode bF_apart 5 = .ok (.aload_n 0, 1) := by decide +kernel
theorem dF_apart_6 : decode bF_apart 6 = .ok (.iload_n 2, 1) := by decide +kernel
theorem dF_apart_7 : decode bF_apart 7 = .ok (.invokevirtual 59, 3) := by decide +kernel
theorem dF_apart_10 : decode bF_apart 10 = .ok (.iload_n 1, 1) := by decide +kernel
theorem dF_apart_11 : decode bF_apart 11 = .ok (.iload_n 2, 1) := by decide +kernel
theorem dF_apart_12 : decode bF_apart 12 = .ok (.if_icmp .ne 13, 3) := by decide +kernel
theorem dF_apart_15 : decode bF_apart 15 = .ok (.new 68, 3) := by decide +kernel
theorem dF_apart_18 : decode bF_apart 18 = .ok (.dup, 1) := by decide +kernel
theorem dF_apart_19 : decode bF_apart 19 = .ok (.ldc 70, 2) := by decide +kernel
theorem dF_apart_21 : decode bF_apart 21 = .ok (.invokespecial 72, 3) := by decide +kernel
theorem dF_apart_24 : decode bF_apart 24 = .ok (.athrow, 1) := by decide +kernel
theorem dF_apart_25 : decode bF_apart 25 = .ok (.aload_n 0, 1) := by decide +kernel
theorem dF_apart_26 : decode bF_apart 26 = .ok (.invokevirtual 49, 3) := by decide +kernel
theorem dF_apart_29 : decode bF_apart 29 = .ok (.aload_n 0, 1) := by decide +kernel
theorem dF_apart_30 : decode bF_apart 30 = .ok (.getfield 18, 3) := by decide +kernel
theorem dF_apart_33 : decode bF_apart 33 = .ok (.iload_n 1, 1) := by decide +kernel
theorem dF_apart_34 : decode bF_apart 34 = .ok (.iaload, 1) := by decide +kernel
theorem dF_apart_35 : decode bF_apart 35 = .ok (.iload_n 2, 1) := by decide +kernel
theorem dF_apart_36 : decode bF_apart 36 = .ok (.ishr, 1) := by decide +kernel
theorem dF_apart_37 : decode bF_apart 37 = .ok (.iconst 1, 1) := by decide +kernel
theorem dF_apart_38 : decode bF_apart 38 = .ok (.iand, 1) := by decide +kernel
theorem dF_apart_39 : decode bF_apart 39 = .ok (.iconst 1, 1) := by decide +kernel
theorem dF_apart_40 : decode bF_apart 40 = .ok (.if_icmp .ne 7, 3) := by decide +kernel
theorem dF_apart_43 : decode bF_apart 43 = .ok (.iconst 1, 1) := by decide +kernel
theorem dF_apart_44 : decode bF_apart 44 = .ok (.goto 4, 3) := by decide +kernel
theorem dF_apart_47 : decode bF_apart 47 = .ok (.iconst 0, 1) := by decide +kernel
theorem dF_apart_48 : decode bF_apart 48 = .ok (.istore 4, 2) := by decide +kernel
theorem dF_apart_50 : decode bF_apart 50 = .ok (.iload 4, 2) := by decide +kernel
theorem dF_apart_52 : decode bF_apart 52 = .ok (.iload_n 3, 1) := by decide +kernel
theorem dF_apart_53 : decode bF_apart 53 = .ok (.if_icmp .ne 5, 3) := by decide +kernel
theorem dF_apart_56 : decode bF_apart 56 = .ok (.iconst 0, 1) := by decide +kernel
theorem dF_apart_57 : decode bF_apart 57 = .ok (.ireturn, 1) := by decide +kernel
theorem dF_apart_58 : decode bF_apart 58 = .ok (.aload_n 0, 1) := by decide +kernel
theorem dF_apart_59 : decode bF_apart 59 = .ok (.getfield 18, 3) := by decide +kernel
theorem dF_apart_62 : decode bF_apart 62 = .ok (.iload_n 1, 1) := by decide +kernel
theorem dF_apart_63 : decode bF_apart 63 = .ok (.dup2, 1) := by decide +kernel
theorem dF_apart_64 : decode bF_apart 64 = .ok (.iaload, 1) := by decide +kernel
theorem dF_apart_65 : decode bF_apart 65 = .ok (.iconst 1, 1) := by decide +kernel
theorem dF_apart_66 : decode bF_apart 66 = .ok (.iload_n 2, 1) := by decide +kernel
theorem dF_apart_67 : decode bF_apart 67 = .ok (.ishl, 1) := by decide +kernel
theorem dF_apart_68 : decode bF_apart 68 = .ok (.ixor, 1) := by decide +kernel
theorem dF_apart_69 : decode bF_apart 69 = .ok (.iastore, 1) := by decide +kernel
theorem dF_apart_70 : decode bF_apart 70 = .ok (.aload_n 0, 1) := by decide +kernel
theorem dF_apart_71 : decode bF_apart 71 = .ok (.getfield 18, 3) := by decide +kernel
theorem dF_apart_74 : decode bF_apart 74 = .ok (.iload_n 2, 1) := by decide +kernel
theorem dF_apart_75 : decode bF_apart 75 = .ok (.dup2, 1) := by decide +kernel
theorem dF_apart_76 : decode bF_apart 76 = .ok (.iaload, 1) := by decide +kernel
theorem dF_apart_77 : decode bF_apart 77 = .ok (.iconst 1, 1) := by decide +kernel
theorem dF_apart_78 : decode bF_apart 78 = .ok (.iload_n 1, 1) := by decide +kernel
theorem dF_apart_79 : decode bF_apart 79 = .ok (.ishl, 1) := by decide +kernel
theorem dF_apart_80 : decode bF_apart 80 = .ok (.ixor, 1) := by decide +kernel
theorem dF_apart_81 : decode bF_apart 81 = .ok (.iastore, 1) := by decide +kernel
theorem dF_apart_82 : decode bF_apart 82 = .ok (.iconst 1, 1) := by decide +kernel
theorem dF_apart_83 : decode bF_apart 83 = .ok (.ireturn, 1) := by decide +kernel
theorem dF_back_0 : decode bF_back 0 = .ok (.aload_n 0, 1) := by decide +kernel
theorem dF_back_1 : decode bF_back 1 = .ok (.getfield 135, 3) := by decide +kernel
theorem dF_back_4 : decode bF_back 4 = .ok (.ifCond .eq 13, 3) := by decide +kernel
theorem dF_back_7 : decode bF_back 7 = .ok (.aload_n 0, 1) := by decide +kernel
theorem dF_back_8 : decode bF_back 8 = .ok (.iconst 0, 1) := by decide +kernel
theorem dF_back_9 : decode bF_back 9 = .ok (.putfield 135, 3) := by decide +kernel
theorem dF_back_12 : decode bF_back 12 = .ok (.aload_n 0, 1) := by decide +kernel
theorem dF_back_13 : decode bF_back 13 = .ok (.getfield 73, 3) := by decide +kernel
theorem dF_back_16 : decode bF_back 16 = .ok (.ireturn, 1) := by decide +kernel
theorem dF_back_17 : decode bF_back 17 = .ok (.aload_n 0, 1) := by decide +kernel
theorem dF_back_18 : decode bF_back 18 = .ok (.getfield 73, 3) := by decide +kernel
theorem dF_back_21 : decode bF_back 21 = .ok (.ifCond .ne 13, 3) := by decide +kernel
theorem dF_back_24 : decode bF_back 24 = .ok (.new 52, 3) := by decide +kernel
theorem dF_back_27 : decode bF_back 27 = .ok (.dup, 1) := by decide +kernel
theorem dF_back_28 : decode bF_back 28 = .ok (.ldc 139, 2) := by decide +kernel
theorem dF_back_30 : decode bF_back 30 = .ok (.invokespecial 56, 3) := by decide +kernel
theorem dF_back_33 : decode bF_back 33 = .ok (.athrow, 1) := by decide +kernel
theorem dF_back_34 : decode bF_back 34 = .ok (.aload_n 0, 1) := by decide +kernel
theorem dF_back_35 : decode bF_back 35 = .ok (.dup, 1) := by decide +kernel
theorem dF_back_36 : decode bF_back 36 = .ok (.getfield 73, 3) := by decide +kernel
theorem dF_back_39 : decode bF_back 39 = .ok (.iconst 1, 1) := by decide +kernel
theorem dF_back_40 : decode bF_back 40 = .ok (.isub, 1) := by decide +kernel
theorem dF_back_41 : decode bF_back 41 = .ok (.putfield 73, 3) := by decide +kernel
theorem dF_back_44 : decode bF_back 44 = .ok (.aload_n 0, 1) := by decide +kernel
theorem dF_back_45 : decode bF_back 45 = .ok (.getfield 25, 3) := by decide +kernel
theorem dF_back_48 : decode bF_back 48 = .ok (.aload_n 0, 1) := by decide +kernel
theorem dF_back_49 : decode bF_back 49 = .ok (.getfield 11, 3) := by decide +kernel
theorem dF_back_52 : decode bF_back 52 = .ok (.aload_n 0, 1) := by decide +kernel
theorem dF_back_53 : decode bF_back 53 = .ok (.getfield 73, 3) := by decide +kernel
theorem dF_back_56 : decode bF_back 56 = .ok (.invokevirtual 141, 3) := by decide +kernel
theorem dF_back_59 : decode bF_back 59 = .ok (.aload_n 0, 1) := by decide +kernel
theorem dF_back_60 : decode bF_back 60 = .ok (.getfield 73, 3) := by decide +kernel
theorem dF_back_63 : decode bF_back 63 = .ok (.ireturn, 1) := by decide +kernel
theorem dF_close_0 : decode bF_close 0 = .ok (.aload_n 0, 1) := by decide +kernel
theorem dF_close_1 : decode bF_close 1 = .ok (.invokevirtual 100, 3) := by decide +kernel
theorem dF_close_4 : decode bF_close 4 = .ok (.aload_n 0, 1) := by decide +kernel
theorem dF_close_5 : decode bF_close 5 = .ok (.invokevirtual 127, 3) := by decide +kernel
theorem dF_close_8 : decode bF_close 8 = .ok (.ifCond .le 13, 3) := by decide +kernel
theorem dF_close_11 : decode bF_close 11 = .ok (.new 52, 3) := by decide +kernel
theorem dF_close_14 : decode bF_close 14 = .ok (.dup, 1) := by decide +kernel
theorem dF_close_15 : decode bF_close 15 = .ok (.ldc 130, 2) := by decide +kernel
theorem dF_close_17 : decode bF_close 17 = .ok (.invokespecial 56, 3) := by decide +kernel
theorem dF_close_20 : decode bF_close 20 = .ok (.athrow, 1) := by decide +kernel
theorem dF_close_21 : decode bF_close 21 = .ok (.aload_n 0, 1) := by decide +kernel
theorem dF_close_22 : decode bF_close 22 = .ok (.invokevirtual 132, 3) := by decide +kernel
theorem dF_close_25 : decode bF_close 25 = .ok (.aload_n 0, 1) := by decide +kernel
theorem dF_close_26 : decode bF_close 26 = .ok (.getfield 73, 3) := by decide +kernel
theorem dF_close_29 : decode bF_close 29 = .ok (.ireturn, 1) := by decide +kernel
theorem dF_closeRound_0 : decode bF_closeRound 0 = .ok (.aload_n 0, 1) := by decide +kernel
theorem dF_closeRound_1 : decode bF_closeRound 1 = .ok (.iconst 0, 1) := by decide +kernel
theorem dF_closeRound_2 : decode bF_closeRound 2 = .ok (.putfield 135, 3) := by decide +kernel
theorem dF_closeRound_5 : decode bF_closeRound 5 = .ok (.aload_n 0, 1) := by decide +kernel
theorem dF_closeRound_6 : decode bF_closeRound 6 = .ok (.dup, 1) := by decide +kernel
theorem dF_closeRound_7 : decode bF_closeRound 7 = .ok (.getfield 73, 3) := by decide +kernel
theorem dF_closeRound_10 : decode bF_closeRound 10 = .ok (.iconst 1, 1) := by decide +kernel
theorem dF_closeRound_11 : decode bF_closeRound 11 = .ok (.iadd, 1) := by decide +kernel
theorem dF_closeRound_12 : decode bF_closeRound 12 = .ok (.putfield 73, 3) := by decide +kernel
theorem dF_closeRound_15 : decode bF_closeRound 15 = .ok (.aload_n 0, 1) := by decide +kernel
theorem dF_closeRound_16 : decode bF_closeRound 16 = .ok (.getfield 25, 3) := by decide +kernel
theorem dF_closeRound_19 : decode bF_closeRound 19 = .ok (.aload_n 0, 1) := by decide +kernel
theorem dF_closeRound_20 : decode bF_closeRound 20 = .ok (.getfield 11, 3) := by decide +kernel
theorem dF_closeRound_23 : decode bF_closeRound 23 = .ok (.aload_n 0, 1) := by decide +kernel
theorem dF_closeRound_24 : decode bF_closeRound 24 = .ok (.getfield 73, 3) := by decide +kernel
theorem dF_closeRound_27 : decode bF_closeRound 27 = .ok (.invokevirtual 141, 3) := by decide +kernel
theorem dF_closeRound_30 : decode bF_closeRound 30 = .ok (.return_, 1) := by decide +kernel
theorem dF_cost_0 : decode bF_cost 0 = .ok (.aload_n 0, 1) := by decide +kernel
theorem dF_cost_1 : decode bF_cost 1 = .ok (.invokevirtual 88, 3) := by decide +kernel
theorem dF_cost_4 : decode bF_cost 4 = .ok (.aload_n 0, 1) := by decide +kernel
theorem dF_cost_5 : decode bF_cost 5 = .ok (.getfield 32, 3) := by decide +kernel
theorem dF_cost_8 : decode bF_cost 8 = .ok (.invokevirtual 91, 3) := by decide +kernel
theorem dF_cost_11 : decode bF_cost 11 = .ok (.ifCond .ne 13, 3) := by decide +kernel
theorem dF_cost_14 : decode bF_cost 14 = .ok (.new 63, 3) := by decide +kernel
theorem dF_cost_17 : decode bF_cost 17 = .ok (.dup, 1) := by decide +kernel
theorem dF_cost_18 : decode bF_cost 18 = .ok (.ldc 82, 2) := by decide +kernel
theorem dF_cost_20 : decode bF_cost 20 = .ok (.invokespecial 67, 3) := by decide +kernel
theorem dF_cost_23 : decode bF_cost 23 = .ok (.athrow, 1) := by decide +kernel
theorem dF_cost_24 : decode bF_cost 24 = .ok (.aload_n 0, 1) := by decide +kernel
theorem dF_cost_25 : decode bF_cost 25 = .ok (.getfield 32, 3) := by decide +kernel
theorem dF_cost_28 : decode bF_cost 28 = .ok (.invokevirtual 94, 3) := by decide +kernel
theorem dF_cost_31 : decode bF_cost 31 = .ok (.ireturn, 1) := by decide +kernel
theorem dF_countUntold_0 : decode bF_countUntold 0 = .ok (.iconst 0, 1) := by decide +kernel
theorem dF_countUntold_1 : decode bF_countUntold 1 = .ok (.istore_n 1, 1) := by decide +kernel
theorem dF_countUntold_2 : decode bF_countUntold 2 = .ok (.iconst 0, 1) := by decide +kernel
theorem dF_countUntold_3 : decode bF_countUntold 3 = .ok (.istore_n 2, 1) := by decide +kernel
theorem dF_countUntold_4 : decode bF_countUntold 4 = .ok (.iload_n 2, 1) := by decide +kernel
theorem dF_countUntold_5 : decode bF_countUntold 5 = .ok (.aload_n 0, 1) := by decide +kernel
theorem dF_countUntold_6 : decode bF_countUntold 6 = .ok (.getfield 45, 3) := by decide +kernel
theorem dF_countUntold_9 : decode bF_countUntold 9 = .ok (.if_icmp .ge 39, 3) := by decide +kernel
theorem dF_countUntold_12 : decode bF_countUntold 12 = .ok (.aload_n 0, 1) := by decide +kernel
theorem dF_countUntold_13 : decode bF_countUntold 13 = .ok (.getfield 11, 3) := by decide +kernel
theorem dF_countUntold_16 : decode bF_countUntold 16 = .ok (.aload_n 0, 1) := by decide +kernel
theorem dF_countUntold_17 : decode bF_countUntold 17 = .ok (.getfield 73, 3) := by decide +kernel
theorem dF_countUntold_20 : decode bF_countUntold 20 = .ok (.aaload, 1) := by decide +kernel
theorem dF_countUntold_21 : decode bF_countUntold 21 = .ok (.iload_n 2, 1) := by decide +kernel
theorem dF_countUntold_22 : decode bF_countUntold 22 = .ok (.iaload, 1) := by decide +kernel
theorem dF_countUntold_23 : decode bF_countUntold 23 = .ok (.istore_n 3, 1) := by decide +kernel
theorem dF_countUntold_24 : decode bF_countUntold 24 = .ok (.iload_n 3, 1) := by decide +kernel
theorem dF_countUntold_25 : decode bF_countUntold 25 = .ok (.invokestatic 118, 3) := by decide +kernel
theorem dF_countUntold_28 : decode bF_countUntold 28 = .ok (.ifCond .eq 14, 3) := by decide +kernel
theorem dF_countUntold_31 : decode bF_countUntold 31 = .ok (.iload_n 3, 1) := by decide +kernel
theorem dF_countUntold_32 : decode bF_countUntold 32 = .ok (.invokestatic 113, 3) := by decide +kernel
theorem dF_countUntold_35 : decode bF_countUntold 35 = .ok (.iconst 1, 1) := by decide +kernel
theorem dF_countUntold_36 : decode bF_countUntold 36 = .ok (.if_icmp .ne 6, 3) := by decide +kernel
theorem dF_countUntold_39 : decode bF_countUntold 39 = .ok (.iinc 1 1, 3) := by decide +kernel
theorem dF_countUntold_42 : decode bF_countUntold 42 = .ok (.iinc 2 1, 3) := by decide +kernel
theorem dF_countUntold_45 : decode bF_countUntold 45 = .ok (.goto (-41), 3) := by decide +kernel
theorem dF_countUntold_48 : decode bF_countUntold 48 = .ok (.iload_n 1, 1) := by decide +kernel
theorem dF_countUntold_49 : decode bF_countUntold 49 = .ok (.ireturn, 1) := by decide +kernel
theorem dF_enter_0 : decode bF_enter 0 = .ok (.aload_n 0, 1) := by decide +kernel
theorem dF_enter_1 : decode bF_enter 1 = .ok (.invokevirtual 49, 3) := by decide +kernel
theorem dF_enter_4 : decode bF_enter 4 = .ok (.aload_n 0, 1) := by decide +kernel
theorem dF_enter_5 : decode bF_enter 5 = .ok (.getfield 45, 3) := by decide +kernel
theorem dF_enter_8 : decode bF_enter 8 = .ok (.bipush 12, 2) := by decide +kernel
theorem dF_enter_10 : decode bF_enter 10 = .ok (.if_icmp .ne 13, 3) := by decide +kernel
theorem dF_enter_13 : decode bF_enter 13 = .ok (.new 52, 3) := by decide +kernel
theorem dF_enter_16 : decode bF_enter 16 = .ok (.dup, 1) := by decide +kernel
theorem dF_enter_17 : decode bF_enter 17 = .ok (.ldc 54, 2) := by decide +kernel
theorem dF_enter_19 : decode bF_enter 19 = .ok (.invokespecial 56, 3) := by decide +kernel
theorem dF_enter_22 : decode bF_enter 22 = .ok (.athrow, 1) := by decide +kernel
theorem dF_enter_23 : decode bF_enter 23 = .ok (.aload_n 0, 1) := by decide +kernel
theorem dF_enter_24 : decode bF_enter 24 = .ok (.getfield 14, 3) := by decide +kernel
theorem dF_enter_27 : decode bF_enter 27 = .ok (.aload_n 0, 1) := by decide +kernel
theorem dF_enter_28 : decode bF_enter 28 = .ok (.getfield 45, 3) := by decide +kernel
theorem dF_enter_31 : decode bF_enter 31 = .ok (.iconst 1, 1) := by decide +kernel
theorem dF_enter_32 : decode bF_enter 32 = .ok (.bastore, 1) := by decide +kernel
theorem dF_enter_33 : decode bF_enter 33 = .ok (.aload_n 0, 1) := by decide +kernel
theorem dF_enter_34 : decode bF_enter 34 = .ok (.dup, 1) := by decide +kernel
theorem dF_enter_35 : decode bF_enter 35 = .ok (.getfield 45, 3) := by decide +kernel
theorem dF_enter_38 : decode bF_enter 38 = .ok (.iconst 1, 1) := by decide +kernel
theorem dF_enter_39 : decode bF_enter 39 = .ok (.iadd, 1) := by decide +kernel
theorem dF_enter_40 : decode bF_enter 40 = .ok (.putfield 45, 3) := by decide +kernel
theorem dF_enter_43 : decode bF_enter 43 = .ok (.aload_n 0, 1) := by decide +kernel
theorem dF_enter_44 : decode bF_enter 44 = .ok (.getfield 45, 3) := by decide +kernel
theorem dF_enter_47 : decode bF_enter 47 = .ok (.iconst 1, 1) := by decide +kernel
theorem dF_enter_48 : decode bF_enter 48 = .ok (.isub, 1) := by decide +kernel
theorem dF_enter_49 : decode bF_enter 49 = .ok (.ireturn, 1) := by decide +kernel
theorem dF_had_0 : decode bF_had 0 = .ok (.aload_n 0, 1) := by decide +kernel
theorem dF_had_1 : decode bF_had 1 = .ok (.iload_n 2, 1) := by decide +kernel
theorem dF_had_2 : decode bF_had 2 = .ok (.invokevirtual 59, 3) := by decide +kernel
theorem dF_had_5 : decode bF_had 5 = .ok (.iload_n 1, 1) := by decide +kernel
theorem dF_had_6 : decode bF_had 6 = .ok (.ifCond .lt 11, 3) := by decide +kernel
theorem dF_had_9 : decode bF_had 9 = .ok (.iload_n 1, 1) := by decide +kernel
theorem dF_had_10 : decode bF_had 10 = .ok (.aload_n 0, 1) := by decide +kernel
theorem dF_had_11 : decode bF_had 11 = .ok (.getfield 73, 3) := by decide +kernel
theorem dF_had_14 : decode bF_had 14 = .ok (.if_icmp .lt 13, 3) := by decide +kernel
theorem dF_had_17 : decode bF_had 17 = .ok (.new 173, 3) := by decide +kernel
theorem dF_had_20 : decode bF_had 20 = .ok (.dup, 1) := by decide +kernel
theorem dF_had_21 : decode bF_had 21 = .ok (.ldc 178, 2) := by decide +kernel
theorem dF_had_23 : decode bF_had 23 = .ok (.invokespecial 177, 3) := by decide +kernel
theorem dF_had_26 : decode bF_had 26 = .ok (.athrow, 1) := by decide +kernel
theorem dF_had_27 : decode bF_had 27 = .ok (.aload_n 0, 1) := by decide +kernel
theorem dF_had_28 : decode bF_had 28 = .ok (.getfield 11, 3) := by decide +kernel
theorem dF_had_31 : decode bF_had 31 = .ok (.iload_n 1, 1) := by decide +kernel
theorem dF_had_32 : decode bF_had 32 = .ok (.aaload, 1) := by decide +kernel
theorem dF_had_33 : decode bF_had 33 = .ok (.iload_n 2, 1) := by decide +kernel
theorem dF_had_34 : decode bF_had 34 = .ok (.iaload, 1) := by decide +kernel
theorem dF_had_35 : decode bF_had 35 = .ok (.ireturn, 1) := by decide +kernel
theorem dF_init_0 : decode bF_init 0 = .ok (.aload_n 0, 1) := by decide +kernel
theorem dF_init_1 : decode bF_init 1 = .ok (.invokespecial 1, 3) := by decide +kernel
theorem dF_init_4 : decode bF_init 4 = .ok (.aload_n 0, 1) := by decide +kernel
theorem dF_init_5 : decode bF_init 5 = .ok (.bipush 16, 2) := by decide +kernel
theorem dF_init_7 : decode bF_init 7 = .ok (.bipush 12, 2) := by decide +kernel
theorem dF_init_9 : decode bF_init 9 = .ok (.multianewarray 9 2, 4) := by decide +kernel
theorem dF_init_13 : decode bF_init 13 = .ok (.putfield 11, 3) := by decide +kernel
theorem dF_init_16 : decode bF_init 16 = .ok (.aload_n 0, 1) := by decide +kernel
theorem dF_init_17 : decode bF_init 17 = .ok (.bipush 12, 2) := by decide +kernel
theorem dF_init_19 : decode bF_init 19 = .ok (.newarray .boolean, 2) := by decide +kernel
theorem dF_init_21 : decode bF_init 21 = .ok (.putfield 14, 3) := by decide +kernel
theorem dF_init_24 : decode bF_init 24 = .ok (.aload_n 0, 1) := by decide +kernel
theorem dF_init_25 : decode bF_init 25 = .ok (.bipush 12, 2) := by decide +kernel
theorem dF_init_27 : decode bF_init 27 = .ok (.newarray .int, 2) := by decide +kernel
theorem dF_init_29 : decode bF_init 29 = .ok (.putfield 18, 3) := by decide +kernel
theorem dF_init_32 : decode bF_init 32 = .ok (.aload_n 0, 1) := by decide +kernel
theorem dF_init_33 : decode bF_init 33 = .ok (.new 22, 3) := by decide +kernel
theorem dF_init_36 : decode bF_init 36 = .ok (.dup, 1) := by decide +kernel
theorem dF_init_37 : decode bF_init 37 = .ok (.invokespecial 24, 3) := by decide +kernel
theorem dF_init_40 : decode bF_init 40 = .ok (.putfield 25, 3) := by decide +kernel
theorem dF_init_43 : decode bF_init 43 = .ok (.aload_n 0, 1) := by decide +kernel
theorem dF_init_44 : decode bF_init 44 = .ok (.new 29, 3) := by decide +kernel
theorem dF_init_47 : decode bF_init 47 = .ok (.dup, 1) := by decide +kernel
theorem dF_init_48 : decode bF_init 48 = .ok (.invokespecial 31, 3) := by decide +kernel
theorem dF_init_51 : decode bF_init 51 = .ok (.putfield 32, 3) := by decide +kernel
theorem dF_init_54 : decode bF_init 54 = .ok (.aload_n 0, 1) := by decide +kernel
theorem dF_init_55 : decode bF_init 55 = .ok (.iconst 2, 1) := by decide +kernel
theorem dF_init_56 : decode bF_init 56 = .ok (.bipush 12, 2) := by decide +kernel
theorem dF_init_58 : decode bF_init 58 = .ok (.iload_n 1, 1) := by decide +kernel
theorem dF_init_59 : decode bF_init 59 = .ok (.invokestatic 36, 3) := by decide +kernel
theorem dF_init_62 : decode bF_init 62 = .ok (.invokestatic 42, 3) := by decide +kernel
theorem dF_init_65 : decode bF_init 65 = .ok (.putfield 45, 3) := by decide +kernel
theorem dF_init_68 : decode bF_init 68 = .ok (.iconst 0, 1) := by decide +kernel
theorem dF_init_69 : decode bF_init 69 = .ok (.istore_n 2, 1) := by decide +kernel
theorem dF_init_70 : decode bF_init 70 = .ok (.iload_n 2, 1) := by decide +kernel
theorem dF_init_71 : decode bF_init 71 = .ok (.aload_n 0, 1) := by decide +kernel
theorem dF_init_72 : decode bF_init 72 = .ok (.getfield 45, 3) := by decide +kernel
theorem dF_init_75 : decode bF_init 75 = .ok (.if_icmp .ge 16, 3) := by decide +kernel
theorem dF_init_78 : decode bF_init 78 = .ok (.aload_n 0, 1) := by decide +kernel
theorem dF_init_79 : decode bF_init 79 = .ok (.getfield 14, 3) := by decide +kernel
theorem dF_init_82 : decode bF_init 82 = .ok (.iload_n 2, 1) := by decide +kernel
theorem dF_init_83 : decode bF_init 83 = .ok (.iconst 1, 1) := by decide +kernel
theorem dF_init_84 : decode bF_init 84 = .ok (.bastore, 1) := by decide +kernel
theorem dF_init_85 : decode bF_init 85 = .ok (.iinc 2 1, 3) := by decide +kernel
theorem dF_init_88 : decode bF_init 88 = .ok (.goto (-18), 3) := by decide +kernel
theorem dF_init_91 : decode bF_init 91 = .ok (.return_, 1) := by decide +kernel
theorem dF_isIn_0 : decode bF_isIn 0 = .ok (.aload_n 0, 1) := by decide +kernel
theorem dF_isIn_1 : decode bF_isIn 1 = .ok (.iload_n 1, 1) := by decide +kernel
theorem dF_isIn_2 : decode bF_isIn 2 = .ok (.invokevirtual 150, 3) := by decide +kernel
theorem dF_isIn_5 : decode bF_isIn 5 = .ok (.ifCond .eq 16, 3) := by decide +kernel
theorem dF_isIn_8 : decode bF_isIn 8 = .ok (.aload_n 0, 1) := by decide +kernel
theorem dF_isIn_9 : decode bF_isIn 9 = .ok (.getfield 14, 3) := by decide +kernel
theorem dF_isIn_12 : decode bF_isIn 12 = .ok (.iload_n 1, 1) := by decide +kernel
theorem dF_isIn_13 : decode bF_isIn 13 = .ok (.baload, 1) := by decide +kernel
theorem dF_isIn_14 : decode bF_isIn 14 = .ok (.ifCond .eq 7, 3) := by decide +kernel
theorem dF_isIn_17 : decode bF_isIn 17 = .ok (.iconst 1, 1) := by decide +kernel
theorem dF_isIn_18 : decode bF_isIn 18 = .ok (.goto 4, 3) := by decide +kernel
theorem dF_isIn_21 : decode bF_isIn 21 = .ok (.iconst 0, 1) := by decide +kernel
theorem dF_isIn_22 : decode bF_isIn 22 = .ok (.ireturn, 1) := by decide +kernel
theorem dF_isPlayer_0 : decode bF_isPlayer 0 = .ok (.iload_n 1, 1) := by decide +kernel
theorem dF_isPlayer_1 : decode bF_isPlayer 1 = .ok (.ifCond .lt 15, 3) := by decide +kernel
theorem dF_isPlayer_4 : decode bF_isPlayer 4 = .ok (.iload_n 1, 1) := by decide +kernel
theorem dF_isPlayer_5 : decode bF_isPlayer 5 = .ok (.aload_n 0, 1) := by decide +kernel
theorem dF_isPlayer_6 : decode bF_isPlayer 6 = .ok (.getfield 45, 3) := by decide +kernel
theorem dF_isPlayer_9 : decode bF_isPlayer 9 = .ok (.if_icmp .ge 7, 3) := by decide +kernel
theorem dF_isPlayer_12 : decode bF_isPlayer 12 = .ok (.iconst 1, 1) := by decide +kernel
theorem dF_isPlayer_13 : decode bF_isPlayer 13 = .ok (.goto 4, 3) := by decide +kernel
theorem dF_isPlayer_16 : decode bF_isPlayer 16 = .ok (.iconst 0, 1) := by decide +kernel
theorem dF_isPlayer_17 : decode bF_isPlayer 17 = .ok (.ireturn, 1) := by decide +kernel
theorem dF_isWhite_0 : decode bF_isWhite 0 = .ok (.aload_n 0, 1) := by decide +kernel
theorem dF_isWhite_1 : decode bF_isWhite 1 = .ok (.iload_n 1, 1) := by decide +kernel
theorem dF_isWhite_2 : decode bF_isWhite 2 = .ok (.invokevirtual 59, 3) := by decide +kernel
theorem dF_isWhite_5 : decode bF_isWhite 5 = .ok (.aload_n 0, 1) := by decide +kernel
theorem dF_isWhite_6 : decode bF_isWhite 6 = .ok (.invokevirtual 100, 3) := by decide +kernel
theorem dF_isWhite_9 : decode bF_isWhite 9 = .ok (.aload_n 0, 1) := by decide +kernel
theorem dF_isWhite_10 : decode bF_isWhite 10 = .ok (.getfield 11, 3) := by decide +kernel
theorem dF_isWhite_13 : decode bF_isWhite 13 = .ok (.aload_n 0, 1) := by decide +kernel
theorem dF_isWhite_14 : decode bF_isWhite 14 = .ok (.getfield 73, 3) := by decide +kernel
theorem dF_isWhite_17 : decode bF_isWhite 17 = .ok (.aaload, 1) := by decide +kernel
theorem dF_isWhite_18 : decode bF_isWhite 18 = .ok (.iload_n 1, 1) := by decide +kernel
theorem dF_isWhite_19 : decode bF_isWhite 19 = .ok (.iaload, 1) := by decide +kernel
theorem dF_isWhite_20 : decode bF_isWhite 20 = .ok (.istore_n 2, 1) := by decide +kernel
theorem dF_isWhite_21 : decode bF_isWhite 21 = .ok (.iload_n 2, 1) := by decide +kernel
theorem dF_isWhite_22 : decode bF_isWhite 22 = .ok (.invokestatic 109, 3) := by decide +kernel
theorem dF_isWhite_25 : decode bF_isWhite 25 = .ok (.ifCond .eq 15, 3) := by decide +kernel
theorem dF_isWhite_28 : decode bF_isWhite 28 = .ok (.iload_n 2, 1) := by decide +kernel
theorem dF_isWhite_29 : decode bF_isWhite 29 = .ok (.invokestatic 113, 3) := by decide +kernel
theorem dF_isWhite_32 : decode bF_isWhite 32 = .ok (.iconst 1, 1) := by decide +kernel
theorem dF_isWhite_33 : decode bF_isWhite 33 = .ok (.if_icmp .ne 7, 3) := by decide +kernel
theorem dF_isWhite_36 : decode bF_isWhite 36 = .ok (.iconst 1, 1) := by decide +kernel
theorem dF_isWhite_37 : decode bF_isWhite 37 = .ok (.goto 4, 3) := by decide +kernel
theorem dF_isWhite_40 : decode bF_isWhite 40 = .ok (.iconst 0, 1) := by decide +kernel
theorem dF_isWhite_41 : decode bF_isWhite 41 = .ok (.ireturn, 1) := by decide +kernel
theorem dF_leave_0 : decode bF_leave 0 = .ok (.aload_n 0, 1) := by decide +kernel
theorem dF_leave_1 : decode bF_leave 1 = .ok (.iload_n 1, 1) := by decide +kernel
theorem dF_leave_2 : decode bF_leave 2 = .ok (.invokevirtual 59, 3) := by decide +kernel
theorem dF_leave_5 : decode bF_leave 5 = .ok (.aload_n 0, 1) := by decide +kernel
theorem dF_leave_6 : decode bF_leave 6 = .ok (.getfield 14, 3) := by decide +kernel
theorem dF_leave_9 : decode bF_leave 9 = .ok (.iload_n 1, 1) := by decide +kernel
theorem dF_leave_10 : decode bF_leave 10 = .ok (.baload, 1) := by decide +kernel
theorem dF_leave_11 : decode bF_leave 11 = .ok (.ifCond .ne 13, 3) := by decide +kernel
theorem dF_leave_14 : decode bF_leave 14 = .ok (.new 63, 3) := by decide +kernel
theorem dF_leave_17 : decode bF_leave 17 = .ok (.dup, 1) := by decide +kernel
theorem dF_leave_18 : decode bF_leave 18 = .ok (.ldc 65, 2) := by decide +kernel
theorem dF_leave_20 : decode bF_leave 20 = .ok (.invokespecial 67, 3) := by decide +kernel
theorem dF_leave_23 : decode bF_leave 23 = .ok (.athrow, 1) := by decide +kernel
theorem dF_leave_24 : decode bF_leave 24 = .ok (.aload_n 0, 1) := by decide +kernel
theorem dF_leave_25 : decode bF_leave 25 = .ok (.invokevirtual 49, 3) := by decide +kernel
theorem dF_leave_28 : decode bF_leave 28 = .ok (.aload_n 0, 1) := by decide +kernel
theorem dF_leave_29 : decode bF_leave 29 = .ok (.getfield 14, 3) := by decide +kernel
theorem dF_leave_32 : decode bF_leave 32 = .ok (.iload_n 1, 1) := by decide +kernel
theorem dF_leave_33 : decode bF_leave 33 = .ok (.iconst 0, 1) := by decide +kernel
theorem dF_leave_34 : decode bF_leave 34 = .ok (.bastore, 1) := by decide +kernel
theorem dF_leave_35 : decode bF_leave 35 = .ok (.return_, 1) := by decide +kernel
theorem dF_missing_0 : decode bF_missing 0 = .ok (.aload_n 0, 1) := by decide +kernel
theorem dF_missing_1 : decode bF_missing 1 = .ok (.invokevirtual 100, 3) := by decide +kernel
theorem dF_missing_4 : decode bF_missing 4 = .ok (.aload_n 0, 1) := by decide +kernel
theorem dF_missing_5 : decode bF_missing 5 = .ok (.invokevirtual 127, 3) := by decide +kernel
theorem dF_missing_8 : decode bF_missing 8 = .ok (.ireturn, 1) := by decide +kernel
theorem dF_noteResult_0 : decode bF_noteResult 0 = .ok (.aload_n 0, 1) := by decide +kernel
theorem dF_noteResult_1 : decode bF_noteResult 1 = .ok (.getfield 11, 3) := by decide +kernel
theorem dF_noteResult_4 : decode bF_noteResult 4 = .ok (.aload_n 0, 1) := by decide +kernel
theorem dF_noteResult_5 : decode bF_noteResult 5 = .ok (.getfield 73, 3) := by decide +kernel
theorem dF_noteResult_8 : decode bF_noteResult 8 = .ok (.aaload, 1) := by decide +kernel
theorem dF_noteResult_9 : decode bF_noteResult 9 = .ok (.astore_n 3, 1) := by decide +kernel
theorem dF_noteResult_10 : decode bF_noteResult 10 = .ok (.aload_n 3, 1) := by decide +kernel
theorem dF_noteResult_11 : decode bF_noteResult 11 = .ok (.iload_n 1, 1) := by decide +kernel
theorem dF_noteResult_12 : decode bF_noteResult 12 = .ok (.iaload, 1) := by decide +kernel
theorem dF_noteResult_13 : decode bF_noteResult 13 = .ok (.invokestatic 103, 3) := by decide +kernel
theorem dF_noteResult_16 : decode bF_noteResult 16 = .ok (.istore 4, 2) := by decide +kernel
theorem dF_noteResult_18 : decode bF_noteResult 18 = .ok (.aload_n 3, 1) := by decide +kernel
theorem dF_noteResult_19 : decode bF_noteResult 19 = .ok (.iload_n 1, 1) := by decide +kernel
theorem dF_noteResult_20 : decode bF_noteResult 20 = .ok (.aload_n 3, 1) := by decide +kernel
theorem dF_noteResult_21 : decode bF_noteResult 21 = .ok (.iload_n 1, 1) := by decide +kernel
theorem dF_noteResult_22 : decode bF_noteResult 22 = .ok (.iaload, 1) := by decide +kernel
theorem dF_noteResult_23 : decode bF_noteResult 23 = .ok (.iload_n 2, 1) := by decide +kernel
theorem dF_noteResult_24 : decode bF_noteResult 24 = .ok (.invokestatic 199, 3) := by decide +kernel
theorem dF_noteResult_27 : decode bF_noteResult 27 = .ok (.iastore, 1) := by decide +kernel
theorem dF_noteResult_28 : decode bF_noteResult 28 = .ok (.aload_n 3, 1) := by decide +kernel
theorem dF_noteResult_29 : decode bF_noteResult 29 = .ok (.iload 4, 2) := by decide +kernel
theorem dF_noteResult_31 : decode bF_noteResult 31 = .ok (.aload_n 3, 1) := by decide +kernel
theorem dF_noteResult_32 : decode bF_noteResult 32 = .ok (.iload 4, 2) := by decide +kernel
theorem dF_noteResult_34 : decode bF_noteResult 34 = .ok (.iaload, 1) := by decide +kernel
theorem dF_noteResult_35 : decode bF_noteResult 35 = .ok (.iconst 2, 1) := by decide +kernel
theorem dF_noteResult_36 : decode bF_noteResult 36 = .ok (.iload_n 2, 1) := by decide +kernel
theorem dF_noteResult_37 : decode bF_noteResult 37 = .ok (.isub, 1) := by decide +kernel
theorem dF_noteResult_38 : decode bF_noteResult 38 = .ok (.invokestatic 199, 3) := by decide +kernel
theorem dF_noteResult_41 : decode bF_noteResult 41 = .ok (.iastore, 1) := by decide +kernel
theorem dF_noteResult_42 : decode bF_noteResult 42 = .ok (.return_, 1) := by decide +kernel
theorem dF_noteResultsByNumber_0 : decode bF_noteResultsByNumber 0 = .ok (.aload_n 0, 1) := by decide +kernel
theorem dF_noteResultsByNumber_1 : decode bF_noteResultsByNumber 1 = .ok (.getfield 11, 3) := by decide +kernel
theorem dF_noteResultsByNumber_4 : decode bF_noteResultsByNumber 4 = .ok (.aload_n 0, 1) := by decide +kernel
theorem dF_noteResultsByNumber_5 : decode bF_noteResultsByNumber 5 = .ok (.getfield 73, 3) := by decide +kernel
theorem dF_noteResultsByNumber_8 : decode bF_noteResultsByNumber 8 = .ok (.aaload, 1) := by decide +kernel
theorem dF_noteResultsByNumber_9 : decode bF_noteResultsByNumber 9 = .ok (.astore_n 1, 1) := by decide +kernel
theorem dF_noteResultsByNumber_10 : decode bF_noteResultsByNumber 10 = .ok (.iconst 0, 1) := by decide +kernel
theorem dF_noteResultsByNumber_11 : decode bF_noteResultsByNumber 11 = .ok (.istore_n 2, 1) := by decide +kernel
theorem dF_noteResultsByNumber_12 : decode bF_noteResultsByNumber 12 = .ok (.iload_n 2, 1) := by decide +kernel
theorem dF_noteResultsByNumber_13 : decode bF_noteResultsByNumber 13 = .ok (.aload_n 0, 1) := by decide +kernel
theorem dF_noteResultsByNumber_14 : decode bF_noteResultsByNumber 14 = .ok (.getfield 45, 3) := by decide +kernel
theorem dF_noteResultsByNumber_17 : decode bF_noteResultsByNumber 17 = .ok (.if_icmp .ge 51, 3) := by decide +kernel
theorem dF_noteResultsByNumber_20 : decode bF_noteResultsByNumber 20 = .ok (.aload_n 1, 1) := by decide +kernel
theorem dF_noteResultsByNumber_21 : decode bF_noteResultsByNumber 21 = .ok (.iload_n 2, 1) := by decide +kernel
theorem dF_noteResultsByNumber_22 : decode bF_noteResultsByNumber 22 = .ok (.iaload, 1) := by decide +kernel
theorem dF_noteResultsByNumber_23 : decode bF_noteResultsByNumber 23 = .ok (.invokestatic 118, 3) := by decide +kernel
theorem dF_noteResultsByNumber_26 : decode bF_noteResultsByNumber 26 = .ok (.ifCond .eq 36, 3) := by decide +kernel
theorem dF_noteResultsByNumber_29 : decode bF_noteResultsByNumber 29 = .ok (.iload_n 2, 1) := by decide +kernel
theorem dF_noteResultsByNumber_30 : decode bF_noteResultsByNumber 30 = .ok (.aload_n 1, 1) := by decide +kernel
theorem dF_noteResultsByNumber_31 : decode bF_noteResultsByNumber 31 = .ok (.iload_n 2, 1) := by decide +kernel
theorem dF_noteResultsByNumber_32 : decode bF_noteResultsByNumber 32 = .ok (.iaload, 1) := by decide +kernel
theorem dF_noteResultsByNumber_33 : decode bF_noteResultsByNumber 33 = .ok (.invokestatic 103, 3) := by decide +kernel
theorem dF_noteResultsByNumber_36 : decode bF_noteResultsByNumber 36 = .ok (.iadd, 1) := by decide +kernel
theorem dF_noteResultsByNumber_37 : decode bF_noteResultsByNumber 37 = .ok (.iconst 3, 1) := by decide +kernel
theorem dF_noteResultsByNumber_38 : decode bF_noteResultsByNumber 38 = .ok (.irem, 1) := by decide +kernel
theorem dF_noteResultsByNumber_39 : decode bF_noteResultsByNumber 39 = .ok (.ifCond .ne 7, 3) := by decide +kernel
theorem dF_noteResultsByNumber_42 : decode bF_noteResultsByNumber 42 = .ok (.iconst 1, 1) := by decide +kernel
theorem dF_noteResultsByNumber_43 : decode bF_noteResultsByNumber 43 = .ok (.goto 4, 3) := by decide +kernel
theorem dF_noteResultsByNumber_46 : decode bF_noteResultsByNumber 46 = .ok (.iconst 0, 1) := by decide +kernel
theorem dF_noteResultsByNumber_47 : decode bF_noteResultsByNumber 47 = .ok (.istore_n 3, 1) := by decide +kernel
theorem dF_noteResultsByNumber_48 : decode bF_noteResultsByNumber 48 = .ok (.aload_n 0, 1) := by decide +kernel
theorem dF_noteResultsByNumber_49 : decode bF_noteResultsByNumber 49 = .ok (.iload_n 2, 1) := by decide +kernel
theorem dF_noteResultsByNumber_50 : decode bF_noteResultsByNumber 50 = .ok (.iload_n 3, 1) := by decide +kernel
theorem dF_noteResultsByNumber_51 : decode bF_noteResultsByNumber 51 = .ok (.ifCond .eq 7, 3) := by decide +kernel
theorem dF_noteResultsByNumber_54 : decode bF_noteResultsByNumber 54 = .ok (.iconst 1, 1) := by decide +kernel
theorem dF_noteResultsByNumber_55 : decode bF_noteResultsByNumber 55 = .ok (.goto 4, 3) := by decide +kernel
theorem dF_noteResultsByNumber_58 : decode bF_noteResultsByNumber 58 = .ok (.iconst 2, 1) := by decide +kernel
theorem dF_noteResultsByNumber_59 : decode bF_noteResultsByNumber 59 = .ok (.invokevirtual 123, 3) := by decide +kernel
theorem dF_noteResultsByNumber_62 : decode bF_noteResultsByNumber 62 = .ok (.iinc 2 1, 3) := by decide +kernel
theorem dF_noteResultsByNumber_65 : decode bF_noteResultsByNumber 65 = .ok (.goto (-53), 3) := by decide +kernel
theorem dF_noteResultsByNumber_68 : decode bF_noteResultsByNumber 68 = .ok (.return_, 1) := by decide +kernel
theorem dF_openNextRound_0 : decode bF_openNextRound 0 = .ok (.aload_n 0, 1) := by decide +kernel
theorem dF_openNextRound_1 : decode bF_openNextRound 1 = .ok (.invokevirtual 88, 3) := by decide +kernel
theorem dF_openNextRound_4 : decode bF_openNextRound 4 = .ok (.aload_n 0, 1) := by decide +kernel
theorem dF_openNextRound_5 : decode bF_openNextRound 5 = .ok (.getfield 32, 3) := by decide +kernel
theorem dF_openNextRound_8 : decode bF_openNextRound 8 = .ok (.invokevirtual 91, 3) := by decide +kernel
theorem dF_openNextRound_11 : decode bF_openNextRound 11 = .ok (.ifCond .ne 5, 3) := by decide +kernel
theorem dF_openNextRound_14 : decode bF_openNextRound 14 = .ok (.iconst 0, 1) := by decide +kernel
theorem dF_openNextRound_15 : decode bF_openNextRound 15 = .ok (.ireturn, 1) := by decide +kernel
theorem dF_openNextRound_16 : decode bF_openNextRound 16 = .ok (.aload_n 0, 1) := by decide +kernel
theorem dF_openNextRound_17 : decode bF_openNextRound 17 = .ok (.getfield 32, 3) := by decide +kernel
theorem dF_openNextRound_20 : decode bF_openNextRound 20 = .ok (.aload_n 0, 1) := by decide +kernel
theorem dF_openNextRound_21 : decode bF_openNextRound 21 = .ok (.getfield 11, 3) := by decide +kernel
theorem dF_openNextRound_24 : decode bF_openNextRound 24 = .ok (.aload_n 0, 1) := by decide +kernel
theorem dF_openNextRound_25 : decode bF_openNextRound 25 = .ok (.getfield 73, 3) := by decide +kernel
theorem dF_openNextRound_28 : decode bF_openNextRound 28 = .ok (.aaload, 1) := by decide +kernel
theorem dF_openNextRound_29 : decode bF_openNextRound 29 = .ok (.aload_n 0, 1) := by decide +kernel
theorem dF_openNextRound_30 : decode bF_openNextRound 30 = .ok (.getfield 25, 3) := by decide +kernel
theorem dF_openNextRound_33 : decode bF_openNextRound 33 = .ok (.aload_n 0, 1) := by decide +kernel
theorem dF_openNextRound_34 : decode bF_openNextRound 34 = .ok (.getfield 73, 3) := by decide +kernel
theorem dF_openNextRound_37 : decode bF_openNextRound 37 = .ok (.invokevirtual 195, 3) := by decide +kernel
theorem dF_openNextRound_40 : decode bF_openNextRound 40 = .ok (.aload_n 0, 1) := by decide +kernel
theorem dF_openNextRound_41 : decode bF_openNextRound 41 = .ok (.iconst 1, 1) := by decide +kernel
theorem dF_openNextRound_42 : decode bF_openNextRound 42 = .ok (.putfield 135, 3) := by decide +kernel
theorem dF_openNextRound_45 : decode bF_openNextRound 45 = .ok (.iconst 1, 1) := by decide +kernel
theorem dF_openNextRound_46 : decode bF_openNextRound 46 = .ok (.ireturn, 1) := by decide +kernel
theorem dF_opponent_0 : decode bF_opponent 0 = .ok (.aload_n 0, 1) := by decide +kernel
theorem dF_opponent_1 : decode bF_opponent 1 = .ok (.iload_n 1, 1) := by decide +kernel
theorem dF_opponent_2 : decode bF_opponent 2 = .ok (.invokevirtual 59, 3) := by decide +kernel
theorem dF_opponent_5 : decode bF_opponent 5 = .ok (.aload_n 0, 1) := by decide +kernel
theorem dF_opponent_6 : decode bF_opponent 6 = .ok (.invokevirtual 100, 3) := by decide +kernel
theorem dF_opponent_9 : decode bF_opponent 9 = .ok (.aload_n 0, 1) := by decide +kernel
theorem dF_opponent_10 : decode bF_opponent 10 = .ok (.getfield 11, 3) := by decide +kernel
theorem dF_opponent_13 : decode bF_opponent 13 = .ok (.aload_n 0, 1) := by decide +kernel
theorem dF_opponent_14 : decode bF_opponent 14 = .ok (.getfield 73, 3) := by decide +kernel
theorem dF_opponent_17 : decode bF_opponent 17 = .ok (.aaload, 1) := by decide +kernel
theorem dF_opponent_18 : decode bF_opponent 18 = .ok (.iload_n 1, 1) := by decide +kernel
theorem dF_opponent_19 : decode bF_opponent 19 = .ok (.iaload, 1) := by decide +kernel
theorem dF_opponent_20 : decode bF_opponent 20 = .ok (.istore_n 2, 1) := by decide +kernel
theorem dF_opponent_21 : decode bF_opponent 21 = .ok (.iload_n 2, 1) := by decide +kernel
theorem dF_opponent_22 : decode bF_opponent 22 = .ok (.iconst (-1), 1) := by decide +kernel
theorem dF_opponent_23 : decode bF_opponent 23 = .ok (.if_icmp .ne 7, 3) := by decide +kernel
theorem dF_opponent_26 : decode bF_opponent 26 = .ok (.iconst (-1), 1) := by decide +kernel
theorem dF_opponent_27 : decode bF_opponent 27 = .ok (.goto 7, 3) := by decide +kernel
theorem dF_opponent_30 : decode bF_opponent 30 = .ok (.iload_n 2, 1) := by decide +kernel
theorem dF_opponent_31 : decode bF_opponent 31 = .ok (.invokestatic 103, 3) := by decide +kernel
theorem dF_opponent_34 : decode bF_opponent 34 = .ok (.ireturn, 1) := by decide +kernel
theorem dF_pair_0 : decode bF_pair 0 = .ok (.aload_n 0, 1) := by decide +kernel
theorem dF_pair_1 : decode bF_pair 1 = .ok (.invokevirtual 49, 3) := by decide +kernel
theorem dF_pair_4 : decode bF_pair 4 = .ok (.aload_n 0, 1) := by decide +kernel
theorem dF_pair_5 : decode bF_pair 5 = .ok (.getfield 73, 3) := by decide +kernel
theorem dF_pair_8 : decode bF_pair 8 = .ok (.bipush 16, 2) := by decide +kernel
theorem dF_pair_10 : decode bF_pair 10 = .ok (.if_icmp .ne 13, 3) := by decide +kernel
theorem dF_pair_13 : decode bF_pair 13 = .ok (.new 52, 3) := by decide +kernel
theorem dF_pair_16 : decode bF_pair 16 = .ok (.dup, 1) := by decide +kernel
theorem dF_pair_17 : decode bF_pair 17 = .ok (.ldc 76, 2) := by decide +kernel
theorem dF_pair_19 : decode bF_pair 19 = .ok (.invokespecial 56, 3) := by decide +kernel
theorem dF_pair_22 : decode bF_pair 22 = .ok (.athrow, 1) := by decide +kernel
theorem dF_pair_23 : decode bF_pair 23 = .ok (.aload_n 0, 1) := by decide +kernel
theorem dF_pair_24 : decode bF_pair 24 = .ok (.invokevirtual 78, 3) := by decide +kernel
theorem dF_pair_27 : decode bF_pair 27 = .ok (.ifCond .ne 13, 3) := by decide +kernel
theorem dF_pair_30 : decode bF_pair 30 = .ok (.new 63, 3) := by decide +kernel
theorem dF_pair_33 : decode bF_pair 33 = .ok (.dup, 1) := by decide +kernel
theorem dF_pair_34 : decode bF_pair 34 = .ok (.ldc 82, 2) := by decide +kernel
theorem dF_pair_36 : decode bF_pair 36 = .ok (.invokespecial 67, 3) := by decide +kernel
theorem dF_pair_39 : decode bF_pair 39 = .ok (.athrow, 1) := by decide +kernel
theorem dF_pair_40 : decode bF_pair 40 = .ok (.aload_n 0, 1) := by decide +kernel
theorem dF_pair_41 : decode bF_pair 41 = .ok (.getfield 32, 3) := by decide +kernel
theorem dF_pair_44 : decode bF_pair 44 = .ok (.invokevirtual 84, 3) := by decide +kernel
theorem dF_pair_47 : decode bF_pair 47 = .ok (.ireturn, 1) := by decide +kernel
theorem dF_play_0 : decode bF_play 0 = .ok (.iload_n 1, 1) := by decide +kernel
theorem dF_play_1 : decode bF_play 1 = .ok (.ifCond .lt 9, 3) := by decide +kernel
theorem dF_play_4 : decode bF_play 4 = .ok (.iload_n 1, 1) := by decide +kernel
theorem dF_play_5 : decode bF_play 5 = .ok (.bipush 16, 2) := by decide +kernel
theorem dF_play_7 : decode bF_play 7 = .ok (.if_icmp .le 13, 3) := by decide +kernel
theorem dF_play_10 : decode bF_play 10 = .ok (.new 68, 3) := by decide +kernel
theorem dF_play_13 : decode bF_play 13 = .ok (.dup, 1) := by decide +kernel
theorem dF_play_14 : decode bF_play 14 = .ok (.ldc 145, 2) := by decide +kernel
theorem dF_play_16 : decode bF_play 16 = .ok (.invokespecial 72, 3) := by decide +kernel
theorem dF_play_19 : decode bF_play 19 = .ok (.athrow, 1) := by decide +kernel
theorem dF_play_20 : decode bF_play 20 = .ok (.aload_n 0, 1) := by decide +kernel
theorem dF_play_21 : decode bF_play 21 = .ok (.invokevirtual 49, 3) := by decide +kernel
theorem dF_play_24 : decode bF_play 24 = .ok (.iconst 0, 1) := by decide +kernel
theorem dF_play_25 : decode bF_play 25 = .ok (.istore_n 2, 1) := by decide +kernel
theorem dF_play_26 : decode bF_play 26 = .ok (.iload_n 2, 1) := by decide +kernel
theorem dF_play_27 : decode bF_play 27 = .ok (.iload_n 1, 1) := by decide +kernel
theorem dF_play_28 : decode bF_play 28 = .ok (.if_icmp .ge 33, 3) := by decide +kernel
theorem dF_play_31 : decode bF_play 31 = .ok (.aload_n 0, 1) := by decide +kernel
theorem dF_play_32 : decode bF_play 32 = .ok (.getfield 73, 3) := by decide +kernel
theorem dF_play_35 : decode bF_play 35 = .ok (.bipush 16, 2) := by decide +kernel
theorem dF_play_37 : decode bF_play 37 = .ok (.if_icmp .ge 24, 3) := by decide +kernel
theorem dF_play_40 : decode bF_play 40 = .ok (.aload_n 0, 1) := by decide +kernel
theorem dF_play_41 : decode bF_play 41 = .ok (.invokevirtual 78, 3) := by decide +kernel
theorem dF_play_44 : decode bF_play 44 = .ok (.ifCond .eq 17, 3) := by decide +kernel
theorem dF_play_47 : decode bF_play 47 = .ok (.aload_n 0, 1) := by decide +kernel
theorem dF_play_48 : decode bF_play 48 = .ok (.invokevirtual 147, 3) := by decide +kernel
theorem dF_play_51 : decode bF_play 51 = .ok (.aload_n 0, 1) := by decide +kernel
theorem dF_play_52 : decode bF_play 52 = .ok (.invokevirtual 132, 3) := by decide +kernel
theorem dF_play_55 : decode bF_play 55 = .ok (.iinc 2 1, 3) := by decide +kernel
theorem dF_play_58 : decode bF_play 58 = .ok (.goto (-32), 3) := by decide +kernel
theorem dF_play_61 : decode bF_play 61 = .ok (.iload_n 2, 1) := by decide +kernel
theorem dF_play_62 : decode bF_play 62 = .ok (.ireturn, 1) := by decide +kernel
theorem dF_players_0 : decode bF_players 0 = .ok (.aload_n 0, 1) := by decide +kernel
theorem dF_players_1 : decode bF_players 1 = .ok (.getfield 45, 3) := by decide +kernel
theorem dF_players_4 : decode bF_players 4 = .ok (.ireturn, 1) := by decide +kernel
theorem dF_refuseNoPlayer_0 : decode bF_refuseNoPlayer 0 = .ok (.aload_n 0, 1) := by decide +kernel
theorem dF_refuseNoPlayer_1 : decode bF_refuseNoPlayer 1 = .ok (.iload_n 1, 1) := by decide +kernel
theorem dF_refuseNoPlayer_2 : decode bF_refuseNoPlayer 2 = .ok (.invokevirtual 150, 3) := by decide +kernel
theorem dF_refuseNoPlayer_5 : decode bF_refuseNoPlayer 5 = .ok (.ifCond .ne 13, 3) := by decide +kernel
theorem dF_refuseNoPlayer_8 : decode bF_refuseNoPlayer 8 = .ok (.new 173, 3) := by decide +kernel
theorem dF_refuseNoPlayer_11 : decode bF_refuseNoPlayer 11 = .ok (.dup, 1) := by decide +kernel
theorem dF_refuseNoPlayer_12 : decode bF_refuseNoPlayer 12 = .ok (.ldc 185, 2) := by decide +kernel
theorem dF_refuseNoPlayer_14 : decode bF_refuseNoPlayer 14 = .ok (.invokespecial 177, 3) := by decide +kernel
theorem dF_refuseNoPlayer_17 : decode bF_refuseNoPlayer 17 = .ok (.athrow, 1) := by decide +kernel
theorem dF_refuseNoPlayer_18 : decode bF_refuseNoPlayer 18 = .ok (.return_, 1) := by decide +kernel
theorem dF_refuseNoRound_0 : decode bF_refuseNoRound 0 = .ok (.aload_n 0, 1) := by decide +kernel
theorem dF_refuseNoRound_1 : decode bF_refuseNoRound 1 = .ok (.getfield 135, 3) := by decide +kernel
theorem dF_refuseNoRound_4 : decode bF_refuseNoRound 4 = .ok (.ifCond .ne 13, 3) := by decide +kernel
theorem dF_refuseNoRound_7 : decode bF_refuseNoRound 7 = .ok (.new 52, 3) := by decide +kernel
theorem dF_refuseNoRound_10 : decode bF_refuseNoRound 10 = .ok (.dup, 1) := by decide +kernel
theorem dF_refuseNoRound_11 : decode bF_refuseNoRound 11 = .ok (.ldc 189, 2) := by decide +kernel
theorem dF_refuseNoRound_13 : decode bF_refuseNoRound 13 = .ok (.invokespecial 56, 3) := by decide +kernel
theorem dF_refuseNoRound_16 : decode bF_refuseNoRound 16 = .ok (.athrow, 1) := by decide +kernel
theorem dF_refuseNoRound_17 : decode bF_refuseNoRound 17 = .ok (.return_, 1) := by decide +kernel
theorem dF_refuseOpenRound_0 : decode bF_refuseOpenRound 0 = .ok (.aload_n 0, 1) := by decide +kernel
theorem dF_refuseOpenRound_1 : decode bF_refuseOpenRound 1 = .ok (.getfield 135, 3) := by decide +kernel
theorem dF_refuseOpenRound_4 : decode bF_refuseOpenRound 4 = .ok (.ifCond .eq 13, 3) := by decide +kernel
theorem dF_refuseOpenRound_7 : decode bF_refuseOpenRound 7 = .ok (.new 52, 3) := by decide +kernel
theorem dF_refuseOpenRound_10 : decode bF_refuseOpenRound 10 = .ok (.dup, 1) := by decide +kernel
theorem dF_refuseOpenRound_11 : decode bF_refuseOpenRound 11 = .ok (.ldc 187, 2) := by decide +kernel
theorem dF_refuseOpenRound_13 : decode bF_refuseOpenRound 13 = .ok (.invokespecial 56, 3) := by decide +kernel
theorem dF_refuseOpenRound_16 : decode bF_refuseOpenRound 16 = .ok (.athrow, 1) := by decide +kernel
theorem dF_refuseOpenRound_17 : decode bF_refuseOpenRound 17 = .ok (.return_, 1) := by decide +kernel
theorem dF_report_0 : decode bF_report 0 = .ok (.aload_n 0, 1) := by decide +kernel
theorem dF_report_1 : decode bF_report 1 = .ok (.iload_n 1, 1) := by decide +kernel
theorem dF_report_2 : decode bF_report 2 = .ok (.invokevirtual 59, 3) := by decide +kernel
theorem dF_report_5 : decode bF_report 5 = .ok (.iload_n 2, 1) := by decide +kernel
theorem dF_report_6 : decode bF_report 6 = .ok (.ifCond .lt 8, 3) := by decide +kernel
theorem dF_report_9 : decode bF_report 9 = .ok (.iload_n 2, 1) := by decide +kernel
theorem dF_report_10 : decode bF_report 10 = .ok (.iconst 2, 1) := by decide +kernel
theorem dF_report_11 : decode bF_report 11 = .ok (.if_icmp .le 13, 3) := by decide +kernel
theorem dF_report_14 : decode bF_report 14 = .ok (.new 68, 3) := by decide +kernel
theorem dF_report_17 : decode bF_report 17 = .ok (.dup, 1) := by decide +kernel
theorem dF_report_18 : decode bF_report 18 = .ok (.ldc 116, 2) := by decide +kernel
theorem dF_report_20 : decode bF_report 20 = .ok (.invokespecial 72, 3) := by decide +kernel
theorem dF_report_23 : decode bF_report 23 = .ok (.athrow, 1) := by decide +kernel
theorem dF_report_24 : decode bF_report 24 = .ok (.aload_n 0, 1) := by decide +kernel
theorem dF_report_25 : decode bF_report 25 = .ok (.invokevirtual 100, 3) := by decide +kernel
theorem dF_report_28 : decode bF_report 28 = .ok (.aload_n 0, 1) := by decide +kernel
theorem dF_report_29 : decode bF_report 29 = .ok (.getfield 11, 3) := by decide +kernel
theorem dF_report_32 : decode bF_report 32 = .ok (.aload_n 0, 1) := by decide +kernel
theorem dF_report_33 : decode bF_report 33 = .ok (.getfield 73, 3) := by decide +kernel
theorem dF_report_36 : decode bF_report 36 = .ok (.aaload, 1) := by decide +kernel
theorem dF_report_37 : decode bF_report 37 = .ok (.iload_n 1, 1) := by decide +kernel
theorem dF_report_38 : decode bF_report 38 = .ok (.iaload, 1) := by decide +kernel
theorem dF_report_39 : decode bF_report 39 = .ok (.invokestatic 118, 3) := by decide +kernel
theorem dF_report_42 : decode bF_report 42 = .ok (.ifCond .ne 13, 3) := by decide +kernel
theorem dF_report_45 : decode bF_report 45 = .ok (.new 52, 3) := by decide +kernel
theorem dF_report_48 : decode bF_report 48 = .ok (.dup, 1) := by decide +kernel
theorem dF_report_49 : decode bF_report 49 = .ok (.ldc 121, 2) := by decide +kernel
theorem dF_report_51 : decode bF_report 51 = .ok (.invokespecial 56, 3) := by decide +kernel
theorem dF_report_54 : decode bF_report 54 = .ok (.athrow, 1) := by decide +kernel
theorem dF_report_55 : decode bF_report 55 = .ok (.aload_n 0, 1) := by decide +kernel
theorem dF_report_56 : decode bF_report 56 = .ok (.iload_n 1, 1) := by decide +kernel
theorem dF_report_57 : decode bF_report 57 = .ok (.iload_n 2, 1) := by decide +kernel
theorem dF_report_58 : decode bF_report 58 = .ok (.invokevirtual 123, 3) := by decide +kernel
theorem dF_report_61 : decode bF_report 61 = .ok (.return_, 1) := by decide +kernel
theorem dF_rounds_0 : decode bF_rounds 0 = .ok (.aload_n 0, 1) := by decide +kernel
theorem dF_rounds_1 : decode bF_rounds 1 = .ok (.getfield 73, 3) := by decide +kernel
theorem dF_rounds_4 : decode bF_rounds 4 = .ok (.ireturn, 1) := by decide +kernel
theorem dF_table_0 : decode bF_table 0 = .ok (.iload_n 1, 1) := by decide +kernel
theorem dF_table_1 : decode bF_table 1 = .ok (.ifCond .lt 11, 3) := by decide +kernel
theorem dF_table_4 : decode bF_table 4 = .ok (.iload_n 1, 1) := by decide +kernel
theorem dF_table_5 : decode bF_table 5 = .ok (.aload_n 0, 1) := by decide +kernel
theorem dF_table_6 : decode bF_table 6 = .ok (.getfield 45, 3) := by decide +kernel
theorem dF_table_9 : decode bF_table 9 = .ok (.if_icmp .lt 13, 3) := by decide +kernel
theorem dF_table_12 : decode bF_table 12 = .ok (.new 173, 3) := by decide +kernel
theorem dF_table_15 : decode bF_table 15 = .ok (.dup, 1) := by decide +kernel
theorem dF_table_16 : decode bF_table 16 = .ok (.ldc 180, 2) := by decide +kernel
theorem dF_table_18 : decode bF_table 18 = .ok (.invokespecial 177, 3) := by decide +kernel
theorem dF_table_21 : decode bF_table 21 = .ok (.athrow, 1) := by decide +kernel
theorem dF_table_22 : decode bF_table 22 = .ok (.aload_n 0, 1) := by decide +kernel
theorem dF_table_23 : decode bF_table 23 = .ok (.getfield 25, 3) := by decide +kernel
theorem dF_table_26 : decode bF_table 26 = .ok (.iload_n 1, 1) := by decide +kernel
theorem dF_table_27 : decode bF_table 27 = .ok (.aload_n 0, 1) := by decide +kernel
theorem dF_table_28 : decode bF_table 28 = .ok (.getfield 45, 3) := by decide +kernel
theorem dF_table_31 : decode bF_table 31 = .ok (.invokevirtual 182, 3) := by decide +kernel
theorem dF_table_34 : decode bF_table 34 = .ok (.ireturn, 1) := by decide +kernel
theorem dF_tell_0 : decode bF_tell 0 = .ok (.aload_n 0, 1) := by decide +kernel
theorem dF_tell_1 : decode bF_tell 1 = .ok (.iload_n 1, 1) := by decide +kernel
theorem dF_tell_2 : decode bF_tell 2 = .ok (.invokevirtual 59, 3) := by decide +kernel
theorem dF_tell_5 : decode bF_tell 5 = .ok (.iload_n 2, 1) := by decide +kernel
theorem dF_tell_6 : decode bF_tell 6 = .ok (.tableswitch 112 0 6 #[42, 52, 62, 72, 82, 92, 102], 42) := by decide +kernel
theorem dF_tell_48 : decode bF_tell 48 = .ok (.aload_n 0, 1) := by decide +kernel
theorem dF_tell_49 : decode bF_tell 49 = .ok (.getfield 25, 3) := by decide +kernel
theorem dF_tell_52 : decode bF_tell 52 = .ok (.getfield 153, 3) := by decide +kernel
theorem dF_tell_55 : decode bF_tell 55 = .ok (.iload_n 1, 1) := by decide +kernel
theorem dF_tell_56 : decode bF_tell 56 = .ok (.iaload, 1) := by decide +kernel
theorem dF_tell_57 : decode bF_tell 57 = .ok (.ireturn, 1) := by decide +kernel
theorem dF_tell_58 : decode bF_tell 58 = .ok (.aload_n 0, 1) := by decide +kernel
theorem dF_tell_59 : decode bF_tell 59 = .ok (.getfield 25, 3) := by decide +kernel
theorem dF_tell_62 : decode bF_tell 62 = .ok (.getfield 156, 3) := by decide +kernel
theorem dF_tell_65 : decode bF_tell 65 = .ok (.iload_n 1, 1) := by decide +kernel
theorem dF_tell_66 : decode bF_tell 66 = .ok (.iaload, 1) := by decide +kernel
theorem dF_tell_67 : decode bF_tell 67 = .ok (.ireturn, 1) := by decide +kernel
theorem dF_tell_68 : decode bF_tell 68 = .ok (.aload_n 0, 1) := by decide +kernel
theorem dF_tell_69 : decode bF_tell 69 = .ok (.getfield 25, 3) := by decide +kernel
theorem dF_tell_72 : decode bF_tell 72 = .ok (.getfield 159, 3) := by decide +kernel
theorem dF_tell_75 : decode bF_tell 75 = .ok (.iload_n 1, 1) := by decide +kernel
theorem dF_tell_76 : decode bF_tell 76 = .ok (.iaload, 1) := by decide +kernel
theorem dF_tell_77 : decode bF_tell 77 = .ok (.ireturn, 1) := by decide +kernel
theorem dF_tell_78 : decode bF_tell 78 = .ok (.aload_n 0, 1) := by decide +kernel
theorem dF_tell_79 : decode bF_tell 79 = .ok (.getfield 25, 3) := by decide +kernel
theorem dF_tell_82 : decode bF_tell 82 = .ok (.getfield 162, 3) := by decide +kernel
theorem dF_tell_85 : decode bF_tell 85 = .ok (.iload_n 1, 1) := by decide +kernel
theorem dF_tell_86 : decode bF_tell 86 = .ok (.iaload, 1) := by decide +kernel
theorem dF_tell_87 : decode bF_tell 87 = .ok (.ireturn, 1) := by decide +kernel
theorem dF_tell_88 : decode bF_tell 88 = .ok (.aload_n 0, 1) := by decide +kernel
theorem dF_tell_89 : decode bF_tell 89 = .ok (.getfield 25, 3) := by decide +kernel
theorem dF_tell_92 : decode bF_tell 92 = .ok (.getfield 165, 3) := by decide +kernel
theorem dF_tell_95 : decode bF_tell 95 = .ok (.iload_n 1, 1) := by decide +kernel
theorem dF_tell_96 : decode bF_tell 96 = .ok (.iaload, 1) := by decide +kernel
theorem dF_tell_97 : decode bF_tell 97 = .ok (.ireturn, 1) := by decide +kernel
theorem dF_tell_98 : decode bF_tell 98 = .ok (.aload_n 0, 1) := by decide +kernel
theorem dF_tell_99 : decode bF_tell 99 = .ok (.getfield 25, 3) := by decide +kernel
theorem dF_tell_102 : decode bF_tell 102 = .ok (.getfield 168, 3) := by decide +kernel
theorem dF_tell_105 : decode bF_tell 105 = .ok (.iload_n 1, 1) := by decide +kernel
theorem dF_tell_106 : decode bF_tell 106 = .ok (.iaload, 1) := by decide +kernel
theorem dF_tell_107 : decode bF_tell 107 = .ok (.ireturn, 1) := by decide +kernel
theorem dF_tell_108 : decode bF_tell 108 = .ok (.aload_n 0, 1) := by decide +kernel
theorem dF_tell_109 : decode bF_tell 109 = .ok (.getfield 25, 3) := by decide +kernel
theorem dF_tell_112 : decode bF_tell 112 = .ok (.getfield 171, 3) := by decide +kernel
theorem dF_tell_115 : decode bF_tell 115 = .ok (.iload_n 1, 1) := by decide +kernel
theorem dF_tell_116 : decode bF_tell 116 = .ok (.iaload, 1) := by decide +kernel
theorem dF_tell_117 : decode bF_tell 117 = .ok (.ireturn, 1) := by decide +kernel
theorem dF_tell_118 : decode bF_tell 118 = .ok (.new 173, 3) := by decide +kernel
theorem dF_tell_121 : decode bF_tell 121 = .ok (.dup, 1) := by decide +kernel
theorem dF_tell_122 : decode bF_tell 122 = .ok (.ldc 175, 2) := by decide +kernel
theorem dF_tell_124 : decode bF_tell 124 = .ok (.invokespecial 177, 3) := by decide +kernel
theorem dF_tell_127 : decode bF_tell 127 = .ok (.athrow, 1) := by decide +kernel
theorem dF_ways_0 : decode bF_ways 0 = .ok (.aload_n 0, 1) := by decide +kernel
theorem dF_ways_1 : decode bF_ways 1 = .ok (.invokevirtual 88, 3) := by decide +kernel
theorem dF_ways_4 : decode bF_ways 4 = .ok (.aload_n 0, 1) := by decide +kernel
theorem dF_ways_5 : decode bF_ways 5 = .ok (.getfield 32, 3) := by decide +kernel
theorem dF_ways_8 : decode bF_ways 8 = .ok (.invokevirtual 97, 3) := by decide +kernel
theorem dF_ways_11 : decode bF_ways 11 = .ok (.ireturn, 1) := by decide +kernel
theorem dF_workOutPairing_0 : decode bF_workOutPairing 0 = .ok (.aload_n 0, 1) := by decide +kernel
theorem dF_workOutPairing_1 : decode bF_workOutPairing 1 = .ok (.getfield 32, 3) := by decide +kernel
theorem dF_workOutPairing_4 : decode bF_workOutPairing 4 = .ok (.aload_n 0, 1) := by decide +kernel
theorem dF_workOutPairing_5 : decode bF_workOutPairing 5 = .ok (.getfield 25, 3) := by decide +kernel
theorem dF_workOutPairing_8 : decode bF_workOutPairing 8 = .ok (.aload_n 0, 1) := by decide +kernel
theorem dF_workOutPairing_9 : decode bF_workOutPairing 9 = .ok (.getfield 14, 3) := by decide +kernel
theorem dF_workOutPairing_12 : decode bF_workOutPairing 12 = .ok (.aload_n 0, 1) := by decide +kernel
theorem dF_workOutPairing_13 : decode bF_workOutPairing 13 = .ok (.getfield 18, 3) := by decide +kernel
theorem dF_workOutPairing_16 : decode bF_workOutPairing 16 = .ok (.aload_n 0, 1) := by decide +kernel
theorem dF_workOutPairing_17 : decode bF_workOutPairing 17 = .ok (.getfield 73, 3) := by decide +kernel
theorem dF_workOutPairing_20 : decode bF_workOutPairing 20 = .ok (.invokevirtual 191, 3) := by decide +kernel
theorem dF_workOutPairing_23 : decode bF_workOutPairing 23 = .ok (.return_, 1) := by decide +kernel
end
section
theorem dM_apart_0 : decode bM_apart 0 = .ok (.aload_n 0, 1) := by decide +kernel
theorem dM_apart_1 : decode bM_apart 1 = .ok (.aload_n 0, 1) := by decide +kernel
theorem dM_apart_2 : decode bM_apart 2 = .ok (.iload_n 1, 1) := by decide +kernel
theorem dM_apart_3 : decode bM_apart 3 = .ok (.invokevirtual 59, 3) := by decide +kernel
theorem dM_apart_6 : decode bM_apart 6 = .ok (.ifCond .eq 11, 3) := by decide +kernel
theorem dM_apart_9 : decode bM_apart 9 = .ok (.aload_n 0, 1) := by decide +kernel
theorem dM_apart_10 : decode bM_apart 10 = .ok (.iload_n 2, 1) := by decide +kernel
theorem dM_apart_11 : decode bM_apart 11 = .ok (.invokevirtual 59, 3) := by decide +kernel
theorem dM_apart_14 : decode bM_apart 14 = .ok (.ifCond .ne 7, 3) := by decide +kernel
theorem dM_apart_17 : decode bM_apart 17 = .ok (.iconst 1, 1) := by decide +kernel
theorem dM_apart_18 : decode bM_apart 18 = .ok (.goto 4, 3) := by decide +kernel
theorem dM_apart_21 : decode bM_apart 21 = .ok (.iconst 0, 1) := by decide +kernel
theorem dM_apart_22 : decode bM_apart 22 = .ok (.iload_n 1, 1) := by decide +kernel
theorem dM_apart_23 : decode bM_apart 23 = .ok (.iload_n 2, 1) := by decide +kernel
theorem dM_apart_24 : decode bM_apart 24 = .ok (.if_icmp .ne 7, 3) := by decide +kernel
theorem dM_apart_27 : decode bM_apart 27 = .ok (.iconst 1, 1) := by decide +kernel
theorem dM_apart_28 : decode bM_apart 28 = .ok (.goto 4, 3) := by decide +kernel
theorem dM_apart_31 : decode bM_apart 31 = .ok (.iconst 0, 1) := by decide +kernel
theorem dM_apart_32 : decode bM_apart 32 = .ok (.aload_n 0, 1) := by decide +kernel
theorem dM_apart_33 : decode bM_apart 33 = .ok (.getfield 51, 3) := by decide +kernel
theorem dM_apart_36 : decode bM_apart 36 = .ok (.invokevirtual 55, 3) := by decide +kernel
theorem dM_apart_39 : decode bM_apart 39 = .ok (.ifCond .eq 5, 3) := by decide +kernel
theorem dM_apart_42 : decode bM_apart 42 = .ok (.iconst 0, 1) := by decide +kernel
theorem dM_apart_43 : decode bM_apart 43 = .ok (.ireturn, 1) := by decide +kernel
theorem dM_apart_44 : decode bM_apart 44 = .ok (.aload_n 0, 1) := by decide +kernel
theorem dM_apart_45 : decode bM_apart 45 = .ok (.getfield 13, 3) := by decide +kernel
theorem dM_apart_48 : decode bM_apart 48 = .ok (.bipush 12, 2) := by decide +kernel
theorem dM_apart_50 : decode bM_apart 50 = .ok (.iload_n 1, 1) := by decide +kernel
theorem dM_apart_51 : decode bM_apart 51 = .ok (.imul, 1) := by decide +kernel
theorem dM_apart_52 : decode bM_apart 52 = .ok (.iload_n 2, 1) := by decide +kernel
theorem dM_apart_53 : decode bM_apart 53 = .ok (.iadd, 1) := by decide +kernel
theorem dM_apart_54 : decode bM_apart 54 = .ok (.baload, 1) := by decide +kernel
theorem dM_apart_55 : decode bM_apart 55 = .ok (.istore 4, 2) := by decide +kernel
theorem dM_apart_57 : decode bM_apart 57 = .ok (.aload_n 0, 1) := by decide +kernel
theorem dM_apart_58 : decode bM_apart 58 = .ok (.getfield 13, 3) := by decide +kernel
theorem dM_apart_61 : decode bM_apart 61 = .ok (.bipush 12, 2) := by decide +kernel
theorem dM_apart_63 : decode bM_apart 63 = .ok (.iload_n 1, 1) := by decide +kernel
theorem dM_apart_64 : decode bM_apart 64 = .ok (.imul, 1) := by decide +kernel
theorem dM_apart_65 : decode bM_apart 65 = .ok (.iload_n 2, 1) := by decide +kernel
theorem dM_apart_66 : decode bM_apart 66 = .ok (.iadd, 1) := by decide +kernel
theorem dM_apart_67 : decode bM_apart 67 = .ok (.iload_n 3, 1) := by decide +kernel
theorem dM_apart_68 : decode bM_apart 68 = .ok (.bastore, 1) := by decide +kernel
theorem dM_apart_69 : decode bM_apart 69 = .ok (.aload_n 0, 1) := by decide +kernel
theorem dM_apart_70 : decode bM_apart 70 = .ok (.getfield 13, 3) := by decide +kernel
theorem dM_apart_73 : decode bM_apart 73 = .ok (.bipush 12, 2) := by decide +kernel
theorem dM_apart_75 : decode bM_apart 75 = .ok (.iload_n 2, 1) := by decide +kernel
theorem dM_apart_76 : decode bM_apart 76 = .ok (.imul, 1) := by decide +kernel
theorem dM_apart_77 : decode bM_apart 77 = .ok (.iload_n 1, 1) := by decide +kernel
theorem dM_apart_78 : decode bM_apart 78 = .ok (.iadd, 1) := by decide +kernel
theorem dM_apart_79 : decode bM_apart 79 = .ok (.iload_n 3, 1) := by decide +kernel
theorem dM_apart_80 : decode bM_apart 80 = .ok (.bastore, 1) := by decide +kernel
theorem dM_apart_81 : decode bM_apart 81 = .ok (.iload 4, 2) := by decide +kernel
theorem dM_apart_83 : decode bM_apart 83 = .ok (.iload_n 3, 1) := by decide +kernel
theorem dM_apart_84 : decode bM_apart 84 = .ok (.if_icmp .eq 7, 3) := by decide +kernel
theorem dM_apart_87 : decode bM_apart 87 = .ok (.iconst 1, 1) := by decide +kernel
theorem dM_apart_88 : decode bM_apart 88 = .ok (.goto 4, 3) := by decide +kernel
theorem dM_apart_91 : decode bM_apart 91 = .ok (.iconst 0, 1) := by decide +kernel
theorem dM_apart_92 : decode bM_apart 92 = .ok (.ireturn, 1) := by decide +kernel
theorem dM_back_0 : decode bM_back 0 = .ok (.aload_n 0, 1) := by decide +kernel
theorem dM_back_1 : decode bM_back 1 = .ok (.aload_n 0, 1) := by decide +kernel
theorem dM_back_2 : decode bM_back 2 = .ok (.getfield 51, 3) := by decide +kernel
theorem dM_back_5 : decode bM_back 5 = .ok (.ifCond .ne 14, 3) := by decide +kernel
theorem dM_back_8 : decode bM_back 8 = .ok (.aload_n 0, 1) := by decide +kernel
theorem dM_back_9 : decode bM_back 9 = .ok (.getfield 63, 3) := by decide +kernel
theorem dM_back_12 : decode bM_back 12 = .ok (.ifCond .ne 7, 3) := by decide +kernel
theorem dM_back_15 : decode bM_back 15 = .ok (.iconst 1, 1) := by decide +kernel
theorem dM_back_16 : decode bM_back 16 = .ok (.goto 4, 3) := by decide +kernel
theorem dM_back_19 : decode bM_back 19 = .ok (.iconst 0, 1) := by decide +kernel
theorem dM_back_20 : decode bM_back 20 = .ok (.iconst 0, 1) := by decide +kernel
theorem dM_back_21 : decode bM_back 21 = .ok (.iconst 0, 1) := by decide +kernel
theorem dM_back_22 : decode bM_back 22 = .ok (.invokevirtual 55, 3) := by decide +kernel
theorem dM_back_25 : decode bM_back 25 = .ok (.ifCond .eq 5, 3) := by decide +kernel
theorem dM_back_28 : decode bM_back 28 = .ok (.iconst 0, 1) := by decide +kernel
theorem dM_back_29 : decode bM_back 29 = .ok (.ireturn, 1) := by decide +kernel
theorem dM_back_30 : decode bM_back 30 = .ok (.aload_n 0, 1) := by decide +kernel
theorem dM_back_31 : decode bM_back 31 = .ok (.aload_n 0, 1) := by decide +kernel
theorem dM_back_32 : decode bM_back 32 = .ok (.getfield 51, 3) := by decide +kernel
theorem dM_back_35 : decode bM_back 35 = .ok (.ifCond .eq 10, 3) := by decide +kernel
theorem dM_back_38 : decode bM_back 38 = .ok (.aload_n 0, 1) := by decide +kernel
theorem dM_back_39 : decode bM_back 39 = .ok (.getfield 63, 3) := by decide +kernel
theorem dM_back_42 : decode bM_back 42 = .ok (.goto 9, 3) := by decide +kernel
theorem dM_back_45 : decode bM_back 45 = .ok (.aload_n 0, 1) := by decide +kernel
theorem dM_back_46 : decode bM_back 46 = .ok (.getfield 63, 3) := by decide +kernel
theorem dM_back_49 : decode bM_back 49 = .ok (.iconst 1, 1) := by decide +kernel
theorem dM_back_50 : decode bM_back 50 = .ok (.isub, 1) := by decide +kernel
theorem dM_back_51 : decode bM_back 51 = .ok (.putfield 63, 3) := by decide +kernel
theorem dM_back_54 : decode bM_back 54 = .ok (.aload_n 0, 1) := by decide +kernel
theorem dM_back_55 : decode bM_back 55 = .ok (.iconst 0, 1) := by decide +kernel
theorem dM_back_56 : decode bM_back 56 = .ok (.putfield 51, 3) := by decide +kernel
theorem dM_back_59 : decode bM_back 59 = .ok (.aload_n 0, 1) := by decide +kernel
theorem dM_back_60 : decode bM_back 60 = .ok (.getfield 63, 3) := by decide +kernel
theorem dM_back_63 : decode bM_back 63 = .ok (.ireturn, 1) := by decide +kernel
theorem dM_balanceOf_0 : decode bM_balanceOf 0 = .ok (.iconst 0, 1) := by decide +kernel
theorem dM_balanceOf_1 : decode bM_balanceOf 1 = .ok (.istore_n 2, 1) := by decide +kernel
theorem dM_balanceOf_2 : decode bM_balanceOf 2 = .ok (.iconst 0, 1) := by decide +kernel
theorem dM_balanceOf_3 : decode bM_balanceOf 3 = .ok (.istore_n 3, 1) := by decide +kernel
theorem dM_balanceOf_4 : decode bM_balanceOf 4 = .ok (.iload_n 3, 1) := by decide +kernel
theorem dM_balanceOf_5 : decode bM_balanceOf 5 = .ok (.aload_n 0, 1) := by decide +kernel
theorem dM_balanceOf_6 : decode bM_balanceOf 6 = .ok (.getfield 63, 3) := by decide +kernel
theorem dM_balanceOf_9 : decode bM_balanceOf 9 = .ok (.if_icmp .ge 46, 3) := by decide +kernel
theorem dM_balanceOf_12 : decode bM_balanceOf 12 = .ok (.aload_n 0, 1) := by decide +kernel
theorem dM_balanceOf_13 : decode bM_balanceOf 13 = .ok (.iload_n 3, 1) := by decide +kernel
theorem dM_balanceOf_14 : decode bM_balanceOf 14 = .ok (.iload_n 1, 1) := by decide +kernel
theorem dM_balanceOf_15 : decode bM_balanceOf 15 = .ok (.invokevirtual 66, 3) := by decide +kernel
theorem dM_balanceOf_18 : decode bM_balanceOf 18 = .ok (.ifCond .ne 7, 3) := by decide +kernel
theorem dM_balanceOf_21 : decode bM_balanceOf 21 = .ok (.iload_n 2, 1) := by decide +kernel
theorem dM_balanceOf_22 : decode bM_balanceOf 22 = .ok (.goto 26, 3) := by decide +kernel
theorem dM_balanceOf_25 : decode bM_balanceOf 25 = .ok (.aload_n 0, 1) := by decide +kernel
theorem dM_balanceOf_26 : decode bM_balanceOf 26 = .ok (.getfield 20, 3) := by decide +kernel
theorem dM_balanceOf_29 : decode bM_balanceOf 29 = .ok (.bipush 12, 2) := by decide +kernel
theorem dM_balanceOf_31 : decode bM_balanceOf 31 = .ok (.iload_n 3, 1) := by decide +kernel
theorem dM_balanceOf_32 : decode bM_balanceOf 32 = .ok (.imul, 1) := by decide +kernel
theorem dM_balanceOf_33 : decode bM_balanceOf 33 = .ok (.iload_n 1, 1) := by decide +kernel
theorem dM_balanceOf_34 : decode bM_balanceOf 34 = .ok (.iadd, 1) := by decide +kernel
theorem dM_balanceOf_35 : decode bM_balanceOf 35 = .ok (.baload, 1) := by decide +kernel
theorem dM_balanceOf_36 : decode bM_balanceOf 36 = .ok (.ifCond .eq 9, 3) := by decide +kernel
theorem dM_balanceOf_39 : decode bM_balanceOf 39 = .ok (.iload_n 2, 1) := by decide +kernel
theorem dM_balanceOf_40 : decode bM_balanceOf 40 = .ok (.iconst 1, 1) := by decide +kernel
theorem dM_balanceOf_41 : decode bM_balanceOf 41 = .ok (.iadd, 1) := by decide +kernel
theorem dM_balanceOf_42 : decode bM_balanceOf 42 = .ok (.goto 6, 3) := by decide +kernel
theorem dM_balanceOf_45 : decode bM_balanceOf 45 = .ok (.iload_n 2, 1) := by decide +kernel
theorem dM_balanceOf_46 : decode bM_balanceOf 46 = .ok (.iconst 1, 1) := by decide +kernel
theorem dM_balanceOf_47 : decode bM_balanceOf 47 = .ok (.isub, 1) := by decide +kernel
theorem dM_balanceOf_48 : decode bM_balanceOf 48 = .ok (.istore_n 2, 1) := by decide +kernel
theorem dM_balanceOf_49 : decode bM_balanceOf 49 = .ok (.iinc 3 1, 3) := by decide +kernel
theorem dM_balanceOf_52 : decode bM_balanceOf 52 = .ok (.goto (-48), 3) := by decide +kernel
theorem dM_balanceOf_55 : decode bM_balanceOf 55 = .ok (.iload_n 2, 1) := by decide +kernel
theorem dM_balanceOf_56 : decode bM_balanceOf 56 = .ok (.ireturn, 1) := by decide +kernel
theorem dM_bergerOf_0 : decode bM_bergerOf 0 = .ok (.iconst 0, 1) := by decide +kernel
theorem dM_bergerOf_1 : decode bM_bergerOf 1 = .ok (.istore_n 2, 1) := by decide +kernel
theorem dM_bergerOf_2 : decode bM_bergerOf 2 = .ok (.iconst 0, 1) := by decide +kernel
theorem dM_bergerOf_3 : decode bM_bergerOf 3 = .ok (.istore_n 3, 1) := by decide +kernel
theorem dM_bergerOf_4 : decode bM_bergerOf 4 = .ok (.iload_n 3, 1) := by decide +kernel
theorem dM_bergerOf_5 : decode bM_bergerOf 5 = .ok (.aload_n 0, 1) := by decide +kernel
theorem dM_bergerOf_6 : decode bM_bergerOf 6 = .ok (.getfield 63, 3) := by decide +kernel
theorem dM_bergerOf_9 : decode bM_bergerOf 9 = .ok (.if_icmp .ge 52, 3) := by decide +kernel
theorem dM_bergerOf_12 : decode bM_bergerOf 12 = .ok (.aload_n 0, 1) := by decide +kernel
theorem dM_bergerOf_13 : decode bM_bergerOf 13 = .ok (.iload_n 3, 1) := by decide +kernel
theorem dM_bergerOf_14 : decode bM_bergerOf 14 = .ok (.iload_n 1, 1) := by decide +kernel
theorem dM_bergerOf_15 : decode bM_bergerOf 15 = .ok (.invokevirtual 66, 3) := by decide +kernel
theorem dM_bergerOf_18 : decode bM_bergerOf 18 = .ok (.ifCond .eq 35, 3) := by decide +kernel
theorem dM_bergerOf_21 : decode bM_bergerOf 21 = .ok (.iload_n 2, 1) := by decide +kernel
theorem dM_bergerOf_22 : decode bM_bergerOf 22 = .ok (.aload_n 0, 1) := by decide +kernel
theorem dM_bergerOf_23 : decode bM_bergerOf 23 = .ok (.getfield 23, 3) := by decide +kernel
theorem dM_bergerOf_26 : decode bM_bergerOf 26 = .ok (.bipush 12, 2) := by decide +kernel
theorem dM_bergerOf_28 : decode bM_bergerOf 28 = .ok (.iload_n 3, 1) := by decide +kernel
theorem dM_bergerOf_29 : decode bM_bergerOf 29 = .ok (.imul, 1) := by decide +kernel
theorem dM_bergerOf_30 : decode bM_bergerOf 30 = .ok (.iload_n 1, 1) := by decide +kernel
theorem dM_bergerOf_31 : decode bM_bergerOf 31 = .ok (.iadd, 1) := by decide +kernel
theorem dM_bergerOf_32 : decode bM_bergerOf 32 = .ok (.iaload, 1) := by decide +kernel
theorem dM_bergerOf_33 : decode bM_bergerOf 33 = .ok (.aload_n 0, 1) := by decide +kernel
theorem dM_bergerOf_34 : decode bM_bergerOf 34 = .ok (.aload_n 0, 1) := by decide +kernel
theorem dM_bergerOf_35 : decode bM_bergerOf 35 = .ok (.getfield 16, 3) := by decide +kernel
theorem dM_bergerOf_38 : decode bM_bergerOf 38 = .ok (.bipush 12, 2) := by decide +kernel
theorem dM_bergerOf_40 : decode bM_bergerOf 40 = .ok (.iload_n 3, 1) := by decide +kernel
theorem dM_bergerOf_41 : decode bM_bergerOf 41 = .ok (.imul, 1) := by decide +kernel
theorem dM_bergerOf_42 : decode bM_bergerOf 42 = .ok (.iload_n 1, 1) := by decide +kernel
theorem dM_bergerOf_43 : decode bM_bergerOf 43 = .ok (.iadd, 1) := by decide +kernel
theorem dM_bergerOf_44 : decode bM_bergerOf 44 = .ok (.iaload, 1) := by decide +kernel
theorem dM_bergerOf_45 : decode bM_bergerOf 45 = .ok (.invokevirtual 70, 3) := by decide +kernel
theorem dM_bergerOf_48 : decode bM_bergerOf 48 = .ok (.imul, 1) := by decide +kernel
theorem dM_bergerOf_49 : decode bM_bergerOf 49 = .ok (.iadd, 1) := by decide +kernel
theorem dM_bergerOf_50 : decode bM_bergerOf 50 = .ok (.goto 4, 3) := by decide +kernel
theorem dM_bergerOf_53 : decode bM_bergerOf 53 = .ok (.iload_n 2, 1) := by decide +kernel
theorem dM_bergerOf_54 : decode bM_bergerOf 54 = .ok (.istore_n 2, 1) := by decide +kernel
theorem dM_bergerOf_55 : decode bM_bergerOf 55 = .ok (.iinc 3 1, 3) := by decide +kernel
theorem dM_bergerOf_58 : decode bM_bergerOf 58 = .ok (.goto (-54), 3) := by decide +kernel
theorem dM_bergerOf_61 : decode bM_bergerOf 61 = .ok (.iload_n 2, 1) := by decide +kernel
theorem dM_bergerOf_62 : decode bM_bergerOf 62 = .ok (.ireturn, 1) := by decide +kernel
theorem dM_buchholzOf_0 : decode bM_buchholzOf 0 = .ok (.iconst 0, 1) := by decide +kernel
theorem dM_buchholzOf_1 : decode bM_buchholzOf 1 = .ok (.istore_n 2, 1) := by decide +kernel
theorem dM_buchholzOf_2 : decode bM_buchholzOf 2 = .ok (.iconst 0, 1) := by decide +kernel
theorem dM_buchholzOf_3 : decode bM_buchholzOf 3 = .ok (.istore_n 3, 1) := by decide +kernel
theorem dM_buchholzOf_4 : decode bM_buchholzOf 4 = .ok (.iload_n 3, 1) := by decide +kernel
theorem dM_buchholzOf_5 : decode bM_buchholzOf 5 = .ok (.aload_n 0, 1) := by decide +kernel
theorem dM_buchholzOf_6 : decode bM_buchholzOf 6 = .ok (.getfield 63, 3) := by decide +kernel
theorem dM_buchholzOf_9 : decode bM_buchholzOf 9 = .ok (.if_icmp .ge 40, 3) := by decide +kernel
theorem dM_buchholzOf_12 : decode bM_buchholzOf 12 = .ok (.aload_n 0, 1) := by decide +kernel
theorem dM_buchholzOf_13 : decode bM_buchholzOf 13 = .ok (.iload_n 3, 1) := by decide +kernel
theorem dM_buchholzOf_14 : decode bM_buchholzOf 14 = .ok (.iload_n 1, 1) := by decide +kernel
theorem dM_buchholzOf_15 : decode bM_buchholzOf 15 = .ok (.invokevirtual 66, 3) := by decide +kernel
theorem dM_buchholzOf_18 : decode bM_buchholzOf 18 = .ok (.ifCond .eq 23, 3) := by decide +kernel
theorem dM_buchholzOf_21 : decode bM_buchholzOf 21 = .ok (.iload_n 2, 1) := by decide +kernel
theorem dM_buchholzOf_22 : decode bM_buchholzOf 22 = .ok (.aload_n 0, 1) := by decide +kernel
theorem dM_buchholzOf_23 : decode bM_buchholzOf 23 = .ok (.aload_n 0, 1) := by decide +kernel
theorem dM_buchholzOf_24 : decode bM_buchholzOf 24 = .ok (.getfield 16, 3) := by decide +kernel
theorem dM_buchholzOf_27 : decode bM_buchholzOf 27 = .ok (.bipush 12, 2) := by decide +kernel
theorem dM_buchholzOf_29 : decode bM_buchholzOf 29 = .ok (.iload_n 3, 1) := by decide +kernel
theorem dM_buchholzOf_30 : decode bM_buchholzOf 30 = .ok (.imul, 1) := by decide +kernel
theorem dM_buchholzOf_31 : decode bM_buchholzOf 31 = .ok (.iload_n 1, 1) := by decide +kernel
theorem dM_buchholzOf_32 : decode bM_buchholzOf 32 = .ok (.iadd, 1) := by decide +kernel
theorem dM_buchholzOf_33 : decode bM_buchholzOf 33 = .ok (.iaload, 1) := by decide +kernel
theorem dM_buchholzOf_34 : decode bM_buchholzOf 34 = .ok (.invokevirtual 70, 3) := by decide +kernel
theorem dM_buchholzOf_37 : decode bM_buchholzOf 37 = .ok (.iadd, 1) := by decide +kernel
theorem dM_buchholzOf_38 : decode bM_buchholzOf 38 = .ok (.goto 4, 3) := by decide +kernel
theorem dM_buchholzOf_41 : decode bM_buchholzOf 41 = .ok (.iload_n 2, 1) := by decide +kernel
theorem dM_buchholzOf_42 : decode bM_buchholzOf 42 = .ok (.istore_n 2, 1) := by decide +kernel
theorem dM_buchholzOf_43 : decode bM_buchholzOf 43 = .ok (.iinc 3 1, 3) := by decide +kernel
theorem dM_buchholzOf_46 : decode bM_buchholzOf 46 = .ok (.goto (-42), 3) := by decide +kernel
theorem dM_buchholzOf_49 : decode bM_buchholzOf 49 = .ok (.iload_n 2, 1) := by decide +kernel
theorem dM_buchholzOf_50 : decode bM_buchholzOf 50 = .ok (.ireturn, 1) := by decide +kernel
theorem dM_byesOf_0 : decode bM_byesOf 0 = .ok (.iconst 0, 1) := by decide +kernel
theorem dM_byesOf_1 : decode bM_byesOf 1 = .ok (.istore_n 2, 1) := by decide +kernel
theorem dM_byesOf_2 : decode bM_byesOf 2 = .ok (.iconst 0, 1) := by decide +kernel
theorem dM_byesOf_3 : decode bM_byesOf 3 = .ok (.istore_n 3, 1) := by decide +kernel
theorem dM_byesOf_4 : decode bM_byesOf 4 = .ok (.iload_n 3, 1) := by decide +kernel
theorem dM_byesOf_5 : decode bM_byesOf 5 = .ok (.aload_n 0, 1) := by decide +kernel
theorem dM_byesOf_6 : decode bM_byesOf 6 = .ok (.getfield 63, 3) := by decide +kernel
theorem dM_byesOf_9 : decode bM_byesOf 9 = .ok (.if_icmp .ge 33, 3) := by decide +kernel
theorem dM_byesOf_12 : decode bM_byesOf 12 = .ok (.aload_n 0, 1) := by decide +kernel
theorem dM_byesOf_13 : decode bM_byesOf 13 = .ok (.getfield 16, 3) := by decide +kernel
theorem dM_byesOf_16 : decode bM_byesOf 16 = .ok (.bipush 12, 2) := by decide +kernel
theorem dM_byesOf_18 : decode bM_byesOf 18 = .ok (.iload_n 3, 1) := by decide +kernel
theorem dM_byesOf_19 : decode bM_byesOf 19 = .ok (.imul, 1) := by decide +kernel
theorem dM_byesOf_20 : decode bM_byesOf 20 = .ok (.iload_n 1, 1) := by decide +kernel
theorem dM_byesOf_21 : decode bM_byesOf 21 = .ok (.iadd, 1) := by decide +kernel
theorem dM_byesOf_22 : decode bM_byesOf 22 = .ok (.iaload, 1) := by decide +kernel
theorem dM_byesOf_23 : decode bM_byesOf 23 = .ok (.bipush 12, 2) := by decide +kernel
theorem dM_byesOf_25 : decode bM_byesOf 25 = .ok (.if_icmp .ne 9, 3) := by decide +kernel
theorem dM_byesOf_28 : decode bM_byesOf 28 = .ok (.iload_n 2, 1) := by decide +kernel
theorem dM_byesOf_29 : decode bM_byesOf 29 = .ok (.iconst 1, 1) := by decide +kernel
theorem dM_byesOf_30 : decode bM_byesOf 30 = .ok (.iadd, 1) := by decide +kernel
theorem dM_byesOf_31 : decode bM_byesOf 31 = .ok (.goto 4, 3) := by decide +kernel
theorem dM_byesOf_34 : decode bM_byesOf 34 = .ok (.iload_n 2, 1) := by decide +kernel
theorem dM_byesOf_35 : decode bM_byesOf 35 = .ok (.istore_n 2, 1) := by decide +kernel
theorem dM_byesOf_36 : decode bM_byesOf 36 = .ok (.iinc 3 1, 3) := by decide +kernel
theorem dM_byesOf_39 : decode bM_byesOf 39 = .ok (.goto (-35), 3) := by decide +kernel
theorem dM_byesOf_42 : decode bM_byesOf 42 = .ok (.iload_n 2, 1) := by decide +kernel
theorem dM_byesOf_43 : decode bM_byesOf 43 = .ok (.ireturn, 1) := by decide +kernel
theorem dM_canPair_0 : decode bM_canPair 0 = .ok (.aload_n 0, 1) := by decide +kernel
theorem dM_canPair_1 : decode bM_canPair 1 = .ok (.invokevirtual 113, 3) := by decide +kernel
theorem dM_canPair_4 : decode bM_canPair 4 = .ok (.aload_n 0, 1) := by decide +kernel
theorem dM_canPair_5 : decode bM_canPair 5 = .ok (.invokevirtual 90, 3) := by decide +kernel
theorem dM_canPair_8 : decode bM_canPair 8 = .ok (.ifCond .le 21, 3) := by decide +kernel
theorem dM_canPair_11 : decode bM_canPair 11 = .ok (.aload_n 0, 1) := by decide +kernel
theorem dM_canPair_12 : decode bM_canPair 12 = .ok (.getfield 32, 3) := by decide +kernel
theorem dM_canPair_15 : decode bM_canPair 15 = .ok (.aload_n 0, 1) := by decide +kernel
theorem dM_canPair_16 : decode bM_canPair 16 = .ok (.invokevirtual 116, 3) := by decide +kernel
theorem dM_canPair_19 : decode bM_canPair 19 = .ok (.iaload, 1) := by decide +kernel
theorem dM_canPair_20 : decode bM_canPair 20 = .ok (.ldc 109, 2) := by decide +kernel
theorem dM_canPair_22 : decode bM_canPair 22 = .ok (.if_icmp .ge 7, 3) := by decide +kernel
theorem dM_canPair_25 : decode bM_canPair 25 = .ok (.iconst 1, 1) := by decide +kernel
theorem dM_canPair_26 : decode bM_canPair 26 = .ok (.goto 4, 3) := by decide +kernel
theorem dM_canPair_29 : decode bM_canPair 29 = .ok (.iconst 0, 1) := by decide +kernel
theorem dM_canPair_30 : decode bM_canPair 30 = .ok (.ireturn, 1) := by decide +kernel
theorem dM_clashes_0 : decode bM_clashes 0 = .ok (.aload_n 0, 1) := by decide +kernel
theorem dM_clashes_1 : decode bM_clashes 1 = .ok (.iload_n 1, 1) := by decide +kernel
theorem dM_clashes_2 : decode bM_clashes 2 = .ok (.iconst 0, 1) := by decide +kernel
theorem dM_clashes_3 : decode bM_clashes 3 = .ok (.invokevirtual 77, 3) := by decide +kernel
theorem dM_clashes_6 : decode bM_clashes 6 = .ok (.iload_n 2, 1) := by decide +kernel
theorem dM_clashes_7 : decode bM_clashes 7 = .ok (.if_icmp .ne 17, 3) := by decide +kernel
theorem dM_clashes_10 : decode bM_clashes 10 = .ok (.aload_n 0, 1) := by decide +kernel
theorem dM_clashes_11 : decode bM_clashes 11 = .ok (.iload_n 1, 1) := by decide +kernel
theorem dM_clashes_12 : decode bM_clashes 12 = .ok (.iconst 1, 1) := by decide +kernel
theorem dM_clashes_13 : decode bM_clashes 13 = .ok (.invokevirtual 77, 3) := by decide +kernel
theorem dM_clashes_16 : decode bM_clashes 16 = .ok (.iload_n 2, 1) := by decide +kernel
theorem dM_clashes_17 : decode bM_clashes 17 = .ok (.if_icmp .ne 7, 3) := by decide +kernel
theorem dM_clashes_20 : decode bM_clashes 20 = .ok (.iconst 1, 1) := by decide +kernel
theorem dM_clashes_21 : decode bM_clashes 21 = .ok (.goto 4, 3) := by decide +kernel
theorem dM_clashes_24 : decode bM_clashes 24 = .ok (.iconst 0, 1) := by decide +kernel
theorem dM_clashes_25 : decode bM_clashes 25 = .ok (.istore_n 3, 1) := by decide +kernel
theorem dM_clashes_26 : decode bM_clashes 26 = .ok (.aload_n 0, 1) := by decide +kernel
theorem dM_clashes_27 : decode bM_clashes 27 = .ok (.iload_n 1, 1) := by decide +kernel
theorem dM_clashes_28 : decode bM_clashes 28 = .ok (.invokevirtual 74, 3) := by decide +kernel
theorem dM_clashes_31 : decode bM_clashes 31 = .ok (.iload_n 2, 1) := by decide +kernel
theorem dM_clashes_32 : decode bM_clashes 32 = .ok (.iadd, 1) := by decide +kernel
theorem dM_clashes_33 : decode bM_clashes 33 = .ok (.istore 4, 2) := by decide +kernel
theorem dM_clashes_35 : decode bM_clashes 35 = .ok (.iload 4, 2) := by decide +kernel
theorem dM_clashes_37 : decode bM_clashes 37 = .ok (.iconst 3, 1) := by decide +kernel
theorem dM_clashes_38 : decode bM_clashes 38 = .ok (.if_icmp .ge 10, 3) := by decide +kernel
theorem dM_clashes_41 : decode bM_clashes 41 = .ok (.iload 4, 2) := by decide +kernel
theorem dM_clashes_43 : decode bM_clashes 43 = .ok (.bipush (-3), 2) := by decide +kernel
theorem dM_clashes_45 : decode bM_clashes 45 = .ok (.if_icmp .gt 9, 3) := by decide +kernel
theorem dM_clashes_48 : decode bM_clashes 48 = .ok (.iload_n 3, 1) := by decide +kernel
theorem dM_clashes_49 : decode bM_clashes 49 = .ok (.iconst 1, 1) := by decide +kernel
theorem dM_clashes_50 : decode bM_clashes 50 = .ok (.iadd, 1) := by decide +kernel
theorem dM_clashes_51 : decode bM_clashes 51 = .ok (.goto 4, 3) := by decide +kernel
theorem dM_clashes_54 : decode bM_clashes 54 = .ok (.iload_n 3, 1) := by decide +kernel
theorem dM_clashes_55 : decode bM_clashes 55 = .ok (.ireturn, 1) := by decide +kernel
theorem dM_close_0 : decode bM_close 0 = .ok (.aload_n 0, 1) := by decide +kernel
theorem dM_close_1 : decode bM_close 1 = .ok (.aload_n 0, 1) := by decide +kernel
theorem dM_close_2 : decode bM_close 2 = .ok (.getfield 51, 3) := by decide +kernel
theorem dM_close_5 : decode bM_close 5 = .ok (.ifCond .eq 10, 3) := by decide +kernel
theorem dM_close_8 : decode bM_close 8 = .ok (.aload_n 0, 1) := by decide +kernel
theorem dM_close_9 : decode bM_close 9 = .ok (.invokevirtual 126, 3) := by decide +kernel
theorem dM_close_12 : decode bM_close 12 = .ok (.ifCond .le 7, 3) := by decide +kernel
theorem dM_close_15 : decode bM_close 15 = .ok (.iconst 1, 1) := by decide +kernel
theorem dM_close_16 : decode bM_close 16 = .ok (.goto 4, 3) := by decide +kernel
theorem dM_close_19 : decode bM_close 19 = .ok (.iconst 0, 1) := by decide +kernel
theorem dM_close_20 : decode bM_close 20 = .ok (.iconst 0, 1) := by decide +kernel
theorem dM_close_21 : decode bM_close 21 = .ok (.iconst 0, 1) := by decide +kernel
theorem dM_close_22 : decode bM_close 22 = .ok (.invokevirtual 55, 3) := by decide +kernel
theorem dM_close_25 : decode bM_close 25 = .ok (.ifCond .eq 5, 3) := by decide +kernel
theorem dM_close_28 : decode bM_close 28 = .ok (.iconst 0, 1) := by decide +kernel
theorem dM_close_29 : decode bM_close 29 = .ok (.ireturn, 1) := by decide +kernel
theorem dM_close_30 : decode bM_close 30 = .ok (.aload_n 0, 1) := by decide +kernel
theorem dM_close_31 : decode bM_close 31 = .ok (.iconst 0, 1) := by decide +kernel
theorem dM_close_32 : decode bM_close 32 = .ok (.putfield 51, 3) := by decide +kernel
theorem dM_close_35 : decode bM_close 35 = .ok (.aload_n 0, 1) := by decide +kernel
theorem dM_close_36 : decode bM_close 36 = .ok (.dup, 1) := by decide +kernel
theorem dM_close_37 : decode bM_close 37 = .ok (.getfield 63, 3) := by decide +kernel
theorem dM_close_40 : decode bM_close 40 = .ok (.iconst 1, 1) := by decide +kernel
theorem dM_close_41 : decode bM_close 41 = .ok (.iadd, 1) := by decide +kernel
theorem dM_close_42 : decode bM_close 42 = .ok (.putfield 63, 3) := by decide +kernel
theorem dM_close_45 : decode bM_close 45 = .ok (.aload_n 0, 1) := by decide +kernel
theorem dM_close_46 : decode bM_close 46 = .ok (.getfield 63, 3) := by decide +kernel
theorem dM_close_49 : decode bM_close 49 = .ok (.ireturn, 1) := by decide +kernel
theorem dM_colourOf_0 : decode bM_colourOf 0 = .ok (.iload_n 2, 1) := by decide +kernel
theorem dM_colourOf_1 : decode bM_colourOf 1 = .ok (.istore_n 3, 1) := by decide +kernel
theorem dM_colourOf_2 : decode bM_colourOf 2 = .ok (.aload_n 0, 1) := by decide +kernel
theorem dM_colourOf_3 : decode bM_colourOf 3 = .ok (.getfield 63, 3) := by decide +kernel
theorem dM_colourOf_6 : decode bM_colourOf 6 = .ok (.iconst 1, 1) := by decide +kernel
theorem dM_colourOf_7 : decode bM_colourOf 7 = .ok (.isub, 1) := by decide +kernel
theorem dM_colourOf_8 : decode bM_colourOf 8 = .ok (.istore 4, 2) := by decide +kernel
theorem dM_colourOf_10 : decode bM_colourOf 10 = .ok (.iload 4, 2) := by decide +kernel
theorem dM_colourOf_12 : decode bM_colourOf 12 = .ok (.ifCond .lt 47, 3) := by decide +kernel
theorem dM_colourOf_15 : decode bM_colourOf 15 = .ok (.aload_n 0, 1) := by decide +kernel
theorem dM_colourOf_16 : decode bM_colourOf 16 = .ok (.iload 4, 2) := by decide +kernel
theorem dM_colourOf_18 : decode bM_colourOf 18 = .ok (.iload_n 1, 1) := by decide +kernel
theorem dM_colourOf_19 : decode bM_colourOf 19 = .ok (.invokevirtual 66, 3) := by decide +kernel
theorem dM_colourOf_22 : decode bM_colourOf 22 = .ok (.ifCond .eq 31, 3) := by decide +kernel
theorem dM_colourOf_25 : decode bM_colourOf 25 = .ok (.iload_n 3, 1) := by decide +kernel
theorem dM_colourOf_26 : decode bM_colourOf 26 = .ok (.ifCond .ne 24, 3) := by decide +kernel
theorem dM_colourOf_29 : decode bM_colourOf 29 = .ok (.aload_n 0, 1) := by decide +kernel
theorem dM_colourOf_30 : decode bM_colourOf 30 = .ok (.getfield 20, 3) := by decide +kernel
theorem dM_colourOf_33 : decode bM_colourOf 33 = .ok (.bipush 12, 2) := by decide +kernel
theorem dM_colourOf_35 : decode bM_colourOf 35 = .ok (.iload 4, 2) := by decide +kernel
theorem dM_colourOf_37 : decode bM_colourOf 37 = .ok (.imul, 1) := by decide +kernel
theorem dM_colourOf_38 : decode bM_colourOf 38 = .ok (.iload_n 1, 1) := by decide +kernel
theorem dM_colourOf_39 : decode bM_colourOf 39 = .ok (.iadd, 1) := by decide +kernel
theorem dM_colourOf_40 : decode bM_colourOf 40 = .ok (.baload, 1) := by decide +kernel
theorem dM_colourOf_41 : decode bM_colourOf 41 = .ok (.ifCond .eq 7, 3) := by decide +kernel
theorem dM_colourOf_44 : decode bM_colourOf 44 = .ok (.iconst 1, 1) := by decide +kernel
theorem dM_colourOf_45 : decode bM_colourOf 45 = .ok (.goto 4, 3) := by decide +kernel
theorem dM_colourOf_48 : decode bM_colourOf 48 = .ok (.iconst (-1), 1) := by decide +kernel
theorem dM_colourOf_49 : decode bM_colourOf 49 = .ok (.ireturn, 1) := by decide +kernel
theorem dM_colourOf_50 : decode bM_colourOf 50 = .ok (.iinc 3 (-1), 3) := by decide +kernel
theorem dM_colourOf_53 : decode bM_colourOf 53 = .ok (.iinc 4 (-1), 3) := by decide +kernel
theorem dM_colourOf_56 : decode bM_colourOf 56 = .ok (.goto (-46), 3) := by decide +kernel
theorem dM_colourOf_59 : decode bM_colourOf 59 = .ok (.iconst 0, 1) := by decide +kernel
theorem dM_colourOf_60 : decode bM_colourOf 60 = .ok (.ireturn, 1) := by decide +kernel
theorem dM_cost_0 : decode bM_cost 0 = .ok (.aload_n 0, 1) := by decide +kernel
theorem dM_cost_1 : decode bM_cost 1 = .ok (.invokevirtual 119, 3) := by decide +kernel
theorem dM_cost_4 : decode bM_cost 4 = .ok (.istore_n 1, 1) := by decide +kernel
theorem dM_cost_5 : decode bM_cost 5 = .ok (.aload_n 0, 1) := by decide +kernel
theorem dM_cost_6 : decode bM_cost 6 = .ok (.iload_n 1, 1) := by decide +kernel
theorem dM_cost_7 : decode bM_cost 7 = .ok (.ifCond .ne 14, 3) := by decide +kernel
theorem dM_cost_10 : decode bM_cost 10 = .ok (.aload_n 0, 1) := by decide +kernel
theorem dM_cost_11 : decode bM_cost 11 = .ok (.getfield 51, 3) := by decide +kernel
theorem dM_cost_14 : decode bM_cost 14 = .ok (.ifCond .ne 7, 3) := by decide +kernel
theorem dM_cost_17 : decode bM_cost 17 = .ok (.iconst 1, 1) := by decide +kernel
theorem dM_cost_18 : decode bM_cost 18 = .ok (.goto 4, 3) := by decide +kernel
theorem dM_cost_21 : decode bM_cost 21 = .ok (.iconst 0, 1) := by decide +kernel
theorem dM_cost_22 : decode bM_cost 22 = .ok (.iconst 0, 1) := by decide +kernel
theorem dM_cost_23 : decode bM_cost 23 = .ok (.iconst 0, 1) := by decide +kernel
theorem dM_cost_24 : decode bM_cost 24 = .ok (.invokevirtual 55, 3) := by decide +kernel
theorem dM_cost_27 : decode bM_cost 27 = .ok (.ifCond .eq 7, 3) := by decide +kernel
theorem dM_cost_30 : decode bM_cost 30 = .ok (.iconst 0, 1) := by decide +kernel
theorem dM_cost_31 : decode bM_cost 31 = .ok (.goto 12, 3) := by decide +kernel
theorem dM_cost_34 : decode bM_cost 34 = .ok (.aload_n 0, 1) := by decide +kernel
theorem dM_cost_35 : decode bM_cost 35 = .ok (.getfield 32, 3) := by decide +kernel
theorem dM_cost_38 : decode bM_cost 38 = .ok (.aload_n 0, 1) := by decide +kernel
theorem dM_cost_39 : decode bM_cost 39 = .ok (.invokevirtual 116, 3) := by decide +kernel
theorem dM_cost_42 : decode bM_cost 42 = .ok (.iaload, 1) := by decide +kernel
theorem dM_cost_43 : decode bM_cost 43 = .ok (.ireturn, 1) := by decide +kernel
theorem dM_costOf_0 : decode bM_costOf 0 = .ok (.aload_n 0, 1) := by decide +kernel
theorem dM_costOf_1 : decode bM_costOf 1 = .ok (.iload_n 1, 1) := by decide +kernel
theorem dM_costOf_2 : decode bM_costOf 2 = .ok (.invokevirtual 70, 3) := by decide +kernel
theorem dM_costOf_5 : decode bM_costOf 5 = .ok (.aload_n 0, 1) := by decide +kernel
theorem dM_costOf_6 : decode bM_costOf 6 = .ok (.iload_n 2, 1) := by decide +kernel
theorem dM_costOf_7 : decode bM_costOf 7 = .ok (.invokevirtual 70, 3) := by decide +kernel
theorem dM_costOf_10 : decode bM_costOf 10 = .ok (.isub, 1) := by decide +kernel
theorem dM_costOf_11 : decode bM_costOf 11 = .ok (.istore_n 3, 1) := by decide +kernel
theorem dM_costOf_12 : decode bM_costOf 12 = .ok (.aload_n 0, 1) := by decide +kernel
theorem dM_costOf_13 : decode bM_costOf 13 = .ok (.iload_n 1, 1) := by decide +kernel
theorem dM_costOf_14 : decode bM_costOf 14 = .ok (.iload_n 2, 1) := by decide +kernel
theorem dM_costOf_15 : decode bM_costOf 15 = .ok (.invokevirtual 81, 3) := by decide +kernel
theorem dM_costOf_18 : decode bM_costOf 18 = .ok (.ifCond .eq 7, 3) := by decide +kernel
theorem dM_costOf_21 : decode bM_costOf 21 = .ok (.iconst 1, 1) := by decide +kernel
theorem dM_costOf_22 : decode bM_costOf 22 = .ok (.goto 4, 3) := by decide +kernel
theorem dM_costOf_25 : decode bM_costOf 25 = .ok (.iconst (-1), 1) := by decide +kernel
theorem dM_costOf_26 : decode bM_costOf 26 = .ok (.istore 4, 2) := by decide +kernel
theorem dM_costOf_28 : decode bM_costOf 28 = .ok (.bipush 64, 2) := by decide +kernel
theorem dM_costOf_30 : decode bM_costOf 30 = .ok (.iload_n 3, 1) := by decide +kernel
theorem dM_costOf_31 : decode bM_costOf 31 = .ok (.imul, 1) := by decide +kernel
theorem dM_costOf_32 : decode bM_costOf 32 = .ok (.iload_n 3, 1) := by decide +kernel
theorem dM_costOf_33 : decode bM_costOf 33 = .ok (.imul, 1) := by decide +kernel
theorem dM_costOf_34 : decode bM_costOf 34 = .ok (.aload_n 0, 1) := by decide +kernel
theorem dM_costOf_35 : decode bM_costOf 35 = .ok (.iload_n 1, 1) := by decide +kernel
theorem dM_costOf_36 : decode bM_costOf 36 = .ok (.iload 4, 2) := by decide +kernel
theorem dM_costOf_38 : decode bM_costOf 38 = .ok (.invokevirtual 84, 3) := by decide +kernel
theorem dM_costOf_41 : decode bM_costOf 41 = .ok (.iadd, 1) := by decide +kernel
theorem dM_costOf_42 : decode bM_costOf 42 = .ok (.aload_n 0, 1) := by decide +kernel
theorem dM_costOf_43 : decode bM_costOf 43 = .ok (.iload_n 2, 1) := by decide +kernel
theorem dM_costOf_44 : decode bM_costOf 44 = .ok (.iload 4, 2) := by decide +kernel
theorem dM_costOf_46 : decode bM_costOf 46 = .ok (.ineg, 1) := by decide +kernel
theorem dM_costOf_47 : decode bM_costOf 47 = .ok (.invokevirtual 84, 3) := by decide +kernel
theorem dM_costOf_50 : decode bM_costOf 50 = .ok (.iadd, 1) := by decide +kernel
theorem dM_costOf_51 : decode bM_costOf 51 = .ok (.ireturn, 1) := by decide +kernel
theorem dM_enter_0 : decode bM_enter 0 = .ok (.aload_n 0, 1) := by decide +kernel
theorem dM_enter_1 : decode bM_enter 1 = .ok (.aload_n 0, 1) := by decide +kernel
theorem dM_enter_2 : decode bM_enter 2 = .ok (.getfield 51, 3) := by decide +kernel
theorem dM_enter_5 : decode bM_enter 5 = .ok (.ifCond .ne 12, 3) := by decide +kernel
theorem dM_enter_8 : decode bM_enter 8 = .ok (.aload_n 0, 1) := by decide +kernel
theorem dM_enter_9 : decode bM_enter 9 = .ok (.getfield 44, 3) := by decide +kernel
theorem dM_enter_12 : decode bM_enter 12 = .ok (.bipush 12, 2) := by decide +kernel
theorem dM_enter_14 : decode bM_enter 14 = .ok (.if_icmp .ne 7, 3) := by decide +kernel
theorem dM_enter_17 : decode bM_enter 17 = .ok (.iconst 1, 1) := by decide +kernel
theorem dM_enter_18 : decode bM_enter 18 = .ok (.goto 4, 3) := by decide +kernel
theorem dM_enter_21 : decode bM_enter 21 = .ok (.iconst 0, 1) := by decide +kernel
theorem dM_enter_22 : decode bM_enter 22 = .ok (.iconst 0, 1) := by decide +kernel
theorem dM_enter_23 : decode bM_enter 23 = .ok (.iconst 0, 1) := by decide +kernel
theorem dM_enter_24 : decode bM_enter 24 = .ok (.invokevirtual 55, 3) := by decide +kernel
theorem dM_enter_27 : decode bM_enter 27 = .ok (.ifCond .eq 5, 3) := by decide +kernel
theorem dM_enter_30 : decode bM_enter 30 = .ok (.iconst 0, 1) := by decide +kernel
theorem dM_enter_31 : decode bM_enter 31 = .ok (.ireturn, 1) := by decide +kernel
theorem dM_enter_32 : decode bM_enter 32 = .ok (.aload_n 0, 1) := by decide +kernel
theorem dM_enter_33 : decode bM_enter 33 = .ok (.getfield 44, 3) := by decide +kernel
theorem dM_enter_36 : decode bM_enter 36 = .ok (.istore_n 1, 1) := by decide +kernel
theorem dM_enter_37 : decode bM_enter 37 = .ok (.aload_n 0, 1) := by decide +kernel
theorem dM_enter_38 : decode bM_enter 38 = .ok (.dup, 1) := by decide +kernel
theorem dM_enter_39 : decode bM_enter 39 = .ok (.getfield 44, 3) := by decide +kernel
theorem dM_enter_42 : decode bM_enter 42 = .ok (.iconst 1, 1) := by decide +kernel
theorem dM_enter_43 : decode bM_enter 43 = .ok (.iadd, 1) := by decide +kernel
theorem dM_enter_44 : decode bM_enter 44 = .ok (.putfield 44, 3) := by decide +kernel
theorem dM_enter_47 : decode bM_enter 47 = .ok (.aload_n 0, 1) := by decide +kernel
theorem dM_enter_48 : decode bM_enter 48 = .ok (.getfield 7, 3) := by decide +kernel
theorem dM_enter_51 : decode bM_enter 51 = .ok (.iload_n 1, 1) := by decide +kernel
theorem dM_enter_52 : decode bM_enter 52 = .ok (.iconst 1, 1) := by decide +kernel
theorem dM_enter_53 : decode bM_enter 53 = .ok (.bastore, 1) := by decide +kernel
theorem dM_enter_54 : decode bM_enter 54 = .ok (.iconst 0, 1) := by decide +kernel
theorem dM_enter_55 : decode bM_enter 55 = .ok (.istore_n 2, 1) := by decide +kernel
theorem dM_enter_56 : decode bM_enter 56 = .ok (.iload_n 2, 1) := by decide +kernel
theorem dM_enter_57 : decode bM_enter 57 = .ok (.bipush 17, 2) := by decide +kernel
theorem dM_enter_59 : decode bM_enter 59 = .ok (.if_icmp .ge 21, 3) := by decide +kernel
theorem dM_enter_62 : decode bM_enter 62 = .ok (.aload_n 0, 1) := by decide +kernel
theorem dM_enter_63 : decode bM_enter 63 = .ok (.getfield 16, 3) := by decide +kernel
theorem dM_enter_66 : decode bM_enter 66 = .ok (.bipush 12, 2) := by decide +kernel
theorem dM_enter_68 : decode bM_enter 68 = .ok (.iload_n 2, 1) := by decide +kernel
theorem dM_enter_69 : decode bM_enter 69 = .ok (.imul, 1) := by decide +kernel
theorem dM_enter_70 : decode bM_enter 70 = .ok (.iload_n 1, 1) := by decide +kernel
theorem dM_enter_71 : decode bM_enter 71 = .ok (.iadd, 1) := by decide +kernel
theorem dM_enter_72 : decode bM_enter 72 = .ok (.iconst (-1), 1) := by decide +kernel
theorem dM_enter_73 : decode bM_enter 73 = .ok (.iastore, 1) := by decide +kernel
theorem dM_enter_74 : decode bM_enter 74 = .ok (.iinc 2 1, 3) := by decide +kernel
theorem dM_enter_77 : decode bM_enter 77 = .ok (.goto (-21), 3) := by decide +kernel
theorem dM_enter_80 : decode bM_enter 80 = .ok (.iconst 0, 1) := by decide +kernel
theorem dM_enter_81 : decode bM_enter 81 = .ok (.istore_n 2, 1) := by decide +kernel
theorem dM_enter_82 : decode bM_enter 82 = .ok (.iload_n 2, 1) := by decide +kernel
theorem dM_enter_83 : decode bM_enter 83 = .ok (.bipush 12, 2) := by decide +kernel
theorem dM_enter_85 : decode bM_enter 85 = .ok (.if_icmp .ge 33, 3) := by decide +kernel
theorem dM_enter_88 : decode bM_enter 88 = .ok (.aload_n 0, 1) := by decide +kernel
theorem dM_enter_89 : decode bM_enter 89 = .ok (.getfield 13, 3) := by decide +kernel
theorem dM_enter_92 : decode bM_enter 92 = .ok (.bipush 12, 2) := by decide +kernel
theorem dM_enter_94 : decode bM_enter 94 = .ok (.iload_n 1, 1) := by decide +kernel
theorem dM_enter_95 : decode bM_enter 95 = .ok (.imul, 1) := by decide +kernel
theorem dM_enter_96 : decode bM_enter 96 = .ok (.iload_n 2, 1) := by decide +kernel
theorem dM_enter_97 : decode bM_enter 97 = .ok (.iadd, 1) := by decide +kernel
theorem dM_enter_98 : decode bM_enter 98 = .ok (.iconst 0, 1) := by decide +kernel
theorem dM_enter_99 : decode bM_enter 99 = .ok (.bastore, 1) := by decide +kernel
theorem dM_enter_100 : decode bM_enter 100 = .ok (.aload_n 0, 1) := by decide +kernel
theorem dM_enter_101 : decode bM_enter 101 = .ok (.getfield 13, 3) := by decide +kernel
theorem dM_enter_104 : decode bM_enter 104 = .ok (.bipush 12, 2) := by decide +kernel
theorem dM_enter_106 : decode bM_enter 106 = .ok (.iload_n 2, 1) := by decide +kernel
theorem dM_enter_107 : decode bM_enter 107 = .ok (.imul, 1) := by decide +kernel
theorem dM_enter_108 : decode bM_enter 108 = .ok (.iload_n 1, 1) := by decide +kernel
theorem dM_enter_109 : decode bM_enter 109 = .ok (.iadd, 1) := by decide +kernel
theorem dM_enter_110 : decode bM_enter 110 = .ok (.iconst 0, 1) := by decide +kernel
theorem dM_enter_111 : decode bM_enter 111 = .ok (.bastore, 1) := by decide +kernel
theorem dM_enter_112 : decode bM_enter 112 = .ok (.iinc 2 1, 3) := by decide +kernel
theorem dM_enter_115 : decode bM_enter 115 = .ok (.goto (-33), 3) := by decide +kernel
theorem dM_enter_118 : decode bM_enter 118 = .ok (.iload_n 1, 1) := by decide +kernel
theorem dM_enter_119 : decode bM_enter 119 = .ok (.ireturn, 1) := by decide +kernel
theorem dM_findBye_0 : decode bM_findBye 0 = .ok (.iconst (-1), 1) := by decide +kernel
theorem dM_findBye_1 : decode bM_findBye 1 = .ok (.istore_n 1, 1) := by decide +kernel
theorem dM_findBye_2 : decode bM_findBye 2 = .ok (.iconst 0, 1) := by decide +kernel
theorem dM_findBye_3 : decode bM_findBye 3 = .ok (.istore_n 2, 1) := by decide +kernel
theorem dM_findBye_4 : decode bM_findBye 4 = .ok (.iload_n 2, 1) := by decide +kernel
theorem dM_findBye_5 : decode bM_findBye 5 = .ok (.aload_n 0, 1) := by decide +kernel
theorem dM_findBye_6 : decode bM_findBye 6 = .ok (.getfield 44, 3) := by decide +kernel
theorem dM_findBye_9 : decode bM_findBye 9 = .ok (.if_icmp .ge 98, 3) := by decide +kernel
theorem dM_findBye_12 : decode bM_findBye 12 = .ok (.iload_n 1, 1) := by decide +kernel
theorem dM_findBye_13 : decode bM_findBye 13 = .ok (.ifCond .ge 7, 3) := by decide +kernel
theorem dM_findBye_16 : decode bM_findBye 16 = .ok (.iconst 1, 1) := by decide +kernel
theorem dM_findBye_17 : decode bM_findBye 17 = .ok (.goto 4, 3) := by decide +kernel
theorem dM_findBye_20 : decode bM_findBye 20 = .ok (.iconst 0, 1) := by decide +kernel
theorem dM_findBye_21 : decode bM_findBye 21 = .ok (.istore_n 3, 1) := by decide +kernel
theorem dM_findBye_22 : decode bM_findBye 22 = .ok (.aload_n 0, 1) := by decide +kernel
theorem dM_findBye_23 : decode bM_findBye 23 = .ok (.getfield 7, 3) := by decide +kernel
theorem dM_findBye_26 : decode bM_findBye 26 = .ok (.iload_n 2, 1) := by decide +kernel
theorem dM_findBye_27 : decode bM_findBye 27 = .ok (.baload, 1) := by decide +kernel
theorem dM_findBye_28 : decode bM_findBye 28 = .ok (.ifCond .eq 54, 3) := by decide +kernel
theorem dM_findBye_31 : decode bM_findBye 31 = .ok (.iload_n 1, 1) := by decide +kernel
theorem dM_findBye_32 : decode bM_findBye 32 = .ok (.ifCond .lt 50, 3) := by decide +kernel
theorem dM_findBye_35 : decode bM_findBye 35 = .ok (.aload_n 0, 1) := by decide +kernel
theorem dM_findBye_36 : decode bM_findBye 36 = .ok (.iload_n 2, 1) := by decide +kernel
theorem dM_findBye_37 : decode bM_findBye 37 = .ok (.invokevirtual 87, 3) := by decide +kernel
theorem dM_findBye_40 : decode bM_findBye 40 = .ok (.aload_n 0, 1) := by decide +kernel
theorem dM_findBye_41 : decode bM_findBye 41 = .ok (.iload_n 1, 1) := by decide +kernel
theorem dM_findBye_42 : decode bM_findBye 42 = .ok (.invokevirtual 87, 3) := by decide +kernel
theorem dM_findBye_45 : decode bM_findBye 45 = .ok (.isub, 1) := by decide +kernel
theorem dM_findBye_46 : decode bM_findBye 46 = .ok (.istore 4, 2) := by decide +kernel
theorem dM_findBye_48 : decode bM_findBye 48 = .ok (.aload_n 0, 1) := by decide +kernel
theorem dM_findBye_49 : decode bM_findBye 49 = .ok (.iload_n 2, 1) := by decide +kernel
theorem dM_findBye_50 : decode bM_findBye 50 = .ok (.invokevirtual 70, 3) := by decide +kernel
theorem dM_findBye_53 : decode bM_findBye 53 = .ok (.aload_n 0, 1) := by decide +kernel
theorem dM_findBye_54 : decode bM_findBye 54 = .ok (.iload_n 1, 1) := by decide +kernel
theorem dM_findBye_55 : decode bM_findBye 55 = .ok (.invokevirtual 70, 3) := by decide +kernel
theorem dM_findBye_58 : decode bM_findBye 58 = .ok (.isub, 1) := by decide +kernel
theorem dM_findBye_59 : decode bM_findBye 59 = .ok (.istore 5, 2) := by decide +kernel
theorem dM_findBye_61 : decode bM_findBye 61 = .ok (.iload 4, 2) := by decide +kernel
theorem dM_findBye_63 : decode bM_findBye 63 = .ok (.ifCond .lt 13, 3) := by decide +kernel
theorem dM_findBye_66 : decode bM_findBye 66 = .ok (.iload 4, 2) := by decide +kernel
theorem dM_findBye_68 : decode bM_findBye 68 = .ok (.ifCond .ne 12, 3) := by decide +kernel
theorem dM_findBye_71 : decode bM_findBye 71 = .ok (.iload 5, 2) := by decide +kernel
theorem dM_findBye_73 : decode bM_findBye 73 = .ok (.ifCond .gt 7, 3) := by decide +kernel
theorem dM_findBye_76 : decode bM_findBye 76 = .ok (.iconst 1, 1) := by decide +kernel
theorem dM_findBye_77 : decode bM_findBye 77 = .ok (.goto 4, 3) := by decide +kernel
theorem dM_findBye_80 : decode bM_findBye 80 = .ok (.iconst 0, 1) := by decide +kernel
theorem dM_findBye_81 : decode bM_findBye 81 = .ok (.istore_n 3, 1) := by decide +kernel
theorem dM_findBye_82 : decode bM_findBye 82 = .ok (.aload_n 0, 1) := by decide +kernel
theorem dM_findBye_83 : decode bM_findBye 83 = .ok (.getfield 7, 3) := by decide +kernel
theorem dM_findBye_86 : decode bM_findBye 86 = .ok (.iload_n 2, 1) := by decide +kernel
theorem dM_findBye_87 : decode bM_findBye 87 = .ok (.baload, 1) := by decide +kernel
theorem dM_findBye_88 : decode bM_findBye 88 = .ok (.ifCond .eq 11, 3) := by decide +kernel
theorem dM_findBye_91 : decode bM_findBye 91 = .ok (.iload_n 3, 1) := by decide +kernel
theorem dM_findBye_92 : decode bM_findBye 92 = .ok (.ifCond .eq 7, 3) := by decide +kernel
theorem dM_findBye_95 : decode bM_findBye 95 = .ok (.iload_n 2, 1) := by decide +kernel
theorem dM_findBye_96 : decode bM_findBye 96 = .ok (.goto 4, 3) := by decide +kernel
theorem dM_findBye_99 : decode bM_findBye 99 = .ok (.iload_n 1, 1) := by decide +kernel
theorem dM_findBye_100 : decode bM_findBye 100 = .ok (.istore_n 1, 1) := by decide +kernel
theorem dM_findBye_101 : decode bM_findBye 101 = .ok (.iinc 2 1, 3) := by decide +kernel
theorem dM_findBye_104 : decode bM_findBye 104 = .ok (.goto (-100), 3) := by decide +kernel
theorem dM_findBye_107 : decode bM_findBye 107 = .ok (.iload_n 1, 1) := by decide +kernel
theorem dM_findBye_108 : decode bM_findBye 108 = .ok (.ireturn, 1) := by decide +kernel
theorem dM_gamesOf_0 : decode bM_gamesOf 0 = .ok (.iconst 0, 1) := by decide +kernel
theorem dM_gamesOf_1 : decode bM_gamesOf 1 = .ok (.istore_n 2, 1) := by decide +kernel
theorem dM_gamesOf_2 : decode bM_gamesOf 2 = .ok (.iconst 0, 1) := by decide +kernel
theorem dM_gamesOf_3 : decode bM_gamesOf 3 = .ok (.istore_n 3, 1) := by decide +kernel
theorem dM_gamesOf_4 : decode bM_gamesOf 4 = .ok (.iload_n 3, 1) := by decide +kernel
theorem dM_gamesOf_5 : decode bM_gamesOf 5 = .ok (.aload_n 0, 1) := by decide +kernel
theorem dM_gamesOf_6 : decode bM_gamesOf 6 = .ok (.getfield 63, 3) := by decide +kernel
theorem dM_gamesOf_9 : decode bM_gamesOf 9 = .ok (.if_icmp .ge 26, 3) := by decide +kernel
theorem dM_gamesOf_12 : decode bM_gamesOf 12 = .ok (.aload_n 0, 1) := by decide +kernel
theorem dM_gamesOf_13 : decode bM_gamesOf 13 = .ok (.iload_n 3, 1) := by decide +kernel
theorem dM_gamesOf_14 : decode bM_gamesOf 14 = .ok (.iload_n 1, 1) := by decide +kernel
theorem dM_gamesOf_15 : decode bM_gamesOf 15 = .ok (.invokevirtual 66, 3) := by decide +kernel
theorem dM_gamesOf_18 : decode bM_gamesOf 18 = .ok (.ifCond .eq 9, 3) := by decide +kernel
theorem dM_gamesOf_21 : decode bM_gamesOf 21 = .ok (.iload_n 2, 1) := by decide +kernel
theorem dM_gamesOf_22 : decode bM_gamesOf 22 = .ok (.iconst 1, 1) := by decide +kernel
theorem dM_gamesOf_23 : decode bM_gamesOf 23 = .ok (.iadd, 1) := by decide +kernel
theorem dM_gamesOf_24 : decode bM_gamesOf 24 = .ok (.goto 4, 3) := by decide +kernel
theorem dM_gamesOf_27 : decode bM_gamesOf 27 = .ok (.iload_n 2, 1) := by decide +kernel
theorem dM_gamesOf_28 : decode bM_gamesOf 28 = .ok (.istore_n 2, 1) := by decide +kernel
theorem dM_gamesOf_29 : decode bM_gamesOf 29 = .ok (.iinc 3 1, 3) := by decide +kernel
theorem dM_gamesOf_32 : decode bM_gamesOf 32 = .ok (.goto (-28), 3) := by decide +kernel
theorem dM_gamesOf_35 : decode bM_gamesOf 35 = .ok (.iload_n 2, 1) := by decide +kernel
theorem dM_gamesOf_36 : decode bM_gamesOf 36 = .ok (.ireturn, 1) := by decide +kernel
theorem dM_had_0 : decode bM_had 0 = .ok (.aload_n 0, 1) := by decide +kernel
theorem dM_had_1 : decode bM_had 1 = .ok (.aload_n 0, 1) := by decide +kernel
theorem dM_had_2 : decode bM_had 2 = .ok (.iload_n 2, 1) := by decide +kernel
theorem dM_had_3 : decode bM_had 3 = .ok (.invokevirtual 59, 3) := by decide +kernel
theorem dM_had_6 : decode bM_had 6 = .ok (.ifCond .eq 15, 3) := by decide +kernel
theorem dM_had_9 : decode bM_had 9 = .ok (.iload_n 1, 1) := by decide +kernel
theorem dM_had_10 : decode bM_had 10 = .ok (.ifCond .lt 11, 3) := by decide +kernel
theorem dM_had_13 : decode bM_had 13 = .ok (.iload_n 1, 1) := by decide +kernel
theorem dM_had_14 : decode bM_had 14 = .ok (.aload_n 0, 1) := by decide +kernel
theorem dM_had_15 : decode bM_had 15 = .ok (.getfield 63, 3) := by decide +kernel
theorem dM_had_18 : decode bM_had 18 = .ok (.if_icmp .lt 7, 3) := by decide +kernel
theorem dM_had_21 : decode bM_had 21 = .ok (.iconst 1, 1) := by decide +kernel
theorem dM_had_22 : decode bM_had 22 = .ok (.goto 4, 3) := by decide +kernel
theorem dM_had_25 : decode bM_had 25 = .ok (.iconst 0, 1) := by decide +kernel
theorem dM_had_26 : decode bM_had 26 = .ok (.iconst 0, 1) := by decide +kernel
theorem dM_had_27 : decode bM_had 27 = .ok (.iconst 0, 1) := by decide +kernel
theorem dM_had_28 : decode bM_had 28 = .ok (.invokevirtual 55, 3) := by decide +kernel
theorem dM_had_31 : decode bM_had 31 = .ok (.ifCond .eq 5, 3) := by decide +kernel
theorem dM_had_34 : decode bM_had 34 = .ok (.iconst 0, 1) := by decide +kernel
theorem dM_had_35 : decode bM_had 35 = .ok (.ireturn, 1) := by decide +kernel
theorem dM_had_36 : decode bM_had 36 = .ok (.bipush 12, 2) := by decide +kernel
theorem dM_had_38 : decode bM_had 38 = .ok (.iload_n 1, 1) := by decide +kernel
theorem dM_had_39 : decode bM_had 39 = .ok (.imul, 1) := by decide +kernel
theorem dM_had_40 : decode bM_had 40 = .ok (.iload_n 2, 1) := by decide +kernel
theorem dM_had_41 : decode bM_had 41 = .ok (.iadd, 1) := by decide +kernel
theorem dM_had_42 : decode bM_had 42 = .ok (.istore_n 3, 1) := by decide +kernel
theorem dM_had_43 : decode bM_had 43 = .ok (.aload_n 0, 1) := by decide +kernel
theorem dM_had_44 : decode bM_had 44 = .ok (.getfield 16, 3) := by decide +kernel
theorem dM_had_47 : decode bM_had 47 = .ok (.iload_n 3, 1) := by decide +kernel
theorem dM_had_48 : decode bM_had 48 = .ok (.iaload, 1) := by decide +kernel
theorem dM_had_49 : decode bM_had 49 = .ok (.istore 4, 2) := by decide +kernel
theorem dM_had_51 : decode bM_had 51 = .ok (.iload 4, 2) := by decide +kernel
theorem dM_had_53 : decode bM_had 53 = .ok (.bipush 12, 2) := by decide +kernel
theorem dM_had_55 : decode bM_had 55 = .ok (.if_icmp .ne 8, 3) := by decide +kernel
theorem dM_had_58 : decode bM_had 58 = .ok (.bipush 76, 2) := by decide +kernel
theorem dM_had_60 : decode bM_had 60 = .ok (.goto 40, 3) := by decide +kernel
theorem dM_had_63 : decode bM_had 63 = .ok (.iload 4, 2) := by decide +kernel
theorem dM_had_65 : decode bM_had 65 = .ok (.ifCond .ge 7, 3) := by decide +kernel
theorem dM_had_68 : decode bM_had 68 = .ok (.iconst (-1), 1) := by decide +kernel
theorem dM_had_69 : decode bM_had 69 = .ok (.goto 31, 3) := by decide +kernel
theorem dM_had_72 : decode bM_had 72 = .ok (.iload 4, 2) := by decide +kernel
theorem dM_had_74 : decode bM_had 74 = .ok (.aload_n 0, 1) := by decide +kernel
theorem dM_had_75 : decode bM_had 75 = .ok (.getfield 20, 3) := by decide +kernel
theorem dM_had_78 : decode bM_had 78 = .ok (.iload_n 3, 1) := by decide +kernel
theorem dM_had_79 : decode bM_had 79 = .ok (.baload, 1) := by decide +kernel
theorem dM_had_80 : decode bM_had 80 = .ok (.ifCond .eq 8, 3) := by decide +kernel
theorem dM_had_83 : decode bM_had 83 = .ok (.bipush 16, 2) := by decide +kernel
theorem dM_had_85 : decode bM_had 85 = .ok (.goto 4, 3) := by decide +kernel
theorem dM_had_88 : decode bM_had 88 = .ok (.iconst 0, 1) := by decide +kernel
theorem dM_had_89 : decode bM_had 89 = .ok (.iadd, 1) := by decide +kernel
theorem dM_had_90 : decode bM_had 90 = .ok (.bipush 32, 2) := by decide +kernel
theorem dM_had_92 : decode bM_had 92 = .ok (.aload_n 0, 1) := by decide +kernel
theorem dM_had_93 : decode bM_had 93 = .ok (.getfield 23, 3) := by decide +kernel
theorem dM_had_96 : decode bM_had 96 = .ok (.iload_n 3, 1) := by decide +kernel
theorem dM_had_97 : decode bM_had 97 = .ok (.iaload, 1) := by decide +kernel
theorem dM_had_98 : decode bM_had 98 = .ok (.imul, 1) := by decide +kernel
theorem dM_had_99 : decode bM_had 99 = .ok (.iadd, 1) := by decide +kernel
theorem dM_had_100 : decode bM_had 100 = .ok (.ireturn, 1) := by decide +kernel
theorem dM_hadEachOther_0 : decode bM_hadEachOther 0 = .ok (.iconst 0, 1) := by decide +kernel
theorem dM_hadEachOther_1 : decode bM_hadEachOther 1 = .ok (.istore_n 3, 1) := by decide +kernel
theorem dM_hadEachOther_2 : decode bM_hadEachOther 2 = .ok (.iconst 0, 1) := by decide +kernel
theorem dM_hadEachOther_3 : decode bM_hadEachOther 3 = .ok (.istore 4, 2) := by decide +kernel
theorem dM_hadEachOther_5 : decode bM_hadEachOther 5 = .ok (.iload 4, 2) := by decide +kernel
theorem dM_hadEachOther_7 : decode bM_hadEachOther 7 = .ok (.aload_n 0, 1) := by decide +kernel
theorem dM_hadEachOther_8 : decode bM_hadEachOther 8 = .ok (.getfield 63, 3) := by decide +kernel
theorem dM_hadEachOther_11 : decode bM_hadEachOther 11 = .ok (.if_icmp .ge 35, 3) := by decide +kernel
theorem dM_hadEachOther_14 : decode bM_hadEachOther 14 = .ok (.iload_n 3, 1) := by decide +kernel
theorem dM_hadEachOther_15 : decode bM_hadEachOther 15 = .ok (.ifCond .ne 19, 3) := by decide +kernel
theorem dM_hadEachOther_18 : decode bM_hadEachOther 18 = .ok (.aload_n 0, 1) := by decide +kernel
theorem dM_hadEachOther_19 : decode bM_hadEachOther 19 = .ok (.getfield 16, 3) := by decide +kernel
theorem dM_hadEachOther_22 : decode bM_hadEachOther 22 = .ok (.bipush 12, 2) := by decide +kernel
theorem dM_hadEachOther_24 : decode bM_hadEachOther 24 = .ok (.iload 4, 2) := by decide +kernel
theorem dM_hadEachOther_26 : decode bM_hadEachOther 26 = .ok (.imul, 1) := by decide +kernel
theorem dM_hadEachOther_27 : decode bM_hadEachOther 27 = .ok (.iload_n 1, 1) := by decide +kernel
theorem dM_hadEachOther_28 : decode bM_hadEachOther 28 = .ok (.iadd, 1) := by decide +kernel
theorem dM_hadEachOther_29 : decode bM_hadEachOther 29 = .ok (.iaload, 1) := by decide +kernel
theorem dM_hadEachOther_30 : decode bM_hadEachOther 30 = .ok (.iload_n 2, 1) := by decide +kernel
theorem dM_hadEachOther_31 : decode bM_hadEachOther 31 = .ok (.if_icmp .ne 7, 3) := by decide +kernel
theorem dM_hadEachOther_34 : decode bM_hadEachOther 34 = .ok (.iconst 1, 1) := by decide +kernel
theorem dM_hadEachOther_35 : decode bM_hadEachOther 35 = .ok (.goto 4, 3) := by decide +kernel
theorem dM_hadEachOther_38 : decode bM_hadEachOther 38 = .ok (.iconst 0, 1) := by decide +kernel
theorem dM_hadEachOther_39 : decode bM_hadEachOther 39 = .ok (.istore_n 3, 1) := by decide +kernel
theorem dM_hadEachOther_40 : decode bM_hadEachOther 40 = .ok (.iinc 4 1, 3) := by decide +kernel
theorem dM_hadEachOther_43 : decode bM_hadEachOther 43 = .ok (.goto (-38), 3) := by decide +kernel
theorem dM_hadEachOther_46 : decode bM_hadEachOther 46 = .ok (.iload_n 3, 1) := by decide +kernel
theorem dM_hadEachOther_47 : decode bM_hadEachOther 47 = .ok (.ireturn, 1) := by decide +kernel
theorem dM_hadGame_0 : decode bM_hadGame 0 = .ok (.aload_n 0, 1) := by decide +kernel
theorem dM_hadGame_1 : decode bM_hadGame 1 = .ok (.getfield 16, 3) := by decide +kernel
end
section
theorem dM_hadGame_4 : decode bM_hadGame 4 = .ok (.bipush 12, 2) := by decide +kernel
theorem dM_hadGame_6 : decode bM_hadGame 6 = .ok (.iload_n 1, 1) := by decide +kernel
theorem dM_hadGame_7 : decode bM_hadGame 7 = .ok (.imul, 1) := by decide +kernel
theorem dM_hadGame_8 : decode bM_hadGame 8 = .ok (.iload_n 2, 1) := by decide +kernel
theorem dM_hadGame_9 : decode bM_hadGame 9 = .ok (.iadd, 1) := by decide +kernel
theorem dM_hadGame_10 : decode bM_hadGame 10 = .ok (.iaload, 1) := by decide +kernel
theorem dM_hadGame_11 : decode bM_hadGame 11 = .ok (.istore_n 3, 1) := by decide +kernel
theorem dM_hadGame_12 : decode bM_hadGame 12 = .ok (.iload_n 3, 1) := by decide +kernel
theorem dM_hadGame_13 : decode bM_hadGame 13 = .ok (.ifCond .lt 13, 3) := by decide +kernel
theorem dM_hadGame_16 : decode bM_hadGame 16 = .ok (.iload_n 3, 1) := by decide +kernel
theorem dM_hadGame_17 : decode bM_hadGame 17 = .ok (.bipush 12, 2) := by decide +kernel
theorem dM_hadGame_19 : decode bM_hadGame 19 = .ok (.if_icmp .ge 7, 3) := by decide +kernel
theorem dM_hadGame_22 : decode bM_hadGame 22 = .ok (.iconst 1, 1) := by decide +kernel
theorem dM_hadGame_23 : decode bM_hadGame 23 = .ok (.goto 4, 3) := by decide +kernel
theorem dM_hadGame_26 : decode bM_hadGame 26 = .ok (.iconst 0, 1) := by decide +kernel
theorem dM_hadGame_27 : decode bM_hadGame 27 = .ok (.ireturn, 1) := by decide +kernel
theorem dM_inMany_0 : decode bM_inMany 0 = .ok (.iconst 0, 1) := by decide +kernel
theorem dM_inMany_1 : decode bM_inMany 1 = .ok (.istore_n 1, 1) := by decide +kernel
theorem dM_inMany_2 : decode bM_inMany 2 = .ok (.iconst 0, 1) := by decide +kernel
theorem dM_inMany_3 : decode bM_inMany 3 = .ok (.istore_n 2, 1) := by decide +kernel
theorem dM_inMany_4 : decode bM_inMany 4 = .ok (.iload_n 2, 1) := by decide +kernel
theorem dM_inMany_5 : decode bM_inMany 5 = .ok (.aload_n 0, 1) := by decide +kernel
theorem dM_inMany_6 : decode bM_inMany 6 = .ok (.getfield 44, 3) := by decide +kernel
theorem dM_inMany_9 : decode bM_inMany 9 = .ok (.if_icmp .ge 26, 3) := by decide +kernel
theorem dM_inMany_12 : decode bM_inMany 12 = .ok (.aload_n 0, 1) := by decide +kernel
theorem dM_inMany_13 : decode bM_inMany 13 = .ok (.getfield 7, 3) := by decide +kernel
theorem dM_inMany_16 : decode bM_inMany 16 = .ok (.iload_n 2, 1) := by decide +kernel
theorem dM_inMany_17 : decode bM_inMany 17 = .ok (.baload, 1) := by decide +kernel
theorem dM_inMany_18 : decode bM_inMany 18 = .ok (.ifCond .eq 9, 3) := by decide +kernel
theorem dM_inMany_21 : decode bM_inMany 21 = .ok (.iload_n 1, 1) := by decide +kernel
theorem dM_inMany_22 : decode bM_inMany 22 = .ok (.iconst 1, 1) := by decide +kernel
theorem dM_inMany_23 : decode bM_inMany 23 = .ok (.iadd, 1) := by decide +kernel
theorem dM_inMany_24 : decode bM_inMany 24 = .ok (.goto 4, 3) := by decide +kernel
theorem dM_inMany_27 : decode bM_inMany 27 = .ok (.iload_n 1, 1) := by decide +kernel
theorem dM_inMany_28 : decode bM_inMany 28 = .ok (.istore_n 1, 1) := by decide +kernel
theorem dM_inMany_29 : decode bM_inMany 29 = .ok (.iinc 2 1, 3) := by decide +kernel
theorem dM_inMany_32 : decode bM_inMany 32 = .ok (.goto (-28), 3) := by decide +kernel
theorem dM_inMany_35 : decode bM_inMany 35 = .ok (.iload_n 1, 1) := by decide +kernel
theorem dM_inMany_36 : decode bM_inMany 36 = .ok (.ireturn, 1) := by decide +kernel
theorem dM_init_0 : decode bM_init 0 = .ok (.aload_n 0, 1) := by decide +kernel
theorem dM_init_1 : decode bM_init 1 = .ok (.invokespecial 1, 3) := by decide +kernel
theorem dM_init_4 : decode bM_init 4 = .ok (.aload_n 0, 1) := by decide +kernel
theorem dM_init_5 : decode bM_init 5 = .ok (.bipush 12, 2) := by decide +kernel
theorem dM_init_7 : decode bM_init 7 = .ok (.newarray .boolean, 2) := by decide +kernel
theorem dM_init_9 : decode bM_init 9 = .ok (.putfield 7, 3) := by decide +kernel
theorem dM_init_12 : decode bM_init 12 = .ok (.aload_n 0, 1) := by decide +kernel
theorem dM_init_13 : decode bM_init 13 = .ok (.sipush 144, 3) := by decide +kernel
theorem dM_init_16 : decode bM_init 16 = .ok (.newarray .boolean, 2) := by decide +kernel
theorem dM_init_18 : decode bM_init 18 = .ok (.putfield 13, 3) := by decide +kernel
theorem dM_init_21 : decode bM_init 21 = .ok (.aload_n 0, 1) := by decide +kernel
theorem dM_init_22 : decode bM_init 22 = .ok (.sipush 204, 3) := by decide +kernel
theorem dM_init_25 : decode bM_init 25 = .ok (.newarray .int, 2) := by decide +kernel
theorem dM_init_27 : decode bM_init 27 = .ok (.putfield 16, 3) := by decide +kernel
theorem dM_init_30 : decode bM_init 30 = .ok (.aload_n 0, 1) := by decide +kernel
theorem dM_init_31 : decode bM_init 31 = .ok (.sipush 204, 3) := by decide +kernel
theorem dM_init_34 : decode bM_init 34 = .ok (.newarray .boolean, 2) := by decide +kernel
theorem dM_init_36 : decode bM_init 36 = .ok (.putfield 20, 3) := by decide +kernel
theorem dM_init_39 : decode bM_init 39 = .ok (.aload_n 0, 1) := by decide +kernel
theorem dM_init_40 : decode bM_init 40 = .ok (.sipush 204, 3) := by decide +kernel
theorem dM_init_43 : decode bM_init 43 = .ok (.newarray .int, 2) := by decide +kernel
theorem dM_init_45 : decode bM_init 45 = .ok (.putfield 23, 3) := by decide +kernel
theorem dM_init_48 : decode bM_init 48 = .ok (.aload_n 0, 1) := by decide +kernel
theorem dM_init_49 : decode bM_init 49 = .ok (.bipush 12, 2) := by decide +kernel
theorem dM_init_51 : decode bM_init 51 = .ok (.newarray .int, 2) := by decide +kernel
theorem dM_init_53 : decode bM_init 53 = .ok (.putfield 26, 3) := by decide +kernel
theorem dM_init_56 : decode bM_init 56 = .ok (.aload_n 0, 1) := by decide +kernel
theorem dM_init_57 : decode bM_init 57 = .ok (.sipush 144, 3) := by decide +kernel
theorem dM_init_60 : decode bM_init 60 = .ok (.newarray .int, 2) := by decide +kernel
theorem dM_init_62 : decode bM_init 62 = .ok (.putfield 29, 3) := by decide +kernel
theorem dM_init_65 : decode bM_init 65 = .ok (.aload_n 0, 1) := by decide +kernel
theorem dM_init_66 : decode bM_init 66 = .ok (.sipush 4096, 3) := by decide +kernel
theorem dM_init_69 : decode bM_init 69 = .ok (.newarray .int, 2) := by decide +kernel
theorem dM_init_71 : decode bM_init 71 = .ok (.putfield 32, 3) := by decide +kernel
theorem dM_init_74 : decode bM_init 74 = .ok (.aload_n 0, 1) := by decide +kernel
theorem dM_init_75 : decode bM_init 75 = .ok (.sipush 4096, 3) := by decide +kernel
theorem dM_init_78 : decode bM_init 78 = .ok (.newarray .int, 2) := by decide +kernel
theorem dM_init_80 : decode bM_init 80 = .ok (.putfield 35, 3) := by decide +kernel
theorem dM_init_83 : decode bM_init 83 = .ok (.aload_n 0, 1) := by decide +kernel
theorem dM_init_84 : decode bM_init 84 = .ok (.sipush 4096, 3) := by decide +kernel
theorem dM_init_87 : decode bM_init 87 = .ok (.newarray .int, 2) := by decide +kernel
theorem dM_init_89 : decode bM_init 89 = .ok (.putfield 38, 3) := by decide +kernel
theorem dM_init_92 : decode bM_init 92 = .ok (.aload_n 0, 1) := by decide +kernel
theorem dM_init_93 : decode bM_init 93 = .ok (.bipush 12, 2) := by decide +kernel
theorem dM_init_95 : decode bM_init 95 = .ok (.newarray .int, 2) := by decide +kernel
theorem dM_init_97 : decode bM_init 97 = .ok (.putfield 41, 3) := by decide +kernel
theorem dM_init_100 : decode bM_init 100 = .ok (.aload_n 0, 1) := by decide +kernel
theorem dM_init_101 : decode bM_init 101 = .ok (.iload_n 1, 1) := by decide +kernel
theorem dM_init_102 : decode bM_init 102 = .ok (.iconst 2, 1) := by decide +kernel
theorem dM_init_103 : decode bM_init 103 = .ok (.if_icmp .ge 7, 3) := by decide +kernel
theorem dM_init_106 : decode bM_init 106 = .ok (.iconst 2, 1) := by decide +kernel
theorem dM_init_107 : decode bM_init 107 = .ok (.goto 15, 3) := by decide +kernel
theorem dM_init_110 : decode bM_init 110 = .ok (.iload_n 1, 1) := by decide +kernel
theorem dM_init_111 : decode bM_init 111 = .ok (.bipush 12, 2) := by decide +kernel
theorem dM_init_113 : decode bM_init 113 = .ok (.if_icmp .le 8, 3) := by decide +kernel
theorem dM_init_116 : decode bM_init 116 = .ok (.bipush 12, 2) := by decide +kernel
theorem dM_init_118 : decode bM_init 118 = .ok (.goto 4, 3) := by decide +kernel
theorem dM_init_121 : decode bM_init 121 = .ok (.iload_n 1, 1) := by decide +kernel
theorem dM_init_122 : decode bM_init 122 = .ok (.putfield 44, 3) := by decide +kernel
theorem dM_init_125 : decode bM_init 125 = .ok (.iconst 0, 1) := by decide +kernel
theorem dM_init_126 : decode bM_init 126 = .ok (.istore_n 2, 1) := by decide +kernel
theorem dM_init_127 : decode bM_init 127 = .ok (.iload_n 2, 1) := by decide +kernel
theorem dM_init_128 : decode bM_init 128 = .ok (.bipush 12, 2) := by decide +kernel
theorem dM_init_130 : decode bM_init 130 = .ok (.if_icmp .ge 16, 3) := by decide +kernel
theorem dM_init_133 : decode bM_init 133 = .ok (.aload_n 0, 1) := by decide +kernel
theorem dM_init_134 : decode bM_init 134 = .ok (.getfield 7, 3) := by decide +kernel
theorem dM_init_137 : decode bM_init 137 = .ok (.iload_n 2, 1) := by decide +kernel
theorem dM_init_138 : decode bM_init 138 = .ok (.iconst 1, 1) := by decide +kernel
theorem dM_init_139 : decode bM_init 139 = .ok (.bastore, 1) := by decide +kernel
theorem dM_init_140 : decode bM_init 140 = .ok (.iinc 2 1, 3) := by decide +kernel
theorem dM_init_143 : decode bM_init 143 = .ok (.goto (-16), 3) := by decide +kernel
theorem dM_init_146 : decode bM_init 146 = .ok (.return_, 1) := by decide +kernel
theorem dM_isBefore_0 : decode bM_isBefore 0 = .ok (.aload_n 0, 1) := by decide +kernel
theorem dM_isBefore_1 : decode bM_isBefore 1 = .ok (.iload_n 1, 1) := by decide +kernel
theorem dM_isBefore_2 : decode bM_isBefore 2 = .ok (.invokevirtual 70, 3) := by decide +kernel
theorem dM_isBefore_5 : decode bM_isBefore 5 = .ok (.aload_n 0, 1) := by decide +kernel
theorem dM_isBefore_6 : decode bM_isBefore 6 = .ok (.iload_n 2, 1) := by decide +kernel
theorem dM_isBefore_7 : decode bM_isBefore 7 = .ok (.invokevirtual 70, 3) := by decide +kernel
theorem dM_isBefore_10 : decode bM_isBefore 10 = .ok (.isub, 1) := by decide +kernel
theorem dM_isBefore_11 : decode bM_isBefore 11 = .ok (.istore_n 3, 1) := by decide +kernel
theorem dM_isBefore_12 : decode bM_isBefore 12 = .ok (.aload_n 0, 1) := by decide +kernel
theorem dM_isBefore_13 : decode bM_isBefore 13 = .ok (.iload_n 1, 1) := by decide +kernel
theorem dM_isBefore_14 : decode bM_isBefore 14 = .ok (.invokevirtual 129, 3) := by decide +kernel
theorem dM_isBefore_17 : decode bM_isBefore 17 = .ok (.aload_n 0, 1) := by decide +kernel
theorem dM_isBefore_18 : decode bM_isBefore 18 = .ok (.iload_n 2, 1) := by decide +kernel
theorem dM_isBefore_19 : decode bM_isBefore 19 = .ok (.invokevirtual 129, 3) := by decide +kernel
theorem dM_isBefore_22 : decode bM_isBefore 22 = .ok (.isub, 1) := by decide +kernel
theorem dM_isBefore_23 : decode bM_isBefore 23 = .ok (.istore 4, 2) := by decide +kernel
theorem dM_isBefore_25 : decode bM_isBefore 25 = .ok (.aload_n 0, 1) := by decide +kernel
theorem dM_isBefore_26 : decode bM_isBefore 26 = .ok (.iload_n 1, 1) := by decide +kernel
theorem dM_isBefore_27 : decode bM_isBefore 27 = .ok (.invokevirtual 132, 3) := by decide +kernel
theorem dM_isBefore_30 : decode bM_isBefore 30 = .ok (.aload_n 0, 1) := by decide +kernel
theorem dM_isBefore_31 : decode bM_isBefore 31 = .ok (.iload_n 2, 1) := by decide +kernel
theorem dM_isBefore_32 : decode bM_isBefore 32 = .ok (.invokevirtual 132, 3) := by decide +kernel
theorem dM_isBefore_35 : decode bM_isBefore 35 = .ok (.isub, 1) := by decide +kernel
theorem dM_isBefore_36 : decode bM_isBefore 36 = .ok (.istore 5, 2) := by decide +kernel
theorem dM_isBefore_38 : decode bM_isBefore 38 = .ok (.aload_n 0, 1) := by decide +kernel
theorem dM_isBefore_39 : decode bM_isBefore 39 = .ok (.iload_n 1, 1) := by decide +kernel
theorem dM_isBefore_40 : decode bM_isBefore 40 = .ok (.invokevirtual 135, 3) := by decide +kernel
theorem dM_isBefore_43 : decode bM_isBefore 43 = .ok (.aload_n 0, 1) := by decide +kernel
theorem dM_isBefore_44 : decode bM_isBefore 44 = .ok (.iload_n 2, 1) := by decide +kernel
theorem dM_isBefore_45 : decode bM_isBefore 45 = .ok (.invokevirtual 135, 3) := by decide +kernel
theorem dM_isBefore_48 : decode bM_isBefore 48 = .ok (.isub, 1) := by decide +kernel
theorem dM_isBefore_49 : decode bM_isBefore 49 = .ok (.istore 6, 2) := by decide +kernel
theorem dM_isBefore_51 : decode bM_isBefore 51 = .ok (.iload_n 3, 1) := by decide +kernel
theorem dM_isBefore_52 : decode bM_isBefore 52 = .ok (.ifCond .eq 15, 3) := by decide +kernel
theorem dM_isBefore_55 : decode bM_isBefore 55 = .ok (.iload_n 3, 1) := by decide +kernel
theorem dM_isBefore_56 : decode bM_isBefore 56 = .ok (.ifCond .le 7, 3) := by decide +kernel
theorem dM_isBefore_59 : decode bM_isBefore 59 = .ok (.iconst 1, 1) := by decide +kernel
theorem dM_isBefore_60 : decode bM_isBefore 60 = .ok (.goto 71, 3) := by decide +kernel
theorem dM_isBefore_63 : decode bM_isBefore 63 = .ok (.iconst 0, 1) := by decide +kernel
theorem dM_isBefore_64 : decode bM_isBefore 64 = .ok (.goto 67, 3) := by decide +kernel
theorem dM_isBefore_67 : decode bM_isBefore 67 = .ok (.iload 4, 2) := by decide +kernel
theorem dM_isBefore_69 : decode bM_isBefore 69 = .ok (.ifCond .eq 16, 3) := by decide +kernel
theorem dM_isBefore_72 : decode bM_isBefore 72 = .ok (.iload 4, 2) := by decide +kernel
theorem dM_isBefore_74 : decode bM_isBefore 74 = .ok (.ifCond .le 7, 3) := by decide +kernel
theorem dM_isBefore_77 : decode bM_isBefore 77 = .ok (.iconst 1, 1) := by decide +kernel
theorem dM_isBefore_78 : decode bM_isBefore 78 = .ok (.goto 53, 3) := by decide +kernel
theorem dM_isBefore_81 : decode bM_isBefore 81 = .ok (.iconst 0, 1) := by decide +kernel
theorem dM_isBefore_82 : decode bM_isBefore 82 = .ok (.goto 49, 3) := by decide +kernel
theorem dM_isBefore_85 : decode bM_isBefore 85 = .ok (.iload 5, 2) := by decide +kernel
theorem dM_isBefore_87 : decode bM_isBefore 87 = .ok (.ifCond .eq 16, 3) := by decide +kernel
theorem dM_isBefore_90 : decode bM_isBefore 90 = .ok (.iload 5, 2) := by decide +kernel
theorem dM_isBefore_92 : decode bM_isBefore 92 = .ok (.ifCond .le 7, 3) := by decide +kernel
theorem dM_isBefore_95 : decode bM_isBefore 95 = .ok (.iconst 1, 1) := by decide +kernel
theorem dM_isBefore_96 : decode bM_isBefore 96 = .ok (.goto 35, 3) := by decide +kernel
theorem dM_isBefore_99 : decode bM_isBefore 99 = .ok (.iconst 0, 1) := by decide +kernel
theorem dM_isBefore_100 : decode bM_isBefore 100 = .ok (.goto 31, 3) := by decide +kernel
theorem dM_isBefore_103 : decode bM_isBefore 103 = .ok (.iload 6, 2) := by decide +kernel
theorem dM_isBefore_105 : decode bM_isBefore 105 = .ok (.ifCond .eq 16, 3) := by decide +kernel
theorem dM_isBefore_108 : decode bM_isBefore 108 = .ok (.iload 6, 2) := by decide +kernel
theorem dM_isBefore_110 : decode bM_isBefore 110 = .ok (.ifCond .le 7, 3) := by decide +kernel
theorem dM_isBefore_113 : decode bM_isBefore 113 = .ok (.iconst 1, 1) := by decide +kernel
theorem dM_isBefore_114 : decode bM_isBefore 114 = .ok (.goto 17, 3) := by decide +kernel
theorem dM_isBefore_117 : decode bM_isBefore 117 = .ok (.iconst 0, 1) := by decide +kernel
theorem dM_isBefore_118 : decode bM_isBefore 118 = .ok (.goto 13, 3) := by decide +kernel
theorem dM_isBefore_121 : decode bM_isBefore 121 = .ok (.iload_n 1, 1) := by decide +kernel
theorem dM_isBefore_122 : decode bM_isBefore 122 = .ok (.iload_n 2, 1) := by decide +kernel
theorem dM_isBefore_123 : decode bM_isBefore 123 = .ok (.if_icmp .ge 7, 3) := by decide +kernel
theorem dM_isBefore_126 : decode bM_isBefore 126 = .ok (.iconst 1, 1) := by decide +kernel
theorem dM_isBefore_127 : decode bM_isBefore 127 = .ok (.goto 4, 3) := by decide +kernel
theorem dM_isBefore_130 : decode bM_isBefore 130 = .ok (.iconst 0, 1) := by decide +kernel
theorem dM_isBefore_131 : decode bM_isBefore 131 = .ok (.ireturn, 1) := by decide +kernel
theorem dM_isFirstWhite_0 : decode bM_isFirstWhite 0 = .ok (.aload_n 0, 1) := by decide +kernel
theorem dM_isFirstWhite_1 : decode bM_isFirstWhite 1 = .ok (.iload_n 1, 1) := by decide +kernel
theorem dM_isFirstWhite_2 : decode bM_isFirstWhite 2 = .ok (.invokevirtual 74, 3) := by decide +kernel
theorem dM_isFirstWhite_5 : decode bM_isFirstWhite 5 = .ok (.istore_n 3, 1) := by decide +kernel
theorem dM_isFirstWhite_6 : decode bM_isFirstWhite 6 = .ok (.aload_n 0, 1) := by decide +kernel
theorem dM_isFirstWhite_7 : decode bM_isFirstWhite 7 = .ok (.iload_n 2, 1) := by decide +kernel
theorem dM_isFirstWhite_8 : decode bM_isFirstWhite 8 = .ok (.invokevirtual 74, 3) := by decide +kernel
theorem dM_isFirstWhite_11 : decode bM_isFirstWhite 11 = .ok (.istore 4, 2) := by decide +kernel
theorem dM_isFirstWhite_13 : decode bM_isFirstWhite 13 = .ok (.iload_n 3, 1) := by decide +kernel
theorem dM_isFirstWhite_14 : decode bM_isFirstWhite 14 = .ok (.iload 4, 2) := by decide +kernel
theorem dM_isFirstWhite_16 : decode bM_isFirstWhite 16 = .ok (.if_icmp .eq 15, 3) := by decide +kernel
theorem dM_isFirstWhite_19 : decode bM_isFirstWhite 19 = .ok (.iload_n 3, 1) := by decide +kernel
theorem dM_isFirstWhite_20 : decode bM_isFirstWhite 20 = .ok (.iload 4, 2) := by decide +kernel
theorem dM_isFirstWhite_22 : decode bM_isFirstWhite 22 = .ok (.if_icmp .ge 7, 3) := by decide +kernel
theorem dM_isFirstWhite_25 : decode bM_isFirstWhite 25 = .ok (.iconst 1, 1) := by decide +kernel
theorem dM_isFirstWhite_26 : decode bM_isFirstWhite 26 = .ok (.goto 4, 3) := by decide +kernel
theorem dM_isFirstWhite_29 : decode bM_isFirstWhite 29 = .ok (.iconst 0, 1) := by decide +kernel
theorem dM_isFirstWhite_30 : decode bM_isFirstWhite 30 = .ok (.ireturn, 1) := by decide +kernel
theorem dM_isFirstWhite_31 : decode bM_isFirstWhite 31 = .ok (.aload_n 0, 1) := by decide +kernel
theorem dM_isFirstWhite_32 : decode bM_isFirstWhite 32 = .ok (.iload_n 1, 1) := by decide +kernel
theorem dM_isFirstWhite_33 : decode bM_isFirstWhite 33 = .ok (.iconst 0, 1) := by decide +kernel
theorem dM_isFirstWhite_34 : decode bM_isFirstWhite 34 = .ok (.invokevirtual 77, 3) := by decide +kernel
theorem dM_isFirstWhite_37 : decode bM_isFirstWhite 37 = .ok (.istore 5, 2) := by decide +kernel
theorem dM_isFirstWhite_39 : decode bM_isFirstWhite 39 = .ok (.aload_n 0, 1) := by decide +kernel
theorem dM_isFirstWhite_40 : decode bM_isFirstWhite 40 = .ok (.iload_n 2, 1) := by decide +kernel
theorem dM_isFirstWhite_41 : decode bM_isFirstWhite 41 = .ok (.iconst 0, 1) := by decide +kernel
theorem dM_isFirstWhite_42 : decode bM_isFirstWhite 42 = .ok (.invokevirtual 77, 3) := by decide +kernel
theorem dM_isFirstWhite_45 : decode bM_isFirstWhite 45 = .ok (.istore 6, 2) := by decide +kernel
theorem dM_isFirstWhite_47 : decode bM_isFirstWhite 47 = .ok (.iload 5, 2) := by decide +kernel
theorem dM_isFirstWhite_49 : decode bM_isFirstWhite 49 = .ok (.iconst (-1), 1) := by decide +kernel
theorem dM_isFirstWhite_50 : decode bM_isFirstWhite 50 = .ok (.if_icmp .ne 11, 3) := by decide +kernel
theorem dM_isFirstWhite_53 : decode bM_isFirstWhite 53 = .ok (.iload 6, 2) := by decide +kernel
theorem dM_isFirstWhite_55 : decode bM_isFirstWhite 55 = .ok (.iconst 1, 1) := by decide +kernel
theorem dM_isFirstWhite_56 : decode bM_isFirstWhite 56 = .ok (.if_icmp .ne 5, 3) := by decide +kernel
theorem dM_isFirstWhite_59 : decode bM_isFirstWhite 59 = .ok (.iconst 1, 1) := by decide +kernel
theorem dM_isFirstWhite_60 : decode bM_isFirstWhite 60 = .ok (.ireturn, 1) := by decide +kernel
theorem dM_isFirstWhite_61 : decode bM_isFirstWhite 61 = .ok (.iload 5, 2) := by decide +kernel
theorem dM_isFirstWhite_63 : decode bM_isFirstWhite 63 = .ok (.iconst 1, 1) := by decide +kernel
theorem dM_isFirstWhite_64 : decode bM_isFirstWhite 64 = .ok (.if_icmp .ne 11, 3) := by decide +kernel
theorem dM_isFirstWhite_67 : decode bM_isFirstWhite 67 = .ok (.iload 6, 2) := by decide +kernel
theorem dM_isFirstWhite_69 : decode bM_isFirstWhite 69 = .ok (.iconst (-1), 1) := by decide +kernel
theorem dM_isFirstWhite_70 : decode bM_isFirstWhite 70 = .ok (.if_icmp .ne 5, 3) := by decide +kernel
theorem dM_isFirstWhite_73 : decode bM_isFirstWhite 73 = .ok (.iconst 0, 1) := by decide +kernel
theorem dM_isFirstWhite_74 : decode bM_isFirstWhite 74 = .ok (.ireturn, 1) := by decide +kernel
theorem dM_isFirstWhite_75 : decode bM_isFirstWhite 75 = .ok (.aload_n 0, 1) := by decide +kernel
theorem dM_isFirstWhite_76 : decode bM_isFirstWhite 76 = .ok (.getfield 63, 3) := by decide +kernel
theorem dM_isFirstWhite_79 : decode bM_isFirstWhite 79 = .ok (.iconst 2, 1) := by decide +kernel
theorem dM_isFirstWhite_80 : decode bM_isFirstWhite 80 = .ok (.irem, 1) := by decide +kernel
theorem dM_isFirstWhite_81 : decode bM_isFirstWhite 81 = .ok (.ifCond .ne 7, 3) := by decide +kernel
theorem dM_isFirstWhite_84 : decode bM_isFirstWhite 84 = .ok (.iconst 1, 1) := by decide +kernel
theorem dM_isFirstWhite_85 : decode bM_isFirstWhite 85 = .ok (.goto 4, 3) := by decide +kernel
theorem dM_isFirstWhite_88 : decode bM_isFirstWhite 88 = .ok (.iconst 0, 1) := by decide +kernel
theorem dM_isFirstWhite_89 : decode bM_isFirstWhite 89 = .ok (.ireturn, 1) := by decide +kernel
theorem dM_isIn_0 : decode bM_isIn 0 = .ok (.aload_n 0, 1) := by decide +kernel
theorem dM_isIn_1 : decode bM_isIn 1 = .ok (.iconst 0, 1) := by decide +kernel
theorem dM_isIn_2 : decode bM_isIn 2 = .ok (.putfield 48, 3) := by decide +kernel
theorem dM_isIn_5 : decode bM_isIn 5 = .ok (.aload_n 0, 1) := by decide +kernel
theorem dM_isIn_6 : decode bM_isIn 6 = .ok (.iload_n 1, 1) := by decide +kernel
theorem dM_isIn_7 : decode bM_isIn 7 = .ok (.invokevirtual 59, 3) := by decide +kernel
theorem dM_isIn_10 : decode bM_isIn 10 = .ok (.ifCond .eq 16, 3) := by decide +kernel
theorem dM_isIn_13 : decode bM_isIn 13 = .ok (.aload_n 0, 1) := by decide +kernel
theorem dM_isIn_14 : decode bM_isIn 14 = .ok (.getfield 7, 3) := by decide +kernel
theorem dM_isIn_17 : decode bM_isIn 17 = .ok (.iload_n 1, 1) := by decide +kernel
theorem dM_isIn_18 : decode bM_isIn 18 = .ok (.baload, 1) := by decide +kernel
theorem dM_isIn_19 : decode bM_isIn 19 = .ok (.ifCond .eq 7, 3) := by decide +kernel
theorem dM_isIn_22 : decode bM_isIn 22 = .ok (.iconst 1, 1) := by decide +kernel
theorem dM_isIn_23 : decode bM_isIn 23 = .ok (.goto 4, 3) := by decide +kernel
theorem dM_isIn_26 : decode bM_isIn 26 = .ok (.iconst 0, 1) := by decide +kernel
theorem dM_isIn_27 : decode bM_isIn 27 = .ok (.ireturn, 1) := by decide +kernel
theorem dM_isPlayer_0 : decode bM_isPlayer 0 = .ok (.iload_n 1, 1) := by decide +kernel
theorem dM_isPlayer_1 : decode bM_isPlayer 1 = .ok (.ifCond .lt 15, 3) := by decide +kernel
theorem dM_isPlayer_4 : decode bM_isPlayer 4 = .ok (.iload_n 1, 1) := by decide +kernel
theorem dM_isPlayer_5 : decode bM_isPlayer 5 = .ok (.aload_n 0, 1) := by decide +kernel
theorem dM_isPlayer_6 : decode bM_isPlayer 6 = .ok (.getfield 44, 3) := by decide +kernel
theorem dM_isPlayer_9 : decode bM_isPlayer 9 = .ok (.if_icmp .ge 7, 3) := by decide +kernel
theorem dM_isPlayer_12 : decode bM_isPlayer 12 = .ok (.iconst 1, 1) := by decide +kernel
theorem dM_isPlayer_13 : decode bM_isPlayer 13 = .ok (.goto 4, 3) := by decide +kernel
theorem dM_isPlayer_16 : decode bM_isPlayer 16 = .ok (.iconst 0, 1) := by decide +kernel
theorem dM_isPlayer_17 : decode bM_isPlayer 17 = .ok (.ireturn, 1) := by decide +kernel
theorem dM_isWhite_0 : decode bM_isWhite 0 = .ok (.aload_n 0, 1) := by decide +kernel
theorem dM_isWhite_1 : decode bM_isWhite 1 = .ok (.aload_n 0, 1) := by decide +kernel
theorem dM_isWhite_2 : decode bM_isWhite 2 = .ok (.iload_n 1, 1) := by decide +kernel
theorem dM_isWhite_3 : decode bM_isWhite 3 = .ok (.invokevirtual 59, 3) := by decide +kernel
theorem dM_isWhite_6 : decode bM_isWhite 6 = .ok (.ifCond .ne 7, 3) := by decide +kernel
theorem dM_isWhite_9 : decode bM_isWhite 9 = .ok (.iconst 1, 1) := by decide +kernel
theorem dM_isWhite_10 : decode bM_isWhite 10 = .ok (.goto 4, 3) := by decide +kernel
theorem dM_isWhite_13 : decode bM_isWhite 13 = .ok (.iconst 0, 1) := by decide +kernel
theorem dM_isWhite_14 : decode bM_isWhite 14 = .ok (.aload_n 0, 1) := by decide +kernel
theorem dM_isWhite_15 : decode bM_isWhite 15 = .ok (.getfield 51, 3) := by decide +kernel
theorem dM_isWhite_18 : decode bM_isWhite 18 = .ok (.ifCond .ne 7, 3) := by decide +kernel
theorem dM_isWhite_21 : decode bM_isWhite 21 = .ok (.iconst 1, 1) := by decide +kernel
theorem dM_isWhite_22 : decode bM_isWhite 22 = .ok (.goto 4, 3) := by decide +kernel
theorem dM_isWhite_25 : decode bM_isWhite 25 = .ok (.iconst 0, 1) := by decide +kernel
theorem dM_isWhite_26 : decode bM_isWhite 26 = .ok (.iconst 0, 1) := by decide +kernel
theorem dM_isWhite_27 : decode bM_isWhite 27 = .ok (.invokevirtual 55, 3) := by decide +kernel
theorem dM_isWhite_30 : decode bM_isWhite 30 = .ok (.ifCond .ne 36, 3) := by decide +kernel
theorem dM_isWhite_33 : decode bM_isWhite 33 = .ok (.aload_n 0, 1) := by decide +kernel
theorem dM_isWhite_34 : decode bM_isWhite 34 = .ok (.aload_n 0, 1) := by decide +kernel
theorem dM_isWhite_35 : decode bM_isWhite 35 = .ok (.getfield 63, 3) := by decide +kernel
theorem dM_isWhite_38 : decode bM_isWhite 38 = .ok (.iload_n 1, 1) := by decide +kernel
theorem dM_isWhite_39 : decode bM_isWhite 39 = .ok (.invokevirtual 66, 3) := by decide +kernel
theorem dM_isWhite_42 : decode bM_isWhite 42 = .ok (.ifCond .eq 24, 3) := by decide +kernel
theorem dM_isWhite_45 : decode bM_isWhite 45 = .ok (.aload_n 0, 1) := by decide +kernel
theorem dM_isWhite_46 : decode bM_isWhite 46 = .ok (.getfield 20, 3) := by decide +kernel
theorem dM_isWhite_49 : decode bM_isWhite 49 = .ok (.bipush 12, 2) := by decide +kernel
theorem dM_isWhite_51 : decode bM_isWhite 51 = .ok (.aload_n 0, 1) := by decide +kernel
theorem dM_isWhite_52 : decode bM_isWhite 52 = .ok (.getfield 63, 3) := by decide +kernel
theorem dM_isWhite_55 : decode bM_isWhite 55 = .ok (.imul, 1) := by decide +kernel
theorem dM_isWhite_56 : decode bM_isWhite 56 = .ok (.iload_n 1, 1) := by decide +kernel
theorem dM_isWhite_57 : decode bM_isWhite 57 = .ok (.iadd, 1) := by decide +kernel
theorem dM_isWhite_58 : decode bM_isWhite 58 = .ok (.baload, 1) := by decide +kernel
theorem dM_isWhite_59 : decode bM_isWhite 59 = .ok (.ifCond .eq 7, 3) := by decide +kernel
theorem dM_isWhite_62 : decode bM_isWhite 62 = .ok (.iconst 1, 1) := by decide +kernel
theorem dM_isWhite_63 : decode bM_isWhite 63 = .ok (.goto 4, 3) := by decide +kernel
theorem dM_isWhite_66 : decode bM_isWhite 66 = .ok (.iconst 0, 1) := by decide +kernel
theorem dM_isWhite_67 : decode bM_isWhite 67 = .ok (.ireturn, 1) := by decide +kernel
theorem dM_leave_0 : decode bM_leave 0 = .ok (.aload_n 0, 1) := by decide +kernel
theorem dM_leave_1 : decode bM_leave 1 = .ok (.aload_n 0, 1) := by decide +kernel
theorem dM_leave_2 : decode bM_leave 2 = .ok (.iload_n 1, 1) := by decide +kernel
theorem dM_leave_3 : decode bM_leave 3 = .ok (.invokevirtual 59, 3) := by decide +kernel
theorem dM_leave_6 : decode bM_leave 6 = .ok (.ifCond .ne 7, 3) := by decide +kernel
theorem dM_leave_9 : decode bM_leave 9 = .ok (.iconst 1, 1) := by decide +kernel
theorem dM_leave_10 : decode bM_leave 10 = .ok (.goto 4, 3) := by decide +kernel
theorem dM_leave_13 : decode bM_leave 13 = .ok (.iconst 0, 1) := by decide +kernel
theorem dM_leave_14 : decode bM_leave 14 = .ok (.aload_n 0, 1) := by decide +kernel
theorem dM_leave_15 : decode bM_leave 15 = .ok (.iload_n 1, 1) := by decide +kernel
theorem dM_leave_16 : decode bM_leave 16 = .ok (.invokevirtual 59, 3) := by decide +kernel
theorem dM_leave_19 : decode bM_leave 19 = .ok (.ifCond .eq 16, 3) := by decide +kernel
theorem dM_leave_22 : decode bM_leave 22 = .ok (.aload_n 0, 1) := by decide +kernel
theorem dM_leave_23 : decode bM_leave 23 = .ok (.getfield 7, 3) := by decide +kernel
theorem dM_leave_26 : decode bM_leave 26 = .ok (.iload_n 1, 1) := by decide +kernel
theorem dM_leave_27 : decode bM_leave 27 = .ok (.baload, 1) := by decide +kernel
theorem dM_leave_28 : decode bM_leave 28 = .ok (.ifCond .ne 7, 3) := by decide +kernel
theorem dM_leave_31 : decode bM_leave 31 = .ok (.iconst 1, 1) := by decide +kernel
theorem dM_leave_32 : decode bM_leave 32 = .ok (.goto 4, 3) := by decide +kernel
theorem dM_leave_35 : decode bM_leave 35 = .ok (.iconst 0, 1) := by decide +kernel
theorem dM_leave_36 : decode bM_leave 36 = .ok (.aload_n 0, 1) := by decide +kernel
theorem dM_leave_37 : decode bM_leave 37 = .ok (.getfield 51, 3) := by decide +kernel
theorem dM_leave_40 : decode bM_leave 40 = .ok (.invokevirtual 55, 3) := by decide +kernel
theorem dM_leave_43 : decode bM_leave 43 = .ok (.ifCond .ne 10, 3) := by decide +kernel
theorem dM_leave_46 : decode bM_leave 46 = .ok (.aload_n 0, 1) := by decide +kernel
theorem dM_leave_47 : decode bM_leave 47 = .ok (.getfield 7, 3) := by decide +kernel
theorem dM_leave_50 : decode bM_leave 50 = .ok (.iload_n 1, 1) := by decide +kernel
theorem dM_leave_51 : decode bM_leave 51 = .ok (.iconst 0, 1) := by decide +kernel
theorem dM_leave_52 : decode bM_leave 52 = .ok (.bastore, 1) := by decide +kernel
theorem dM_leave_53 : decode bM_leave 53 = .ok (.return_, 1) := by decide +kernel
theorem dM_lineUp_0 : decode bM_lineUp 0 = .ok (.aload_n 0, 1) := by decide +kernel
theorem dM_lineUp_1 : decode bM_lineUp 1 = .ok (.aload_n 0, 1) := by decide +kernel
theorem dM_lineUp_2 : decode bM_lineUp 2 = .ok (.invokevirtual 90, 3) := by decide +kernel
theorem dM_lineUp_5 : decode bM_lineUp 5 = .ok (.iconst 2, 1) := by decide +kernel
theorem dM_lineUp_6 : decode bM_lineUp 6 = .ok (.irem, 1) := by decide +kernel
theorem dM_lineUp_7 : decode bM_lineUp 7 = .ok (.iconst 1, 1) := by decide +kernel
theorem dM_lineUp_8 : decode bM_lineUp 8 = .ok (.if_icmp .ne 10, 3) := by decide +kernel
theorem dM_lineUp_11 : decode bM_lineUp 11 = .ok (.aload_n 0, 1) := by decide +kernel
theorem dM_lineUp_12 : decode bM_lineUp 12 = .ok (.invokevirtual 94, 3) := by decide +kernel
theorem dM_lineUp_15 : decode bM_lineUp 15 = .ok (.goto 4, 3) := by decide +kernel
theorem dM_lineUp_18 : decode bM_lineUp 18 = .ok (.iconst (-1), 1) := by decide +kernel
theorem dM_lineUp_19 : decode bM_lineUp 19 = .ok (.putfield 97, 3) := by decide +kernel
theorem dM_lineUp_22 : decode bM_lineUp 22 = .ok (.aload_n 0, 1) := by decide +kernel
theorem dM_lineUp_23 : decode bM_lineUp 23 = .ok (.iconst 0, 1) := by decide +kernel
theorem dM_lineUp_24 : decode bM_lineUp 24 = .ok (.putfield 100, 3) := by decide +kernel
theorem dM_lineUp_27 : decode bM_lineUp 27 = .ok (.bipush 32, 2) := by decide +kernel
theorem dM_lineUp_29 : decode bM_lineUp 29 = .ok (.istore_n 1, 1) := by decide +kernel
theorem dM_lineUp_30 : decode bM_lineUp 30 = .ok (.iload_n 1, 1) := by decide +kernel
theorem dM_lineUp_31 : decode bM_lineUp 31 = .ok (.ifCond .lt 71, 3) := by decide +kernel
theorem dM_lineUp_34 : decode bM_lineUp 34 = .ok (.iconst 0, 1) := by decide +kernel
theorem dM_lineUp_35 : decode bM_lineUp 35 = .ok (.istore_n 2, 1) := by decide +kernel
theorem dM_lineUp_36 : decode bM_lineUp 36 = .ok (.iload_n 2, 1) := by decide +kernel
theorem dM_lineUp_37 : decode bM_lineUp 37 = .ok (.aload_n 0, 1) := by decide +kernel
theorem dM_lineUp_38 : decode bM_lineUp 38 = .ok (.getfield 44, 3) := by decide +kernel
theorem dM_lineUp_41 : decode bM_lineUp 41 = .ok (.if_icmp .ge 55, 3) := by decide +kernel
theorem dM_lineUp_44 : decode bM_lineUp 44 = .ok (.aload_n 0, 1) := by decide +kernel
theorem dM_lineUp_45 : decode bM_lineUp 45 = .ok (.getfield 7, 3) := by decide +kernel
theorem dM_lineUp_48 : decode bM_lineUp 48 = .ok (.iload_n 2, 1) := by decide +kernel
theorem dM_lineUp_49 : decode bM_lineUp 49 = .ok (.baload, 1) := by decide +kernel
theorem dM_lineUp_50 : decode bM_lineUp 50 = .ok (.ifCond .eq 40, 3) := by decide +kernel
theorem dM_lineUp_53 : decode bM_lineUp 53 = .ok (.iload_n 2, 1) := by decide +kernel
theorem dM_lineUp_54 : decode bM_lineUp 54 = .ok (.aload_n 0, 1) := by decide +kernel
theorem dM_lineUp_55 : decode bM_lineUp 55 = .ok (.getfield 97, 3) := by decide +kernel
theorem dM_lineUp_58 : decode bM_lineUp 58 = .ok (.if_icmp .eq 32, 3) := by decide +kernel
theorem dM_lineUp_61 : decode bM_lineUp 61 = .ok (.aload_n 0, 1) := by decide +kernel
theorem dM_lineUp_62 : decode bM_lineUp 62 = .ok (.iload_n 2, 1) := by decide +kernel
theorem dM_lineUp_63 : decode bM_lineUp 63 = .ok (.invokevirtual 70, 3) := by decide +kernel
theorem dM_lineUp_66 : decode bM_lineUp 66 = .ok (.iload_n 1, 1) := by decide +kernel
theorem dM_lineUp_67 : decode bM_lineUp 67 = .ok (.if_icmp .ne 23, 3) := by decide +kernel
theorem dM_lineUp_70 : decode bM_lineUp 70 = .ok (.aload_n 0, 1) := by decide +kernel
theorem dM_lineUp_71 : decode bM_lineUp 71 = .ok (.getfield 26, 3) := by decide +kernel
theorem dM_lineUp_74 : decode bM_lineUp 74 = .ok (.aload_n 0, 1) := by decide +kernel
theorem dM_lineUp_75 : decode bM_lineUp 75 = .ok (.getfield 100, 3) := by decide +kernel
theorem dM_lineUp_78 : decode bM_lineUp 78 = .ok (.iload_n 2, 1) := by decide +kernel
theorem dM_lineUp_79 : decode bM_lineUp 79 = .ok (.iastore, 1) := by decide +kernel
theorem dM_lineUp_80 : decode bM_lineUp 80 = .ok (.aload_n 0, 1) := by decide +kernel
theorem dM_lineUp_81 : decode bM_lineUp 81 = .ok (.dup, 1) := by decide +kernel
theorem dM_lineUp_82 : decode bM_lineUp 82 = .ok (.getfield 100, 3) := by decide +kernel
theorem dM_lineUp_85 : decode bM_lineUp 85 = .ok (.iconst 1, 1) := by decide +kernel
theorem dM_lineUp_86 : decode bM_lineUp 86 = .ok (.iadd, 1) := by decide +kernel
theorem dM_lineUp_87 : decode bM_lineUp 87 = .ok (.putfield 100, 3) := by decide +kernel
theorem dM_lineUp_90 : decode bM_lineUp 90 = .ok (.iinc 2 1, 3) := by decide +kernel
theorem dM_lineUp_93 : decode bM_lineUp 93 = .ok (.goto (-57), 3) := by decide +kernel
theorem dM_lineUp_96 : decode bM_lineUp 96 = .ok (.iinc 1 (-1), 3) := by decide +kernel
theorem dM_lineUp_99 : decode bM_lineUp 99 = .ok (.goto (-69), 3) := by decide +kernel
theorem dM_lineUp_102 : decode bM_lineUp 102 = .ok (.iconst 0, 1) := by decide +kernel
theorem dM_lineUp_103 : decode bM_lineUp 103 = .ok (.istore_n 1, 1) := by decide +kernel
theorem dM_lineUp_104 : decode bM_lineUp 104 = .ok (.iload_n 1, 1) := by decide +kernel
theorem dM_lineUp_105 : decode bM_lineUp 105 = .ok (.aload_n 0, 1) := by decide +kernel
theorem dM_lineUp_106 : decode bM_lineUp 106 = .ok (.getfield 100, 3) := by decide +kernel
theorem dM_lineUp_109 : decode bM_lineUp 109 = .ok (.if_icmp .ge 112, 3) := by decide +kernel
theorem dM_lineUp_112 : decode bM_lineUp 112 = .ok (.iload_n 1, 1) := by decide +kernel
theorem dM_lineUp_113 : decode bM_lineUp 113 = .ok (.iconst 1, 1) := by decide +kernel
theorem dM_lineUp_114 : decode bM_lineUp 114 = .ok (.iadd, 1) := by decide +kernel
theorem dM_lineUp_115 : decode bM_lineUp 115 = .ok (.istore_n 2, 1) := by decide +kernel
theorem dM_lineUp_116 : decode bM_lineUp 116 = .ok (.iload_n 2, 1) := by decide +kernel
theorem dM_lineUp_117 : decode bM_lineUp 117 = .ok (.aload_n 0, 1) := by decide +kernel
theorem dM_lineUp_118 : decode bM_lineUp 118 = .ok (.getfield 100, 3) := by decide +kernel
theorem dM_lineUp_121 : decode bM_lineUp 121 = .ok (.if_icmp .ge 94, 3) := by decide +kernel
theorem dM_lineUp_124 : decode bM_lineUp 124 = .ok (.aload_n 0, 1) := by decide +kernel
theorem dM_lineUp_125 : decode bM_lineUp 125 = .ok (.getfield 13, 3) := by decide +kernel
theorem dM_lineUp_128 : decode bM_lineUp 128 = .ok (.bipush 12, 2) := by decide +kernel
theorem dM_lineUp_130 : decode bM_lineUp 130 = .ok (.aload_n 0, 1) := by decide +kernel
theorem dM_lineUp_131 : decode bM_lineUp 131 = .ok (.getfield 26, 3) := by decide +kernel
theorem dM_lineUp_134 : decode bM_lineUp 134 = .ok (.iload_n 1, 1) := by decide +kernel
theorem dM_lineUp_135 : decode bM_lineUp 135 = .ok (.iaload, 1) := by decide +kernel
theorem dM_lineUp_136 : decode bM_lineUp 136 = .ok (.imul, 1) := by decide +kernel
theorem dM_lineUp_137 : decode bM_lineUp 137 = .ok (.aload_n 0, 1) := by decide +kernel
theorem dM_lineUp_138 : decode bM_lineUp 138 = .ok (.getfield 26, 3) := by decide +kernel
theorem dM_lineUp_141 : decode bM_lineUp 141 = .ok (.iload_n 2, 1) := by decide +kernel
theorem dM_lineUp_142 : decode bM_lineUp 142 = .ok (.iaload, 1) := by decide +kernel
theorem dM_lineUp_143 : decode bM_lineUp 143 = .ok (.iadd, 1) := by decide +kernel
theorem dM_lineUp_144 : decode bM_lineUp 144 = .ok (.baload, 1) := by decide +kernel
theorem dM_lineUp_145 : decode bM_lineUp 145 = .ok (.ifCond .ne 26, 3) := by decide +kernel
theorem dM_lineUp_148 : decode bM_lineUp 148 = .ok (.aload_n 0, 1) := by decide +kernel
theorem dM_lineUp_149 : decode bM_lineUp 149 = .ok (.aload_n 0, 1) := by decide +kernel
theorem dM_lineUp_150 : decode bM_lineUp 150 = .ok (.getfield 26, 3) := by decide +kernel
theorem dM_lineUp_153 : decode bM_lineUp 153 = .ok (.iload_n 1, 1) := by decide +kernel
theorem dM_lineUp_154 : decode bM_lineUp 154 = .ok (.iaload, 1) := by decide +kernel
theorem dM_lineUp_155 : decode bM_lineUp 155 = .ok (.aload_n 0, 1) := by decide +kernel
theorem dM_lineUp_156 : decode bM_lineUp 156 = .ok (.getfield 26, 3) := by decide +kernel
theorem dM_lineUp_159 : decode bM_lineUp 159 = .ok (.iload_n 2, 1) := by decide +kernel
theorem dM_lineUp_160 : decode bM_lineUp 160 = .ok (.iaload, 1) := by decide +kernel
theorem dM_lineUp_161 : decode bM_lineUp 161 = .ok (.invokevirtual 103, 3) := by decide +kernel
theorem dM_lineUp_164 : decode bM_lineUp 164 = .ok (.ifCond .ne 7, 3) := by decide +kernel
theorem dM_lineUp_167 : decode bM_lineUp 167 = .ok (.iconst 1, 1) := by decide +kernel
theorem dM_lineUp_168 : decode bM_lineUp 168 = .ok (.goto 4, 3) := by decide +kernel
theorem dM_lineUp_171 : decode bM_lineUp 171 = .ok (.iconst 0, 1) := by decide +kernel
theorem dM_lineUp_172 : decode bM_lineUp 172 = .ok (.istore_n 3, 1) := by decide +kernel
theorem dM_lineUp_173 : decode bM_lineUp 173 = .ok (.aload_n 0, 1) := by decide +kernel
theorem dM_lineUp_174 : decode bM_lineUp 174 = .ok (.getfield 29, 3) := by decide +kernel
theorem dM_lineUp_177 : decode bM_lineUp 177 = .ok (.bipush 12, 2) := by decide +kernel
theorem dM_lineUp_179 : decode bM_lineUp 179 = .ok (.iload_n 1, 1) := by decide +kernel
theorem dM_lineUp_180 : decode bM_lineUp 180 = .ok (.imul, 1) := by decide +kernel
theorem dM_lineUp_181 : decode bM_lineUp 181 = .ok (.iload_n 2, 1) := by decide +kernel
theorem dM_lineUp_182 : decode bM_lineUp 182 = .ok (.iadd, 1) := by decide +kernel
theorem dM_lineUp_183 : decode bM_lineUp 183 = .ok (.iload_n 3, 1) := by decide +kernel
theorem dM_lineUp_184 : decode bM_lineUp 184 = .ok (.ifCond .eq 22, 3) := by decide +kernel
theorem dM_lineUp_187 : decode bM_lineUp 187 = .ok (.aload_n 0, 1) := by decide +kernel
theorem dM_lineUp_188 : decode bM_lineUp 188 = .ok (.aload_n 0, 1) := by decide +kernel
theorem dM_lineUp_189 : decode bM_lineUp 189 = .ok (.getfield 26, 3) := by decide +kernel
theorem dM_lineUp_192 : decode bM_lineUp 192 = .ok (.iload_n 1, 1) := by decide +kernel
theorem dM_lineUp_193 : decode bM_lineUp 193 = .ok (.iaload, 1) := by decide +kernel
theorem dM_lineUp_194 : decode bM_lineUp 194 = .ok (.aload_n 0, 1) := by decide +kernel
theorem dM_lineUp_195 : decode bM_lineUp 195 = .ok (.getfield 26, 3) := by decide +kernel
theorem dM_lineUp_198 : decode bM_lineUp 198 = .ok (.iload_n 2, 1) := by decide +kernel
theorem dM_lineUp_199 : decode bM_lineUp 199 = .ok (.iaload, 1) := by decide +kernel
theorem dM_lineUp_200 : decode bM_lineUp 200 = .ok (.invokevirtual 106, 3) := by decide +kernel
theorem dM_lineUp_203 : decode bM_lineUp 203 = .ok (.goto 5, 3) := by decide +kernel
theorem dM_lineUp_206 : decode bM_lineUp 206 = .ok (.ldc 109, 2) := by decide +kernel
theorem dM_lineUp_208 : decode bM_lineUp 208 = .ok (.iastore, 1) := by decide +kernel
theorem dM_lineUp_209 : decode bM_lineUp 209 = .ok (.iinc 2 1, 3) := by decide +kernel
theorem dM_lineUp_212 : decode bM_lineUp 212 = .ok (.goto (-96), 3) := by decide +kernel
theorem dM_lineUp_215 : decode bM_lineUp 215 = .ok (.iinc 1 1, 3) := by decide +kernel
theorem dM_lineUp_218 : decode bM_lineUp 218 = .ok (.goto (-114), 3) := by decide +kernel
theorem dM_lineUp_221 : decode bM_lineUp 221 = .ok (.return_, 1) := by decide +kernel
theorem dM_missing_0 : decode bM_missing 0 = .ok (.aload_n 0, 1) := by decide +kernel
theorem dM_missing_1 : decode bM_missing 1 = .ok (.aload_n 0, 1) := by decide +kernel
theorem dM_missing_2 : decode bM_missing 2 = .ok (.getfield 51, 3) := by decide +kernel
theorem dM_missing_5 : decode bM_missing 5 = .ok (.ifCond .ne 7, 3) := by decide +kernel
theorem dM_missing_8 : decode bM_missing 8 = .ok (.iconst 1, 1) := by decide +kernel
theorem dM_missing_9 : decode bM_missing 9 = .ok (.goto 4, 3) := by decide +kernel
theorem dM_missing_12 : decode bM_missing 12 = .ok (.iconst 0, 1) := by decide +kernel
theorem dM_missing_13 : decode bM_missing 13 = .ok (.iconst 0, 1) := by decide +kernel
theorem dM_missing_14 : decode bM_missing 14 = .ok (.iconst 0, 1) := by decide +kernel
theorem dM_missing_15 : decode bM_missing 15 = .ok (.invokevirtual 55, 3) := by decide +kernel
theorem dM_missing_18 : decode bM_missing 18 = .ok (.ifCond .eq 7, 3) := by decide +kernel
theorem dM_missing_21 : decode bM_missing 21 = .ok (.iconst 0, 1) := by decide +kernel
theorem dM_missing_22 : decode bM_missing 22 = .ok (.goto 7, 3) := by decide +kernel
theorem dM_missing_25 : decode bM_missing 25 = .ok (.aload_n 0, 1) := by decide +kernel
theorem dM_missing_26 : decode bM_missing 26 = .ok (.invokevirtual 126, 3) := by decide +kernel
theorem dM_missing_29 : decode bM_missing 29 = .ok (.ireturn, 1) := by decide +kernel
theorem dM_openRound_0 : decode bM_openRound 0 = .ok (.iconst 0, 1) := by decide +kernel
theorem dM_openRound_1 : decode bM_openRound 1 = .ok (.istore_n 1, 1) := by decide +kernel
theorem dM_openRound_2 : decode bM_openRound 2 = .ok (.iload_n 1, 1) := by decide +kernel
theorem dM_openRound_3 : decode bM_openRound 3 = .ok (.bipush 12, 2) := by decide +kernel
theorem dM_openRound_5 : decode bM_openRound 5 = .ok (.if_icmp .ge 67, 3) := by decide +kernel
theorem dM_openRound_8 : decode bM_openRound 8 = .ok (.aload_n 0, 1) := by decide +kernel
theorem dM_openRound_9 : decode bM_openRound 9 = .ok (.getfield 16, 3) := by decide +kernel
theorem dM_openRound_12 : decode bM_openRound 12 = .ok (.bipush 12, 2) := by decide +kernel
theorem dM_openRound_14 : decode bM_openRound 14 = .ok (.aload_n 0, 1) := by decide +kernel
theorem dM_openRound_15 : decode bM_openRound 15 = .ok (.getfield 63, 3) := by decide +kernel
theorem dM_openRound_18 : decode bM_openRound 18 = .ok (.imul, 1) := by decide +kernel
theorem dM_openRound_19 : decode bM_openRound 19 = .ok (.iload_n 1, 1) := by decide +kernel
theorem dM_openRound_20 : decode bM_openRound 20 = .ok (.iadd, 1) := by decide +kernel
theorem dM_openRound_21 : decode bM_openRound 21 = .ok (.iload_n 1, 1) := by decide +kernel
theorem dM_openRound_22 : decode bM_openRound 22 = .ok (.aload_n 0, 1) := by decide +kernel
theorem dM_openRound_23 : decode bM_openRound 23 = .ok (.getfield 97, 3) := by decide +kernel
theorem dM_openRound_26 : decode bM_openRound 26 = .ok (.if_icmp .ne 8, 3) := by decide +kernel
theorem dM_openRound_29 : decode bM_openRound 29 = .ok (.bipush 12, 2) := by decide +kernel
theorem dM_openRound_31 : decode bM_openRound 31 = .ok (.goto 4, 3) := by decide +kernel
theorem dM_openRound_34 : decode bM_openRound 34 = .ok (.iconst (-1), 1) := by decide +kernel
theorem dM_openRound_35 : decode bM_openRound 35 = .ok (.iastore, 1) := by decide +kernel
theorem dM_openRound_36 : decode bM_openRound 36 = .ok (.aload_n 0, 1) := by decide +kernel
theorem dM_openRound_37 : decode bM_openRound 37 = .ok (.getfield 20, 3) := by decide +kernel
theorem dM_openRound_40 : decode bM_openRound 40 = .ok (.bipush 12, 2) := by decide +kernel
theorem dM_openRound_42 : decode bM_openRound 42 = .ok (.aload_n 0, 1) := by decide +kernel
theorem dM_openRound_43 : decode bM_openRound 43 = .ok (.getfield 63, 3) := by decide +kernel
theorem dM_openRound_46 : decode bM_openRound 46 = .ok (.imul, 1) := by decide +kernel
theorem dM_openRound_47 : decode bM_openRound 47 = .ok (.iload_n 1, 1) := by decide +kernel
theorem dM_openRound_48 : decode bM_openRound 48 = .ok (.iadd, 1) := by decide +kernel
theorem dM_openRound_49 : decode bM_openRound 49 = .ok (.iconst 0, 1) := by decide +kernel
theorem dM_openRound_50 : decode bM_openRound 50 = .ok (.bastore, 1) := by decide +kernel
theorem dM_openRound_51 : decode bM_openRound 51 = .ok (.aload_n 0, 1) := by decide +kernel
theorem dM_openRound_52 : decode bM_openRound 52 = .ok (.getfield 23, 3) := by decide +kernel
theorem dM_openRound_55 : decode bM_openRound 55 = .ok (.bipush 12, 2) := by decide +kernel
theorem dM_openRound_57 : decode bM_openRound 57 = .ok (.aload_n 0, 1) := by decide +kernel
theorem dM_openRound_58 : decode bM_openRound 58 = .ok (.getfield 63, 3) := by decide +kernel
theorem dM_openRound_61 : decode bM_openRound 61 = .ok (.imul, 1) := by decide +kernel
theorem dM_openRound_62 : decode bM_openRound 62 = .ok (.iload_n 1, 1) := by decide +kernel
theorem dM_openRound_63 : decode bM_openRound 63 = .ok (.iadd, 1) := by decide +kernel
theorem dM_openRound_64 : decode bM_openRound 64 = .ok (.iconst (-1), 1) := by decide +kernel
theorem dM_openRound_65 : decode bM_openRound 65 = .ok (.iastore, 1) := by decide +kernel
theorem dM_openRound_66 : decode bM_openRound 66 = .ok (.iinc 1 1, 3) := by decide +kernel
theorem dM_openRound_69 : decode bM_openRound 69 = .ok (.goto (-67), 3) := by decide +kernel
theorem dM_openRound_72 : decode bM_openRound 72 = .ok (.iconst 0, 1) := by decide +kernel
theorem dM_openRound_73 : decode bM_openRound 73 = .ok (.istore_n 1, 1) := by decide +kernel
theorem dM_openRound_74 : decode bM_openRound 74 = .ok (.aload_n 0, 1) := by decide +kernel
theorem dM_openRound_75 : decode bM_openRound 75 = .ok (.invokevirtual 116, 3) := by decide +kernel
theorem dM_openRound_78 : decode bM_openRound 78 = .ok (.istore_n 2, 1) := by decide +kernel
theorem dM_openRound_79 : decode bM_openRound 79 = .ok (.iconst 0, 1) := by decide +kernel
theorem dM_openRound_80 : decode bM_openRound 80 = .ok (.istore_n 3, 1) := by decide +kernel
theorem dM_openRound_81 : decode bM_openRound 81 = .ok (.iload_n 3, 1) := by decide +kernel
theorem dM_openRound_82 : decode bM_openRound 82 = .ok (.aload_n 0, 1) := by decide +kernel
theorem dM_openRound_83 : decode bM_openRound 83 = .ok (.getfield 100, 3) := by decide +kernel
theorem dM_openRound_86 : decode bM_openRound 86 = .ok (.if_icmp .ge 147, 3) := by decide +kernel
theorem dM_openRound_89 : decode bM_openRound 89 = .ok (.iload_n 2, 1) := by decide +kernel
theorem dM_openRound_90 : decode bM_openRound 90 = .ok (.iload_n 3, 1) := by decide +kernel
theorem dM_openRound_91 : decode bM_openRound 91 = .ok (.ishr, 1) := by decide +kernel
theorem dM_openRound_92 : decode bM_openRound 92 = .ok (.iconst 1, 1) := by decide +kernel
theorem dM_openRound_93 : decode bM_openRound 93 = .ok (.iand, 1) := by decide +kernel
theorem dM_openRound_94 : decode bM_openRound 94 = .ok (.iconst 1, 1) := by decide +kernel
theorem dM_openRound_95 : decode bM_openRound 95 = .ok (.if_icmp .ne 132, 3) := by decide +kernel
theorem dM_openRound_98 : decode bM_openRound 98 = .ok (.aload_n 0, 1) := by decide +kernel
theorem dM_openRound_99 : decode bM_openRound 99 = .ok (.getfield 35, 3) := by decide +kernel
theorem dM_openRound_102 : decode bM_openRound 102 = .ok (.iload_n 2, 1) := by decide +kernel
theorem dM_openRound_103 : decode bM_openRound 103 = .ok (.iaload, 1) := by decide +kernel
theorem dM_openRound_104 : decode bM_openRound 104 = .ok (.istore 4, 2) := by decide +kernel
theorem dM_openRound_106 : decode bM_openRound 106 = .ok (.aload_n 0, 1) := by decide +kernel
theorem dM_openRound_107 : decode bM_openRound 107 = .ok (.getfield 26, 3) := by decide +kernel
theorem dM_openRound_110 : decode bM_openRound 110 = .ok (.iload_n 3, 1) := by decide +kernel
theorem dM_openRound_111 : decode bM_openRound 111 = .ok (.iaload, 1) := by decide +kernel
theorem dM_openRound_112 : decode bM_openRound 112 = .ok (.istore 5, 2) := by decide +kernel
theorem dM_openRound_114 : decode bM_openRound 114 = .ok (.aload_n 0, 1) := by decide +kernel
theorem dM_openRound_115 : decode bM_openRound 115 = .ok (.getfield 26, 3) := by decide +kernel
theorem dM_openRound_118 : decode bM_openRound 118 = .ok (.iload 4, 2) := by decide +kernel
theorem dM_openRound_120 : decode bM_openRound 120 = .ok (.iaload, 1) := by decide +kernel
theorem dM_openRound_121 : decode bM_openRound 121 = .ok (.istore 6, 2) := by decide +kernel
theorem dM_openRound_123 : decode bM_openRound 123 = .ok (.aload_n 0, 1) := by decide +kernel
theorem dM_openRound_124 : decode bM_openRound 124 = .ok (.iload 5, 2) := by decide +kernel
theorem dM_openRound_126 : decode bM_openRound 126 = .ok (.iload 6, 2) := by decide +kernel
theorem dM_openRound_128 : decode bM_openRound 128 = .ok (.invokevirtual 81, 3) := by decide +kernel
theorem dM_openRound_131 : decode bM_openRound 131 = .ok (.istore 7, 2) := by decide +kernel
theorem dM_openRound_133 : decode bM_openRound 133 = .ok (.aload_n 0, 1) := by decide +kernel
theorem dM_openRound_134 : decode bM_openRound 134 = .ok (.getfield 16, 3) := by decide +kernel
theorem dM_openRound_137 : decode bM_openRound 137 = .ok (.bipush 12, 2) := by decide +kernel
theorem dM_openRound_139 : decode bM_openRound 139 = .ok (.aload_n 0, 1) := by decide +kernel
theorem dM_openRound_140 : decode bM_openRound 140 = .ok (.getfield 63, 3) := by decide +kernel
theorem dM_openRound_143 : decode bM_openRound 143 = .ok (.imul, 1) := by decide +kernel
theorem dM_openRound_144 : decode bM_openRound 144 = .ok (.iload 5, 2) := by decide +kernel
theorem dM_openRound_146 : decode bM_openRound 146 = .ok (.iadd, 1) := by decide +kernel
theorem dM_openRound_147 : decode bM_openRound 147 = .ok (.iload 6, 2) := by decide +kernel
theorem dM_openRound_149 : decode bM_openRound 149 = .ok (.iastore, 1) := by decide +kernel
theorem dM_openRound_150 : decode bM_openRound 150 = .ok (.aload_n 0, 1) := by decide +kernel
theorem dM_openRound_151 : decode bM_openRound 151 = .ok (.getfield 16, 3) := by decide +kernel
theorem dM_openRound_154 : decode bM_openRound 154 = .ok (.bipush 12, 2) := by decide +kernel
theorem dM_openRound_156 : decode bM_openRound 156 = .ok (.aload_n 0, 1) := by decide +kernel
theorem dM_openRound_157 : decode bM_openRound 157 = .ok (.getfield 63, 3) := by decide +kernel
theorem dM_openRound_160 : decode bM_openRound 160 = .ok (.imul, 1) := by decide +kernel
theorem dM_openRound_161 : decode bM_openRound 161 = .ok (.iload 6, 2) := by decide +kernel
theorem dM_openRound_163 : decode bM_openRound 163 = .ok (.iadd, 1) := by decide +kernel
theorem dM_openRound_164 : decode bM_openRound 164 = .ok (.iload 5, 2) := by decide +kernel
theorem dM_openRound_166 : decode bM_openRound 166 = .ok (.iastore, 1) := by decide +kernel
theorem dM_openRound_167 : decode bM_openRound 167 = .ok (.aload_n 0, 1) := by decide +kernel
theorem dM_openRound_168 : decode bM_openRound 168 = .ok (.getfield 20, 3) := by decide +kernel
theorem dM_openRound_171 : decode bM_openRound 171 = .ok (.bipush 12, 2) := by decide +kernel
theorem dM_openRound_173 : decode bM_openRound 173 = .ok (.aload_n 0, 1) := by decide +kernel
theorem dM_openRound_174 : decode bM_openRound 174 = .ok (.getfield 63, 3) := by decide +kernel
theorem dM_openRound_177 : decode bM_openRound 177 = .ok (.imul, 1) := by decide +kernel
theorem dM_openRound_178 : decode bM_openRound 178 = .ok (.iload 5, 2) := by decide +kernel
theorem dM_openRound_180 : decode bM_openRound 180 = .ok (.iadd, 1) := by decide +kernel
theorem dM_openRound_181 : decode bM_openRound 181 = .ok (.iload 7, 2) := by decide +kernel
theorem dM_openRound_183 : decode bM_openRound 183 = .ok (.bastore, 1) := by decide +kernel
theorem dM_openRound_184 : decode bM_openRound 184 = .ok (.aload_n 0, 1) := by decide +kernel
theorem dM_openRound_185 : decode bM_openRound 185 = .ok (.getfield 20, 3) := by decide +kernel
theorem dM_openRound_188 : decode bM_openRound 188 = .ok (.bipush 12, 2) := by decide +kernel
theorem dM_openRound_190 : decode bM_openRound 190 = .ok (.aload_n 0, 1) := by decide +kernel
theorem dM_openRound_191 : decode bM_openRound 191 = .ok (.getfield 63, 3) := by decide +kernel
theorem dM_openRound_194 : decode bM_openRound 194 = .ok (.imul, 1) := by decide +kernel
theorem dM_openRound_195 : decode bM_openRound 195 = .ok (.iload 6, 2) := by decide +kernel
theorem dM_openRound_197 : decode bM_openRound 197 = .ok (.iadd, 1) := by decide +kernel
theorem dM_openRound_198 : decode bM_openRound 198 = .ok (.iload 7, 2) := by decide +kernel
theorem dM_openRound_200 : decode bM_openRound 200 = .ok (.ifCond .ne 7, 3) := by decide +kernel
theorem dM_openRound_203 : decode bM_openRound 203 = .ok (.iconst 1, 1) := by decide +kernel
theorem dM_openRound_204 : decode bM_openRound 204 = .ok (.goto 4, 3) := by decide +kernel
theorem dM_openRound_207 : decode bM_openRound 207 = .ok (.iconst 0, 1) := by decide +kernel
theorem dM_openRound_208 : decode bM_openRound 208 = .ok (.bastore, 1) := by decide +kernel
theorem dM_openRound_209 : decode bM_openRound 209 = .ok (.iload_n 2, 1) := by decide +kernel
theorem dM_openRound_210 : decode bM_openRound 210 = .ok (.iconst 1, 1) := by decide +kernel
theorem dM_openRound_211 : decode bM_openRound 211 = .ok (.iload_n 3, 1) := by decide +kernel
theorem dM_openRound_212 : decode bM_openRound 212 = .ok (.ishl, 1) := by decide +kernel
theorem dM_openRound_213 : decode bM_openRound 213 = .ok (.iconst (-1), 1) := by decide +kernel
theorem dM_openRound_214 : decode bM_openRound 214 = .ok (.ixor, 1) := by decide +kernel
theorem dM_openRound_215 : decode bM_openRound 215 = .ok (.iand, 1) := by decide +kernel
theorem dM_openRound_216 : decode bM_openRound 216 = .ok (.iconst 1, 1) := by decide +kernel
theorem dM_openRound_217 : decode bM_openRound 217 = .ok (.iload 4, 2) := by decide +kernel
theorem dM_openRound_219 : decode bM_openRound 219 = .ok (.ishl, 1) := by decide +kernel
theorem dM_openRound_220 : decode bM_openRound 220 = .ok (.iconst (-1), 1) := by decide +kernel
theorem dM_openRound_221 : decode bM_openRound 221 = .ok (.ixor, 1) := by decide +kernel
theorem dM_openRound_222 : decode bM_openRound 222 = .ok (.iand, 1) := by decide +kernel
theorem dM_openRound_223 : decode bM_openRound 223 = .ok (.istore_n 2, 1) := by decide +kernel
theorem dM_openRound_224 : decode bM_openRound 224 = .ok (.iinc 1 1, 3) := by decide +kernel
theorem dM_openRound_227 : decode bM_openRound 227 = .ok (.iinc 3 1, 3) := by decide +kernel
theorem dM_openRound_230 : decode bM_openRound 230 = .ok (.goto (-149), 3) := by decide +kernel
theorem dM_openRound_233 : decode bM_openRound 233 = .ok (.aload_n 0, 1) := by decide +kernel
theorem dM_openRound_234 : decode bM_openRound 234 = .ok (.iconst 1, 1) := by decide +kernel
theorem dM_openRound_235 : decode bM_openRound 235 = .ok (.putfield 51, 3) := by decide +kernel
theorem dM_openRound_238 : decode bM_openRound 238 = .ok (.iload_n 1, 1) := by decide +kernel
theorem dM_openRound_239 : decode bM_openRound 239 = .ok (.ireturn, 1) := by decide +kernel
theorem dM_opponent_0 : decode bM_opponent 0 = .ok (.aload_n 0, 1) := by decide +kernel
theorem dM_opponent_1 : decode bM_opponent 1 = .ok (.aload_n 0, 1) := by decide +kernel
theorem dM_opponent_2 : decode bM_opponent 2 = .ok (.iload_n 1, 1) := by decide +kernel
theorem dM_opponent_3 : decode bM_opponent 3 = .ok (.invokevirtual 59, 3) := by decide +kernel
theorem dM_opponent_6 : decode bM_opponent 6 = .ok (.ifCond .ne 7, 3) := by decide +kernel
theorem dM_opponent_9 : decode bM_opponent 9 = .ok (.iconst 1, 1) := by decide +kernel
theorem dM_opponent_10 : decode bM_opponent 10 = .ok (.goto 4, 3) := by decide +kernel
theorem dM_opponent_13 : decode bM_opponent 13 = .ok (.iconst 0, 1) := by decide +kernel
theorem dM_opponent_14 : decode bM_opponent 14 = .ok (.aload_n 0, 1) := by decide +kernel
theorem dM_opponent_15 : decode bM_opponent 15 = .ok (.getfield 51, 3) := by decide +kernel
theorem dM_opponent_18 : decode bM_opponent 18 = .ok (.ifCond .ne 7, 3) := by decide +kernel
theorem dM_opponent_21 : decode bM_opponent 21 = .ok (.iconst 1, 1) := by decide +kernel
theorem dM_opponent_22 : decode bM_opponent 22 = .ok (.goto 4, 3) := by decide +kernel
theorem dM_opponent_25 : decode bM_opponent 25 = .ok (.iconst 0, 1) := by decide +kernel
theorem dM_opponent_26 : decode bM_opponent 26 = .ok (.iconst 0, 1) := by decide +kernel
theorem dM_opponent_27 : decode bM_opponent 27 = .ok (.invokevirtual 55, 3) := by decide +kernel
theorem dM_opponent_30 : decode bM_opponent 30 = .ok (.ifCond .eq 7, 3) := by decide +kernel
theorem dM_opponent_33 : decode bM_opponent 33 = .ok (.iconst 0, 1) := by decide +kernel
theorem dM_opponent_34 : decode bM_opponent 34 = .ok (.goto 17, 3) := by decide +kernel
theorem dM_opponent_37 : decode bM_opponent 37 = .ok (.aload_n 0, 1) := by decide +kernel
theorem dM_opponent_38 : decode bM_opponent 38 = .ok (.getfield 16, 3) := by decide +kernel
theorem dM_opponent_41 : decode bM_opponent 41 = .ok (.bipush 12, 2) := by decide +kernel
theorem dM_opponent_43 : decode bM_opponent 43 = .ok (.aload_n 0, 1) := by decide +kernel
theorem dM_opponent_44 : decode bM_opponent 44 = .ok (.getfield 63, 3) := by decide +kernel
theorem dM_opponent_47 : decode bM_opponent 47 = .ok (.imul, 1) := by decide +kernel
theorem dM_opponent_48 : decode bM_opponent 48 = .ok (.iload_n 1, 1) := by decide +kernel
theorem dM_opponent_49 : decode bM_opponent 49 = .ok (.iadd, 1) := by decide +kernel
theorem dM_opponent_50 : decode bM_opponent 50 = .ok (.iaload, 1) := by decide +kernel
theorem dM_opponent_51 : decode bM_opponent 51 = .ok (.ireturn, 1) := by decide +kernel
end
section
theorem dM_pair_0 : decode bM_pair 0 = .ok (.aload_n 0, 1) := by decide +kernel
theorem dM_pair_1 : decode bM_pair 1 = .ok (.getfield 51, 3) := by decide +kernel
theorem dM_pair_4 : decode bM_pair 4 = .ok (.ifCond .ne 12, 3) := by decide +kernel
theorem dM_pair_7 : decode bM_pair 7 = .ok (.aload_n 0, 1) := by decide +kernel
theorem dM_pair_8 : decode bM_pair 8 = .ok (.getfield 63, 3) := by decide +kernel
theorem dM_pair_11 : decode bM_pair 11 = .ok (.bipush 16, 2) := by decide +kernel
theorem dM_pair_13 : decode bM_pair 13 = .ok (.if_icmp .ne 7, 3) := by decide +kernel
theorem dM_pair_16 : decode bM_pair 16 = .ok (.iconst 1, 1) := by decide +kernel
theorem dM_pair_17 : decode bM_pair 17 = .ok (.goto 4, 3) := by decide +kernel
theorem dM_pair_20 : decode bM_pair 20 = .ok (.iconst 0, 1) := by decide +kernel
theorem dM_pair_21 : decode bM_pair 21 = .ok (.istore_n 1, 1) := by decide +kernel
theorem dM_pair_22 : decode bM_pair 22 = .ok (.iload_n 1, 1) := by decide +kernel
theorem dM_pair_23 : decode bM_pair 23 = .ok (.ifCond .ne 14, 3) := by decide +kernel
theorem dM_pair_26 : decode bM_pair 26 = .ok (.aload_n 0, 1) := by decide +kernel
theorem dM_pair_27 : decode bM_pair 27 = .ok (.invokevirtual 119, 3) := by decide +kernel
theorem dM_pair_30 : decode bM_pair 30 = .ok (.ifCond .eq 7, 3) := by decide +kernel
theorem dM_pair_33 : decode bM_pair 33 = .ok (.iconst 1, 1) := by decide +kernel
theorem dM_pair_34 : decode bM_pair 34 = .ok (.goto 4, 3) := by decide +kernel
theorem dM_pair_37 : decode bM_pair 37 = .ok (.iconst 0, 1) := by decide +kernel
theorem dM_pair_38 : decode bM_pair 38 = .ok (.istore_n 2, 1) := by decide +kernel
theorem dM_pair_39 : decode bM_pair 39 = .ok (.aload_n 0, 1) := by decide +kernel
theorem dM_pair_40 : decode bM_pair 40 = .ok (.iload_n 1, 1) := by decide +kernel
theorem dM_pair_41 : decode bM_pair 41 = .ok (.iload_n 2, 1) := by decide +kernel
theorem dM_pair_42 : decode bM_pair 42 = .ok (.ifCond .ne 7, 3) := by decide +kernel
theorem dM_pair_45 : decode bM_pair 45 = .ok (.iconst 1, 1) := by decide +kernel
theorem dM_pair_46 : decode bM_pair 46 = .ok (.goto 4, 3) := by decide +kernel
theorem dM_pair_49 : decode bM_pair 49 = .ok (.iconst 0, 1) := by decide +kernel
theorem dM_pair_50 : decode bM_pair 50 = .ok (.iconst 0, 1) := by decide +kernel
theorem dM_pair_51 : decode bM_pair 51 = .ok (.invokevirtual 55, 3) := by decide +kernel
theorem dM_pair_54 : decode bM_pair 54 = .ok (.ifCond .eq 7, 3) := by decide +kernel
theorem dM_pair_57 : decode bM_pair 57 = .ok (.iconst 0, 1) := by decide +kernel
theorem dM_pair_58 : decode bM_pair 58 = .ok (.goto 7, 3) := by decide +kernel
theorem dM_pair_61 : decode bM_pair 61 = .ok (.aload_n 0, 1) := by decide +kernel
theorem dM_pair_62 : decode bM_pair 62 = .ok (.invokevirtual 123, 3) := by decide +kernel
theorem dM_pair_65 : decode bM_pair 65 = .ok (.ireturn, 1) := by decide +kernel
theorem dM_play_0 : decode bM_play 0 = .ok (.aload_n 0, 1) := by decide +kernel
theorem dM_play_1 : decode bM_play 1 = .ok (.iload_n 1, 1) := by decide +kernel
theorem dM_play_2 : decode bM_play 2 = .ok (.ifCond .lt 9, 3) := by decide +kernel
theorem dM_play_5 : decode bM_play 5 = .ok (.iload_n 1, 1) := by decide +kernel
theorem dM_play_6 : decode bM_play 6 = .ok (.bipush 16, 2) := by decide +kernel
theorem dM_play_8 : decode bM_play 8 = .ok (.if_icmp .le 7, 3) := by decide +kernel
theorem dM_play_11 : decode bM_play 11 = .ok (.iconst 1, 1) := by decide +kernel
theorem dM_play_12 : decode bM_play 12 = .ok (.goto 4, 3) := by decide +kernel
theorem dM_play_15 : decode bM_play 15 = .ok (.iconst 0, 1) := by decide +kernel
theorem dM_play_16 : decode bM_play 16 = .ok (.aload_n 0, 1) := by decide +kernel
theorem dM_play_17 : decode bM_play 17 = .ok (.getfield 51, 3) := by decide +kernel
theorem dM_play_20 : decode bM_play 20 = .ok (.iconst 0, 1) := by decide +kernel
theorem dM_play_21 : decode bM_play 21 = .ok (.invokevirtual 55, 3) := by decide +kernel
theorem dM_play_24 : decode bM_play 24 = .ok (.ifCond .eq 5, 3) := by decide +kernel
theorem dM_play_27 : decode bM_play 27 = .ok (.iconst 0, 1) := by decide +kernel
theorem dM_play_28 : decode bM_play 28 = .ok (.ireturn, 1) := by decide +kernel
theorem dM_play_29 : decode bM_play 29 = .ok (.iconst 0, 1) := by decide +kernel
theorem dM_play_30 : decode bM_play 30 = .ok (.istore_n 2, 1) := by decide +kernel
theorem dM_play_31 : decode bM_play 31 = .ok (.iload_n 2, 1) := by decide +kernel
theorem dM_play_32 : decode bM_play 32 = .ok (.iload_n 1, 1) := by decide +kernel
theorem dM_play_33 : decode bM_play 33 = .ok (.if_icmp .ge 162, 3) := by decide +kernel
theorem dM_play_36 : decode bM_play 36 = .ok (.aload_n 0, 1) := by decide +kernel
theorem dM_play_37 : decode bM_play 37 = .ok (.getfield 63, 3) := by decide +kernel
theorem dM_play_40 : decode bM_play 40 = .ok (.bipush 16, 2) := by decide +kernel
theorem dM_play_42 : decode bM_play 42 = .ok (.if_icmp .ge 153, 3) := by decide +kernel
theorem dM_play_45 : decode bM_play 45 = .ok (.aload_n 0, 1) := by decide +kernel
theorem dM_play_46 : decode bM_play 46 = .ok (.invokevirtual 119, 3) := by decide +kernel
theorem dM_play_49 : decode bM_play 49 = .ok (.ifCond .eq 146, 3) := by decide +kernel
theorem dM_play_52 : decode bM_play 52 = .ok (.aload_n 0, 1) := by decide +kernel
theorem dM_play_53 : decode bM_play 53 = .ok (.invokevirtual 123, 3) := by decide +kernel
theorem dM_play_56 : decode bM_play 56 = .ok (.istore_n 3, 1) := by decide +kernel
theorem dM_play_57 : decode bM_play 57 = .ok (.iconst 0, 1) := by decide +kernel
theorem dM_play_58 : decode bM_play 58 = .ok (.istore 4, 2) := by decide +kernel
theorem dM_play_60 : decode bM_play 60 = .ok (.iload 4, 2) := by decide +kernel
theorem dM_play_62 : decode bM_play 62 = .ok (.aload_n 0, 1) := by decide +kernel
theorem dM_play_63 : decode bM_play 63 = .ok (.getfield 44, 3) := by decide +kernel
theorem dM_play_66 : decode bM_play 66 = .ok (.if_icmp .ge 99, 3) := by decide +kernel
theorem dM_play_69 : decode bM_play 69 = .ok (.aload_n 0, 1) := by decide +kernel
theorem dM_play_70 : decode bM_play 70 = .ok (.getfield 16, 3) := by decide +kernel
theorem dM_play_73 : decode bM_play 73 = .ok (.bipush 12, 2) := by decide +kernel
theorem dM_play_75 : decode bM_play 75 = .ok (.aload_n 0, 1) := by decide +kernel
theorem dM_play_76 : decode bM_play 76 = .ok (.getfield 63, 3) := by decide +kernel
theorem dM_play_79 : decode bM_play 79 = .ok (.imul, 1) := by decide +kernel
theorem dM_play_80 : decode bM_play 80 = .ok (.iload 4, 2) := by decide +kernel
theorem dM_play_82 : decode bM_play 82 = .ok (.iadd, 1) := by decide +kernel
theorem dM_play_83 : decode bM_play 83 = .ok (.iaload, 1) := by decide +kernel
theorem dM_play_84 : decode bM_play 84 = .ok (.istore 5, 2) := by decide +kernel
theorem dM_play_86 : decode bM_play 86 = .ok (.aload_n 0, 1) := by decide +kernel
theorem dM_play_87 : decode bM_play 87 = .ok (.aload_n 0, 1) := by decide +kernel
theorem dM_play_88 : decode bM_play 88 = .ok (.getfield 63, 3) := by decide +kernel
theorem dM_play_91 : decode bM_play 91 = .ok (.iload 4, 2) := by decide +kernel
theorem dM_play_93 : decode bM_play 93 = .ok (.invokevirtual 66, 3) := by decide +kernel
theorem dM_play_96 : decode bM_play 96 = .ok (.ifCond .eq 63, 3) := by decide +kernel
theorem dM_play_99 : decode bM_play 99 = .ok (.iload 4, 2) := by decide +kernel
theorem dM_play_101 : decode bM_play 101 = .ok (.iload 5, 2) := by decide +kernel
theorem dM_play_103 : decode bM_play 103 = .ok (.if_icmp .ge 56, 3) := by decide +kernel
theorem dM_play_106 : decode bM_play 106 = .ok (.iload 4, 2) := by decide +kernel
theorem dM_play_108 : decode bM_play 108 = .ok (.iload 5, 2) := by decide +kernel
theorem dM_play_110 : decode bM_play 110 = .ok (.iadd, 1) := by decide +kernel
theorem dM_play_111 : decode bM_play 111 = .ok (.iconst 3, 1) := by decide +kernel
theorem dM_play_112 : decode bM_play 112 = .ok (.irem, 1) := by decide +kernel
theorem dM_play_113 : decode bM_play 113 = .ok (.ifCond .ne 7, 3) := by decide +kernel
theorem dM_play_116 : decode bM_play 116 = .ok (.iconst 1, 1) := by decide +kernel
theorem dM_play_117 : decode bM_play 117 = .ok (.goto 4, 3) := by decide +kernel
theorem dM_play_120 : decode bM_play 120 = .ok (.iconst 2, 1) := by decide +kernel
theorem dM_play_121 : decode bM_play 121 = .ok (.istore 6, 2) := by decide +kernel
theorem dM_play_123 : decode bM_play 123 = .ok (.aload_n 0, 1) := by decide +kernel
theorem dM_play_124 : decode bM_play 124 = .ok (.getfield 23, 3) := by decide +kernel
theorem dM_play_127 : decode bM_play 127 = .ok (.bipush 12, 2) := by decide +kernel
theorem dM_play_129 : decode bM_play 129 = .ok (.aload_n 0, 1) := by decide +kernel
theorem dM_play_130 : decode bM_play 130 = .ok (.getfield 63, 3) := by decide +kernel
theorem dM_play_133 : decode bM_play 133 = .ok (.imul, 1) := by decide +kernel
theorem dM_play_134 : decode bM_play 134 = .ok (.iload 4, 2) := by decide +kernel
theorem dM_play_136 : decode bM_play 136 = .ok (.iadd, 1) := by decide +kernel
theorem dM_play_137 : decode bM_play 137 = .ok (.iload 6, 2) := by decide +kernel
theorem dM_play_139 : decode bM_play 139 = .ok (.iastore, 1) := by decide +kernel
theorem dM_play_140 : decode bM_play 140 = .ok (.aload_n 0, 1) := by decide +kernel
theorem dM_play_141 : decode bM_play 141 = .ok (.getfield 23, 3) := by decide +kernel
theorem dM_play_144 : decode bM_play 144 = .ok (.bipush 12, 2) := by decide +kernel
theorem dM_play_146 : decode bM_play 146 = .ok (.aload_n 0, 1) := by decide +kernel
theorem dM_play_147 : decode bM_play 147 = .ok (.getfield 63, 3) := by decide +kernel
theorem dM_play_150 : decode bM_play 150 = .ok (.imul, 1) := by decide +kernel
theorem dM_play_151 : decode bM_play 151 = .ok (.iload 5, 2) := by decide +kernel
theorem dM_play_153 : decode bM_play 153 = .ok (.iadd, 1) := by decide +kernel
theorem dM_play_154 : decode bM_play 154 = .ok (.iconst 2, 1) := by decide +kernel
theorem dM_play_155 : decode bM_play 155 = .ok (.iload 6, 2) := by decide +kernel
theorem dM_play_157 : decode bM_play 157 = .ok (.isub, 1) := by decide +kernel
theorem dM_play_158 : decode bM_play 158 = .ok (.iastore, 1) := by decide +kernel
theorem dM_play_159 : decode bM_play 159 = .ok (.iinc 4 1, 3) := by decide +kernel
theorem dM_play_162 : decode bM_play 162 = .ok (.goto (-102), 3) := by decide +kernel
theorem dM_play_165 : decode bM_play 165 = .ok (.aload_n 0, 1) := by decide +kernel
theorem dM_play_166 : decode bM_play 166 = .ok (.iconst 0, 1) := by decide +kernel
theorem dM_play_167 : decode bM_play 167 = .ok (.putfield 51, 3) := by decide +kernel
theorem dM_play_170 : decode bM_play 170 = .ok (.aload_n 0, 1) := by decide +kernel
theorem dM_play_171 : decode bM_play 171 = .ok (.dup, 1) := by decide +kernel
theorem dM_play_172 : decode bM_play 172 = .ok (.getfield 63, 3) := by decide +kernel
theorem dM_play_175 : decode bM_play 175 = .ok (.iconst 1, 1) := by decide +kernel
theorem dM_play_176 : decode bM_play 176 = .ok (.iadd, 1) := by decide +kernel
theorem dM_play_177 : decode bM_play 177 = .ok (.putfield 63, 3) := by decide +kernel
theorem dM_play_180 : decode bM_play 180 = .ok (.iload_n 3, 1) := by decide +kernel
theorem dM_play_181 : decode bM_play 181 = .ok (.ifCond .lt 9, 3) := by decide +kernel
theorem dM_play_184 : decode bM_play 184 = .ok (.iload_n 2, 1) := by decide +kernel
theorem dM_play_185 : decode bM_play 185 = .ok (.iconst 1, 1) := by decide +kernel
theorem dM_play_186 : decode bM_play 186 = .ok (.iadd, 1) := by decide +kernel
theorem dM_play_187 : decode bM_play 187 = .ok (.goto 4, 3) := by decide +kernel
theorem dM_play_190 : decode bM_play 190 = .ok (.iload_n 2, 1) := by decide +kernel
theorem dM_play_191 : decode bM_play 191 = .ok (.istore_n 2, 1) := by decide +kernel
theorem dM_play_192 : decode bM_play 192 = .ok (.goto (-161), 3) := by decide +kernel
theorem dM_play_195 : decode bM_play 195 = .ok (.iload_n 2, 1) := by decide +kernel
theorem dM_play_196 : decode bM_play 196 = .ok (.ireturn, 1) := by decide +kernel
theorem dM_players_0 : decode bM_players 0 = .ok (.aload_n 0, 1) := by decide +kernel
theorem dM_players_1 : decode bM_players 1 = .ok (.iconst 0, 1) := by decide +kernel
theorem dM_players_2 : decode bM_players 2 = .ok (.putfield 48, 3) := by decide +kernel
theorem dM_players_5 : decode bM_players 5 = .ok (.aload_n 0, 1) := by decide +kernel
theorem dM_players_6 : decode bM_players 6 = .ok (.getfield 44, 3) := by decide +kernel
theorem dM_players_9 : decode bM_players 9 = .ok (.ireturn, 1) := by decide +kernel
theorem dM_refused_0 : decode bM_refused 0 = .ok (.aload_n 0, 1) := by decide +kernel
theorem dM_refused_1 : decode bM_refused 1 = .ok (.iload_n 1, 1) := by decide +kernel
theorem dM_refused_2 : decode bM_refused 2 = .ok (.ifCond .eq 7, 3) := by decide +kernel
theorem dM_refused_5 : decode bM_refused 5 = .ok (.iconst 1, 1) := by decide +kernel
theorem dM_refused_6 : decode bM_refused 6 = .ok (.goto 20, 3) := by decide +kernel
theorem dM_refused_9 : decode bM_refused 9 = .ok (.iload_n 2, 1) := by decide +kernel
theorem dM_refused_10 : decode bM_refused 10 = .ok (.ifCond .eq 7, 3) := by decide +kernel
theorem dM_refused_13 : decode bM_refused 13 = .ok (.iconst 2, 1) := by decide +kernel
theorem dM_refused_14 : decode bM_refused 14 = .ok (.goto 12, 3) := by decide +kernel
theorem dM_refused_17 : decode bM_refused 17 = .ok (.iload_n 3, 1) := by decide +kernel
theorem dM_refused_18 : decode bM_refused 18 = .ok (.ifCond .eq 7, 3) := by decide +kernel
theorem dM_refused_21 : decode bM_refused 21 = .ok (.iconst 3, 1) := by decide +kernel
theorem dM_refused_22 : decode bM_refused 22 = .ok (.goto 4, 3) := by decide +kernel
theorem dM_refused_25 : decode bM_refused 25 = .ok (.iconst 0, 1) := by decide +kernel
theorem dM_refused_26 : decode bM_refused 26 = .ok (.putfield 48, 3) := by decide +kernel
theorem dM_refused_29 : decode bM_refused 29 = .ok (.aload_n 0, 1) := by decide +kernel
theorem dM_refused_30 : decode bM_refused 30 = .ok (.getfield 48, 3) := by decide +kernel
theorem dM_refused_33 : decode bM_refused 33 = .ok (.ifCond .le 7, 3) := by decide +kernel
theorem dM_refused_36 : decode bM_refused 36 = .ok (.iconst 1, 1) := by decide +kernel
theorem dM_refused_37 : decode bM_refused 37 = .ok (.goto 4, 3) := by decide +kernel
theorem dM_refused_40 : decode bM_refused 40 = .ok (.iconst 0, 1) := by decide +kernel
theorem dM_refused_41 : decode bM_refused 41 = .ok (.ireturn, 1) := by decide +kernel
theorem dM_report_0 : decode bM_report 0 = .ok (.aload_n 0, 1) := by decide +kernel
theorem dM_report_1 : decode bM_report 1 = .ok (.getfield 51, 3) := by decide +kernel
theorem dM_report_4 : decode bM_report 4 = .ok (.ifCond .eq 44, 3) := by decide +kernel
theorem dM_report_7 : decode bM_report 7 = .ok (.aload_n 0, 1) := by decide +kernel
theorem dM_report_8 : decode bM_report 8 = .ok (.iload_n 1, 1) := by decide +kernel
theorem dM_report_9 : decode bM_report 9 = .ok (.invokevirtual 59, 3) := by decide +kernel
theorem dM_report_12 : decode bM_report 12 = .ok (.ifCond .eq 36, 3) := by decide +kernel
theorem dM_report_15 : decode bM_report 15 = .ok (.aload_n 0, 1) := by decide +kernel
theorem dM_report_16 : decode bM_report 16 = .ok (.aload_n 0, 1) := by decide +kernel
theorem dM_report_17 : decode bM_report 17 = .ok (.getfield 63, 3) := by decide +kernel
theorem dM_report_20 : decode bM_report 20 = .ok (.iload_n 1, 1) := by decide +kernel
theorem dM_report_21 : decode bM_report 21 = .ok (.invokevirtual 66, 3) := by decide +kernel
theorem dM_report_24 : decode bM_report 24 = .ok (.ifCond .eq 24, 3) := by decide +kernel
theorem dM_report_27 : decode bM_report 27 = .ok (.aload_n 0, 1) := by decide +kernel
theorem dM_report_28 : decode bM_report 28 = .ok (.getfield 23, 3) := by decide +kernel
theorem dM_report_31 : decode bM_report 31 = .ok (.bipush 12, 2) := by decide +kernel
theorem dM_report_33 : decode bM_report 33 = .ok (.aload_n 0, 1) := by decide +kernel
theorem dM_report_34 : decode bM_report 34 = .ok (.getfield 63, 3) := by decide +kernel
theorem dM_report_37 : decode bM_report 37 = .ok (.imul, 1) := by decide +kernel
theorem dM_report_38 : decode bM_report 38 = .ok (.iload_n 1, 1) := by decide +kernel
theorem dM_report_39 : decode bM_report 39 = .ok (.iadd, 1) := by decide +kernel
theorem dM_report_40 : decode bM_report 40 = .ok (.iaload, 1) := by decide +kernel
theorem dM_report_41 : decode bM_report 41 = .ok (.ifCond .ge 7, 3) := by decide +kernel
theorem dM_report_44 : decode bM_report 44 = .ok (.iconst 1, 1) := by decide +kernel
theorem dM_report_45 : decode bM_report 45 = .ok (.goto 4, 3) := by decide +kernel
theorem dM_report_48 : decode bM_report 48 = .ok (.iconst 0, 1) := by decide +kernel
theorem dM_report_49 : decode bM_report 49 = .ok (.istore_n 3, 1) := by decide +kernel
theorem dM_report_50 : decode bM_report 50 = .ok (.aload_n 0, 1) := by decide +kernel
theorem dM_report_51 : decode bM_report 51 = .ok (.aload_n 0, 1) := by decide +kernel
theorem dM_report_52 : decode bM_report 52 = .ok (.iload_n 1, 1) := by decide +kernel
theorem dM_report_53 : decode bM_report 53 = .ok (.invokevirtual 59, 3) := by decide +kernel
theorem dM_report_56 : decode bM_report 56 = .ok (.ifCond .ne 7, 3) := by decide +kernel
theorem dM_report_59 : decode bM_report 59 = .ok (.iconst 1, 1) := by decide +kernel
theorem dM_report_60 : decode bM_report 60 = .ok (.goto 4, 3) := by decide +kernel
theorem dM_report_63 : decode bM_report 63 = .ok (.iconst 0, 1) := by decide +kernel
theorem dM_report_64 : decode bM_report 64 = .ok (.iload_n 2, 1) := by decide +kernel
theorem dM_report_65 : decode bM_report 65 = .ok (.ifCond .lt 8, 3) := by decide +kernel
theorem dM_report_68 : decode bM_report 68 = .ok (.iload_n 2, 1) := by decide +kernel
theorem dM_report_69 : decode bM_report 69 = .ok (.iconst 2, 1) := by decide +kernel
theorem dM_report_70 : decode bM_report 70 = .ok (.if_icmp .le 7, 3) := by decide +kernel
theorem dM_report_73 : decode bM_report 73 = .ok (.iconst 1, 1) := by decide +kernel
theorem dM_report_74 : decode bM_report 74 = .ok (.goto 4, 3) := by decide +kernel
theorem dM_report_77 : decode bM_report 77 = .ok (.iconst 0, 1) := by decide +kernel
theorem dM_report_78 : decode bM_report 78 = .ok (.iload_n 3, 1) := by decide +kernel
theorem dM_report_79 : decode bM_report 79 = .ok (.ifCond .ne 7, 3) := by decide +kernel
theorem dM_report_82 : decode bM_report 82 = .ok (.iconst 1, 1) := by decide +kernel
theorem dM_report_83 : decode bM_report 83 = .ok (.goto 4, 3) := by decide +kernel
theorem dM_report_86 : decode bM_report 86 = .ok (.iconst 0, 1) := by decide +kernel
theorem dM_report_87 : decode bM_report 87 = .ok (.invokevirtual 55, 3) := by decide +kernel
theorem dM_report_90 : decode bM_report 90 = .ok (.ifCond .ne 48, 3) := by decide +kernel
theorem dM_report_93 : decode bM_report 93 = .ok (.aload_n 0, 1) := by decide +kernel
theorem dM_report_94 : decode bM_report 94 = .ok (.getfield 23, 3) := by decide +kernel
theorem dM_report_97 : decode bM_report 97 = .ok (.bipush 12, 2) := by decide +kernel
theorem dM_report_99 : decode bM_report 99 = .ok (.aload_n 0, 1) := by decide +kernel
theorem dM_report_100 : decode bM_report 100 = .ok (.getfield 63, 3) := by decide +kernel
theorem dM_report_103 : decode bM_report 103 = .ok (.imul, 1) := by decide +kernel
theorem dM_report_104 : decode bM_report 104 = .ok (.iload_n 1, 1) := by decide +kernel
theorem dM_report_105 : decode bM_report 105 = .ok (.iadd, 1) := by decide +kernel
theorem dM_report_106 : decode bM_report 106 = .ok (.iload_n 2, 1) := by decide +kernel
theorem dM_report_107 : decode bM_report 107 = .ok (.iastore, 1) := by decide +kernel
theorem dM_report_108 : decode bM_report 108 = .ok (.aload_n 0, 1) := by decide +kernel
theorem dM_report_109 : decode bM_report 109 = .ok (.getfield 23, 3) := by decide +kernel
theorem dM_report_112 : decode bM_report 112 = .ok (.bipush 12, 2) := by decide +kernel
theorem dM_report_114 : decode bM_report 114 = .ok (.aload_n 0, 1) := by decide +kernel
theorem dM_report_115 : decode bM_report 115 = .ok (.getfield 63, 3) := by decide +kernel
theorem dM_report_118 : decode bM_report 118 = .ok (.imul, 1) := by decide +kernel
theorem dM_report_119 : decode bM_report 119 = .ok (.aload_n 0, 1) := by decide +kernel
theorem dM_report_120 : decode bM_report 120 = .ok (.getfield 16, 3) := by decide +kernel
theorem dM_report_123 : decode bM_report 123 = .ok (.bipush 12, 2) := by decide +kernel
theorem dM_report_125 : decode bM_report 125 = .ok (.aload_n 0, 1) := by decide +kernel
theorem dM_report_126 : decode bM_report 126 = .ok (.getfield 63, 3) := by decide +kernel
theorem dM_report_129 : decode bM_report 129 = .ok (.imul, 1) := by decide +kernel
theorem dM_report_130 : decode bM_report 130 = .ok (.iload_n 1, 1) := by decide +kernel
theorem dM_report_131 : decode bM_report 131 = .ok (.iadd, 1) := by decide +kernel
theorem dM_report_132 : decode bM_report 132 = .ok (.iaload, 1) := by decide +kernel
theorem dM_report_133 : decode bM_report 133 = .ok (.iadd, 1) := by decide +kernel
theorem dM_report_134 : decode bM_report 134 = .ok (.iconst 2, 1) := by decide +kernel
theorem dM_report_135 : decode bM_report 135 = .ok (.iload_n 2, 1) := by decide +kernel
theorem dM_report_136 : decode bM_report 136 = .ok (.isub, 1) := by decide +kernel
theorem dM_report_137 : decode bM_report 137 = .ok (.iastore, 1) := by decide +kernel
theorem dM_report_138 : decode bM_report 138 = .ok (.return_, 1) := by decide +kernel
theorem dM_rounds_0 : decode bM_rounds 0 = .ok (.aload_n 0, 1) := by decide +kernel
theorem dM_rounds_1 : decode bM_rounds 1 = .ok (.iconst 0, 1) := by decide +kernel
theorem dM_rounds_2 : decode bM_rounds 2 = .ok (.putfield 48, 3) := by decide +kernel
theorem dM_rounds_5 : decode bM_rounds 5 = .ok (.aload_n 0, 1) := by decide +kernel
theorem dM_rounds_6 : decode bM_rounds 6 = .ok (.getfield 63, 3) := by decide +kernel
theorem dM_rounds_9 : decode bM_rounds 9 = .ok (.ireturn, 1) := by decide +kernel
theorem dM_scoreOf_0 : decode bM_scoreOf 0 = .ok (.iconst 0, 1) := by decide +kernel
theorem dM_scoreOf_1 : decode bM_scoreOf 1 = .ok (.istore_n 2, 1) := by decide +kernel
theorem dM_scoreOf_2 : decode bM_scoreOf 2 = .ok (.iconst 0, 1) := by decide +kernel
theorem dM_scoreOf_3 : decode bM_scoreOf 3 = .ok (.istore_n 3, 1) := by decide +kernel
theorem dM_scoreOf_4 : decode bM_scoreOf 4 = .ok (.iload_n 3, 1) := by decide +kernel
theorem dM_scoreOf_5 : decode bM_scoreOf 5 = .ok (.aload_n 0, 1) := by decide +kernel
theorem dM_scoreOf_6 : decode bM_scoreOf 6 = .ok (.getfield 63, 3) := by decide +kernel
theorem dM_scoreOf_9 : decode bM_scoreOf 9 = .ok (.if_icmp .ge 58, 3) := by decide +kernel
theorem dM_scoreOf_12 : decode bM_scoreOf 12 = .ok (.aload_n 0, 1) := by decide +kernel
theorem dM_scoreOf_13 : decode bM_scoreOf 13 = .ok (.getfield 16, 3) := by decide +kernel
theorem dM_scoreOf_16 : decode bM_scoreOf 16 = .ok (.bipush 12, 2) := by decide +kernel
theorem dM_scoreOf_18 : decode bM_scoreOf 18 = .ok (.iload_n 3, 1) := by decide +kernel
theorem dM_scoreOf_19 : decode bM_scoreOf 19 = .ok (.imul, 1) := by decide +kernel
theorem dM_scoreOf_20 : decode bM_scoreOf 20 = .ok (.iload_n 1, 1) := by decide +kernel
theorem dM_scoreOf_21 : decode bM_scoreOf 21 = .ok (.iadd, 1) := by decide +kernel
theorem dM_scoreOf_22 : decode bM_scoreOf 22 = .ok (.iaload, 1) := by decide +kernel
theorem dM_scoreOf_23 : decode bM_scoreOf 23 = .ok (.istore 4, 2) := by decide +kernel
theorem dM_scoreOf_25 : decode bM_scoreOf 25 = .ok (.iload 4, 2) := by decide +kernel
theorem dM_scoreOf_27 : decode bM_scoreOf 27 = .ok (.bipush 12, 2) := by decide +kernel
theorem dM_scoreOf_29 : decode bM_scoreOf 29 = .ok (.if_icmp .ne 9, 3) := by decide +kernel
theorem dM_scoreOf_32 : decode bM_scoreOf 32 = .ok (.iload_n 2, 1) := by decide +kernel
theorem dM_scoreOf_33 : decode bM_scoreOf 33 = .ok (.iconst 2, 1) := by decide +kernel
theorem dM_scoreOf_34 : decode bM_scoreOf 34 = .ok (.iadd, 1) := by decide +kernel
theorem dM_scoreOf_35 : decode bM_scoreOf 35 = .ok (.goto 25, 3) := by decide +kernel
theorem dM_scoreOf_38 : decode bM_scoreOf 38 = .ok (.iload 4, 2) := by decide +kernel
theorem dM_scoreOf_40 : decode bM_scoreOf 40 = .ok (.ifCond .lt 19, 3) := by decide +kernel
theorem dM_scoreOf_43 : decode bM_scoreOf 43 = .ok (.iload_n 2, 1) := by decide +kernel
theorem dM_scoreOf_44 : decode bM_scoreOf 44 = .ok (.aload_n 0, 1) := by decide +kernel
theorem dM_scoreOf_45 : decode bM_scoreOf 45 = .ok (.getfield 23, 3) := by decide +kernel
theorem dM_scoreOf_48 : decode bM_scoreOf 48 = .ok (.bipush 12, 2) := by decide +kernel
theorem dM_scoreOf_50 : decode bM_scoreOf 50 = .ok (.iload_n 3, 1) := by decide +kernel
theorem dM_scoreOf_51 : decode bM_scoreOf 51 = .ok (.imul, 1) := by decide +kernel
theorem dM_scoreOf_52 : decode bM_scoreOf 52 = .ok (.iload_n 1, 1) := by decide +kernel
theorem dM_scoreOf_53 : decode bM_scoreOf 53 = .ok (.iadd, 1) := by decide +kernel
theorem dM_scoreOf_54 : decode bM_scoreOf 54 = .ok (.iaload, 1) := by decide +kernel
theorem dM_scoreOf_55 : decode bM_scoreOf 55 = .ok (.iadd, 1) := by decide +kernel
theorem dM_scoreOf_56 : decode bM_scoreOf 56 = .ok (.goto 4, 3) := by decide +kernel
theorem dM_scoreOf_59 : decode bM_scoreOf 59 = .ok (.iload_n 2, 1) := by decide +kernel
theorem dM_scoreOf_60 : decode bM_scoreOf 60 = .ok (.istore_n 2, 1) := by decide +kernel
theorem dM_scoreOf_61 : decode bM_scoreOf 61 = .ok (.iinc 3 1, 3) := by decide +kernel
theorem dM_scoreOf_64 : decode bM_scoreOf 64 = .ok (.goto (-60), 3) := by decide +kernel
theorem dM_scoreOf_67 : decode bM_scoreOf 67 = .ok (.iload_n 2, 1) := by decide +kernel
theorem dM_scoreOf_68 : decode bM_scoreOf 68 = .ok (.ireturn, 1) := by decide +kernel
theorem dM_table_0 : decode bM_table 0 = .ok (.aload_n 0, 1) := by decide +kernel
theorem dM_table_1 : decode bM_table 1 = .ok (.iload_n 1, 1) := by decide +kernel
theorem dM_table_2 : decode bM_table 2 = .ok (.ifCond .lt 11, 3) := by decide +kernel
theorem dM_table_5 : decode bM_table 5 = .ok (.iload_n 1, 1) := by decide +kernel
theorem dM_table_6 : decode bM_table 6 = .ok (.aload_n 0, 1) := by decide +kernel
theorem dM_table_7 : decode bM_table 7 = .ok (.getfield 44, 3) := by decide +kernel
theorem dM_table_10 : decode bM_table 10 = .ok (.if_icmp .lt 7, 3) := by decide +kernel
theorem dM_table_13 : decode bM_table 13 = .ok (.iconst 1, 1) := by decide +kernel
theorem dM_table_14 : decode bM_table 14 = .ok (.goto 4, 3) := by decide +kernel
theorem dM_table_17 : decode bM_table 17 = .ok (.iconst 0, 1) := by decide +kernel
theorem dM_table_18 : decode bM_table 18 = .ok (.iconst 0, 1) := by decide +kernel
theorem dM_table_19 : decode bM_table 19 = .ok (.iconst 0, 1) := by decide +kernel
theorem dM_table_20 : decode bM_table 20 = .ok (.invokevirtual 55, 3) := by decide +kernel
theorem dM_table_23 : decode bM_table 23 = .ok (.ifCond .eq 5, 3) := by decide +kernel
theorem dM_table_26 : decode bM_table 26 = .ok (.iconst 0, 1) := by decide +kernel
theorem dM_table_27 : decode bM_table 27 = .ok (.ireturn, 1) := by decide +kernel
theorem dM_table_28 : decode bM_table 28 = .ok (.iconst 0, 1) := by decide +kernel
theorem dM_table_29 : decode bM_table 29 = .ok (.istore_n 2, 1) := by decide +kernel
theorem dM_table_30 : decode bM_table 30 = .ok (.iload_n 2, 1) := by decide +kernel
theorem dM_table_31 : decode bM_table 31 = .ok (.aload_n 0, 1) := by decide +kernel
theorem dM_table_32 : decode bM_table 32 = .ok (.getfield 44, 3) := by decide +kernel
theorem dM_table_35 : decode bM_table 35 = .ok (.if_icmp .ge 60, 3) := by decide +kernel
theorem dM_table_38 : decode bM_table 38 = .ok (.iconst 0, 1) := by decide +kernel
theorem dM_table_39 : decode bM_table 39 = .ok (.istore_n 3, 1) := by decide +kernel
theorem dM_table_40 : decode bM_table 40 = .ok (.iconst 0, 1) := by decide +kernel
theorem dM_table_41 : decode bM_table 41 = .ok (.istore 4, 2) := by decide +kernel
theorem dM_table_43 : decode bM_table 43 = .ok (.iload 4, 2) := by decide +kernel
theorem dM_table_45 : decode bM_table 45 = .ok (.aload_n 0, 1) := by decide +kernel
theorem dM_table_46 : decode bM_table 46 = .ok (.getfield 44, 3) := by decide +kernel
theorem dM_table_49 : decode bM_table 49 = .ok (.if_icmp .ge 33, 3) := by decide +kernel
theorem dM_table_52 : decode bM_table 52 = .ok (.iload 4, 2) := by decide +kernel
theorem dM_table_54 : decode bM_table 54 = .ok (.iload_n 2, 1) := by decide +kernel
theorem dM_table_55 : decode bM_table 55 = .ok (.if_icmp .eq 19, 3) := by decide +kernel
theorem dM_table_58 : decode bM_table 58 = .ok (.aload_n 0, 1) := by decide +kernel
theorem dM_table_59 : decode bM_table 59 = .ok (.iload 4, 2) := by decide +kernel
theorem dM_table_61 : decode bM_table 61 = .ok (.iload_n 2, 1) := by decide +kernel
theorem dM_table_62 : decode bM_table 62 = .ok (.invokevirtual 141, 3) := by decide +kernel
theorem dM_table_65 : decode bM_table 65 = .ok (.ifCond .eq 9, 3) := by decide +kernel
theorem dM_table_68 : decode bM_table 68 = .ok (.iload_n 3, 1) := by decide +kernel
theorem dM_table_69 : decode bM_table 69 = .ok (.iconst 1, 1) := by decide +kernel
theorem dM_table_70 : decode bM_table 70 = .ok (.iadd, 1) := by decide +kernel
theorem dM_table_71 : decode bM_table 71 = .ok (.goto 4, 3) := by decide +kernel
theorem dM_table_74 : decode bM_table 74 = .ok (.iload_n 3, 1) := by decide +kernel
theorem dM_table_75 : decode bM_table 75 = .ok (.istore_n 3, 1) := by decide +kernel
theorem dM_table_76 : decode bM_table 76 = .ok (.iinc 4 1, 3) := by decide +kernel
theorem dM_table_79 : decode bM_table 79 = .ok (.goto (-36), 3) := by decide +kernel
theorem dM_table_82 : decode bM_table 82 = .ok (.aload_n 0, 1) := by decide +kernel
theorem dM_table_83 : decode bM_table 83 = .ok (.getfield 41, 3) := by decide +kernel
theorem dM_table_86 : decode bM_table 86 = .ok (.iload_n 3, 1) := by decide +kernel
theorem dM_table_87 : decode bM_table 87 = .ok (.iload_n 2, 1) := by decide +kernel
theorem dM_table_88 : decode bM_table 88 = .ok (.iastore, 1) := by decide +kernel
theorem dM_table_89 : decode bM_table 89 = .ok (.iinc 2 1, 3) := by decide +kernel
theorem dM_table_92 : decode bM_table 92 = .ok (.goto (-62), 3) := by decide +kernel
theorem dM_table_95 : decode bM_table 95 = .ok (.aload_n 0, 1) := by decide +kernel
theorem dM_table_96 : decode bM_table 96 = .ok (.getfield 41, 3) := by decide +kernel
theorem dM_table_99 : decode bM_table 99 = .ok (.iload_n 1, 1) := by decide +kernel
theorem dM_table_100 : decode bM_table 100 = .ok (.iaload, 1) := by decide +kernel
theorem dM_table_101 : decode bM_table 101 = .ok (.ireturn, 1) := by decide +kernel
theorem dM_tell_0 : decode bM_tell 0 = .ok (.aload_n 0, 1) := by decide +kernel
theorem dM_tell_1 : decode bM_tell 1 = .ok (.aload_n 0, 1) := by decide +kernel
theorem dM_tell_2 : decode bM_tell 2 = .ok (.iload_n 1, 1) := by decide +kernel
theorem dM_tell_3 : decode bM_tell 3 = .ok (.invokevirtual 59, 3) := by decide +kernel
theorem dM_tell_6 : decode bM_tell 6 = .ok (.ifCond .eq 13, 3) := by decide +kernel
theorem dM_tell_9 : decode bM_tell 9 = .ok (.iload_n 2, 1) := by decide +kernel
theorem dM_tell_10 : decode bM_tell 10 = .ok (.ifCond .lt 9, 3) := by decide +kernel
theorem dM_tell_13 : decode bM_tell 13 = .ok (.iload_n 2, 1) := by decide +kernel
theorem dM_tell_14 : decode bM_tell 14 = .ok (.bipush 6, 2) := by decide +kernel
theorem dM_tell_16 : decode bM_tell 16 = .ok (.if_icmp .le 7, 3) := by decide +kernel
theorem dM_tell_19 : decode bM_tell 19 = .ok (.iconst 1, 1) := by decide +kernel
theorem dM_tell_20 : decode bM_tell 20 = .ok (.goto 4, 3) := by decide +kernel
theorem dM_tell_23 : decode bM_tell 23 = .ok (.iconst 0, 1) := by decide +kernel
theorem dM_tell_24 : decode bM_tell 24 = .ok (.iconst 0, 1) := by decide +kernel
theorem dM_tell_25 : decode bM_tell 25 = .ok (.iconst 0, 1) := by decide +kernel
theorem dM_tell_26 : decode bM_tell 26 = .ok (.invokevirtual 55, 3) := by decide +kernel
theorem dM_tell_29 : decode bM_tell 29 = .ok (.ifCond .eq 5, 3) := by decide +kernel
theorem dM_tell_32 : decode bM_tell 32 = .ok (.iconst 0, 1) := by decide +kernel
theorem dM_tell_33 : decode bM_tell 33 = .ok (.ireturn, 1) := by decide +kernel
theorem dM_tell_34 : decode bM_tell 34 = .ok (.iload_n 2, 1) := by decide +kernel
theorem dM_tell_35 : decode bM_tell 35 = .ok (.tableswitch 73 0 5 #[37, 43, 49, 55, 61, 67], 37) := by decide +kernel
theorem dM_tell_72 : decode bM_tell 72 = .ok (.aload_n 0, 1) := by decide +kernel
theorem dM_tell_73 : decode bM_tell 73 = .ok (.iload_n 1, 1) := by decide +kernel
theorem dM_tell_74 : decode bM_tell 74 = .ok (.invokevirtual 70, 3) := by decide +kernel
theorem dM_tell_77 : decode bM_tell 77 = .ok (.ireturn, 1) := by decide +kernel
theorem dM_tell_78 : decode bM_tell 78 = .ok (.aload_n 0, 1) := by decide +kernel
theorem dM_tell_79 : decode bM_tell 79 = .ok (.iload_n 1, 1) := by decide +kernel
theorem dM_tell_80 : decode bM_tell 80 = .ok (.invokevirtual 74, 3) := by decide +kernel
theorem dM_tell_83 : decode bM_tell 83 = .ok (.ireturn, 1) := by decide +kernel
theorem dM_tell_84 : decode bM_tell 84 = .ok (.aload_n 0, 1) := by decide +kernel
theorem dM_tell_85 : decode bM_tell 85 = .ok (.iload_n 1, 1) := by decide +kernel
theorem dM_tell_86 : decode bM_tell 86 = .ok (.invokevirtual 129, 3) := by decide +kernel
theorem dM_tell_89 : decode bM_tell 89 = .ok (.ireturn, 1) := by decide +kernel
theorem dM_tell_90 : decode bM_tell 90 = .ok (.aload_n 0, 1) := by decide +kernel
theorem dM_tell_91 : decode bM_tell 91 = .ok (.iload_n 1, 1) := by decide +kernel
theorem dM_tell_92 : decode bM_tell 92 = .ok (.invokevirtual 132, 3) := by decide +kernel
theorem dM_tell_95 : decode bM_tell 95 = .ok (.ireturn, 1) := by decide +kernel
theorem dM_tell_96 : decode bM_tell 96 = .ok (.aload_n 0, 1) := by decide +kernel
theorem dM_tell_97 : decode bM_tell 97 = .ok (.iload_n 1, 1) := by decide +kernel
theorem dM_tell_98 : decode bM_tell 98 = .ok (.invokevirtual 135, 3) := by decide +kernel
theorem dM_tell_101 : decode bM_tell 101 = .ok (.ireturn, 1) := by decide +kernel
theorem dM_tell_102 : decode bM_tell 102 = .ok (.aload_n 0, 1) := by decide +kernel
theorem dM_tell_103 : decode bM_tell 103 = .ok (.iload_n 1, 1) := by decide +kernel
theorem dM_tell_104 : decode bM_tell 104 = .ok (.invokevirtual 87, 3) := by decide +kernel
theorem dM_tell_107 : decode bM_tell 107 = .ok (.ireturn, 1) := by decide +kernel
theorem dM_tell_108 : decode bM_tell 108 = .ok (.aload_n 0, 1) := by decide +kernel
theorem dM_tell_109 : decode bM_tell 109 = .ok (.iload_n 1, 1) := by decide +kernel
theorem dM_tell_110 : decode bM_tell 110 = .ok (.invokevirtual 138, 3) := by decide +kernel
theorem dM_tell_113 : decode bM_tell 113 = .ok (.ireturn, 1) := by decide +kernel
theorem dM_thrown_0 : decode bM_thrown 0 = .ok (.aload_n 0, 1) := by decide +kernel
theorem dM_thrown_1 : decode bM_thrown 1 = .ok (.getfield 48, 3) := by decide +kernel
theorem dM_thrown_4 : decode bM_thrown 4 = .ok (.ireturn, 1) := by decide +kernel
theorem dM_untold_0 : decode bM_untold 0 = .ok (.iconst 0, 1) := by decide +kernel
theorem dM_untold_1 : decode bM_untold 1 = .ok (.istore_n 1, 1) := by decide +kernel
theorem dM_untold_2 : decode bM_untold 2 = .ok (.iconst 0, 1) := by decide +kernel
theorem dM_untold_3 : decode bM_untold 3 = .ok (.istore_n 2, 1) := by decide +kernel
theorem dM_untold_4 : decode bM_untold 4 = .ok (.iload_n 2, 1) := by decide +kernel
theorem dM_untold_5 : decode bM_untold 5 = .ok (.aload_n 0, 1) := by decide +kernel
theorem dM_untold_6 : decode bM_untold 6 = .ok (.getfield 44, 3) := by decide +kernel
theorem dM_untold_9 : decode bM_untold 9 = .ok (.if_icmp .ge 46, 3) := by decide +kernel
theorem dM_untold_12 : decode bM_untold 12 = .ok (.aload_n 0, 1) := by decide +kernel
theorem dM_untold_13 : decode bM_untold 13 = .ok (.aload_n 0, 1) := by decide +kernel
theorem dM_untold_14 : decode bM_untold 14 = .ok (.getfield 63, 3) := by decide +kernel
theorem dM_untold_17 : decode bM_untold 17 = .ok (.iload_n 2, 1) := by decide +kernel
theorem dM_untold_18 : decode bM_untold 18 = .ok (.invokevirtual 66, 3) := by decide +kernel
theorem dM_untold_21 : decode bM_untold 21 = .ok (.ifCond .eq 26, 3) := by decide +kernel
theorem dM_untold_24 : decode bM_untold 24 = .ok (.aload_n 0, 1) := by decide +kernel
theorem dM_untold_25 : decode bM_untold 25 = .ok (.getfield 23, 3) := by decide +kernel
theorem dM_untold_28 : decode bM_untold 28 = .ok (.bipush 12, 2) := by decide +kernel
theorem dM_untold_30 : decode bM_untold 30 = .ok (.aload_n 0, 1) := by decide +kernel
theorem dM_untold_31 : decode bM_untold 31 = .ok (.getfield 63, 3) := by decide +kernel
theorem dM_untold_34 : decode bM_untold 34 = .ok (.imul, 1) := by decide +kernel
theorem dM_untold_35 : decode bM_untold 35 = .ok (.iload_n 2, 1) := by decide +kernel
theorem dM_untold_36 : decode bM_untold 36 = .ok (.iadd, 1) := by decide +kernel
theorem dM_untold_37 : decode bM_untold 37 = .ok (.iaload, 1) := by decide +kernel
theorem dM_untold_38 : decode bM_untold 38 = .ok (.ifCond .ge 9, 3) := by decide +kernel
theorem dM_untold_41 : decode bM_untold 41 = .ok (.iload_n 1, 1) := by decide +kernel
theorem dM_untold_42 : decode bM_untold 42 = .ok (.iconst 1, 1) := by decide +kernel
theorem dM_untold_43 : decode bM_untold 43 = .ok (.iadd, 1) := by decide +kernel
theorem dM_untold_44 : decode bM_untold 44 = .ok (.goto 4, 3) := by decide +kernel
theorem dM_untold_47 : decode bM_untold 47 = .ok (.iload_n 1, 1) := by decide +kernel
theorem dM_untold_48 : decode bM_untold 48 = .ok (.istore_n 1, 1) := by decide +kernel
theorem dM_untold_49 : decode bM_untold 49 = .ok (.iinc 2 1, 3) := by decide +kernel
theorem dM_untold_52 : decode bM_untold 52 = .ok (.goto (-48), 3) := by decide +kernel
theorem dM_untold_55 : decode bM_untold 55 = .ok (.iload_n 1, 1) := by decide +kernel
theorem dM_untold_56 : decode bM_untold 56 = .ok (.iconst 2, 1) := by decide +kernel
theorem dM_untold_57 : decode bM_untold 57 = .ok (.idiv, 1) := by decide +kernel
theorem dM_untold_58 : decode bM_untold 58 = .ok (.ireturn, 1) := by decide +kernel
theorem dM_ways_0 : decode bM_ways 0 = .ok (.aload_n 0, 1) := by decide +kernel
theorem dM_ways_1 : decode bM_ways 1 = .ok (.iconst 0, 1) := by decide +kernel
theorem dM_ways_2 : decode bM_ways 2 = .ok (.putfield 48, 3) := by decide +kernel
theorem dM_ways_5 : decode bM_ways 5 = .ok (.aload_n 0, 1) := by decide +kernel
theorem dM_ways_6 : decode bM_ways 6 = .ok (.invokevirtual 113, 3) := by decide +kernel
theorem dM_ways_9 : decode bM_ways 9 = .ok (.aload_n 0, 1) := by decide +kernel
theorem dM_ways_10 : decode bM_ways 10 = .ok (.getfield 38, 3) := by decide +kernel
theorem dM_ways_13 : decode bM_ways 13 = .ok (.aload_n 0, 1) := by decide +kernel
theorem dM_ways_14 : decode bM_ways 14 = .ok (.invokevirtual 116, 3) := by decide +kernel
theorem dM_ways_17 : decode bM_ways 17 = .ok (.iaload, 1) := by decide +kernel
theorem dM_ways_18 : decode bM_ways 18 = .ok (.ireturn, 1) := by decide +kernel
theorem dM_whole_0 : decode bM_whole 0 = .ok (.iconst 1, 1) := by decide +kernel
theorem dM_whole_1 : decode bM_whole 1 = .ok (.aload_n 0, 1) := by decide +kernel
theorem dM_whole_2 : decode bM_whole 2 = .ok (.getfield 100, 3) := by decide +kernel
theorem dM_whole_5 : decode bM_whole 5 = .ok (.ishl, 1) := by decide +kernel
theorem dM_whole_6 : decode bM_whole 6 = .ok (.iconst 1, 1) := by decide +kernel
theorem dM_whole_7 : decode bM_whole 7 = .ok (.isub, 1) := by decide +kernel
theorem dM_whole_8 : decode bM_whole 8 = .ok (.ireturn, 1) := by decide +kernel
theorem dM_wonOf_0 : decode bM_wonOf 0 = .ok (.iconst 0, 1) := by decide +kernel
theorem dM_wonOf_1 : decode bM_wonOf 1 = .ok (.istore_n 2, 1) := by decide +kernel
theorem dM_wonOf_2 : decode bM_wonOf 2 = .ok (.iconst 0, 1) := by decide +kernel
theorem dM_wonOf_3 : decode bM_wonOf 3 = .ok (.istore_n 3, 1) := by decide +kernel
theorem dM_wonOf_4 : decode bM_wonOf 4 = .ok (.iload_n 3, 1) := by decide +kernel
theorem dM_wonOf_5 : decode bM_wonOf 5 = .ok (.aload_n 0, 1) := by decide +kernel
theorem dM_wonOf_6 : decode bM_wonOf 6 = .ok (.getfield 63, 3) := by decide +kernel
theorem dM_wonOf_9 : decode bM_wonOf 9 = .ok (.if_icmp .ge 41, 3) := by decide +kernel
theorem dM_wonOf_12 : decode bM_wonOf 12 = .ok (.aload_n 0, 1) := by decide +kernel
theorem dM_wonOf_13 : decode bM_wonOf 13 = .ok (.iload_n 3, 1) := by decide +kernel
theorem dM_wonOf_14 : decode bM_wonOf 14 = .ok (.iload_n 1, 1) := by decide +kernel
theorem dM_wonOf_15 : decode bM_wonOf 15 = .ok (.invokevirtual 66, 3) := by decide +kernel
theorem dM_wonOf_18 : decode bM_wonOf 18 = .ok (.ifCond .eq 24, 3) := by decide +kernel
theorem dM_wonOf_21 : decode bM_wonOf 21 = .ok (.aload_n 0, 1) := by decide +kernel
theorem dM_wonOf_22 : decode bM_wonOf 22 = .ok (.getfield 23, 3) := by decide +kernel
theorem dM_wonOf_25 : decode bM_wonOf 25 = .ok (.bipush 12, 2) := by decide +kernel
theorem dM_wonOf_27 : decode bM_wonOf 27 = .ok (.iload_n 3, 1) := by decide +kernel
theorem dM_wonOf_28 : decode bM_wonOf 28 = .ok (.imul, 1) := by decide +kernel
theorem dM_wonOf_29 : decode bM_wonOf 29 = .ok (.iload_n 1, 1) := by decide +kernel
theorem dM_wonOf_30 : decode bM_wonOf 30 = .ok (.iadd, 1) := by decide +kernel
theorem dM_wonOf_31 : decode bM_wonOf 31 = .ok (.iaload, 1) := by decide +kernel
theorem dM_wonOf_32 : decode bM_wonOf 32 = .ok (.iconst 2, 1) := by decide +kernel
theorem dM_wonOf_33 : decode bM_wonOf 33 = .ok (.if_icmp .ne 9, 3) := by decide +kernel
theorem dM_wonOf_36 : decode bM_wonOf 36 = .ok (.iload_n 2, 1) := by decide +kernel
theorem dM_wonOf_37 : decode bM_wonOf 37 = .ok (.iconst 1, 1) := by decide +kernel
theorem dM_wonOf_38 : decode bM_wonOf 38 = .ok (.iadd, 1) := by decide +kernel
theorem dM_wonOf_39 : decode bM_wonOf 39 = .ok (.goto 4, 3) := by decide +kernel
theorem dM_wonOf_42 : decode bM_wonOf 42 = .ok (.iload_n 2, 1) := by decide +kernel
theorem dM_wonOf_43 : decode bM_wonOf 43 = .ok (.istore_n 2, 1) := by decide +kernel
theorem dM_wonOf_44 : decode bM_wonOf 44 = .ok (.iinc 3 1, 3) := by decide +kernel
theorem dM_wonOf_47 : decode bM_wonOf 47 = .ok (.goto (-43), 3) := by decide +kernel
theorem dM_wonOf_50 : decode bM_wonOf 50 = .ok (.iload_n 2, 1) := by decide +kernel
theorem dM_wonOf_51 : decode bM_wonOf 51 = .ok (.ireturn, 1) := by decide +kernel
theorem dM_work_0 : decode bM_work 0 = .ok (.aload_n 0, 1) := by decide +kernel
theorem dM_work_1 : decode bM_work 1 = .ok (.invokevirtual 110, 3) := by decide +kernel
theorem dM_work_4 : decode bM_work 4 = .ok (.aload_n 0, 1) := by decide +kernel
theorem dM_work_5 : decode bM_work 5 = .ok (.getfield 32, 3) := by decide +kernel
theorem dM_work_8 : decode bM_work 8 = .ok (.iconst 0, 1) := by decide +kernel
theorem dM_work_9 : decode bM_work 9 = .ok (.iconst 0, 1) := by decide +kernel
theorem dM_work_10 : decode bM_work 10 = .ok (.iastore, 1) := by decide +kernel
theorem dM_work_11 : decode bM_work 11 = .ok (.aload_n 0, 1) := by decide +kernel
theorem dM_work_12 : decode bM_work 12 = .ok (.getfield 38, 3) := by decide +kernel
theorem dM_work_15 : decode bM_work 15 = .ok (.iconst 0, 1) := by decide +kernel
theorem dM_work_16 : decode bM_work 16 = .ok (.iconst 1, 1) := by decide +kernel
theorem dM_work_17 : decode bM_work 17 = .ok (.iastore, 1) := by decide +kernel
theorem dM_work_18 : decode bM_work 18 = .ok (.iconst 1, 1) := by decide +kernel
theorem dM_work_19 : decode bM_work 19 = .ok (.istore_n 1, 1) := by decide +kernel
theorem dM_work_20 : decode bM_work 20 = .ok (.iload_n 1, 1) := by decide +kernel
theorem dM_work_21 : decode bM_work 21 = .ok (.iconst 1, 1) := by decide +kernel
theorem dM_work_22 : decode bM_work 22 = .ok (.aload_n 0, 1) := by decide +kernel
theorem dM_work_23 : decode bM_work 23 = .ok (.getfield 100, 3) := by decide +kernel
theorem dM_work_26 : decode bM_work 26 = .ok (.ishl, 1) := by decide +kernel
theorem dM_work_27 : decode bM_work 27 = .ok (.if_icmp .ge 201, 3) := by decide +kernel
theorem dM_work_30 : decode bM_work 30 = .ok (.iconst 0, 1) := by decide +kernel
theorem dM_work_31 : decode bM_work 31 = .ok (.istore_n 2, 1) := by decide +kernel
theorem dM_work_32 : decode bM_work 32 = .ok (.iload_n 1, 1) := by decide +kernel
theorem dM_work_33 : decode bM_work 33 = .ok (.iload_n 2, 1) := by decide +kernel
theorem dM_work_34 : decode bM_work 34 = .ok (.ishr, 1) := by decide +kernel
theorem dM_work_35 : decode bM_work 35 = .ok (.iconst 1, 1) := by decide +kernel
theorem dM_work_36 : decode bM_work 36 = .ok (.iand, 1) := by decide +kernel
theorem dM_work_37 : decode bM_work 37 = .ok (.ifCond .ne 9, 3) := by decide +kernel
theorem dM_work_40 : decode bM_work 40 = .ok (.iinc 2 1, 3) := by decide +kernel
theorem dM_work_43 : decode bM_work 43 = .ok (.goto (-11), 3) := by decide +kernel
theorem dM_work_46 : decode bM_work 46 = .ok (.aload_n 0, 1) := by decide +kernel
theorem dM_work_47 : decode bM_work 47 = .ok (.getfield 32, 3) := by decide +kernel
theorem dM_work_50 : decode bM_work 50 = .ok (.iload_n 1, 1) := by decide +kernel
theorem dM_work_51 : decode bM_work 51 = .ok (.ldc 109, 2) := by decide +kernel
theorem dM_work_53 : decode bM_work 53 = .ok (.iastore, 1) := by decide +kernel
theorem dM_work_54 : decode bM_work 54 = .ok (.aload_n 0, 1) := by decide +kernel
theorem dM_work_55 : decode bM_work 55 = .ok (.getfield 35, 3) := by decide +kernel
theorem dM_work_58 : decode bM_work 58 = .ok (.iload_n 1, 1) := by decide +kernel
theorem dM_work_59 : decode bM_work 59 = .ok (.iconst (-1), 1) := by decide +kernel
theorem dM_work_60 : decode bM_work 60 = .ok (.iastore, 1) := by decide +kernel
theorem dM_work_61 : decode bM_work 61 = .ok (.aload_n 0, 1) := by decide +kernel
theorem dM_work_62 : decode bM_work 62 = .ok (.getfield 38, 3) := by decide +kernel
theorem dM_work_65 : decode bM_work 65 = .ok (.iload_n 1, 1) := by decide +kernel
theorem dM_work_66 : decode bM_work 66 = .ok (.iconst 0, 1) := by decide +kernel
theorem dM_work_67 : decode bM_work 67 = .ok (.iastore, 1) := by decide +kernel
theorem dM_work_68 : decode bM_work 68 = .ok (.iload_n 2, 1) := by decide +kernel
theorem dM_work_69 : decode bM_work 69 = .ok (.iconst 1, 1) := by decide +kernel
theorem dM_work_70 : decode bM_work 70 = .ok (.iadd, 1) := by decide +kernel
theorem dM_work_71 : decode bM_work 71 = .ok (.istore_n 3, 1) := by decide +kernel
theorem dM_work_72 : decode bM_work 72 = .ok (.iload_n 3, 1) := by decide +kernel
theorem dM_work_73 : decode bM_work 73 = .ok (.aload_n 0, 1) := by decide +kernel
theorem dM_work_74 : decode bM_work 74 = .ok (.getfield 100, 3) := by decide +kernel
theorem dM_work_77 : decode bM_work 77 = .ok (.if_icmp .ge 145, 3) := by decide +kernel
theorem dM_work_80 : decode bM_work 80 = .ok (.iload_n 1, 1) := by decide +kernel
theorem dM_work_81 : decode bM_work 81 = .ok (.iconst 1, 1) := by decide +kernel
theorem dM_work_82 : decode bM_work 82 = .ok (.iload_n 2, 1) := by decide +kernel
theorem dM_work_83 : decode bM_work 83 = .ok (.ishl, 1) := by decide +kernel
theorem dM_work_84 : decode bM_work 84 = .ok (.iconst (-1), 1) := by decide +kernel
theorem dM_work_85 : decode bM_work 85 = .ok (.ixor, 1) := by decide +kernel
theorem dM_work_86 : decode bM_work 86 = .ok (.iand, 1) := by decide +kernel
theorem dM_work_87 : decode bM_work 87 = .ok (.iconst 1, 1) := by decide +kernel
theorem dM_work_88 : decode bM_work 88 = .ok (.iload_n 3, 1) := by decide +kernel
theorem dM_work_89 : decode bM_work 89 = .ok (.ishl, 1) := by decide +kernel
theorem dM_work_90 : decode bM_work 90 = .ok (.iconst (-1), 1) := by decide +kernel
theorem dM_work_91 : decode bM_work 91 = .ok (.ixor, 1) := by decide +kernel
theorem dM_work_92 : decode bM_work 92 = .ok (.iand, 1) := by decide +kernel
theorem dM_work_93 : decode bM_work 93 = .ok (.istore 4, 2) := by decide +kernel
theorem dM_work_95 : decode bM_work 95 = .ok (.iload_n 1, 1) := by decide +kernel
theorem dM_work_96 : decode bM_work 96 = .ok (.iload_n 3, 1) := by decide +kernel
theorem dM_work_97 : decode bM_work 97 = .ok (.ishr, 1) := by decide +kernel
theorem dM_work_98 : decode bM_work 98 = .ok (.iconst 1, 1) := by decide +kernel
theorem dM_work_99 : decode bM_work 99 = .ok (.iand, 1) := by decide +kernel
theorem dM_work_100 : decode bM_work 100 = .ok (.iconst 1, 1) := by decide +kernel
theorem dM_work_101 : decode bM_work 101 = .ok (.if_icmp .ne 115, 3) := by decide +kernel
theorem dM_work_104 : decode bM_work 104 = .ok (.aload_n 0, 1) := by decide +kernel
theorem dM_work_105 : decode bM_work 105 = .ok (.getfield 29, 3) := by decide +kernel
theorem dM_work_108 : decode bM_work 108 = .ok (.bipush 12, 2) := by decide +kernel
theorem dM_work_110 : decode bM_work 110 = .ok (.iload_n 2, 1) := by decide +kernel
theorem dM_work_111 : decode bM_work 111 = .ok (.imul, 1) := by decide +kernel
theorem dM_work_112 : decode bM_work 112 = .ok (.iload_n 3, 1) := by decide +kernel
theorem dM_work_113 : decode bM_work 113 = .ok (.iadd, 1) := by decide +kernel
theorem dM_work_114 : decode bM_work 114 = .ok (.iaload, 1) := by decide +kernel
theorem dM_work_115 : decode bM_work 115 = .ok (.ldc 109, 2) := by decide +kernel
theorem dM_work_117 : decode bM_work 117 = .ok (.if_icmp .ge 99, 3) := by decide +kernel
theorem dM_work_120 : decode bM_work 120 = .ok (.aload_n 0, 1) := by decide +kernel
theorem dM_work_121 : decode bM_work 121 = .ok (.getfield 29, 3) := by decide +kernel
theorem dM_work_124 : decode bM_work 124 = .ok (.bipush 12, 2) := by decide +kernel
theorem dM_work_126 : decode bM_work 126 = .ok (.iload_n 2, 1) := by decide +kernel
theorem dM_work_127 : decode bM_work 127 = .ok (.imul, 1) := by decide +kernel
theorem dM_work_128 : decode bM_work 128 = .ok (.iload_n 3, 1) := by decide +kernel
theorem dM_work_129 : decode bM_work 129 = .ok (.iadd, 1) := by decide +kernel
theorem dM_work_130 : decode bM_work 130 = .ok (.iaload, 1) := by decide +kernel
theorem dM_work_131 : decode bM_work 131 = .ok (.aload_n 0, 1) := by decide +kernel
theorem dM_work_132 : decode bM_work 132 = .ok (.getfield 32, 3) := by decide +kernel
theorem dM_work_135 : decode bM_work 135 = .ok (.iload 4, 2) := by decide +kernel
theorem dM_work_137 : decode bM_work 137 = .ok (.iaload, 1) := by decide +kernel
theorem dM_work_138 : decode bM_work 138 = .ok (.iadd, 1) := by decide +kernel
theorem dM_work_139 : decode bM_work 139 = .ok (.istore 5, 2) := by decide +kernel
theorem dM_work_141 : decode bM_work 141 = .ok (.aload_n 0, 1) := by decide +kernel
theorem dM_work_142 : decode bM_work 142 = .ok (.getfield 35, 3) := by decide +kernel
theorem dM_work_145 : decode bM_work 145 = .ok (.iload_n 1, 1) := by decide +kernel
theorem dM_work_146 : decode bM_work 146 = .ok (.iload 5, 2) := by decide +kernel
theorem dM_work_148 : decode bM_work 148 = .ok (.aload_n 0, 1) := by decide +kernel
theorem dM_work_149 : decode bM_work 149 = .ok (.getfield 32, 3) := by decide +kernel
theorem dM_work_152 : decode bM_work 152 = .ok (.iload_n 1, 1) := by decide +kernel
theorem dM_work_153 : decode bM_work 153 = .ok (.iaload, 1) := by decide +kernel
theorem dM_work_154 : decode bM_work 154 = .ok (.if_icmp .ge 7, 3) := by decide +kernel
theorem dM_work_157 : decode bM_work 157 = .ok (.iload_n 3, 1) := by decide +kernel
theorem dM_work_158 : decode bM_work 158 = .ok (.goto 9, 3) := by decide +kernel
theorem dM_work_161 : decode bM_work 161 = .ok (.aload_n 0, 1) := by decide +kernel
theorem dM_work_162 : decode bM_work 162 = .ok (.getfield 35, 3) := by decide +kernel
theorem dM_work_165 : decode bM_work 165 = .ok (.iload_n 1, 1) := by decide +kernel
theorem dM_work_166 : decode bM_work 166 = .ok (.iaload, 1) := by decide +kernel
theorem dM_work_167 : decode bM_work 167 = .ok (.iastore, 1) := by decide +kernel
theorem dM_work_168 : decode bM_work 168 = .ok (.aload_n 0, 1) := by decide +kernel
theorem dM_work_169 : decode bM_work 169 = .ok (.getfield 32, 3) := by decide +kernel
theorem dM_work_172 : decode bM_work 172 = .ok (.iload_n 1, 1) := by decide +kernel
theorem dM_work_173 : decode bM_work 173 = .ok (.iload 5, 2) := by decide +kernel
theorem dM_work_175 : decode bM_work 175 = .ok (.aload_n 0, 1) := by decide +kernel
theorem dM_work_176 : decode bM_work 176 = .ok (.getfield 32, 3) := by decide +kernel
theorem dM_work_179 : decode bM_work 179 = .ok (.iload_n 1, 1) := by decide +kernel
theorem dM_work_180 : decode bM_work 180 = .ok (.iaload, 1) := by decide +kernel
theorem dM_work_181 : decode bM_work 181 = .ok (.if_icmp .ge 8, 3) := by decide +kernel
theorem dM_work_184 : decode bM_work 184 = .ok (.iload 5, 2) := by decide +kernel
theorem dM_work_186 : decode bM_work 186 = .ok (.goto 9, 3) := by decide +kernel
theorem dM_work_189 : decode bM_work 189 = .ok (.aload_n 0, 1) := by decide +kernel
theorem dM_work_190 : decode bM_work 190 = .ok (.getfield 32, 3) := by decide +kernel
theorem dM_work_193 : decode bM_work 193 = .ok (.iload_n 1, 1) := by decide +kernel
theorem dM_work_194 : decode bM_work 194 = .ok (.iaload, 1) := by decide +kernel
theorem dM_work_195 : decode bM_work 195 = .ok (.iastore, 1) := by decide +kernel
theorem dM_work_196 : decode bM_work 196 = .ok (.aload_n 0, 1) := by decide +kernel
theorem dM_work_197 : decode bM_work 197 = .ok (.getfield 38, 3) := by decide +kernel
theorem dM_work_200 : decode bM_work 200 = .ok (.iload_n 1, 1) := by decide +kernel
theorem dM_work_201 : decode bM_work 201 = .ok (.aload_n 0, 1) := by decide +kernel
theorem dM_work_202 : decode bM_work 202 = .ok (.getfield 38, 3) := by decide +kernel
theorem dM_work_205 : decode bM_work 205 = .ok (.iload_n 1, 1) := by decide +kernel
theorem dM_work_206 : decode bM_work 206 = .ok (.iaload, 1) := by decide +kernel
theorem dM_work_207 : decode bM_work 207 = .ok (.aload_n 0, 1) := by decide +kernel
theorem dM_work_208 : decode bM_work 208 = .ok (.getfield 38, 3) := by decide +kernel
theorem dM_work_211 : decode bM_work 211 = .ok (.iload 4, 2) := by decide +kernel
theorem dM_work_213 : decode bM_work 213 = .ok (.iaload, 1) := by decide +kernel
theorem dM_work_214 : decode bM_work 214 = .ok (.iadd, 1) := by decide +kernel
theorem dM_work_215 : decode bM_work 215 = .ok (.iastore, 1) := by decide +kernel
theorem dM_work_216 : decode bM_work 216 = .ok (.iinc 3 1, 3) := by decide +kernel
theorem dM_work_219 : decode bM_work 219 = .ok (.goto (-147), 3) := by decide +kernel
theorem dM_work_222 : decode bM_work 222 = .ok (.iinc 1 1, 3) := by decide +kernel
theorem dM_work_225 : decode bM_work 225 = .ok (.goto (-205), 3) := by decide +kernel
theorem dM_work_228 : decode bM_work 228 = .ok (.return_, 1) := by decide +kernel
end
section
theorem dL_apart_0 : decode bL_apart 0 = .ok (.aload 4, 2) := by decide +kernel
theorem dL_apart_2 : decode bL_apart 2 = .ok (.iconst 0, 1) := by decide +kernel
theorem dL_apart_3 : decode bL_apart 3 = .ok (.aload_n 0, 1) := by decide +kernel
theorem dL_apart_4 : decode bL_apart 4 = .ok (.iload_n 1, 1) := by decide +kernel
theorem dL_apart_5 : decode bL_apart 5 = .ok (.iload_n 2, 1) := by decide +kernel
theorem dL_apart_6 : decode bL_apart 6 = .ok (.iload_n 3, 1) := by decide +kernel
theorem dL_apart_7 : decode bL_apart 7 = .ok (.invokevirtual 23, 3) := by decide +kernel
theorem dL_apart_10 : decode bL_apart 10 = .ok (.ifCond .eq 7, 3) := by decide +kernel
theorem dL_apart_13 : decode bL_apart 13 = .ok (.lconst 1, 1) := by decide +kernel
theorem dL_apart_14 : decode bL_apart 14 = .ok (.goto 4, 3) := by decide +kernel
theorem dL_apart_17 : decode bL_apart 17 = .ok (.lconst 0, 1) := by decide +kernel
theorem dL_apart_18 : decode bL_apart 18 = .ok (.lastore, 1) := by decide +kernel
theorem dL_apart_19 : decode bL_apart 19 = .ok (.goto 15, 3) := by decide +kernel
theorem dL_apart_22 : decode bL_apart 22 = .ok (.astore 5, 2) := by decide +kernel
theorem dL_apart_24 : decode bL_apart 24 = .ok (.iconst 1, 1) := by decide +kernel
theorem dL_apart_25 : decode bL_apart 25 = .ok (.ireturn, 1) := by decide +kernel
theorem dL_apart_26 : decode bL_apart 26 = .ok (.astore 5, 2) := by decide +kernel
theorem dL_apart_28 : decode bL_apart 28 = .ok (.iconst 2, 1) := by decide +kernel
theorem dL_apart_29 : decode bL_apart 29 = .ok (.ireturn, 1) := by decide +kernel
theorem dL_apart_30 : decode bL_apart 30 = .ok (.astore 5, 2) := by decide +kernel
theorem dL_apart_32 : decode bL_apart 32 = .ok (.iconst 3, 1) := by decide +kernel
theorem dL_apart_33 : decode bL_apart 33 = .ok (.ireturn, 1) := by decide +kernel
theorem dL_apart_34 : decode bL_apart 34 = .ok (.iconst 0, 1) := by decide +kernel
theorem dL_apart_35 : decode bL_apart 35 = .ok (.ireturn, 1) := by decide +kernel
theorem dL_back_0 : decode bL_back 0 = .ok (.aload_n 1, 1) := by decide +kernel
theorem dL_back_1 : decode bL_back 1 = .ok (.iconst 0, 1) := by decide +kernel
theorem dL_back_2 : decode bL_back 2 = .ok (.aload_n 0, 1) := by decide +kernel
theorem dL_back_3 : decode bL_back 3 = .ok (.invokevirtual 53, 3) := by decide +kernel
theorem dL_back_6 : decode bL_back 6 = .ok (.i2l, 1) := by decide +kernel
theorem dL_back_7 : decode bL_back 7 = .ok (.lastore, 1) := by decide +kernel
theorem dL_back_8 : decode bL_back 8 = .ok (.goto 6, 3) := by decide +kernel
theorem dL_back_11 : decode bL_back 11 = .ok (.astore_n 2, 1) := by decide +kernel
theorem dL_back_12 : decode bL_back 12 = .ok (.iconst 1, 1) := by decide +kernel
theorem dL_back_13 : decode bL_back 13 = .ok (.ireturn, 1) := by decide +kernel
theorem dL_back_14 : decode bL_back 14 = .ok (.iconst 0, 1) := by decide +kernel
theorem dL_back_15 : decode bL_back 15 = .ok (.ireturn, 1) := by decide +kernel
theorem dL_cell_0 : decode bL_cell 0 = .ok (.iload_n 1, 1) := by decide +kernel
theorem dL_cell_1 : decode bL_cell 1 = .ok (.aload_n 0, 1) := by decide +kernel
theorem dL_cell_2 : decode bL_cell 2 = .ok (.arraylength, 1) := by decide +kernel
theorem dL_cell_3 : decode bL_cell 3 = .ok (.if_icmp .ge 9, 3) := by decide +kernel
theorem dL_cell_6 : decode bL_cell 6 = .ok (.aload_n 0, 1) := by decide +kernel
theorem dL_cell_7 : decode bL_cell 7 = .ok (.iload_n 1, 1) := by decide +kernel
theorem dL_cell_8 : decode bL_cell 8 = .ok (.iaload, 1) := by decide +kernel
theorem dL_cell_9 : decode bL_cell 9 = .ok (.goto 4, 3) := by decide +kernel
theorem dL_cell_12 : decode bL_cell 12 = .ok (.iconst 0, 1) := by decide +kernel
theorem dL_cell_13 : decode bL_cell 13 = .ok (.ireturn, 1) := by decide +kernel
theorem dL_close_0 : decode bL_close 0 = .ok (.aload_n 1, 1) := by decide +kernel
theorem dL_close_1 : decode bL_close 1 = .ok (.iconst 0, 1) := by decide +kernel
theorem dL_close_2 : decode bL_close 2 = .ok (.aload_n 0, 1) := by decide +kernel
theorem dL_close_3 : decode bL_close 3 = .ok (.invokevirtual 50, 3) := by decide +kernel
theorem dL_close_6 : decode bL_close 6 = .ok (.i2l, 1) := by decide +kernel
theorem dL_close_7 : decode bL_close 7 = .ok (.lastore, 1) := by decide +kernel
theorem dL_close_8 : decode bL_close 8 = .ok (.goto 6, 3) := by decide +kernel
theorem dL_close_11 : decode bL_close 11 = .ok (.astore_n 2, 1) := by decide +kernel
theorem dL_close_12 : decode bL_close 12 = .ok (.iconst 1, 1) := by decide +kernel
theorem dL_close_13 : decode bL_close 13 = .ok (.ireturn, 1) := by decide +kernel
theorem dL_close_14 : decode bL_close 14 = .ok (.iconst 0, 1) := by decide +kernel
theorem dL_close_15 : decode bL_close 15 = .ok (.ireturn, 1) := by decide +kernel
theorem dL_cost_0 : decode bL_cost 0 = .ok (.aload_n 1, 1) := by decide +kernel
theorem dL_cost_1 : decode bL_cost 1 = .ok (.iconst 0, 1) := by decide +kernel
theorem dL_cost_2 : decode bL_cost 2 = .ok (.aload_n 0, 1) := by decide +kernel
theorem dL_cost_3 : decode bL_cost 3 = .ok (.invokevirtual 32, 3) := by decide +kernel
theorem dL_cost_6 : decode bL_cost 6 = .ok (.i2l, 1) := by decide +kernel
theorem dL_cost_7 : decode bL_cost 7 = .ok (.lastore, 1) := by decide +kernel
theorem dL_cost_8 : decode bL_cost 8 = .ok (.goto 6, 3) := by decide +kernel
theorem dL_cost_11 : decode bL_cost 11 = .ok (.astore_n 2, 1) := by decide +kernel
theorem dL_cost_12 : decode bL_cost 12 = .ok (.iconst 1, 1) := by decide +kernel
theorem dL_cost_13 : decode bL_cost 13 = .ok (.ireturn, 1) := by decide +kernel
theorem dL_cost_14 : decode bL_cost 14 = .ok (.iconst 0, 1) := by decide +kernel
theorem dL_cost_15 : decode bL_cost 15 = .ok (.ireturn, 1) := by decide +kernel
theorem dL_enter_0 : decode bL_enter 0 = .ok (.aload_n 1, 1) := by decide +kernel
theorem dL_enter_1 : decode bL_enter 1 = .ok (.iconst 0, 1) := by decide +kernel
theorem dL_enter_2 : decode bL_enter 2 = .ok (.aload_n 0, 1) := by decide +kernel
theorem dL_enter_3 : decode bL_enter 3 = .ok (.invokevirtual 7, 3) := by decide +kernel
theorem dL_enter_6 : decode bL_enter 6 = .ok (.i2l, 1) := by decide +kernel
theorem dL_enter_7 : decode bL_enter 7 = .ok (.lastore, 1) := by decide +kernel
theorem dL_enter_8 : decode bL_enter 8 = .ok (.goto 6, 3) := by decide +kernel
theorem dL_enter_11 : decode bL_enter 11 = .ok (.astore_n 2, 1) := by decide +kernel
theorem dL_enter_12 : decode bL_enter 12 = .ok (.iconst 1, 1) := by decide +kernel
theorem dL_enter_13 : decode bL_enter 13 = .ok (.ireturn, 1) := by decide +kernel
theorem dL_enter_14 : decode bL_enter 14 = .ok (.iconst 0, 1) := by decide +kernel
theorem dL_enter_15 : decode bL_enter 15 = .ok (.ireturn, 1) := by decide +kernel
theorem dL_had_0 : decode bL_had 0 = .ok (.aload_n 3, 1) := by decide +kernel
theorem dL_had_1 : decode bL_had 1 = .ok (.iconst 0, 1) := by decide +kernel
theorem dL_had_2 : decode bL_had 2 = .ok (.aload_n 0, 1) := by decide +kernel
theorem dL_had_3 : decode bL_had 3 = .ok (.iload_n 1, 1) := by decide +kernel
theorem dL_had_4 : decode bL_had 4 = .ok (.iload_n 2, 1) := by decide +kernel
theorem dL_had_5 : decode bL_had 5 = .ok (.invokevirtual 63, 3) := by decide +kernel
theorem dL_had_8 : decode bL_had 8 = .ok (.i2l, 1) := by decide +kernel
theorem dL_had_9 : decode bL_had 9 = .ok (.lastore, 1) := by decide +kernel
theorem dL_had_10 : decode bL_had 10 = .ok (.goto 7, 3) := by decide +kernel
theorem dL_had_13 : decode bL_had 13 = .ok (.astore 4, 2) := by decide +kernel
theorem dL_had_15 : decode bL_had 15 = .ok (.iconst 1, 1) := by decide +kernel
theorem dL_had_16 : decode bL_had 16 = .ok (.ireturn, 1) := by decide +kernel
theorem dL_had_17 : decode bL_had 17 = .ok (.iconst 0, 1) := by decide +kernel
theorem dL_had_18 : decode bL_had 18 = .ok (.ireturn, 1) := by decide +kernel
theorem dL_isWhite_0 : decode bL_isWhite 0 = .ok (.aload_n 2, 1) := by decide +kernel
theorem dL_isWhite_1 : decode bL_isWhite 1 = .ok (.iconst 0, 1) := by decide +kernel
theorem dL_isWhite_2 : decode bL_isWhite 2 = .ok (.aload_n 0, 1) := by decide +kernel
theorem dL_isWhite_3 : decode bL_isWhite 3 = .ok (.iload_n 1, 1) := by decide +kernel
theorem dL_isWhite_4 : decode bL_isWhite 4 = .ok (.invokevirtual 39, 3) := by decide +kernel
theorem dL_isWhite_7 : decode bL_isWhite 7 = .ok (.ifCond .eq 7, 3) := by decide +kernel
theorem dL_isWhite_10 : decode bL_isWhite 10 = .ok (.lconst 1, 1) := by decide +kernel
theorem dL_isWhite_11 : decode bL_isWhite 11 = .ok (.goto 4, 3) := by decide +kernel
theorem dL_isWhite_14 : decode bL_isWhite 14 = .ok (.lconst 0, 1) := by decide +kernel
theorem dL_isWhite_15 : decode bL_isWhite 15 = .ok (.lastore, 1) := by decide +kernel
theorem dL_isWhite_16 : decode bL_isWhite 16 = .ok (.goto 9, 3) := by decide +kernel
theorem dL_isWhite_19 : decode bL_isWhite 19 = .ok (.astore_n 3, 1) := by decide +kernel
theorem dL_isWhite_20 : decode bL_isWhite 20 = .ok (.iconst 1, 1) := by decide +kernel
theorem dL_isWhite_21 : decode bL_isWhite 21 = .ok (.ireturn, 1) := by decide +kernel
theorem dL_isWhite_22 : decode bL_isWhite 22 = .ok (.astore_n 3, 1) := by decide +kernel
theorem dL_isWhite_23 : decode bL_isWhite 23 = .ok (.iconst 2, 1) := by decide +kernel
theorem dL_isWhite_24 : decode bL_isWhite 24 = .ok (.ireturn, 1) := by decide +kernel
theorem dL_isWhite_25 : decode bL_isWhite 25 = .ok (.iconst 0, 1) := by decide +kernel
theorem dL_isWhite_26 : decode bL_isWhite 26 = .ok (.ireturn, 1) := by decide +kernel
theorem dL_leave_0 : decode bL_leave 0 = .ok (.aload_n 0, 1) := by decide +kernel
theorem dL_leave_1 : decode bL_leave 1 = .ok (.iload_n 1, 1) := by decide +kernel
theorem dL_leave_2 : decode bL_leave 2 = .ok (.invokevirtual 15, 3) := by decide +kernel
theorem dL_leave_5 : decode bL_leave 5 = .ok (.goto 12, 3) := by decide +kernel
theorem dL_leave_8 : decode bL_leave 8 = .ok (.astore_n 2, 1) := by decide +kernel
theorem dL_leave_9 : decode bL_leave 9 = .ok (.iconst 1, 1) := by decide +kernel
theorem dL_leave_10 : decode bL_leave 10 = .ok (.ireturn, 1) := by decide +kernel
theorem dL_leave_11 : decode bL_leave 11 = .ok (.astore_n 2, 1) := by decide +kernel
theorem dL_leave_12 : decode bL_leave 12 = .ok (.iconst 2, 1) := by decide +kernel
theorem dL_leave_13 : decode bL_leave 13 = .ok (.ireturn, 1) := by decide +kernel
theorem dL_leave_14 : decode bL_leave 14 = .ok (.astore_n 2, 1) := by decide +kernel
theorem dL_leave_15 : decode bL_leave 15 = .ok (.iconst 3, 1) := by decide +kernel
theorem dL_leave_16 : decode bL_leave 16 = .ok (.ireturn, 1) := by decide +kernel
theorem dL_leave_17 : decode bL_leave 17 = .ok (.iconst 0, 1) := by decide +kernel
theorem dL_leave_18 : decode bL_leave 18 = .ok (.ireturn, 1) := by decide +kernel
theorem dL_missing_0 : decode bL_missing 0 = .ok (.aload_n 1, 1) := by decide +kernel
theorem dL_missing_1 : decode bL_missing 1 = .ok (.iconst 0, 1) := by decide +kernel
theorem dL_missing_2 : decode bL_missing 2 = .ok (.aload_n 0, 1) := by decide +kernel
theorem dL_missing_3 : decode bL_missing 3 = .ok (.invokevirtual 47, 3) := by decide +kernel
theorem dL_missing_6 : decode bL_missing 6 = .ok (.i2l, 1) := by decide +kernel
theorem dL_missing_7 : decode bL_missing 7 = .ok (.lastore, 1) := by decide +kernel
theorem dL_missing_8 : decode bL_missing 8 = .ok (.goto 6, 3) := by decide +kernel
theorem dL_missing_11 : decode bL_missing 11 = .ok (.astore_n 2, 1) := by decide +kernel
theorem dL_missing_12 : decode bL_missing 12 = .ok (.iconst 1, 1) := by decide +kernel
theorem dL_missing_13 : decode bL_missing 13 = .ok (.ireturn, 1) := by decide +kernel
theorem dL_missing_14 : decode bL_missing 14 = .ok (.iconst 0, 1) := by decide +kernel
theorem dL_missing_15 : decode bL_missing 15 = .ok (.ireturn, 1) := by decide +kernel
theorem dL_opponent_0 : decode bL_opponent 0 = .ok (.aload_n 2, 1) := by decide +kernel
theorem dL_opponent_1 : decode bL_opponent 1 = .ok (.iconst 0, 1) := by decide +kernel
theorem dL_opponent_2 : decode bL_opponent 2 = .ok (.aload_n 0, 1) := by decide +kernel
theorem dL_opponent_3 : decode bL_opponent 3 = .ok (.iload_n 1, 1) := by decide +kernel
theorem dL_opponent_4 : decode bL_opponent 4 = .ok (.invokevirtual 35, 3) := by decide +kernel
theorem dL_opponent_7 : decode bL_opponent 7 = .ok (.i2l, 1) := by decide +kernel
theorem dL_opponent_8 : decode bL_opponent 8 = .ok (.lastore, 1) := by decide +kernel
theorem dL_opponent_9 : decode bL_opponent 9 = .ok (.goto 9, 3) := by decide +kernel
theorem dL_opponent_12 : decode bL_opponent 12 = .ok (.astore_n 3, 1) := by decide +kernel
theorem dL_opponent_13 : decode bL_opponent 13 = .ok (.iconst 1, 1) := by decide +kernel
theorem dL_opponent_14 : decode bL_opponent 14 = .ok (.ireturn, 1) := by decide +kernel
theorem dL_opponent_15 : decode bL_opponent 15 = .ok (.astore_n 3, 1) := by decide +kernel
theorem dL_opponent_16 : decode bL_opponent 16 = .ok (.iconst 2, 1) := by decide +kernel
theorem dL_opponent_17 : decode bL_opponent 17 = .ok (.ireturn, 1) := by decide +kernel
theorem dL_opponent_18 : decode bL_opponent 18 = .ok (.iconst 0, 1) := by decide +kernel
theorem dL_opponent_19 : decode bL_opponent 19 = .ok (.ireturn, 1) := by decide +kernel
theorem dL_pair_0 : decode bL_pair 0 = .ok (.aload_n 1, 1) := by decide +kernel
theorem dL_pair_1 : decode bL_pair 1 = .ok (.iconst 0, 1) := by decide +kernel
theorem dL_pair_2 : decode bL_pair 2 = .ok (.aload_n 0, 1) := by decide +kernel
theorem dL_pair_3 : decode bL_pair 3 = .ok (.invokevirtual 29, 3) := by decide +kernel
theorem dL_pair_6 : decode bL_pair 6 = .ok (.i2l, 1) := by decide +kernel
theorem dL_pair_7 : decode bL_pair 7 = .ok (.lastore, 1) := by decide +kernel
theorem dL_pair_8 : decode bL_pair 8 = .ok (.goto 9, 3) := by decide +kernel
theorem dL_pair_11 : decode bL_pair 11 = .ok (.astore_n 2, 1) := by decide +kernel
theorem dL_pair_12 : decode bL_pair 12 = .ok (.iconst 1, 1) := by decide +kernel
theorem dL_pair_13 : decode bL_pair 13 = .ok (.ireturn, 1) := by decide +kernel
theorem dL_pair_14 : decode bL_pair 14 = .ok (.astore_n 2, 1) := by decide +kernel
theorem dL_pair_15 : decode bL_pair 15 = .ok (.iconst 2, 1) := by decide +kernel
theorem dL_pair_16 : decode bL_pair 16 = .ok (.ireturn, 1) := by decide +kernel
theorem dL_pair_17 : decode bL_pair 17 = .ok (.iconst 0, 1) := by decide +kernel
theorem dL_pair_18 : decode bL_pair 18 = .ok (.ireturn, 1) := by decide +kernel
theorem dL_play_0 : decode bL_play 0 = .ok (.aload_n 2, 1) := by decide +kernel
theorem dL_play_1 : decode bL_play 1 = .ok (.iconst 0, 1) := by decide +kernel
theorem dL_play_2 : decode bL_play 2 = .ok (.aload_n 0, 1) := by decide +kernel
theorem dL_play_3 : decode bL_play 3 = .ok (.iload_n 1, 1) := by decide +kernel
theorem dL_play_4 : decode bL_play 4 = .ok (.invokevirtual 56, 3) := by decide +kernel
theorem dL_play_7 : decode bL_play 7 = .ok (.i2l, 1) := by decide +kernel
theorem dL_play_8 : decode bL_play 8 = .ok (.lastore, 1) := by decide +kernel
theorem dL_play_9 : decode bL_play 9 = .ok (.goto 9, 3) := by decide +kernel
theorem dL_play_12 : decode bL_play 12 = .ok (.astore_n 3, 1) := by decide +kernel
theorem dL_play_13 : decode bL_play 13 = .ok (.iconst 1, 1) := by decide +kernel
theorem dL_play_14 : decode bL_play 14 = .ok (.ireturn, 1) := by decide +kernel
theorem dL_play_15 : decode bL_play 15 = .ok (.astore_n 3, 1) := by decide +kernel
theorem dL_play_16 : decode bL_play 16 = .ok (.iconst 2, 1) := by decide +kernel
theorem dL_play_17 : decode bL_play 17 = .ok (.ireturn, 1) := by decide +kernel
theorem dL_play_18 : decode bL_play 18 = .ok (.iconst 0, 1) := by decide +kernel
theorem dL_play_19 : decode bL_play 19 = .ok (.ireturn, 1) := by decide +kernel
theorem dL_report_0 : decode bL_report 0 = .ok (.aload_n 0, 1) := by decide +kernel
theorem dL_report_1 : decode bL_report 1 = .ok (.iload_n 1, 1) := by decide +kernel
theorem dL_report_2 : decode bL_report 2 = .ok (.iload_n 2, 1) := by decide +kernel
theorem dL_report_3 : decode bL_report 3 = .ok (.invokevirtual 43, 3) := by decide +kernel
theorem dL_report_6 : decode bL_report 6 = .ok (.goto 12, 3) := by decide +kernel
theorem dL_report_9 : decode bL_report 9 = .ok (.astore_n 3, 1) := by decide +kernel
theorem dL_report_10 : decode bL_report 10 = .ok (.iconst 1, 1) := by decide +kernel
theorem dL_report_11 : decode bL_report 11 = .ok (.ireturn, 1) := by decide +kernel
theorem dL_report_12 : decode bL_report 12 = .ok (.astore_n 3, 1) := by decide +kernel
theorem dL_report_13 : decode bL_report 13 = .ok (.iconst 2, 1) := by decide +kernel
theorem dL_report_14 : decode bL_report 14 = .ok (.ireturn, 1) := by decide +kernel
theorem dL_report_15 : decode bL_report 15 = .ok (.astore_n 3, 1) := by decide +kernel
theorem dL_report_16 : decode bL_report 16 = .ok (.iconst 3, 1) := by decide +kernel
theorem dL_report_17 : decode bL_report 17 = .ok (.ireturn, 1) := by decide +kernel
theorem dL_report_18 : decode bL_report 18 = .ok (.iconst 0, 1) := by decide +kernel
theorem dL_report_19 : decode bL_report 19 = .ok (.ireturn, 1) := by decide +kernel
theorem dL_table_0 : decode bL_table 0 = .ok (.aload_n 2, 1) := by decide +kernel
theorem dL_table_1 : decode bL_table 1 = .ok (.iconst 0, 1) := by decide +kernel
theorem dL_table_2 : decode bL_table 2 = .ok (.aload_n 0, 1) := by decide +kernel
theorem dL_table_3 : decode bL_table 3 = .ok (.iload_n 1, 1) := by decide +kernel
theorem dL_table_4 : decode bL_table 4 = .ok (.invokevirtual 66, 3) := by decide +kernel
theorem dL_table_7 : decode bL_table 7 = .ok (.i2l, 1) := by decide +kernel
theorem dL_table_8 : decode bL_table 8 = .ok (.lastore, 1) := by decide +kernel
theorem dL_table_9 : decode bL_table 9 = .ok (.goto 6, 3) := by decide +kernel
theorem dL_table_12 : decode bL_table 12 = .ok (.astore_n 3, 1) := by decide +kernel
theorem dL_table_13 : decode bL_table 13 = .ok (.iconst 1, 1) := by decide +kernel
theorem dL_table_14 : decode bL_table 14 = .ok (.ireturn, 1) := by decide +kernel
theorem dL_table_15 : decode bL_table 15 = .ok (.iconst 0, 1) := by decide +kernel
theorem dL_table_16 : decode bL_table 16 = .ok (.ireturn, 1) := by decide +kernel
theorem dL_tell_0 : decode bL_tell 0 = .ok (.aload_n 3, 1) := by decide +kernel
theorem dL_tell_1 : decode bL_tell 1 = .ok (.iconst 0, 1) := by decide +kernel
theorem dL_tell_2 : decode bL_tell 2 = .ok (.aload_n 0, 1) := by decide +kernel
theorem dL_tell_3 : decode bL_tell 3 = .ok (.iload_n 1, 1) := by decide +kernel
theorem dL_tell_4 : decode bL_tell 4 = .ok (.iload_n 2, 1) := by decide +kernel
theorem dL_tell_5 : decode bL_tell 5 = .ok (.invokevirtual 59, 3) := by decide +kernel
theorem dL_tell_8 : decode bL_tell 8 = .ok (.i2l, 1) := by decide +kernel
theorem dL_tell_9 : decode bL_tell 9 = .ok (.lastore, 1) := by decide +kernel
theorem dL_tell_10 : decode bL_tell 10 = .ok (.goto 7, 3) := by decide +kernel
theorem dL_tell_13 : decode bL_tell 13 = .ok (.astore 4, 2) := by decide +kernel
theorem dL_tell_15 : decode bL_tell 15 = .ok (.iconst 1, 1) := by decide +kernel
theorem dL_tell_16 : decode bL_tell 16 = .ok (.ireturn, 1) := by decide +kernel
theorem dL_tell_17 : decode bL_tell 17 = .ok (.iconst 0, 1) := by decide +kernel
theorem dL_tell_18 : decode bL_tell 18 = .ok (.ireturn, 1) := by decide +kernel
end
section
/-! The judgement Go: a walk over a world of numbers. A world gives for each cell (by its number) and each place an Int32; references never change once the objects stand. -/
/-- a locals' list by places -/
def pl_has (ls : Array Slot) (nL : Nat) (lp : List (Option Value)) : Prop := ls.size = nL ∧ lv_wf ls ∧ lp.length ≤ nL ∧ ∀ (i : Nat) (v : Value), lp[i]? = some (some v) → ls[i]? = some (.val v) ∧ v.category = 1
theorem pl_le {ls : Array Slot} {nL : Nat} {lp : List (Option Value)} (h : pl_has ls nL lp) : lp.length ≤ nL := h.2.2.1
theorem pl_at {ls : Array Slot} {nL : Nat} {lp : List (Option Value)} (h : pl_has ls nL lp) {i : Nat} {v : Value} (hv : lp[i]? = some (some v)) : ls[i]? = some (.val v) := (h.2.2.2 i v hv).1
theorem pl_store {ls : Array Slot} {nL : Nat} {lp : List (Option Value)} {i : Nat} {v : Value} (h : pl_has ls nL lp) (hi : i < nL) (hc : v.category = 1) : ∃ ls', storeLocals ls i v = some ls' ∧ pl_has ls' nL (lp.set i (some v)) := by
  obtain ⟨h1, h2, h4, h3⟩ := h
  obtain ⟨ls', e, hs, hw, hv⟩ := lv_store1 (l := []) (i := i) (v := v) ⟨h1, h2, fun q hq => by cases hq⟩ hi hc
  refine ⟨ls', e, hs, hw, by rw [List.length_set]; exact h4, fun j u hj => ?_⟩
  by_cases hji : j = i
  · subst hji
    have hl : j < (lp.set j (some v)).length := (List.getElem?_eq_some_iff.mp hj).1
    rw [List.length_set] at hl
    rw [List.getElem?_set_self hl] at hj
    have : v = u := by simpa using hj
    subst this
    exact ⟨hv (j, v) List.mem_cons_self, hc⟩
  · rw [List.getElem?_set_ne (Ne.symm hji)] at hj
    obtain ⟨q1, q2⟩ := h3 j u hj
    obtain ⟨ls2, e2, hh⟩ := lv_store1 (l := [(j, u)]) (i := i) (v := v) ⟨h1, h2, fun q hq => by rw [List.mem_singleton] at hq; subst hq; exact q1⟩ hi hc
    rw [e] at e2
    cases e2
    exact ⟨hh.2.2 (j, u) (List.mem_cons_of_mem _ (List.mem_filter.mpr ⟨List.mem_singleton.mpr rfl, by simp [hji, q2]⟩)), q2⟩
theorem pl_weak {ls : Array Slot} {nL : Nat} {lp lp' : List (Option Value)} (h : pl_has ls nL lp) (hl : lp'.length ≤ lp.length) (hh : ∀ (i : Nat) (v : Value), lp'[i]? = some (some v) → lp[i]? = some (some v)) : pl_has ls nL lp' := ⟨h.1, h.2.1, Nat.le_trans hl h.2.2.1, fun i v hv => h.2.2.2 i v (hh i v hv)⟩
/-- the locals' list at a method's entry -/
def lp_of (nL : Nat) (av : List Value) : List (Option Value) := av.map some ++ List.replicate (nL - av.length) none
theorem lv_args_mem : ∀ (av : List Value) (k : Nat), (∀ v ∈ av, v.category = 1) → ∀ (i : Nat) (v : Value), av[i]? = some v → (k + i, v) ∈ lv_args k av
  | [], _, _, i, v, h => by simp at h
  | u :: us, k, hc, i, v, h => by
    have h2 : ¬ u.category = 2 := by rw [hc u List.mem_cons_self]; decide
    rw [lv_args, if_neg h2]
    cases i with
    | zero =>
      have : u = v := by simpa using h
      subst this
      exact List.mem_cons_self
    | succ i =>
      rw [List.getElem?_cons_succ] at h
      have := lv_args_mem us (k + 1) (fun x hx => hc x (List.mem_cons_of_mem _ hx)) i v h
      rw [show k + (i + 1) = k + 1 + i by omega]
      exact List.mem_cons_of_mem _ this
theorem lg_sl_len : ∀ (av : List Value), (∀ v ∈ av, v.category = 1) → (lg_sl av).length = av.length
  | [], _ => rfl
  | u :: us, hc => by
    have h2 : ¬ u.category = 2 := by rw [hc u List.mem_cons_self]; decide
    have ih := lg_sl_len us (fun x hx => hc x (List.mem_cons_of_mem _ hx))
    unfold lg_sl at ih ⊢
    rw [List.flatMap_cons, List.length_append, ih, if_neg h2]
    simp
    omega
theorem pl_entry {av : List Value} {nL : Nat} (hc : ∀ v ∈ av, v.category = 1) (hn : av.length ≤ nL) : pl_has ((lg_sl av ++ List.replicate (nL - (lg_sl av).length) Slot.unset).toArray) nL (lp_of nL av) := by
  have hl := lv_entry av (n := nL) (by rw [lg_sl_len av hc]; exact hn)
  refine ⟨hl.1, hl.2.1, by simp [lp_of]; omega, fun i v hv => ?_⟩
  have hv' : av[i]? = some v := by
    unfold lp_of at hv
    by_cases hi : i < (av.map some).length
    · rw [List.getElem?_append_left hi, List.getElem?_map] at hv
      cases h9 : av[i]? with
      | none => rw [h9] at hv; cases hv
      | some z => rw [h9] at hv; simpa using hv
    · rw [List.getElem?_append_right (by omega)] at hv
      have := List.eq_of_mem_replicate (List.mem_of_getElem? hv)
      cases this
  refine ⟨?_, hc v (List.mem_of_getElem? hv')⟩
  have := hl.2.2 (0 + i, v) (lv_args_mem av 0 hc i v hv')
  simpa using this
/-- a number is written at a place of a cell -/
def wu (w : Wd) (k i : Nat) (x : Int32) : Wd := fun j => if j = k then upd (w k) i x else w j
theorem wu_self (w : Wd) (k i : Nat) (x : Int32) : wu w k i x k = upd (w k) i x := by simp [wu]
theorem wu_ne {w : Wd} {k j i : Nat} {x : Int32} (h : j ≠ k) : wu w k i x j = w j := by simp [wu, h]
theorem cells_len (g : GG) (w : Wd) : (cellsOf g w).length = NC := by simp [cellsOf]
theorem cells_get (g : GG) (w : Wd) {q : Nat} (hq : q < NC) : (cellsOf g w)[q]? = some (g.1 q, ent g (w q) q) := by
  unfold cellsOf
  rw [List.getElem?_map, List.getElem?_range hq]
  rfl
theorem cells_some {g : GG} {w : Wd} {q : Nat} {x : Nat × va_E} (h : (cellsOf g w)[q]? = some x) : q < NC ∧ x = (g.1 q, ent g (w q) q) := by
  have hq : q < NC := by rw [← cells_len g w]; exact (List.getElem?_eq_some_iff.mp h).1
  rw [cells_get g w hq] at h
  exact ⟨hq, (Option.some.inj h).symm⟩
theorem cells_set {g : GG} {w : Wd} {q i : Nat} {x : Int32} {e : va_E} (hq : q < NC) (he : e = ent g (upd (w q) i x) q) : (cellsOf g w).set q (g.1 q, e) = cellsOf g (wu w q i x) := by
  apply List.ext_getElem?
  intro j
  by_cases hj : j = q
  · subst hj
    rw [List.getElem?_set_self (by rw [cells_len]; exact hq), cells_get g _ hq, wu_self, he]
  · rw [List.getElem?_set_ne (Ne.symm hj)]
    by_cases hn : j < NC
    · rw [cells_get g _ hn, cells_get g _ hn, wu_ne hj]
    · rw [List.getElem?_eq_none (by rw [cells_len]; omega), List.getElem?_eq_none (by rw [cells_len]; omega)]
/-- the cells are apart -/
def AD (g : GG) : Prop := ∀ i j : Nat, i < NC → j < NC → g.1 i = g.1 j → i = j
/-- what a walk may change: the world's cells, and new ones -/
def AA (g : GG) (s : State) : Nat → Prop := fun q => (∃ k, k < NC ∧ g.1 k = q) ∨ s.heap.size ≤ q
theorem cells_D {g : GG} (h : AD g) (s : State) (w : Wd) : va_D (AA g s) (cellsOf g w) := by
  refine ⟨fun i j p q hp hq e => ?_, fun k q hk => ?_⟩
  · obtain ⟨a1, rfl⟩ := cells_some hp
    obtain ⟨a2, rfl⟩ := cells_some hq
    exact h i j a1 a2 e
  · obtain ⟨a1, rfl⟩ := cells_some hk
    exact Or.inl ⟨k, a1, rfl⟩
abbrev Cxt : Type := Program × Launch × Env × Room × State × MethodId × Array Value × List Frame × Method × Code
/-- the walk from pc, with the locals lp and the operand stack st, over any heap that holds the world w -/
def Go : Cxt → GG → Nat → Nat → (State → Prop) → Wd → Nat → List (Option Value) → List Value → Prop
  | (p, l, e, R, s, m, args, below, meth, c), g, kc, ks, Q, w, pc, lp, st =>
    ∀ (ls : Array Slot) (H : Heap) (locs : List Loc), pl_has ls c.maxLocals lp → va_P g.2.1 classes (cellsOf g w) H → va_S (AA g s) s.heap H locs → W p l e R s m args below meth c H locs kc ks Q (F0 m pc ls st)
/-- what a walk stands on -/
def Ok : Cxt → GG → ByteArray → String → Option FieldType → List (Nat × Nat × Nat × Nat) → Nat → Prop
  | (p, l, e, R, s, m, args, below, meth, c), g, cc, own, ret, hx, d =>
    p.tables.exec = Jvm.exec ∧ c.code = cc ∧ s.vm.findClass own = some m.cls ∧ Tb args s ∧ va_K g.2.1 classes (tysOf g) s ∧ AD g ∧ meth.locks = false ∧ meth.sig.returnType = ret ∧
      c.exceptionTable.toList.map (fun h => (h.startPc, h.endPc, h.handlerPc, h.catchType)) = hx ∧ d ≤ R.frames ∧ 30 * d ≤ R.locals ∧ l.stackTraces = false
abbrev Rt : Type := Option Value ⊕ String
/-- how a method has ended -/
def OcIs (s : State) (r : Rt) (oc : Outcome) (t : State) : Prop := match r with
  | .inl v => oc = .returned v
  | .inr cn => ∃ (x : Nat) (cell : Cell), oc = .threw x ∧ t.heap[x]? = some cell ∧ s.vm.findClass cn = some cell.cls ∧ cell.vm = .none ∧ s.heap.size ≤ x
def Fen : Cxt → GG → Nat → Nat → (Rt → Wd → Prop) → State → Prop
  | (_, _, _, _, s, _, _, below, _, _), g, k, n, P, t =>
    ∃ (r : Rt) (w : Wd) (oc : Outcome) (L : List Loc), P r w ∧ t.status = .running ∧ Ended t below oc ∧ OcIs s r oc t ∧ va_P g.2.1 classes (cellsOf g w) t.heap ∧ va_F (AA g s) s t ∧ s.WarmedH t.vm ∧ s.sameButNew ({ t with vm := s.vm } : State) L k n ∧ ∀ q ∈ L, AA g s q.base
/-- a method's contract: from arguments av and the world w it ends with an answer r and a world w' of which P says something; at most k cells of n slots are new -/
def Con (l : Launch) (g : GG) (y : MethodName) (cc : ByteArray) (nL : Nat) (ret : Option FieldType) (hx : List (Nat × Nat × Nat × Nat)) (d k n : Nat) (av : List Value) (w : Wd) (P : Rt → Wd → Prop) : Prop :=
  ∀ X : Cxt, X.2.1 = l → X.2.2.2.2.2.2.1 = av.toArray → X.2.2.2.2.2.2.2.2.2.maxLocals = nL → k ≤ X.2.2.2.1.cells → n ≤ X.2.2.2.1.slots → Ok X g cc y.cls ret hx d → Go X g 0 0 (Fen X g k n P) w 0 (lp_of nL av) []
theorem Go.weak {X : Cxt} {g : GG} {kc ks : Nat} {Q : State → Prop} {w : Wd} {pc : Nat} {lp lp' : List (Option Value)} {st : List Value} (hl : lp'.length ≤ lp.length) (hh : ∀ (i : Nat) (v : Value), lp'[i]? = some (some v) → lp[i]? = some (some v)) (k : Go X g kc ks Q w pc lp' st) : Go X g kc ks Q w pc lp st := by
  obtain ⟨p, l, e, R, s, m, args, below, meth, c⟩ := X
  intro ls H locs h1 h2 h3
  exact k ls H locs (pl_weak h1 hl hh) h2 h3
theorem Go.widen {X : Cxt} {g : GG} {kc ks kc' ks' : Nat} {Q : State → Prop} {w : Wd} {pc : Nat} {lp : List (Option Value)} {st : List Value} (h1 : kc ≤ kc') (h2 : ks ≤ ks') (k : Go X g kc' ks' Q w pc lp st) : Go X g kc ks Q w pc lp st := by
  obtain ⟨p, l, e, R, s, m, args, below, meth, c⟩ := X
  intro ls H locs q1 q2 q3
  exact W.widen h1 h2 (k ls H locs q1 q2 q3)
theorem Go.cast {X : Cxt} {g : GG} {kc ks : Nat} {Q : State → Prop} {w w' : Wd} {pc : Nat} {lp lp' : List (Option Value)} {st st' : List Value} (hw : w = w') (hl : lp = lp') (hs : st = st') (k : Go X g kc ks Q w' pc lp' st') : Go X g kc ks Q w pc lp st := by
  subst hw; subst hl; subst hs; exact k
theorem r_iadd {X : Cxt} {g : GG} {cc : ByteArray} {own : String} {ret : Option FieldType} {hx : List (Nat × Nat × Nat × Nat)} {d kc ks : Nat} {Q : State → Prop} {w : Wd} {pc : Nat} {lp : List (Option Value)} {st : List Value} {x y : Int32} (hc : Ok X g cc own ret hx d) (hd : decode cc pc = .ok (.iadd, 1)) (k : Go X g kc ks Q w (pc + 1) lp (.int (x + y) :: st)) : Go X g kc ks Q w pc lp (.int y :: .int x :: st) := by
  obtain ⟨p, l, e, R, s, m, args, below, meth, c⟩ := X
  intro ls H locs h1 h2 h3
  exact lv_iadd hc.1 hc.2.1 hd (k ls H locs h1 h2 h3)
theorem r_isub {X : Cxt} {g : GG} {cc : ByteArray} {own : String} {ret : Option FieldType} {hx : List (Nat × Nat × Nat × Nat)} {d kc ks : Nat} {Q : State → Prop} {w : Wd} {pc : Nat} {lp : List (Option Value)} {st : List Value} {x y : Int32} (hc : Ok X g cc own ret hx d) (hd : decode cc pc = .ok (.isub, 1)) (k : Go X g kc ks Q w (pc + 1) lp (.int (x - y) :: st)) : Go X g kc ks Q w pc lp (.int y :: .int x :: st) := by
  obtain ⟨p, l, e, R, s, m, args, below, meth, c⟩ := X
  intro ls H locs h1 h2 h3
  exact lv_isub hc.1 hc.2.1 hd (k ls H locs h1 h2 h3)
theorem r_imul {X : Cxt} {g : GG} {cc : ByteArray} {own : String} {ret : Option FieldType} {hx : List (Nat × Nat × Nat × Nat)} {d kc ks : Nat} {Q : State → Prop} {w : Wd} {pc : Nat} {lp : List (Option Value)} {st : List Value} {x y : Int32} (hc : Ok X g cc own ret hx d) (hd : decode cc pc = .ok (.imul, 1)) (k : Go X g kc ks Q w (pc + 1) lp (.int (x * y) :: st)) : Go X g kc ks Q w pc lp (.int y :: .int x :: st) := by
  obtain ⟨p, l, e, R, s, m, args, below, meth, c⟩ := X
  intro ls H locs h1 h2 h3
  exact lv_imul hc.1 hc.2.1 hd (k ls H locs h1 h2 h3)
theorem r_iand {X : Cxt} {g : GG} {cc : ByteArray} {own : String} {ret : Option FieldType} {hx : List (Nat × Nat × Nat × Nat)} {d kc ks : Nat} {Q : State → Prop} {w : Wd} {pc : Nat} {lp : List (Option Value)} {st : List Value} {x y : Int32} (hc : Ok X g cc own ret hx d) (hd : decode cc pc = .ok (.iand, 1)) (k : Go X g kc ks Q w (pc + 1) lp (.int (x &&& y) :: st)) : Go X g kc ks Q w pc lp (.int y :: .int x :: st) := by
  obtain ⟨p, l, e, R, s, m, args, below, meth, c⟩ := X
  intro ls H locs h1 h2 h3
  exact lv_iand hc.1 hc.2.1 hd (k ls H locs h1 h2 h3)
theorem r_ior {X : Cxt} {g : GG} {cc : ByteArray} {own : String} {ret : Option FieldType} {hx : List (Nat × Nat × Nat × Nat)} {d kc ks : Nat} {Q : State → Prop} {w : Wd} {pc : Nat} {lp : List (Option Value)} {st : List Value} {x y : Int32} (hc : Ok X g cc own ret hx d) (hd : decode cc pc = .ok (.ior, 1)) (k : Go X g kc ks Q w (pc + 1) lp (.int (x ||| y) :: st)) : Go X g kc ks Q w pc lp (.int y :: .int x :: st) := by
  obtain ⟨p, l, e, R, s, m, args, below, meth, c⟩ := X
  intro ls H locs h1 h2 h3
  exact lv_ior hc.1 hc.2.1 hd (k ls H locs h1 h2 h3)
theorem r_ixor {X : Cxt} {g : GG} {cc : ByteArray} {own : String} {ret : Option FieldType} {hx : List (Nat × Nat × Nat × Nat)} {d kc ks : Nat} {Q : State → Prop} {w : Wd} {pc : Nat} {lp : List (Option Value)} {st : List Value} {x y : Int32} (hc : Ok X g cc own ret hx d) (hd : decode cc pc = .ok (.ixor, 1)) (k : Go X g kc ks Q w (pc + 1) lp (.int (x ^^^ y) :: st)) : Go X g kc ks Q w pc lp (.int y :: .int x :: st) := by
  obtain ⟨p, l, e, R, s, m, args, below, meth, c⟩ := X
  intro ls H locs h1 h2 h3
  exact lv_ixor hc.1 hc.2.1 hd (k ls H locs h1 h2 h3)
theorem r_idiv {X : Cxt} {g : GG} {cc : ByteArray} {own : String} {ret : Option FieldType} {hx : List (Nat × Nat × Nat × Nat)} {d kc ks : Nat} {Q : State → Prop} {w : Wd} {pc : Nat} {lp : List (Option Value)} {st : List Value} {x y : Int32} (hc : Ok X g cc own ret hx d) (hd : decode cc pc = .ok (.idiv, 1)) (hne : ¬ y = 0) (k : Go X g kc ks Q w (pc + 1) lp (.int (x / y) :: st)) : Go X g kc ks Q w pc lp (.int y :: .int x :: st) := by
  obtain ⟨p, l, e, R, s, m, args, below, meth, c⟩ := X
  intro ls H locs h1 h2 h3
  exact lv_idiv hc.1 hc.2.1 hd hne (k ls H locs h1 h2 h3)
theorem r_irem {X : Cxt} {g : GG} {cc : ByteArray} {own : String} {ret : Option FieldType} {hx : List (Nat × Nat × Nat × Nat)} {d kc ks : Nat} {Q : State → Prop} {w : Wd} {pc : Nat} {lp : List (Option Value)} {st : List Value} {x y : Int32} (hc : Ok X g cc own ret hx d) (hd : decode cc pc = .ok (.irem, 1)) (hne : ¬ y = 0) (k : Go X g kc ks Q w (pc + 1) lp (.int (x - x / y * y) :: st)) : Go X g kc ks Q w pc lp (.int y :: .int x :: st) := by
  obtain ⟨p, l, e, R, s, m, args, below, meth, c⟩ := X
  intro ls H locs h1 h2 h3
  exact lv_irem hc.1 hc.2.1 hd hne (k ls H locs h1 h2 h3)
theorem r_ishl {X : Cxt} {g : GG} {cc : ByteArray} {own : String} {ret : Option FieldType} {hx : List (Nat × Nat × Nat × Nat)} {d kc ks : Nat} {Q : State → Prop} {w : Wd} {pc : Nat} {lp : List (Option Value)} {st : List Value} {x y : Int32} (hc : Ok X g cc own ret hx d) (hd : decode cc pc = .ok (.ishl, 1)) (k : Go X g kc ks Q w (pc + 1) lp (.int (x <<< (y &&& 31)) :: st)) : Go X g kc ks Q w pc lp (.int y :: .int x :: st) := by
  obtain ⟨p, l, e, R, s, m, args, below, meth, c⟩ := X
  intro ls H locs h1 h2 h3
  exact lv_ishl hc.1 hc.2.1 hd (k ls H locs h1 h2 h3)
theorem r_ishr {X : Cxt} {g : GG} {cc : ByteArray} {own : String} {ret : Option FieldType} {hx : List (Nat × Nat × Nat × Nat)} {d kc ks : Nat} {Q : State → Prop} {w : Wd} {pc : Nat} {lp : List (Option Value)} {st : List Value} {x y : Int32} (hc : Ok X g cc own ret hx d) (hd : decode cc pc = .ok (.ishr, 1)) (k : Go X g kc ks Q w (pc + 1) lp (.int (x >>> (y &&& 31)) :: st)) : Go X g kc ks Q w pc lp (.int y :: .int x :: st) := by
  obtain ⟨p, l, e, R, s, m, args, below, meth, c⟩ := X
  intro ls H locs h1 h2 h3
  exact lv_ishr hc.1 hc.2.1 hd (k ls H locs h1 h2 h3)
theorem r_iushr {X : Cxt} {g : GG} {cc : ByteArray} {own : String} {ret : Option FieldType} {hx : List (Nat × Nat × Nat × Nat)} {d kc ks : Nat} {Q : State → Prop} {w : Wd} {pc : Nat} {lp : List (Option Value)} {st : List Value} {x y : Int32} (hc : Ok X g cc own ret hx d) (hd : decode cc pc = .ok (.iushr, 1)) (k : Go X g kc ks Q w (pc + 1) lp (.int (x.toUInt32 >>> (y.toUInt32 &&& Int32.toUInt32 31)).toInt32 :: st)) : Go X g kc ks Q w pc lp (.int y :: .int x :: st) := by
  obtain ⟨p, l, e, R, s, m, args, below, meth, c⟩ := X
  intro ls H locs h1 h2 h3
  exact lv_iushr hc.1 hc.2.1 hd rfl (k ls H locs h1 h2 h3)
theorem r_ineg {X : Cxt} {g : GG} {cc : ByteArray} {own : String} {ret : Option FieldType} {hx : List (Nat × Nat × Nat × Nat)} {d kc ks : Nat} {Q : State → Prop} {w : Wd} {pc : Nat} {lp : List (Option Value)} {st : List Value} {x : Int32} (hc : Ok X g cc own ret hx d) (hd : decode cc pc = .ok (.ineg, 1)) (k : Go X g kc ks Q w (pc + 1) lp (.int (-x) :: st)) : Go X g kc ks Q w pc lp (.int x :: st) := by
  obtain ⟨p, l, e, R, s, m, args, below, meth, c⟩ := X
  intro ls H locs h1 h2 h3
  exact lv_ineg hc.1 hc.2.1 hd (k ls H locs h1 h2 h3)
theorem r_i2l {X : Cxt} {g : GG} {cc : ByteArray} {own : String} {ret : Option FieldType} {hx : List (Nat × Nat × Nat × Nat)} {d kc ks : Nat} {Q : State → Prop} {w : Wd} {pc : Nat} {lp : List (Option Value)} {st : List Value} {x : Int32} (hc : Ok X g cc own ret hx d) (hd : decode cc pc = .ok (.i2l, 1)) (k : Go X g kc ks Q w (pc + 1) lp (.long x.toInt64 :: st)) : Go X g kc ks Q w pc lp (.int x :: st) := by
  obtain ⟨p, l, e, R, s, m, args, below, meth, c⟩ := X
  intro ls H locs h1 h2 h3
  exact lv_i2l hc.1 hc.2.1 hd rfl (k ls H locs h1 h2 h3)
theorem r_iconst {X : Cxt} {g : GG} {cc : ByteArray} {own : String} {ret : Option FieldType} {hx : List (Nat × Nat × Nat × Nat)} {d kc ks : Nat} {Q : State → Prop} {w : Wd} {pc : Nat} {lp : List (Option Value)} {st : List Value} {n : Int} (hc : Ok X g cc own ret hx d) (hd : decode cc pc = .ok (.iconst n, 1)) (v : Int32) (hv : Int32.ofInt n = v) (k : Go X g kc ks Q w (pc + 1) lp (.int v :: st)) : Go X g kc ks Q w pc lp st := by
  obtain ⟨p, l, e, R, s, m, args, below, meth, c⟩ := X
  intro ls H locs h1 h2 h3
  exact lv_iconst hc.1 hc.2.1 hd hv (k ls H locs h1 h2 h3)
theorem r_bipush {X : Cxt} {g : GG} {cc : ByteArray} {own : String} {ret : Option FieldType} {hx : List (Nat × Nat × Nat × Nat)} {d kc ks : Nat} {Q : State → Prop} {w : Wd} {pc : Nat} {lp : List (Option Value)} {st : List Value} {n : Int} (hc : Ok X g cc own ret hx d) (hd : decode cc pc = .ok (.bipush n, 2)) (v : Int32) (hv : (Int8.ofInt n).toInt32 = v) (k : Go X g kc ks Q w (pc + 2) lp (.int v :: st)) : Go X g kc ks Q w pc lp st := by
  obtain ⟨p, l, e, R, s, m, args, below, meth, c⟩ := X
  intro ls H locs h1 h2 h3
  exact lv_bipush hc.1 hc.2.1 hd hv (k ls H locs h1 h2 h3)
theorem r_sipush {X : Cxt} {g : GG} {cc : ByteArray} {own : String} {ret : Option FieldType} {hx : List (Nat × Nat × Nat × Nat)} {d kc ks : Nat} {Q : State → Prop} {w : Wd} {pc : Nat} {lp : List (Option Value)} {st : List Value} {n : Int} (hc : Ok X g cc own ret hx d) (hd : decode cc pc = .ok (.sipush n, 3)) (v : Int32) (hv : (Int16.ofInt n).toInt32 = v) (k : Go X g kc ks Q w (pc + 3) lp (.int v :: st)) : Go X g kc ks Q w pc lp st := by
  obtain ⟨p, l, e, R, s, m, args, below, meth, c⟩ := X
  intro ls H locs h1 h2 h3
  exact lv_sipush hc.1 hc.2.1 hd hv (k ls H locs h1 h2 h3)
theorem r_lconst {X : Cxt} {g : GG} {cc : ByteArray} {own : String} {ret : Option FieldType} {hx : List (Nat × Nat × Nat × Nat)} {d kc ks : Nat} {Q : State → Prop} {w : Wd} {pc : Nat} {lp : List (Option Value)} {st : List Value} {n : Fin 2} (hc : Ok X g cc own ret hx d) (hd : decode cc pc = .ok (.lconst n, 1)) (v : Int64) (hv : Int64.ofNat (n : Nat) = v) (k : Go X g kc ks Q w (pc + 1) lp (.long v :: st)) : Go X g kc ks Q w pc lp st := by
  obtain ⟨p, l, e, R, s, m, args, below, meth, c⟩ := X
  intro ls H locs h1 h2 h3
  exact lv_lconst hc.1 hc.2.1 hd hv (k ls H locs h1 h2 h3)
theorem r_iload_n {X : Cxt} {g : GG} {cc : ByteArray} {own : String} {ret : Option FieldType} {hx : List (Nat × Nat × Nat × Nat)} {d kc ks : Nat} {Q : State → Prop} {w : Wd} {pc : Nat} {lp : List (Option Value)} {st : List Value} {j : Fin 4} {x : Int32} (hc : Ok X g cc own ret hx d) (hd : decode cc pc = .ok (.iload_n j, 1)) (hl : lp[(j : Nat)]? = some (some (.int x))) (k : Go X g kc ks Q w (pc + 1) lp (.int x :: st)) : Go X g kc ks Q w pc lp st := by
  obtain ⟨p, l, e, R, s, m, args, below, meth, c⟩ := X
  intro ls H locs h1 h2 h3
  exact lv_iload_n hc.1 hc.2.1 hd rfl (pl_at h1 hl) (k ls H locs h1 h2 h3)
theorem r_iload {X : Cxt} {g : GG} {cc : ByteArray} {own : String} {ret : Option FieldType} {hx : List (Nat × Nat × Nat × Nat)} {d kc ks : Nat} {Q : State → Prop} {w : Wd} {pc : Nat} {lp : List (Option Value)} {st : List Value} {j : Nat} {x : Int32} (hc : Ok X g cc own ret hx d) (hd : decode cc pc = .ok (.iload j, 2)) (hl : lp[j]? = some (some (.int x))) (k : Go X g kc ks Q w (pc + 2) lp (.int x :: st)) : Go X g kc ks Q w pc lp st := by
  obtain ⟨p, l, e, R, s, m, args, below, meth, c⟩ := X
  intro ls H locs h1 h2 h3
  exact lv_iload hc.1 hc.2.1 hd (pl_at h1 hl) (k ls H locs h1 h2 h3)
theorem r_aload_n {X : Cxt} {g : GG} {cc : ByteArray} {own : String} {ret : Option FieldType} {hx : List (Nat × Nat × Nat × Nat)} {d kc ks : Nat} {Q : State → Prop} {w : Wd} {pc : Nat} {lp : List (Option Value)} {st : List Value} {j : Fin 4} {x : Nat} (hc : Ok X g cc own ret hx d) (hd : decode cc pc = .ok (.aload_n j, 1)) (hl : lp[(j : Nat)]? = some (some (.ref x))) (k : Go X g kc ks Q w (pc + 1) lp (.ref x :: st)) : Go X g kc ks Q w pc lp st := by
  obtain ⟨p, l, e, R, s, m, args, below, meth, c⟩ := X
  intro ls H locs h1 h2 h3
  exact lv_aload_n hc.1 hc.2.1 hd rfl (pl_at h1 hl) (k ls H locs h1 h2 h3)
theorem r_aload {X : Cxt} {g : GG} {cc : ByteArray} {own : String} {ret : Option FieldType} {hx : List (Nat × Nat × Nat × Nat)} {d kc ks : Nat} {Q : State → Prop} {w : Wd} {pc : Nat} {lp : List (Option Value)} {st : List Value} {j : Nat} {x : Nat} (hc : Ok X g cc own ret hx d) (hd : decode cc pc = .ok (.aload j, 2)) (hl : lp[j]? = some (some (.ref x))) (k : Go X g kc ks Q w (pc + 2) lp (.ref x :: st)) : Go X g kc ks Q w pc lp st := by
  obtain ⟨p, l, e, R, s, m, args, below, meth, c⟩ := X
  intro ls H locs h1 h2 h3
  exact lv_aload hc.1 hc.2.1 hd (pl_at h1 hl) (k ls H locs h1 h2 h3)
theorem r_istore_n {X : Cxt} {g : GG} {cc : ByteArray} {own : String} {ret : Option FieldType} {hx : List (Nat × Nat × Nat × Nat)} {d kc ks : Nat} {Q : State → Prop} {w : Wd} {pc : Nat} {lp : List (Option Value)} {st : List Value} {j : Fin 4} {x : Int32} (hc : Ok X g cc own ret hx d) (hd : decode cc pc = .ok (.istore_n j, 1)) (hj : (j : Nat) < lp.length) (k : Go X g kc ks Q w (pc + 1) (lp.set (j : Nat) (some (.int x))) st) : Go X g kc ks Q w pc lp (.int x :: st) := by
  obtain ⟨p, l, e, R, s, m, args, below, meth, c⟩ := X
  intro ls H locs h1 h2 h3
  obtain ⟨ls', e', h'⟩ := pl_store (v := .int x) h1 (Nat.lt_of_lt_of_le hj (pl_le h1)) rfl
  intro T hT X
  obtain ⟨t, a, b⟩ := k ls' H locs h' h2 h3 T hT X
  refine ⟨t, ?_, b⟩
  jvm_step X.here [X.here.top, ↓top_set X.here.top, hc.1, hc.2.1, hd, e']
  exact a
theorem r_istore {X : Cxt} {g : GG} {cc : ByteArray} {own : String} {ret : Option FieldType} {hx : List (Nat × Nat × Nat × Nat)} {d kc ks : Nat} {Q : State → Prop} {w : Wd} {pc : Nat} {lp : List (Option Value)} {st : List Value} {j : Nat} {x : Int32} (hc : Ok X g cc own ret hx d) (hd : decode cc pc = .ok (.istore j, 2)) (hj : j < lp.length) (k : Go X g kc ks Q w (pc + 2) (lp.set j (some (.int x))) st) : Go X g kc ks Q w pc lp (.int x :: st) := by
  obtain ⟨p, l, e, R, s, m, args, below, meth, c⟩ := X
  intro ls H locs h1 h2 h3
  obtain ⟨ls', e', h'⟩ := pl_store (v := .int x) h1 (Nat.lt_of_lt_of_le hj (pl_le h1)) rfl
  intro T hT X
  obtain ⟨t, a, b⟩ := k ls' H locs h' h2 h3 T hT X
  refine ⟨t, ?_, b⟩
  jvm_step X.here [X.here.top, ↓top_set X.here.top, hc.1, hc.2.1, hd, e']
  exact a
theorem r_astore_n {X : Cxt} {g : GG} {cc : ByteArray} {own : String} {ret : Option FieldType} {hx : List (Nat × Nat × Nat × Nat)} {d kc ks : Nat} {Q : State → Prop} {w : Wd} {pc : Nat} {lp : List (Option Value)} {st : List Value} {j : Fin 4} {x : Nat} (hc : Ok X g cc own ret hx d) (hd : decode cc pc = .ok (.astore_n j, 1)) (hj : (j : Nat) < lp.length) (k : Go X g kc ks Q w (pc + 1) (lp.set (j : Nat) (some (.ref x))) st) : Go X g kc ks Q w pc lp (.ref x :: st) := by
  obtain ⟨p, l, e, R, s, m, args, below, meth, c⟩ := X
  intro ls H locs h1 h2 h3
  obtain ⟨ls', e', h'⟩ := pl_store (v := .ref x) h1 (Nat.lt_of_lt_of_le hj (pl_le h1)) rfl
  intro T hT X
  obtain ⟨t, a, b⟩ := k ls' H locs h' h2 h3 T hT X
  refine ⟨t, ?_, b⟩
  jvm_step X.here [X.here.top, ↓top_set X.here.top, hc.1, hc.2.1, hd, e']
  exact ⟨rfl, a⟩
theorem r_astore {X : Cxt} {g : GG} {cc : ByteArray} {own : String} {ret : Option FieldType} {hx : List (Nat × Nat × Nat × Nat)} {d kc ks : Nat} {Q : State → Prop} {w : Wd} {pc : Nat} {lp : List (Option Value)} {st : List Value} {j : Nat} {x : Nat} (hc : Ok X g cc own ret hx d) (hd : decode cc pc = .ok (.astore j, 2)) (hj : j < lp.length) (k : Go X g kc ks Q w (pc + 2) (lp.set j (some (.ref x))) st) : Go X g kc ks Q w pc lp (.ref x :: st) := by
  obtain ⟨p, l, e, R, s, m, args, below, meth, c⟩ := X
  intro ls H locs h1 h2 h3
  obtain ⟨ls', e', h'⟩ := pl_store (v := .ref x) h1 (Nat.lt_of_lt_of_le hj (pl_le h1)) rfl
  intro T hT X
  obtain ⟨t, a, b⟩ := k ls' H locs h' h2 h3 T hT X
  refine ⟨t, ?_, b⟩
  jvm_step X.here [X.here.top, ↓top_set X.here.top, hc.1, hc.2.1, hd, e']
  exact ⟨rfl, a⟩
theorem r_iinc {X : Cxt} {g : GG} {cc : ByteArray} {own : String} {ret : Option FieldType} {hx : List (Nat × Nat × Nat × Nat)} {d kc ks : Nat} {Q : State → Prop} {w : Wd} {pc : Nat} {lp : List (Option Value)} {st : List Value} {j : Nat} {n : Int} {x : Int32} (hc : Ok X g cc own ret hx d) (hd : decode cc pc = .ok (.iinc j n, 3)) (hl : lp[j]? = some (some (.int x))) (k : Go X g kc ks Q w (pc + 3) (lp.set j (some (.int (x + Int32.ofInt n)))) st) : Go X g kc ks Q w pc lp st := by
  obtain ⟨p, l, e, R, s, m, args, below, meth, c⟩ := X
  intro ls H locs h1 h2 h3
  have hj : j < lp.length := (List.getElem?_eq_some_iff.mp hl).1
  have hg := (pl_at h1 hl)
  obtain ⟨ls', e', h'⟩ := pl_store (v := .int (x + Int32.ofInt n)) h1 (Nat.lt_of_lt_of_le hj (pl_le h1)) rfl
  intro T hT X
  obtain ⟨t, a, b⟩ := k ls' H locs h' h2 h3 T hT X
  refine ⟨t, ?_, b⟩
  jvm_step X.here [X.here.top, ↓top_set X.here.top, hc.1, hc.2.1, hd, hg, e']
  exact a
theorem r_dup {X : Cxt} {g : GG} {cc : ByteArray} {own : String} {ret : Option FieldType} {hx : List (Nat × Nat × Nat × Nat)} {d kc ks : Nat} {Q : State → Prop} {w : Wd} {pc : Nat} {lp : List (Option Value)} {st : List Value} {va : Value} (hc : Ok X g cc own ret hx d) (hd : decode cc pc = .ok (.dup, 1)) (hva : va.category = 1) (k : Go X g kc ks Q w (pc + 1) lp (va :: va :: st)) : Go X g kc ks Q w pc lp (va :: st) := by
  obtain ⟨p, l, e, R, s, m, args, below, meth, c⟩ := X
  intro ls H locs h1 h2 h3
  exact lv_dup hc.1 hc.2.1 hd hva (k ls H locs h1 h2 h3)
theorem r_pop {X : Cxt} {g : GG} {cc : ByteArray} {own : String} {ret : Option FieldType} {hx : List (Nat × Nat × Nat × Nat)} {d kc ks : Nat} {Q : State → Prop} {w : Wd} {pc : Nat} {lp : List (Option Value)} {st : List Value} {va : Value} (hc : Ok X g cc own ret hx d) (hd : decode cc pc = .ok (.pop, 1)) (hva : va.category = 1) (k : Go X g kc ks Q w (pc + 1) lp st) : Go X g kc ks Q w pc lp (va :: st) := by
  obtain ⟨p, l, e, R, s, m, args, below, meth, c⟩ := X
  intro ls H locs h1 h2 h3
  exact lv_pop hc.1 hc.2.1 hd hva (k ls H locs h1 h2 h3)
theorem r_dup_x1 {X : Cxt} {g : GG} {cc : ByteArray} {own : String} {ret : Option FieldType} {hx : List (Nat × Nat × Nat × Nat)} {d kc ks : Nat} {Q : State → Prop} {w : Wd} {pc : Nat} {lp : List (Option Value)} {st : List Value} {va vb : Value} (hc : Ok X g cc own ret hx d) (hd : decode cc pc = .ok (.dup_x1, 1)) (hva : va.category = 1) (hvb : vb.category = 1) (k : Go X g kc ks Q w (pc + 1) lp (va :: vb :: va :: st)) : Go X g kc ks Q w pc lp (va :: vb :: st) := by
  obtain ⟨p, l, e, R, s, m, args, below, meth, c⟩ := X
  intro ls H locs h1 h2 h3
  exact lv_dup_x1 hc.1 hc.2.1 hd hva hvb (k ls H locs h1 h2 h3)
theorem r_dup2 {X : Cxt} {g : GG} {cc : ByteArray} {own : String} {ret : Option FieldType} {hx : List (Nat × Nat × Nat × Nat)} {d kc ks : Nat} {Q : State → Prop} {w : Wd} {pc : Nat} {lp : List (Option Value)} {st : List Value} {va vb : Value} (hc : Ok X g cc own ret hx d) (hd : decode cc pc = .ok (.dup2, 1)) (hva : va.category = 1) (hvb : vb.category = 1) (k : Go X g kc ks Q w (pc + 1) lp (va :: vb :: va :: vb :: st)) : Go X g kc ks Q w pc lp (va :: vb :: st) := by
  obtain ⟨p, l, e, R, s, m, args, below, meth, c⟩ := X
  intro ls H locs h1 h2 h3
  exact lv_dup2_11 hc.1 hc.2.1 hd hva hvb (k ls H locs h1 h2 h3)
theorem r_if_eq {X : Cxt} {g : GG} {cc : ByteArray} {own : String} {ret : Option FieldType} {hx : List (Nat × Nat × Nat × Nat)} {d kc ks : Nat} {Q : State → Prop} {w : Wd} {pc : Nat} {lp : List (Option Value)} {st : List Value} {x : Int32} {off : Int} {tgt : Nat} (hc : Ok X g cc own ret hx d) (hd : decode cc pc = .ok (.ifCond .eq off, 3)) (ht : (pc : Int) + off = (tgt : Int)) (kt : x = 0 → Go X g kc ks Q w tgt lp st) (kf : ¬ x = 0 → Go X g kc ks Q w (pc + 3) lp st) : Go X g kc ks Q w pc lp (.int x :: st) := by
  obtain ⟨p, l, e, R, s, m, args, below, meth, c⟩ := X
  intro ls H locs h1 h2 h3
  exact lv_if_eq hc.1 hc.2.1 hd ht (fun q => kt q ls H locs h1 h2 h3) (fun q => kf q ls H locs h1 h2 h3)
theorem r_if_ne {X : Cxt} {g : GG} {cc : ByteArray} {own : String} {ret : Option FieldType} {hx : List (Nat × Nat × Nat × Nat)} {d kc ks : Nat} {Q : State → Prop} {w : Wd} {pc : Nat} {lp : List (Option Value)} {st : List Value} {x : Int32} {off : Int} {tgt : Nat} (hc : Ok X g cc own ret hx d) (hd : decode cc pc = .ok (.ifCond .ne off, 3)) (ht : (pc : Int) + off = (tgt : Int)) (kt : ¬ x = 0 → Go X g kc ks Q w tgt lp st) (kf : x = 0 → Go X g kc ks Q w (pc + 3) lp st) : Go X g kc ks Q w pc lp (.int x :: st) := by
  obtain ⟨p, l, e, R, s, m, args, below, meth, c⟩ := X
  intro ls H locs h1 h2 h3
  exact lv_if_ne hc.1 hc.2.1 hd ht (fun q => kt q ls H locs h1 h2 h3) (fun q => kf q ls H locs h1 h2 h3)
theorem r_if_lt {X : Cxt} {g : GG} {cc : ByteArray} {own : String} {ret : Option FieldType} {hx : List (Nat × Nat × Nat × Nat)} {d kc ks : Nat} {Q : State → Prop} {w : Wd} {pc : Nat} {lp : List (Option Value)} {st : List Value} {x : Int32} {off : Int} {tgt : Nat} (hc : Ok X g cc own ret hx d) (hd : decode cc pc = .ok (.ifCond .lt off, 3)) (ht : (pc : Int) + off = (tgt : Int)) (kt : x < 0 → Go X g kc ks Q w tgt lp st) (kf : ¬ x < 0 → Go X g kc ks Q w (pc + 3) lp st) : Go X g kc ks Q w pc lp (.int x :: st) := by
  obtain ⟨p, l, e, R, s, m, args, below, meth, c⟩ := X
  intro ls H locs h1 h2 h3
  exact lv_if_lt hc.1 hc.2.1 hd ht (fun q => kt q ls H locs h1 h2 h3) (fun q => kf q ls H locs h1 h2 h3)
theorem r_if_ge {X : Cxt} {g : GG} {cc : ByteArray} {own : String} {ret : Option FieldType} {hx : List (Nat × Nat × Nat × Nat)} {d kc ks : Nat} {Q : State → Prop} {w : Wd} {pc : Nat} {lp : List (Option Value)} {st : List Value} {x : Int32} {off : Int} {tgt : Nat} (hc : Ok X g cc own ret hx d) (hd : decode cc pc = .ok (.ifCond .ge off, 3)) (ht : (pc : Int) + off = (tgt : Int)) (kt : 0 ≤ x → Go X g kc ks Q w tgt lp st) (kf : ¬ 0 ≤ x → Go X g kc ks Q w (pc + 3) lp st) : Go X g kc ks Q w pc lp (.int x :: st) := by
  obtain ⟨p, l, e, R, s, m, args, below, meth, c⟩ := X
  intro ls H locs h1 h2 h3
  exact lv_if_ge hc.1 hc.2.1 hd ht (fun q => kt q ls H locs h1 h2 h3) (fun q => kf q ls H locs h1 h2 h3)
theorem r_if_gt {X : Cxt} {g : GG} {cc : ByteArray} {own : String} {ret : Option FieldType} {hx : List (Nat × Nat × Nat × Nat)} {d kc ks : Nat} {Q : State → Prop} {w : Wd} {pc : Nat} {lp : List (Option Value)} {st : List Value} {x : Int32} {off : Int} {tgt : Nat} (hc : Ok X g cc own ret hx d) (hd : decode cc pc = .ok (.ifCond .gt off, 3)) (ht : (pc : Int) + off = (tgt : Int)) (kt : 0 < x → Go X g kc ks Q w tgt lp st) (kf : ¬ 0 < x → Go X g kc ks Q w (pc + 3) lp st) : Go X g kc ks Q w pc lp (.int x :: st) := by
  obtain ⟨p, l, e, R, s, m, args, below, meth, c⟩ := X
  intro ls H locs h1 h2 h3
  exact lv_if_gt hc.1 hc.2.1 hd ht (fun q => kt q ls H locs h1 h2 h3) (fun q => kf q ls H locs h1 h2 h3)
theorem r_if_le {X : Cxt} {g : GG} {cc : ByteArray} {own : String} {ret : Option FieldType} {hx : List (Nat × Nat × Nat × Nat)} {d kc ks : Nat} {Q : State → Prop} {w : Wd} {pc : Nat} {lp : List (Option Value)} {st : List Value} {x : Int32} {off : Int} {tgt : Nat} (hc : Ok X g cc own ret hx d) (hd : decode cc pc = .ok (.ifCond .le off, 3)) (ht : (pc : Int) + off = (tgt : Int)) (kt : x ≤ 0 → Go X g kc ks Q w tgt lp st) (kf : ¬ x ≤ 0 → Go X g kc ks Q w (pc + 3) lp st) : Go X g kc ks Q w pc lp (.int x :: st) := by
  obtain ⟨p, l, e, R, s, m, args, below, meth, c⟩ := X
  intro ls H locs h1 h2 h3
  exact lv_if_le hc.1 hc.2.1 hd ht (fun q => kt q ls H locs h1 h2 h3) (fun q => kf q ls H locs h1 h2 h3)
theorem r_ic_eq {X : Cxt} {g : GG} {cc : ByteArray} {own : String} {ret : Option FieldType} {hx : List (Nat × Nat × Nat × Nat)} {d kc ks : Nat} {Q : State → Prop} {w : Wd} {pc : Nat} {lp : List (Option Value)} {st : List Value} {x y : Int32} {off : Int} {tgt : Nat} (hc : Ok X g cc own ret hx d) (hd : decode cc pc = .ok (.if_icmp .eq off, 3)) (ht : (pc : Int) + off = (tgt : Int)) (kt : x = y → Go X g kc ks Q w tgt lp st) (kf : ¬ x = y → Go X g kc ks Q w (pc + 3) lp st) : Go X g kc ks Q w pc lp (.int y :: .int x :: st) := by
  obtain ⟨p, l, e, R, s, m, args, below, meth, c⟩ := X
  intro ls H locs h1 h2 h3
  exact lv_icmp_eq hc.1 hc.2.1 hd ht (fun q => kt q ls H locs h1 h2 h3) (fun q => kf q ls H locs h1 h2 h3)
theorem r_ic_ne {X : Cxt} {g : GG} {cc : ByteArray} {own : String} {ret : Option FieldType} {hx : List (Nat × Nat × Nat × Nat)} {d kc ks : Nat} {Q : State → Prop} {w : Wd} {pc : Nat} {lp : List (Option Value)} {st : List Value} {x y : Int32} {off : Int} {tgt : Nat} (hc : Ok X g cc own ret hx d) (hd : decode cc pc = .ok (.if_icmp .ne off, 3)) (ht : (pc : Int) + off = (tgt : Int)) (kt : ¬ x = y → Go X g kc ks Q w tgt lp st) (kf : x = y → Go X g kc ks Q w (pc + 3) lp st) : Go X g kc ks Q w pc lp (.int y :: .int x :: st) := by
  obtain ⟨p, l, e, R, s, m, args, below, meth, c⟩ := X
  intro ls H locs h1 h2 h3
  exact lv_icmp_ne hc.1 hc.2.1 hd ht (fun q => kt q ls H locs h1 h2 h3) (fun q => kf q ls H locs h1 h2 h3)
theorem r_ic_lt {X : Cxt} {g : GG} {cc : ByteArray} {own : String} {ret : Option FieldType} {hx : List (Nat × Nat × Nat × Nat)} {d kc ks : Nat} {Q : State → Prop} {w : Wd} {pc : Nat} {lp : List (Option Value)} {st : List Value} {x y : Int32} {off : Int} {tgt : Nat} (hc : Ok X g cc own ret hx d) (hd : decode cc pc = .ok (.if_icmp .lt off, 3)) (ht : (pc : Int) + off = (tgt : Int)) (kt : x < y → Go X g kc ks Q w tgt lp st) (kf : ¬ x < y → Go X g kc ks Q w (pc + 3) lp st) : Go X g kc ks Q w pc lp (.int y :: .int x :: st) := by
  obtain ⟨p, l, e, R, s, m, args, below, meth, c⟩ := X
  intro ls H locs h1 h2 h3
  exact lv_icmp_lt hc.1 hc.2.1 hd ht (fun q => kt q ls H locs h1 h2 h3) (fun q => kf q ls H locs h1 h2 h3)
theorem r_ic_ge {X : Cxt} {g : GG} {cc : ByteArray} {own : String} {ret : Option FieldType} {hx : List (Nat × Nat × Nat × Nat)} {d kc ks : Nat} {Q : State → Prop} {w : Wd} {pc : Nat} {lp : List (Option Value)} {st : List Value} {x y : Int32} {off : Int} {tgt : Nat} (hc : Ok X g cc own ret hx d) (hd : decode cc pc = .ok (.if_icmp .ge off, 3)) (ht : (pc : Int) + off = (tgt : Int)) (kt : y ≤ x → Go X g kc ks Q w tgt lp st) (kf : ¬ y ≤ x → Go X g kc ks Q w (pc + 3) lp st) : Go X g kc ks Q w pc lp (.int y :: .int x :: st) := by
  obtain ⟨p, l, e, R, s, m, args, below, meth, c⟩ := X
  intro ls H locs h1 h2 h3
  exact lv_icmp_ge hc.1 hc.2.1 hd ht (fun q => kt q ls H locs h1 h2 h3) (fun q => kf q ls H locs h1 h2 h3)
theorem r_ic_gt {X : Cxt} {g : GG} {cc : ByteArray} {own : String} {ret : Option FieldType} {hx : List (Nat × Nat × Nat × Nat)} {d kc ks : Nat} {Q : State → Prop} {w : Wd} {pc : Nat} {lp : List (Option Value)} {st : List Value} {x y : Int32} {off : Int} {tgt : Nat} (hc : Ok X g cc own ret hx d) (hd : decode cc pc = .ok (.if_icmp .gt off, 3)) (ht : (pc : Int) + off = (tgt : Int)) (kt : y < x → Go X g kc ks Q w tgt lp st) (kf : ¬ y < x → Go X g kc ks Q w (pc + 3) lp st) : Go X g kc ks Q w pc lp (.int y :: .int x :: st) := by
  obtain ⟨p, l, e, R, s, m, args, below, meth, c⟩ := X
  intro ls H locs h1 h2 h3
  exact lv_icmp_gt hc.1 hc.2.1 hd ht (fun q => kt q ls H locs h1 h2 h3) (fun q => kf q ls H locs h1 h2 h3)
theorem r_ic_le {X : Cxt} {g : GG} {cc : ByteArray} {own : String} {ret : Option FieldType} {hx : List (Nat × Nat × Nat × Nat)} {d kc ks : Nat} {Q : State → Prop} {w : Wd} {pc : Nat} {lp : List (Option Value)} {st : List Value} {x y : Int32} {off : Int} {tgt : Nat} (hc : Ok X g cc own ret hx d) (hd : decode cc pc = .ok (.if_icmp .le off, 3)) (ht : (pc : Int) + off = (tgt : Int)) (kt : x ≤ y → Go X g kc ks Q w tgt lp st) (kf : ¬ x ≤ y → Go X g kc ks Q w (pc + 3) lp st) : Go X g kc ks Q w pc lp (.int y :: .int x :: st) := by
  obtain ⟨p, l, e, R, s, m, args, below, meth, c⟩ := X
  intro ls H locs h1 h2 h3
  exact lv_icmp_le hc.1 hc.2.1 hd ht (fun q => kt q ls H locs h1 h2 h3) (fun q => kf q ls H locs h1 h2 h3)
theorem r_goto {X : Cxt} {g : GG} {cc : ByteArray} {own : String} {ret : Option FieldType} {hx : List (Nat × Nat × Nat × Nat)} {d kc ks : Nat} {Q : State → Prop} {w : Wd} {pc : Nat} {lp : List (Option Value)} {st : List Value} {off : Int} {tgt : Nat} (hc : Ok X g cc own ret hx d) (hd : decode cc pc = .ok (.goto off, 3)) (ht : (pc : Int) + off = (tgt : Int)) (k : Go X g kc ks Q w tgt lp st) : Go X g kc ks Q w pc lp st := by
  obtain ⟨p, l, e, R, s, m, args, below, meth, c⟩ := X
  intro ls H locs h1 h2 h3
  exact lv_goto hc.1 hc.2.1 hd ht (k ls H locs h1 h2 h3)
theorem r_lcmp {X : Cxt} {g : GG} {cc : ByteArray} {own : String} {ret : Option FieldType} {hx : List (Nat × Nat × Nat × Nat)} {d kc ks : Nat} {Q : State → Prop} {w : Wd} {pc : Nat} {lp : List (Option Value)} {st : List Value} {x y : Int64} (hc : Ok X g cc own ret hx d) (hd : decode cc pc = .ok (.lcmp, 1)) (k : Go X g kc ks Q w (pc + 1) lp (.int (lg_cmp x y) :: st)) : Go X g kc ks Q w pc lp (.long y :: .long x :: st) := by
  obtain ⟨p, l, e, R, s, m, args, below, meth, c⟩ := X
  intro ls H locs h1 h2 h3
  exact W.lcmp hc.1 hc.2.1 hd (k ls H locs h1 h2 h3)
end
section
section GMEM
variable {X : Cxt} {g : GG} {cc : ByteArray} {own : String} {ret : Option FieldType} {hx : List (Nat × Nat × Nat × Nat)} {d kc ks : Nat} {Q : State → Prop} {w : Wd} {pc : Nat} {lp : List (Option Value)} {st : List Value}
theorem lt_of_in {i : Int32} {n : Nat} (h : vp_in i n) : 0 < n := Nat.pos_of_ne_zero (fun q => by subst q; exact h (Or.inr (Nat.zero_le _)))
theorem r_iald (hc : Ok X g cc own ret hx d) (hd : decode cc pc = .ok (.iaload, 1)) {q : Nat} {i : Int32} (hin : vp_in i (lenI q)) (k : Go X g kc ks Q w (pc + 1) lp (.int (w q i.toNatClampNeg) :: st)) : Go X g kc ks Q w pc lp (.int i :: .ref (g.1 q) :: st) := by
  obtain ⟨p, l, e, R, s, m, args, below, meth, c⟩ := X
  intro ls H locs h1 h2 h3
  obtain ⟨hq, he⟩ := ent_I (lt_of_in hin) g (w q)
  exact va_iald (D := g.2.1) (cl := classes) (tys := tysOf g) hc.1 hc.2.1 hc.2.2.2.2.1 h2 q 0 (by rw [cells_get g w hq, he]) rfl hin hd (k ls H locs h1 h2 h3)
theorem r_iast (hc : Ok X g cc own ret hx d) (hd : decode cc pc = .ok (.iastore, 1)) {q : Nat} {i x : Int32} (hin : vp_in i (lenI q)) (k : Go X g kc ks Q (wu w q i.toNatClampNeg x) (pc + 1) lp st) : Go X g kc ks Q w pc lp (.int x :: .int i :: .ref (g.1 q) :: st) := by
  obtain ⟨p, l, e, R, s, m, args, below, meth, c⟩ := X
  intro ls H locs h1 h2 h3
  obtain ⟨hq, he⟩ := ent_I (lt_of_in hin) g (w q)
  obtain ⟨-, he2⟩ := ent_I (lt_of_in hin) g (upd (w q) i.toNatClampNeg x)
  refine va_iast (D := g.2.1) (cl := classes) (tys := tysOf g) hc.1 hc.2.1 hc.2.2.2.2.1 h2 (cells_D hc.2.2.2.2.2.1 s w) h3 q 0 (by rw [cells_get g w hq, he]) rfl hin hd (fun H1 locs1 a1 _ a3 => ?_)
  rw [cells_set (i := i.toNatClampNeg) (x := x) hq he2.symm] at a1
  exact k ls H1 locs1 h1 a1 a3
theorem r_zald (hc : Ok X g cc own ret hx d) (hd : decode cc pc = .ok (.baload, 1)) {q : Nat} {i : Int32} (hin : vp_in i (lenZ q)) (k : Go X g kc ks Q w (pc + 1) lp (.int (w q i.toNatClampNeg) :: st)) : Go X g kc ks Q w pc lp (.int i :: .ref (g.1 q) :: st) := by
  obtain ⟨p, l, e, R, s, m, args, below, meth, c⟩ := X
  intro ls H locs h1 h2 h3
  obtain ⟨hq, he⟩ := ent_Z (lt_of_in hin) g (w q)
  exact va_zald (D := g.2.1) (cl := classes) (tys := tysOf g) hc.1 hc.2.1 hc.2.2.2.2.1 h2 q 1 (by rw [cells_get g w hq, he]) rfl hin hd (k ls H locs h1 h2 h3)
theorem r_zast (hc : Ok X g cc own ret hx d) (hd : decode cc pc = .ok (.bastore, 1)) {q : Nat} {i x : Int32} (hin : vp_in i (lenZ q)) (hx1 : vp_nar .boolean x = x) (k : Go X g kc ks Q (wu w q i.toNatClampNeg x) (pc + 1) lp st) : Go X g kc ks Q w pc lp (.int x :: .int i :: .ref (g.1 q) :: st) := by
  obtain ⟨p, l, e, R, s, m, args, below, meth, c⟩ := X
  intro ls H locs h1 h2 h3
  obtain ⟨hq, he⟩ := ent_Z (lt_of_in hin) g (w q)
  obtain ⟨-, he2⟩ := ent_Z (lt_of_in hin) g (upd (w q) i.toNatClampNeg x)
  refine va_zast (D := g.2.1) (cl := classes) (tys := tysOf g) hc.1 hc.2.1 hc.2.2.2.2.1 h2 (cells_D hc.2.2.2.2.2.1 s w) h3 q 1 (by rw [cells_get g w hq, he]) rfl hin hd (fun H1 locs1 a1 _ a3 => ?_)
  rw [hx1, cells_set (i := i.toNatClampNeg) (x := x) hq he2.symm] at a1
  exact k ls H1 locs1 h1 a1 a3
theorem r_aald (hc : Ok X g cc own ret hx d) (hd : decode cc pc = .ok (.aaload, 1)) {q : Nat} {i : Int32} (hin : vp_in i (lenA q)) (k : Go X g kc ks Q w (pc + 1) lp (.ref (g.1 (q + 1 + i.toNatClampNeg)) :: st)) : Go X g kc ks Q w pc lp (.int i :: .ref (g.1 q) :: st) := by
  obtain ⟨p, l, e, R, s, m, args, below, meth, c⟩ := X
  intro ls H locs h1 h2 h3
  obtain ⟨hq, he⟩ := ent_A (lt_of_in hin) g (w q)
  have ha : (cellsOf g w)[q]? = some (g.1 q, .inl (g.2.2.2.2.1, lenA q, .inr (.inr (.inr (.inr (fun j => some (g.1 (q + 1 + j)))))))) := by rw [cells_get g w hq, he]
  have hlt : i.toNatClampNeg < lenA q := Nat.not_le.mp fun z => hin (Or.inr z)
  exact W.aald (v := .ref (g.1 (q + 1 + i.toNatClampNeg))) (ty := .array .int) hc.1 hc.2.1 (h2 q _ ha) ((hc.2.2.2.2.1.2 2 _ rfl).1 (lenA q) (fun j => va_rf (some (g.1 (q + 1 + j))))) rfl (fun z => by cases z) (by show ¬ (i < 0 ∨ (arrV _ _ _).slots.size ≤ _); rw [arrV_size]; exact hin) (by show (arrV _ _ _).slots[_]? = _; rw [arrV_read _ _ hlt]; rfl) rfl rfl hd (k ls H locs h1 h2 h3)
theorem r_alen (hc : Ok X g cc own ret hx d) (hd : decode cc pc = .ok (.arraylength, 1)) {q : Nat} (hq0 : 0 < lenI q) (k : Go X g kc ks Q w (pc + 1) lp (.int (nI (lenI q)) :: st)) : Go X g kc ks Q w pc lp (.ref (g.1 q) :: st) := by
  obtain ⟨p, l, e, R, s, m, args, below, meth, c⟩ := X
  intro ls H locs h1 h2 h3
  obtain ⟨hq, he⟩ := ent_I hq0 g (w q)
  exact va_alen (D := g.2.1) (cl := classes) (tys := tysOf g) (x := (lenI q, .inl (w q))) hc.1 hc.2.1 hc.2.2.2.2.1 h2 q 0 (by rw [cells_get g w hq, he]) rfl rfl hd (k ls H locs h1 h2 h3)
theorem r_getf (hc : Ok X g cc own ret hx d) (q ci j : Nat) {C : String} {T : u_T} {N idx : Nat} {fs : List Value} {v : Value} (hd : decode cc pc = .ok (.getfield idx, 3)) (hq : q < NC) (he : ent g (w q) q = .inr (ci, fs)) (hci : classes[ci]? = some (C, T, N)) (hj : j < N) (hin : ∀ x ∈ u_ws C T N, x ∈ Ttab) (hT : (T j).1 = C)
    (hl : Cond.fieldLink own idx C (T j).2.1 (T j).2.2.1 ∈ Ttab) (hv : fs[j]? = some v) (k : Go X g kc ks Q w (pc + 3) lp (v :: st)) : Go X g kc ks Q w pc lp (.ref (g.1 q) :: st) := by
  obtain ⟨p, l, e, R, s, m, args, below, meth, c⟩ := X
  intro ls H locs h1 h2 h3
  exact va_get (D := g.2.1) (cl := classes) (tys := tysOf g) hc.1 hc.2.1 hc.2.2.2.1 hin hc.2.2.1 hc.2.2.2.2.1 h2 q (by rw [cells_get g w hq, he]) hci j hj (hc.2.2.2.1 _ hl) (fun x h => by rw [hT] at h; exact h) hv hd (k ls H locs h1 h2 h3)
theorem r_putf (hc : Ok X g cc own ret hx d) (q ci j : Nat) {C : String} {T : u_T} {N idx : Nat} {fs : List Value} {x : Int32} {ty0 : Nat → FieldType} {ty : FieldType} (hd : decode cc pc = .ok (.putfield idx, 3)) (hq : q < NC) (he : ent g (w q) q = .inr (ci, fs)) (hci : classes[ci]? = some (C, T, N)) (hj : j < N) (hin : ∀ x ∈ u_ws C T N, x ∈ Ttab) (hT : (T j).1 = C)
    (hty : ∀ k, k < N → parseFieldDescriptor (T k).2.2.1 = some (ty0 k)) (hnm : ∀ a, a < N → ∀ b, b < N → a ≠ b → (T a).2.1 ≠ (T b).2.1) (hfin : (T j).2.2.2 = false) (htj : parseFieldDescriptor (T j).2.2.1 = some ty) (hnr : narrow ty (.int x) = .int x) (hfit : fits ty (.int x) = true) (hlen : j < fs.length)
    (hl : Cond.fieldLink own idx C (T j).2.1 (T j).2.2.1 ∈ Ttab) (he2 : .inr (ci, fs.set j (.int x)) = ent g (upd (w q) j x) q) (k : Go X g kc ks Q (wu w q j x) (pc + 3) lp st) : Go X g kc ks Q w pc lp (.int x :: .ref (g.1 q) :: st) := by
  obtain ⟨p, l, e, R, s, m, args, below, meth, c⟩ := X
  intro ls H locs h1 h2 h3
  refine va_put (D := g.2.1) (cl := classes) (tys := tysOf g) hc.1 hc.2.1 hc.2.2.2.1 hin ty0 hty hnm hc.2.2.1 hc.2.2.2.2.1 h2 (cells_D hc.2.2.2.2.2.1 s w) h3 q (by rw [cells_get g w hq, he]) hci j hj (hc.2.2.2.1 _ hl) (fun x h => by rw [hT] at h; exact h) hfin htj hnr hfit hlen hd (fun H1 locs1 a1 _ a3 => ?_)
  rw [cells_set (i := j) (x := x) hq he2] at a1
  exact k ls H1 locs1 h1 a1 a3
theorem r_iret {v : Int32} {P : Rt → Wd → Prop} (hc : Ok X g cc own (some .int) hx d) (hd : decode cc pc = .ok (.ireturn, 1)) (hP : P (.inl (some (.int v))) w) : Go X g kc ks (Fen X g kc ks P) w pc lp [.int v] := by
  obtain ⟨p, l, e, R, s, m, args, below, meth, c⟩ := X
  intro ls H locs h1 h2 h3
  have hlk : meth.locks = false := hc.2.2.2.2.2.2.1
  have k := W.iret (p := p) (l := l) (e := e) (R := R) (s := s) (m := m) (args := args) (below := below) (meth := meth) (c := c) (H := H) (locs := locs) (cells := kc) (slots := ks) (ls := ls) (pc := pc) (v := v) (Qc := fun _ _ oc t => oc = .returned (some (.int v)) ∧ t.heap = H) (free := AA g s) hc.1 hc.2.1 hc.2.2.2.2.2.2.2.1 (fun t ht _ => ⟨rfl, ht⟩) h3.2.2 hd
  intro T hT Y
  obtain ⟨t, a, oc, b1, b2, ⟨b3, b4⟩, L, ⟨-, hW, hsame⟩, hL⟩ := k T hT Y
  exact ⟨t, a, .inl (some (.int v)), w, oc, L, hP, b1, b2, b3, by rw [b4]; exact h2, h3.F b4, hW, hsame, hL⟩
theorem r_zret {v : Int32} {P : Rt → Wd → Prop} (hc : Ok X g cc own (some .boolean) hx d) (hd : decode cc pc = .ok (.ireturn, 1)) (hn : narrow .boolean (.int v) = .int v) (hP : P (.inl (some (.int v))) w) : Go X g kc ks (Fen X g kc ks P) w pc lp [.int v] := by
  obtain ⟨p, l, e, R, s, m, args, below, meth, c⟩ := X
  intro ls H locs h1 h2 h3
  have hlk : meth.locks = false := hc.2.2.2.2.2.2.1
  have k := W.zret (p := p) (l := l) (e := e) (R := R) (s := s) (m := m) (args := args) (below := below) (meth := meth) (c := c) (H := H) (locs := locs) (cells := kc) (slots := ks) (ls := ls) (pc := pc) (v := v) (ty := .boolean) (Qc := fun _ _ oc t => oc = .returned (some (.int v)) ∧ t.heap = H) (free := AA g s) hc.1 hc.2.1 hc.2.2.2.2.2.2.2.1 hn (fun t ht _ => ⟨rfl, ht⟩) h3.2.2 hd
  intro T hT Y
  obtain ⟨t, a, oc, b1, b2, ⟨b3, b4⟩, L, ⟨-, hW, hsame⟩, hL⟩ := k T hT Y
  exact ⟨t, a, .inl (some (.int v)), w, oc, L, hP, b1, b2, b3, by rw [b4]; exact h2, h3.F b4, hW, hsame, hL⟩
theorem r_vret {P : Rt → Wd → Prop} (hc : Ok X g cc own none hx d) (hd : decode cc pc = .ok (.return_, 1)) (hP : P (.inl none) w) : Go X g kc ks (Fen X g kc ks P) w pc lp [] := by
  obtain ⟨p, l, e, R, s, m, args, below, meth, c⟩ := X
  intro ls H locs h1 h2 h3
  have hlk : meth.locks = false := hc.2.2.2.2.2.2.1
  have k := W.vret (p := p) (l := l) (e := e) (R := R) (s := s) (m := m) (args := args) (below := below) (meth := meth) (c := c) (H := H) (locs := locs) (cells := kc) (slots := ks) (ls := ls) (pc := pc) (Qc := fun _ _ oc t => oc = .returned none ∧ t.heap = H) (free := AA g s) hc.1 hc.2.1 hc.2.2.2.2.2.2.2.1 (fun t ht _ => ⟨rfl, ht⟩) h3.2.2 hd
  intro T hT Y
  obtain ⟨t, a, oc, b1, b2, ⟨b3, b4⟩, L, ⟨-, hW, hsame⟩, hL⟩ := k T hT Y
  exact ⟨t, a, .inl none, w, oc, L, hP, b1, b2, b3, by rw [b4]; exact h2, h3.F b4, hW, hsame, hL⟩
end GMEM
end
section
theorem steps_weaken {tb : Tables} {e : Env} {mid below : List Frame} {a b : State} (h : Steps tb e (mid ++ below) a b) : Steps tb e below a b := by
  obtain ⟨n, hn, w⟩ := h
  exact ⟨n, hn, fun k hk => (w k hk).weaken⟩
theorem AA_mono {g : GG} {s s1 : State} {H : Heap} {locs : List Loc} (hS : va_S (AA g s) s.heap H locs) (h1 : s1.heap = H) {q : Nat} (h : AA g s1 q) : AA g s q := by
  rcases h with h | h
  · exact Or.inl h
  · exact Or.inr (Nat.le_trans hS.1 (by rw [← h1]; exact h))
/-- what a callee's frame does to the caller's -/
theorem S_join {g : GG} {s s1 t : State} {H : Heap} {locs L : List Loc} (hS : va_S (AA g s) s.heap H locs) (h1 : s1.heap = H) (hF : va_F (AA g s1) s1 t) (hL : ∀ q ∈ L, AA g s1 q.base) : va_S (AA g s) s.heap t.heap (locs ++ L) := by
  refine ⟨Nat.le_trans hS.1 (by rw [← h1]; exact hF.1), fun q q1 q2 => ?_, fun q hq => ?_⟩
  · have hlt : q < s1.heap.size := by rw [h1]; exact Nat.lt_of_lt_of_le q1 hS.1
    rw [hF.2 q hlt (fun h => q2 (AA_mono hS h1 h)), h1]
    exact hS.2.1 q q1 q2
  · rcases List.mem_append.mp hq with h | h
    · exact hS.2.2 q h
    · exact AA_mono hS h1 (hL q h)
section GCALL
variable {p : Program} {l : Launch} {e : Env} {R : Room} {s : State} {m : MethodId} {args : Array Value} {below : List Frame} {meth : Method} {c : Code} {U : State} {locs : List Loc} {kc ks : Nat}
variable {g : GG} {cc : ByteArray} {own : String} {ret : Option FieldType} {hx : List (Nat × Nat × Nat × Nat)} {d0 : Nat}
variable {y : MethodName} {cc' : ByteArray} {nL' : Nat} {ret' : Option FieldType} {hx' : List (Nat × Nat × Nat × Nat)} {d k n : Nat} {av : List Value} {w : Wd} {P : Rt → Wd → Prop}
theorem call_core (X : Stand p l e R s m args below meth c U locs kc ks) (hc : Ok (p, l, e, R, s, m, args, below, meth, c) g cc own ret hx d0) (hcon : Con l g y cc' nL' ret' hx' d k n av w P)
    {f : JFrame} (hf : f.method = m) (hsize : f.locals.size = c.maxLocals) {ig : Instr} {len : Nat} (hdg : decode c.code f.pc = .ok (ig, len))
    {mk : MethodId} {methk : Method} {ck : Code} (hn : s.methodNamed? y = some mk) (hmk : s.vm.method? mk = some methk) (hck : methk.code = some ck) (hb : ck.code = cc') (hml : ck.maxLocals = nL') (hre : methk.sig.returnType = ret') (hlk : methk.locks = false)
    (hh : ck.exceptionTable.toList.map (fun h => (h.startPc, h.endPc, h.handlerPc, h.catchType)) = hx') (hpl : plainFor y = true) (hav : ∀ v ∈ av, v.category = 1) (hal : av.length ≤ nL')
    (hw : 2 * f.monitorRoom + (f.stack.map fun v => v.category).sum ≤ 8) (hfr : d + 1 ≤ R.frames) (hlo : 8 + (nL' + 11) + 30 * d ≤ R.locals) (hcells : kc + k ≤ R.cells) (hslots : ks + n ≤ R.slots)
    (hP : va_P g.2.1 classes (cellsOf g w) U.heap) (hS : va_S (AA g s) s.heap U.heap locs) :
    ∃ (r : Rt) (w' : Wd), P r w' ∧
      ((∃ v, r = .inl v ∧ ∃ (T' : State) (locs' : List Loc), Stand p l e R s m args below meth c T' locs' (kc + k) (ks + n) ∧ va_P g.2.1 classes (cellsOf g w') T'.heap ∧ va_S (AA g s) s.heap T'.heap locs' ∧
          Steps p.tables e below (doInvoke e (U.setTop f) [] mk av.toArray).1 (T'.setTop { f with pc := f.pc + len, stack := v.toList ++ f.stack })) ∨
        (∃ cn, r = .inr cn ∧ ∃ (T' : State) (locs' : List Loc) (x : Nat) (cell : Cell), Stand p l e R s m args below meth c T' locs' (kc + k) (ks + n) ∧ va_P g.2.1 classes (cellsOf g w') T'.heap ∧ va_S (AA g s) s.heap T'.heap locs' ∧
          T'.heap[x]? = some cell ∧ s.vm.findClass cn = some cell.cls ∧ cell.vm = .none ∧ s.heap.size ≤ x ∧
          Steps p.tables e below (doInvoke e (U.setTop f) [] mk av.toArray).1 ((T'.setTop f).pushFrame (.throwing x)))) := by
  obtain ⟨c1, -, -, c4, c5, c6, -, -, -, -, -, c12⟩ := hc
  have hmk' : U.vm.method? mk = some methk := by rw [X.warmed.alike.method?]; exact hmk
  have hn' : U.methodNamed? y = some mk := X.named hn
  have hplain : U.plainMethod mk := State.plainMethod.of_named hpl hn' hmk'
  obtain ⟨Y, hst⟩ := X.into hf hsize hdg av.toArray (R' := { frames := d, cells := k, slots := n, locals := 30 * d }) hmk' hck hlk hplain hfr (by rw [hml]; show _ + _ + (nL' + 11) + 30 * d ≤ _; omega) hcells hslots
  have hOk : Ok (p, l, e, { frames := d, cells := k, slots := n, locals := 30 * d }, U.calling f mk av.toArray, mk, av.toArray, .java f :: below, methk, ck) g cc' y.cls ret' hx' d :=
    ⟨c1, hb, findClass_of_methodNamed hn', Tb.warm (U := U.calling f mk av.toArray) X.warmed c4, va_K.moved (u := s) (U := U.calling f mk av.toArray) X.warmed.alike c5, c6, hlk, hre, hh, Nat.le_refl _, Nat.le_refl _, c12⟩
  have hgo := hcon _ rfl rfl hml (Nat.le_refl _) (Nat.le_refl _) hOk
  have hW := hgo _ U.heap [] (by rw [hml]; exact pl_entry hav hal) hP (va_S.rf (A := AA g (U.calling f mk av.toArray)) (H0 := U.heap))
  rw [← lg_entry_eq, ← hml] at hW
  obtain ⟨t, hsteps, r, w', oc, L, q1, q2, q3, q4, q5, q6, q7, q8, q9⟩ := hW ((U.setTop f).pushFrame (.java (entryFrame mk av.toArray ck.maxLocals))) rfl Y
  have hst0 := hst []
  have hheap1 : (U.calling f mk av.toArray).heap = U.heap := rfl
  refine ⟨r, w', q1, ?_⟩
  cases r with
  | inl v =>
    have q4 : oc = .returned v := q4
    subst q4
    obtain ⟨T', X', -, -, ht⟩ := X.outOf hf hdg q3 q7 q8
    have hh1 : t.heap = T'.heap := by rw [ht]; rfl
    refine Or.inl ⟨v, rfl, T', locs ++ L, X', by rw [← hh1]; exact q5, by rw [← hh1]; exact S_join hS hheap1 q6 q9, ?_⟩
    rw [hst0, ← ht]
    exact steps_weaken (mid := [.java f]) hsteps
  | inr cn =>
    obtain ⟨x, cell, e1, e2, e3, e4, e5⟩ := q4
    subst e1
    obtain ⟨T', X', -, -, ht⟩ := X.outOfThrown hf q3 q7 q8
    have hh1 : t.heap = T'.heap := by rw [ht]; rfl
    refine Or.inr ⟨cn, rfl, T', locs ++ L, x, cell, X', by rw [← hh1]; exact q5, by rw [← hh1]; exact S_join hS hheap1 q6 q9, by rw [← hh1]; exact e2, ?_, e4, Nat.le_trans hS.1 (by rw [← hheap1]; exact e5), ?_⟩
    · have e3' : U.vm.findClass cn = some cell.cls := e3
      rw [← X.warmed.alike.findClass]
      exact e3'
    · rw [hst0, ← ht]
      exact steps_weaken (mid := [.java f]) hsteps
end GCALL
section GCL
variable {X : Cxt} {g : GG} {cc : ByteArray} {own : String} {ret : Option FieldType} {hx : List (Nat × Nat × Nat × Nat)} {d kc ks : Nat} {Q : State → Prop} {w : Wd} {pc : Nat} {lp : List (Option Value)} {st : List Value}
variable {y : MethodName} {cc' : ByteArray} {nL' : Nat} {ret' : Option FieldType} {hx' : List (Nat × Nat × Nat × Nat)} {d' k n idx : Nat} {av : List Value} {P : Rt → Wd → Prop}
/-- an exception is on its way through the walked method -/
def GoX : Cxt → GG → Nat → Nat → (State → Prop) → Wd → Nat → List (Option Value) → String → Prop
  | (p, l, e, R, s, m, args, below, meth, c), g, kc, ks, Q, w, pc, lp, cn =>
    ∀ (ls : Array Slot) (T : State) (locs : List Loc) (x : Nat) (cell : Cell) (st : List Value), pl_has ls c.maxLocals lp → Stand p l e R s m args below meth c T locs kc ks → va_P g.2.1 classes (cellsOf g w) T.heap → va_S (AA g s) s.heap T.heap locs →
      T.heap[x]? = some cell → s.vm.findClass cn = some cell.cls → cell.vm = .none → s.heap.size ≤ x → ∃ t, Steps p.tables e below ((T.setTop (F0 m pc ls st)).pushFrame (.throwing x)) t ∧ Q t
/-- no handler: the method ends with it -/
theorem x_out {cn : String} (hc : Ok X g cc own ret [] d) (hP : P (.inr cn) w) : GoX X g kc ks (Fen X g kc ks P) w pc lp cn := by
  obtain ⟨p, l, e, R, s, m, args, below, meth, c⟩ := X
  intro ls T locs x cell st h1 Y h2 h3 h4 h5 h6 h7
  have hno : c.exceptionTable.toList = [] := List.map_eq_nil_iff.mp hc.2.2.2.2.2.2.2.2.1
  have hlk : meth.locks = false := hc.2.2.2.2.2.2.1
  obtain ⟨a1, a2, a3, a4, a5⟩ := Y.leaveThrown x (g := F0 m pc ls st) rfl rfl rfl (fun z hz => by rw [hno] at hz; cases hz) hlk
  exact ⟨_, a1, .inr cn, w, .threw x, locs, hP, a2, a3, ⟨x, cell, rfl, h4, h5, h6, h7⟩, h2, h3.F rfl, a4, a5, h3.2.2⟩
theorem ex_nil {c : Code} (h : c.exceptionTable.isEmpty = true) : c.exceptionTable.toList.map (fun h => (h.startPc, h.endPc, h.handlerPc, h.catchType)) = [] := by
  have : c.exceptionTable = #[] := by simpa using h
  rw [this]
  rfl
theorem r_callv {q ci : Nat} {C : String} {Tc : u_T} {N : Nat} {fs : List Value} (hc : Ok X g cc own ret hx d) (hd : decode cc pc = .ok (.invokevirtual idx, 3)) (hcon : Con X.2.1 g y cc' nL' ret' [] d' k n (.ref (g.1 q) :: av) w P)
    (hl : Cond.methodLink own idx y ∈ Ttab) (hin : Cond.instanceMethod y ∈ Ttab) (hsel : Cond.selects C y y ∈ Ttab) (hcode : Cond.code y cc' nL' ret' ∈ Ttab) (hy : y.cls ≠ "java/lang/invoke/MethodHandle" ∧ y.cls ≠ "java/lang/invoke/VarHandle") (hpl : plainFor y = true) (hnum : (parseMethodDescriptor y.desc).map (fun d => d.parameters.length) = some av.length)
    (hq : q < NC) (hob : ent g (w q) q = .inr (ci, fs)) (hci : classes[ci]? = some (C, Tc, N)) (hdd : d' + 1 ≤ d) (hnl : nL' ≤ 11) (hav : ∀ v ∈ av, v.category = 1) (hal : av.length + 1 ≤ nL') (hst : (st.map fun v => v.category).sum ≤ 8) (hcells : kc + k ≤ X.2.2.2.1.cells) (hslots : ks + n ≤ X.2.2.2.1.slots)
    (hret : ∀ (v : Option Value) (w' : Wd), P (.inl v) w' → Go X g (kc + k) (ks + n) Q w' (pc + 3) lp (v.toList ++ st)) (hthr : ∀ (cn : String) (w' : Wd), P (.inr cn) w' → GoX X g (kc + k) (ks + n) Q w' pc lp cn) : Go X g kc ks Q w pc lp (av.reverse ++ .ref (g.1 q) :: st) := by
  obtain ⟨p, l, e, R, s, m, args, below, meth, c⟩ := X
  intro ls H locs h1 h2 h3 T hT Y
  have hts := hc.2.2.2.1
  obtain ⟨mk, methM, hnamed, hmethM, hstM, habM⟩ := Cond.instanceMethod_spec (hts _ hin)
  obtain ⟨methM', cM, hmethM', hck, hb, hml, hre, hlk, hex, hsigM⟩ := Cond.code_spec hnamed (hts _ hcode)
  cases hmethM.symm.trans hmethM'
  obtain ⟨c2, r2, m2, q1, q2, q3, q4, kP, hkP, hkPi⟩ := Cond.selects_spec (hts _ hsel)
  obtain ⟨r0, e1, cellB, b1, b2, b3, b4⟩ := h2 q _ (by rw [cells_get g w hq, hob])
  have hr0 : r0 = (C, Tc, N) := Option.some.inj (e1.symm.trans hci)
  subst hr0
  have hcls : s.vm.findClass C = some cellB.cls := by rw [b2]; exact (hc.2.2.2.2.1.1 ci _ hci).2.1
  cases hcls.symm.trans q1
  cases (State.methodFound?_of_named hnamed hy).symm.trans q2
  cases hnamed.symm.trans q3
  have hselP : selectMethod e.platform s.vm cellB.cls mk = .method mk := by rw [Launch.admits_selectMethod Y.admits]; exact q4
  obtain ⟨vm₁, X₁, hstep₁⟩ := Y.invokevirtual hc.1 hc.2.2.1 (hts _ hl) hnamed hmethM hstM hkP hkPi hy (a := g.1 q) (cell := cellB) (by rw [hT]; exact b1)
    (fun z h => by rw [b3] at h; cases h) hselP hmethM habM hkP hkPi (g := F0 m pc ls (av.reverse ++ .ref (g.1 q) :: st)) rfl (argsL := av) (rest := st) (by have h9 := hnum; rw [hsigM] at h9; exact (Option.some.inj h9).symm) rfl (by rw [hc.2.1]; exact hd)
  have hK := call_core (f := F0 m pc ls st) X₁ hc hcon rfl h1.1 (by rw [hc.2.1]; exact hd) hnamed hmethM hck hb hml hre hlk (ex_nil hex) hpl (fun v hv => by rcases List.mem_cons.mp hv with rfl | hv; exact rfl; exact hav v hv) (by simpa using hal) (by show 2 * 0 + (st.map fun v => v.category).sum ≤ 8; omega) (Nat.le_trans hdd hc.2.2.2.2.2.2.2.2.2.1) (by have := hc.2.2.2.2.2.2.2.2.2.2.1; omega) hcells hslots (by show va_P _ _ _ T.heap; rw [hT]; exact h2) (by show va_S _ _ T.heap _; rw [hT]; exact h3)
  obtain ⟨r, w', hP, hres⟩ := hK
  rcases hres with ⟨v, rfl, T', locs', X', a1, a2, a3⟩ | ⟨cn, rfl, T', locs', x, cl, X', a1, a2, b4, b5, b6, b7, a3⟩
  · obtain ⟨t, t1, t2⟩ := hret v w' hP ls T'.heap locs' h1 a1 a2 T' rfl X'
    exact ⟨t, hstep₁ _ (fun acts => by rw [doInvoke_state]; exact a3.trans t1), t2⟩
  · obtain ⟨t, t1, t2⟩ := hthr cn w' hP ls T' locs' x cl st h1 X' a1 a2 b4 b5 b6 b7
    exact ⟨t, hstep₁ _ (fun acts => by rw [doInvoke_state]; exact a3.trans t1), t2⟩
theorem r_callvN {host : String} {q ci : Nat} {C : String} {Tc : u_T} {N : Nat} {fs : List Value} (hc : Ok X g cc own ret hx d) (hd : decode cc pc = .ok (.invokevirtual idx, 3)) (hcon : Con X.2.1 g y cc' nL' ret' [] d' k n (.ref (g.1 q) :: av) w P)
    (hl : Cond.methodLinkNest own idx y host ∈ Ttab) (hin : Cond.instanceMethod y ∈ Ttab) (hsel : Cond.selects C y y ∈ Ttab) (hcode : Cond.code y cc' nL' ret' ∈ Ttab) (hy : y.cls ≠ "java/lang/invoke/MethodHandle" ∧ y.cls ≠ "java/lang/invoke/VarHandle") (hpl : plainFor y = true) (hnum : (parseMethodDescriptor y.desc).map (fun d => d.parameters.length) = some av.length)
    (hq : q < NC) (hob : ent g (w q) q = .inr (ci, fs)) (hci : classes[ci]? = some (C, Tc, N)) (hdd : d' + 1 ≤ d) (hnl : nL' ≤ 11) (hav : ∀ v ∈ av, v.category = 1) (hal : av.length + 1 ≤ nL') (hst : (st.map fun v => v.category).sum ≤ 8) (hcells : kc + k ≤ X.2.2.2.1.cells) (hslots : ks + n ≤ X.2.2.2.1.slots)
    (hret : ∀ (v : Option Value) (w' : Wd), P (.inl v) w' → Go X g (kc + k) (ks + n) Q w' (pc + 3) lp (v.toList ++ st)) (hthr : ∀ (cn : String) (w' : Wd), P (.inr cn) w' → GoX X g (kc + k) (ks + n) Q w' pc lp cn) : Go X g kc ks Q w pc lp (av.reverse ++ .ref (g.1 q) :: st) := by
  obtain ⟨p, l, e, R, s, m, args, below, meth, c⟩ := X
  intro ls H locs h1 h2 h3 T hT Y
  have hts := hc.2.2.2.1
  obtain ⟨mk, methM, hnamed, hmethM, hstM, habM⟩ := Cond.instanceMethod_spec (hts _ hin)
  obtain ⟨methM', cM, hmethM', hck, hb, hml, hre, hlk, hex, hsigM⟩ := Cond.code_spec hnamed (hts _ hcode)
  cases hmethM.symm.trans hmethM'
  obtain ⟨c2, r2, m2, q1, q2, q3, q4, kP, hkP, hkPi⟩ := Cond.selects_spec (hts _ hsel)
  obtain ⟨r0, e1, cellB, b1, b2, b3, b4⟩ := h2 q _ (by rw [cells_get g w hq, hob])
  have hr0 : r0 = (C, Tc, N) := Option.some.inj (e1.symm.trans hci)
  subst hr0
  have hcls : s.vm.findClass C = some cellB.cls := by rw [b2]; exact (hc.2.2.2.2.1.1 ci _ hci).2.1
  cases hcls.symm.trans q1
  cases (State.methodFound?_of_named hnamed hy).symm.trans q2
  cases hnamed.symm.trans q3
  have hselP : selectMethod e.platform s.vm cellB.cls mk = .method mk := by rw [Launch.admits_selectMethod Y.admits]; exact q4
  obtain ⟨vm₁, X₁, hstep₁⟩ := Y.invokevirtualNest hc.1 hc.2.2.1 (hts _ hl) hnamed hmethM hstM hkP hkPi hy (a := g.1 q) (cell := cellB) (by rw [hT]; exact b1)
    (fun z h => by rw [b3] at h; cases h) hselP hmethM habM hkP hkPi (g := F0 m pc ls (av.reverse ++ .ref (g.1 q) :: st)) rfl (argsL := av) (rest := st) (by have h9 := hnum; rw [hsigM] at h9; exact (Option.some.inj h9).symm) rfl (by rw [hc.2.1]; exact hd)
  have hK := call_core (f := F0 m pc ls st) X₁ hc hcon rfl h1.1 (by rw [hc.2.1]; exact hd) hnamed hmethM hck hb hml hre hlk (ex_nil hex) hpl (fun v hv => by rcases List.mem_cons.mp hv with rfl | hv; exact rfl; exact hav v hv) (by simpa using hal) (by show 2 * 0 + (st.map fun v => v.category).sum ≤ 8; omega) (Nat.le_trans hdd hc.2.2.2.2.2.2.2.2.2.1) (by have := hc.2.2.2.2.2.2.2.2.2.2.1; omega) hcells hslots (by show va_P _ _ _ T.heap; rw [hT]; exact h2) (by show va_S _ _ T.heap _; rw [hT]; exact h3)
  obtain ⟨r, w', hP, hres⟩ := hK
  rcases hres with ⟨v, rfl, T', locs', X', a1, a2, a3⟩ | ⟨cn, rfl, T', locs', x, cl, X', a1, a2, b4, b5, b6, b7, a3⟩
  · obtain ⟨t, t1, t2⟩ := hret v w' hP ls T'.heap locs' h1 a1 a2 T' rfl X'
    exact ⟨t, hstep₁ _ (fun acts => by rw [doInvoke_state]; exact a3.trans t1), t2⟩
  · obtain ⟨t, t1, t2⟩ := hthr cn w' hP ls T' locs' x cl st h1 X' a1 a2 b4 b5 b6 b7
    exact ⟨t, hstep₁ _ (fun acts => by rw [doInvoke_state]; exact a3.trans t1), t2⟩
theorem r_calls (hc : Ok X g cc own ret hx d) (hd : decode cc pc = .ok (.invokestatic idx, 3)) (hcon : Con X.2.1 g y cc' nL' ret' [] d' k n av w P)
    (hl : Cond.methodLink own idx y ∈ Ttab) (hsta : Cond.static y ∈ Ttab) (hini : Cond.initialized y.cls ∈ Ttab) (hcode : Cond.code y cc' nL' ret' ∈ Ttab) (hy : y.cls ≠ "java/lang/invoke/MethodHandle" ∧ y.cls ≠ "java/lang/invoke/VarHandle") (hpl : plainFor y = true) (hnum : (parseMethodDescriptor y.desc).map (fun d => d.parameters.length) = some av.length)
    (hdd : d' + 1 ≤ d) (hnl : nL' ≤ 11) (hav : ∀ v ∈ av, v.category = 1) (hal : av.length ≤ nL') (hst : (st.map fun v => v.category).sum ≤ 8) (hcells : kc + k ≤ X.2.2.2.1.cells) (hslots : ks + n ≤ X.2.2.2.1.slots)
    (hret : ∀ (v : Option Value) (w' : Wd), P (.inl v) w' → Go X g (kc + k) (ks + n) Q w' (pc + 3) lp (v.toList ++ st)) (hthr : ∀ (cn : String) (w' : Wd), P (.inr cn) w' → GoX X g (kc + k) (ks + n) Q w' pc lp cn) : Go X g kc ks Q w pc lp (av.reverse ++ st) := by
  obtain ⟨p, l, e, R, s, m, args, below, meth, c⟩ := X
  intro ls H locs h1 h2 h3 T hT Y
  have hts := hc.2.2.2.1
  obtain ⟨mk, hnamed⟩ := Cond.code_named (hts _ hcode)
  obtain ⟨methM, cM, hmethM, hck, hb, hml, hre, hlk, hex, hsigM⟩ := Cond.code_spec hnamed (hts _ hcode)
  have hstatic : methM.isStatic = true := Cond.static_spec hnamed hmethM (hts _ hsta)
  obtain ⟨kP, hkP, -⟩ := className_of_methodNamed hnamed
  have hinitP : kP.init = .initialized := Cond.initialized_spec (findClass_of_methodNamed hnamed) hkP (hts _ hini)
  obtain ⟨vm₁, X₁, hstep₁⟩ := Y.invokestatic hc.1 hc.2.2.1 (hts _ hl) hnamed hmethM hstatic hkP hinitP hy (g := F0 m pc ls (av.reverse ++ st)) rfl (argsL := av) (rest := st) (by have h9 := hnum; rw [hsigM] at h9; exact (Option.some.inj h9).symm) rfl (by rw [hc.2.1]; exact hd)
  have hK := call_core (f := F0 m pc ls st) X₁ hc hcon rfl h1.1 (by rw [hc.2.1]; exact hd) hnamed hmethM hck hb hml hre hlk (ex_nil hex) hpl hav hal (by show 2 * 0 + (st.map fun v => v.category).sum ≤ 8; omega) (Nat.le_trans hdd hc.2.2.2.2.2.2.2.2.2.1) (by have := hc.2.2.2.2.2.2.2.2.2.2.1; omega) hcells hslots (by show va_P _ _ _ T.heap; rw [hT]; exact h2) (by show va_S _ _ T.heap _; rw [hT]; exact h3)
  obtain ⟨r, w', hP, hres⟩ := hK
  rcases hres with ⟨v, rfl, T', locs', X', a1, a2, a3⟩ | ⟨cn, rfl, T', locs', x, cl, X', a1, a2, b4, b5, b6, b7, a3⟩
  · obtain ⟨t, t1, t2⟩ := hret v w' hP ls T'.heap locs' h1 a1 a2 T' rfl X'
    exact ⟨t, hstep₁ _ (fun acts => by rw [doInvoke_state]; exact a3.trans t1), t2⟩
  · obtain ⟨t, t1, t2⟩ := hthr cn w' hP ls T' locs' x cl st h1 X' a1 a2 b4 b5 b6 b7
    exact ⟨t, hstep₁ _ (fun acts => by rw [doInvoke_state]; exact a3.trans t1), t2⟩
theorem r_callsN {host : String} (hc : Ok X g cc own ret hx d) (hd : decode cc pc = .ok (.invokestatic idx, 3)) (hcon : Con X.2.1 g y cc' nL' ret' [] d' k n av w P)
    (hl : Cond.methodLinkNest own idx y host ∈ Ttab) (hsta : Cond.static y ∈ Ttab) (hini : Cond.initialized y.cls ∈ Ttab) (hcode : Cond.code y cc' nL' ret' ∈ Ttab) (hy : y.cls ≠ "java/lang/invoke/MethodHandle" ∧ y.cls ≠ "java/lang/invoke/VarHandle") (hpl : plainFor y = true) (hnum : (parseMethodDescriptor y.desc).map (fun d => d.parameters.length) = some av.length)
    (hdd : d' + 1 ≤ d) (hnl : nL' ≤ 11) (hav : ∀ v ∈ av, v.category = 1) (hal : av.length ≤ nL') (hst : (st.map fun v => v.category).sum ≤ 8) (hcells : kc + k ≤ X.2.2.2.1.cells) (hslots : ks + n ≤ X.2.2.2.1.slots)
    (hret : ∀ (v : Option Value) (w' : Wd), P (.inl v) w' → Go X g (kc + k) (ks + n) Q w' (pc + 3) lp (v.toList ++ st)) (hthr : ∀ (cn : String) (w' : Wd), P (.inr cn) w' → GoX X g (kc + k) (ks + n) Q w' pc lp cn) : Go X g kc ks Q w pc lp (av.reverse ++ st) := by
  obtain ⟨p, l, e, R, s, m, args, below, meth, c⟩ := X
  intro ls H locs h1 h2 h3 T hT Y
  have hts := hc.2.2.2.1
  obtain ⟨mk, hnamed⟩ := Cond.code_named (hts _ hcode)
  obtain ⟨methM, cM, hmethM, hck, hb, hml, hre, hlk, hex, hsigM⟩ := Cond.code_spec hnamed (hts _ hcode)
  have hstatic : methM.isStatic = true := Cond.static_spec hnamed hmethM (hts _ hsta)
  obtain ⟨kP, hkP, -⟩ := className_of_methodNamed hnamed
  have hinitP : kP.init = .initialized := Cond.initialized_spec (findClass_of_methodNamed hnamed) hkP (hts _ hini)
  obtain ⟨vm₁, X₁, hstep₁⟩ := Y.invokestaticNest hc.1 hc.2.2.1 (hts _ hl) hnamed hmethM hstatic hkP hinitP hy (g := F0 m pc ls (av.reverse ++ st)) rfl (argsL := av) (rest := st) (by have h9 := hnum; rw [hsigM] at h9; exact (Option.some.inj h9).symm) rfl (by rw [hc.2.1]; exact hd)
  have hK := call_core (f := F0 m pc ls st) X₁ hc hcon rfl h1.1 (by rw [hc.2.1]; exact hd) hnamed hmethM hck hb hml hre hlk (ex_nil hex) hpl hav hal (by show 2 * 0 + (st.map fun v => v.category).sum ≤ 8; omega) (Nat.le_trans hdd hc.2.2.2.2.2.2.2.2.2.1) (by have := hc.2.2.2.2.2.2.2.2.2.2.1; omega) hcells hslots (by show va_P _ _ _ T.heap; rw [hT]; exact h2) (by show va_S _ _ T.heap _; rw [hT]; exact h3)
  obtain ⟨r, w', hP, hres⟩ := hK
  rcases hres with ⟨v, rfl, T', locs', X', a1, a2, a3⟩ | ⟨cn, rfl, T', locs', x, cl, X', a1, a2, b4, b5, b6, b7, a3⟩
  · obtain ⟨t, t1, t2⟩ := hret v w' hP ls T'.heap locs' h1 a1 a2 T' rfl X'
    exact ⟨t, hstep₁ _ (fun acts => by rw [doInvoke_state]; exact a3.trans t1), t2⟩
  · obtain ⟨t, t1, t2⟩ := hthr cn w' hP ls T' locs' x cl st h1 X' a1 a2 b4 b5 b6 b7
    exact ⟨t, hstep₁ _ (fun acts => by rw [doInvoke_state]; exact a3.trans t1), t2⟩
end GCL
end
section
/-- it returns, and P holds -/
def Rp (P : Option Value → Wd → Prop) : Rt → Wd → Prop := fun x z => match x with
  | .inl v => P v z
  | .inr _ => False
theorem Rp_l {P : Option Value → Wd → Prop} {v : Option Value} {z : Wd} (h : Rp P (.inl v) z) : P v z := h
theorem Rp_r {P : Option Value → Wd → Prop} {v : String} {z : Wd} : ¬ Rp P (.inr v) z := fun h => h
/-- it throws one of the class cn, and P holds -/
def Tp (cn : String) (P : Wd → Prop) : Rt → Wd → Prop := fun x z => match x with
  | .inl _ => False
  | .inr c => c = cn ∧ P z
theorem Tp_l {cn : String} {P : Wd → Prop} {v : Option Value} {z : Wd} : ¬ Tp cn P (.inl v) z := fun h => h
section LNK
variable {X : Cxt} {g : GG} {cc : ByteArray} {ret : Option FieldType} {hx : List (Nat × Nat × Nat × Nat)} {d kc ks : Nat} {Q : State → Prop} {w : Wd} {pc : Nat} {lp : List (Option Value)} {st : List Value}
/-- PairedField$Standing: getfield score -/
theorem gS_9 (hc : Ok X g cc "PairedField$Standing" ret hx d) (hd : decode cc pc = .ok (.getfield 9, 3)) (k : Go X g kc ks Q w (pc + 3) lp (.ref (g.1 21) :: st)) : Go X g kc ks Q w pc lp (.ref (g.1 20) :: st) :=
  r_getf hc 20 1 0 (C := R_S) (T := T_S) (N := 10) hd (by decide) (ent_S g (w 20)) rfl (by decide) in_S rfl (t1_mem 32 rfl rfl) rfl k
/-- PairedField: getfield score -/
theorem gF_153 (hc : Ok X g cc "PairedField" ret hx d) (hd : decode cc pc = .ok (.getfield 153, 3)) (k : Go X g kc ks Q w (pc + 3) lp (.ref (g.1 21) :: st)) : Go X g kc ks Q w pc lp (.ref (g.1 20) :: st) :=
  r_getf hc 20 1 0 (C := R_S) (T := T_S) (N := 10) hd (by decide) (ent_S g (w 20)) rfl (by decide) in_S rfl (t1_mem 33 rfl rfl) rfl k
/-- PairedField$Standing: getfield balance -/
theorem gS_15 (hc : Ok X g cc "PairedField$Standing" ret hx d) (hd : decode cc pc = .ok (.getfield 15, 3)) (k : Go X g kc ks Q w (pc + 3) lp (.ref (g.1 22) :: st)) : Go X g kc ks Q w pc lp (.ref (g.1 20) :: st) :=
  r_getf hc 20 1 1 (C := R_S) (T := T_S) (N := 10) hd (by decide) (ent_S g (w 20)) rfl (by decide) in_S rfl (t1_mem 34 rfl rfl) rfl k
/-- PairedField: getfield balance -/
theorem gF_156 (hc : Ok X g cc "PairedField" ret hx d) (hd : decode cc pc = .ok (.getfield 156, 3)) (k : Go X g kc ks Q w (pc + 3) lp (.ref (g.1 22) :: st)) : Go X g kc ks Q w pc lp (.ref (g.1 20) :: st) :=
  r_getf hc 20 1 1 (C := R_S) (T := T_S) (N := 10) hd (by decide) (ent_S g (w 20)) rfl (by decide) in_S rfl (t1_mem 35 rfl rfl) rfl k
/-- PairedField$Standing: getfield buchholz -/
theorem gS_18 (hc : Ok X g cc "PairedField$Standing" ret hx d) (hd : decode cc pc = .ok (.getfield 18, 3)) (k : Go X g kc ks Q w (pc + 3) lp (.ref (g.1 23) :: st)) : Go X g kc ks Q w pc lp (.ref (g.1 20) :: st) :=
  r_getf hc 20 1 2 (C := R_S) (T := T_S) (N := 10) hd (by decide) (ent_S g (w 20)) rfl (by decide) in_S rfl (t1_mem 36 rfl rfl) rfl k
/-- PairedField: getfield buchholz -/
theorem gF_159 (hc : Ok X g cc "PairedField" ret hx d) (hd : decode cc pc = .ok (.getfield 159, 3)) (k : Go X g kc ks Q w (pc + 3) lp (.ref (g.1 23) :: st)) : Go X g kc ks Q w pc lp (.ref (g.1 20) :: st) :=
  r_getf hc 20 1 2 (C := R_S) (T := T_S) (N := 10) hd (by decide) (ent_S g (w 20)) rfl (by decide) in_S rfl (t1_mem 37 rfl rfl) rfl k
/-- PairedField$Standing: getfield berger -/
theorem gS_21 (hc : Ok X g cc "PairedField$Standing" ret hx d) (hd : decode cc pc = .ok (.getfield 21, 3)) (k : Go X g kc ks Q w (pc + 3) lp (.ref (g.1 24) :: st)) : Go X g kc ks Q w pc lp (.ref (g.1 20) :: st) :=
  r_getf hc 20 1 3 (C := R_S) (T := T_S) (N := 10) hd (by decide) (ent_S g (w 20)) rfl (by decide) in_S rfl (t1_mem 38 rfl rfl) rfl k
/-- PairedField: getfield berger -/
theorem gF_162 (hc : Ok X g cc "PairedField" ret hx d) (hd : decode cc pc = .ok (.getfield 162, 3)) (k : Go X g kc ks Q w (pc + 3) lp (.ref (g.1 24) :: st)) : Go X g kc ks Q w pc lp (.ref (g.1 20) :: st) :=
  r_getf hc 20 1 3 (C := R_S) (T := T_S) (N := 10) hd (by decide) (ent_S g (w 20)) rfl (by decide) in_S rfl (t1_mem 39 rfl rfl) rfl k
/-- PairedField$Standing: getfield wins -/
theorem gS_24 (hc : Ok X g cc "PairedField$Standing" ret hx d) (hd : decode cc pc = .ok (.getfield 24, 3)) (k : Go X g kc ks Q w (pc + 3) lp (.ref (g.1 25) :: st)) : Go X g kc ks Q w pc lp (.ref (g.1 20) :: st) :=
  r_getf hc 20 1 4 (C := R_S) (T := T_S) (N := 10) hd (by decide) (ent_S g (w 20)) rfl (by decide) in_S rfl (t1_mem 40 rfl rfl) rfl k
/-- PairedField: getfield wins -/
theorem gF_165 (hc : Ok X g cc "PairedField" ret hx d) (hd : decode cc pc = .ok (.getfield 165, 3)) (k : Go X g kc ks Q w (pc + 3) lp (.ref (g.1 25) :: st)) : Go X g kc ks Q w pc lp (.ref (g.1 20) :: st) :=
  r_getf hc 20 1 4 (C := R_S) (T := T_S) (N := 10) hd (by decide) (ent_S g (w 20)) rfl (by decide) in_S rfl (t1_mem 41 rfl rfl) rfl k
/-- PairedField$Standing: getfield byes -/
theorem gS_27 (hc : Ok X g cc "PairedField$Standing" ret hx d) (hd : decode cc pc = .ok (.getfield 27, 3)) (k : Go X g kc ks Q w (pc + 3) lp (.ref (g.1 26) :: st)) : Go X g kc ks Q w pc lp (.ref (g.1 20) :: st) :=
  r_getf hc 20 1 5 (C := R_S) (T := T_S) (N := 10) hd (by decide) (ent_S g (w 20)) rfl (by decide) in_S rfl (t1_mem 42 rfl rfl) rfl k
/-- PairedField: getfield byes -/
theorem gF_168 (hc : Ok X g cc "PairedField" ret hx d) (hd : decode cc pc = .ok (.getfield 168, 3)) (k : Go X g kc ks Q w (pc + 3) lp (.ref (g.1 26) :: st)) : Go X g kc ks Q w pc lp (.ref (g.1 20) :: st) :=
  r_getf hc 20 1 5 (C := R_S) (T := T_S) (N := 10) hd (by decide) (ent_S g (w 20)) rfl (by decide) in_S rfl (t1_mem 43 rfl rfl) rfl k
/-- PairedField$Standing: getfield games -/
theorem gS_30 (hc : Ok X g cc "PairedField$Standing" ret hx d) (hd : decode cc pc = .ok (.getfield 30, 3)) (k : Go X g kc ks Q w (pc + 3) lp (.ref (g.1 27) :: st)) : Go X g kc ks Q w pc lp (.ref (g.1 20) :: st) :=
  r_getf hc 20 1 6 (C := R_S) (T := T_S) (N := 10) hd (by decide) (ent_S g (w 20)) rfl (by decide) in_S rfl (t1_mem 44 rfl rfl) rfl k
/-- PairedField: getfield games -/
theorem gF_171 (hc : Ok X g cc "PairedField" ret hx d) (hd : decode cc pc = .ok (.getfield 171, 3)) (k : Go X g kc ks Q w (pc + 3) lp (.ref (g.1 27) :: st)) : Go X g kc ks Q w pc lp (.ref (g.1 20) :: st) :=
  r_getf hc 20 1 6 (C := R_S) (T := T_S) (N := 10) hd (by decide) (ent_S g (w 20)) rfl (by decide) in_S rfl (t1_mem 45 rfl rfl) rfl k
/-- PairedField$Standing: getfield latest -/
theorem gS_33 (hc : Ok X g cc "PairedField$Standing" ret hx d) (hd : decode cc pc = .ok (.getfield 33, 3)) (k : Go X g kc ks Q w (pc + 3) lp (.ref (g.1 28) :: st)) : Go X g kc ks Q w pc lp (.ref (g.1 20) :: st) :=
  r_getf hc 20 1 7 (C := R_S) (T := T_S) (N := 10) hd (by decide) (ent_S g (w 20)) rfl (by decide) in_S rfl (t1_mem 46 rfl rfl) rfl k
/-- PairedField$Standing: getfield lastButOne -/
theorem gS_36 (hc : Ok X g cc "PairedField$Standing" ret hx d) (hd : decode cc pc = .ok (.getfield 36, 3)) (k : Go X g kc ks Q w (pc + 3) lp (.ref (g.1 29) :: st)) : Go X g kc ks Q w pc lp (.ref (g.1 20) :: st) :=
  r_getf hc 20 1 8 (C := R_S) (T := T_S) (N := 10) hd (by decide) (ent_S g (w 20)) rfl (by decide) in_S rfl (t1_mem 47 rfl rfl) rfl k
/-- PairedField$Standing: getfield met -/
theorem gS_39 (hc : Ok X g cc "PairedField$Standing" ret hx d) (hd : decode cc pc = .ok (.getfield 39, 3)) (k : Go X g kc ks Q w (pc + 3) lp (.ref (g.1 30) :: st)) : Go X g kc ks Q w pc lp (.ref (g.1 20) :: st) :=
  r_getf hc 20 1 9 (C := R_S) (T := T_S) (N := 10) hd (by decide) (ent_S g (w 20)) rfl (by decide) in_S rfl (t1_mem 48 rfl rfl) rfl k
/-- PairedField$Pairing: getfield met -/
theorem gP_101 (hc : Ok X g cc "PairedField$Pairing" ret hx d) (hd : decode cc pc = .ok (.getfield 101, 3)) (k : Go X g kc ks Q w (pc + 3) lp (.ref (g.1 30) :: st)) : Go X g kc ks Q w pc lp (.ref (g.1 20) :: st) :=
  r_getf hc 20 1 9 (C := R_S) (T := T_S) (N := 10) hd (by decide) (ent_S g (w 20)) rfl (by decide) in_S rfl (t1_mem 49 rfl rfl) rfl k
/-- PairedField$Pairing: getfield seated -/
theorem gP_9 (hc : Ok X g cc "PairedField$Pairing" ret hx d) (hd : decode cc pc = .ok (.getfield 9, 3)) (k : Go X g kc ks Q w (pc + 3) lp (.ref (g.1 32) :: st)) : Go X g kc ks Q w pc lp (.ref (g.1 31) :: st) :=
  r_getf hc 31 2 0 (C := R_P) (T := T_P) (N := 6) hd (by decide) (ent_P g (w 31)) rfl (by decide) in_P rfl (t1_mem 80 rfl rfl) rfl k
/-- PairedField$Pairing: getfield seats -/
theorem gP_44 (hc : Ok X g cc "PairedField$Pairing" ret hx d) (hd : decode cc pc = .ok (.getfield 44, 3)) (k : Go X g kc ks Q w (pc + 3) lp (.int (w 31 1) :: st)) : Go X g kc ks Q w pc lp (.ref (g.1 31) :: st) :=
  r_getf hc 31 2 1 (C := R_P) (T := T_P) (N := 6) hd (by decide) (ent_P g (w 31)) rfl (by decide) in_P rfl (t1_mem 81 rfl rfl) rfl k
theorem pP_44 {x : Int32} (hc : Ok X g cc "PairedField$Pairing" ret hx d) (hd : decode cc pc = .ok (.putfield 44, 3)) (k : Go X g kc ks Q (wu w 31 1 x) (pc + 3) lp st) : Go X g kc ks Q w pc lp (.int x :: .ref (g.1 31) :: st) :=
  r_putf hc 31 2 1 (C := R_P) (T := T_P) (N := 6) (ty0 := ty_P) (ty := .int) hd (by decide) (ent_P g (w 31)) rfl (by decide) in_P rfl tk_P nm_P rfl (by decide +kernel) rfl rfl (Nat.le_of_ble_eq_true rfl) (t1_mem 81 rfl rfl) rfl k
/-- PairedField$Pairing: getfield byePlayer -/
theorem gP_15 (hc : Ok X g cc "PairedField$Pairing" ret hx d) (hd : decode cc pc = .ok (.getfield 15, 3)) (k : Go X g kc ks Q w (pc + 3) lp (.int (w 31 2) :: st)) : Go X g kc ks Q w pc lp (.ref (g.1 31) :: st) :=
  r_getf hc 31 2 2 (C := R_P) (T := T_P) (N := 6) hd (by decide) (ent_P g (w 31)) rfl (by decide) in_P rfl (t1_mem 82 rfl rfl) rfl k
theorem pP_15 {x : Int32} (hc : Ok X g cc "PairedField$Pairing" ret hx d) (hd : decode cc pc = .ok (.putfield 15, 3)) (k : Go X g kc ks Q (wu w 31 2 x) (pc + 3) lp st) : Go X g kc ks Q w pc lp (.int x :: .ref (g.1 31) :: st) :=
  r_putf hc 31 2 2 (C := R_P) (T := T_P) (N := 6) (ty0 := ty_P) (ty := .int) hd (by decide) (ent_P g (w 31)) rfl (by decide) in_P rfl tk_P nm_P rfl (by decide +kernel) rfl rfl (Nat.le_of_ble_eq_true rfl) (t1_mem 82 rfl rfl) rfl k
/-- PairedField$Pairing: getfield price -/
theorem gP_21 (hc : Ok X g cc "PairedField$Pairing" ret hx d) (hd : decode cc pc = .ok (.getfield 21, 3)) (k : Go X g kc ks Q w (pc + 3) lp (.ref (g.1 33) :: st)) : Go X g kc ks Q w pc lp (.ref (g.1 31) :: st) :=
  r_getf hc 31 2 3 (C := R_P) (T := T_P) (N := 6) hd (by decide) (ent_P g (w 31)) rfl (by decide) in_P rfl (t1_mem 83 rfl rfl) rfl k
/-- PairedField$Pairing: getfield least -/
theorem gP_24 (hc : Ok X g cc "PairedField$Pairing" ret hx d) (hd : decode cc pc = .ok (.getfield 24, 3)) (k : Go X g kc ks Q w (pc + 3) lp (.ref (g.1 46) :: st)) : Go X g kc ks Q w pc lp (.ref (g.1 31) :: st) :=
  r_getf hc 31 2 4 (C := R_P) (T := T_P) (N := 6) hd (by decide) (ent_P g (w 31)) rfl (by decide) in_P rfl (t1_mem 84 rfl rfl) rfl k
/-- PairedField$Pairing: getfield counted -/
theorem gP_27 (hc : Ok X g cc "PairedField$Pairing" ret hx d) (hd : decode cc pc = .ok (.getfield 27, 3)) (k : Go X g kc ks Q w (pc + 3) lp (.ref (g.1 47) :: st)) : Go X g kc ks Q w pc lp (.ref (g.1 31) :: st) :=
  r_getf hc 31 2 5 (C := R_P) (T := T_P) (N := 6) hd (by decide) (ent_P g (w 31)) rfl (by decide) in_P rfl (t1_mem 85 rfl rfl) rfl k
/-- PairedField: getfield cells -/
theorem gF_11 (hc : Ok X g cc "PairedField" ret hx d) (hd : decode cc pc = .ok (.getfield 11, 3)) (k : Go X g kc ks Q w (pc + 3) lp (.ref (g.1 1) :: st)) : Go X g kc ks Q w pc lp (.ref (g.1 0) :: st) :=
  r_getf hc 0 0 0 (C := R_F) (T := T_F) (N := 8) hd (by decide) (ent_F g (w 0)) rfl (by decide) in_F rfl (t1_mem 105 rfl rfl) rfl k
/-- PairedField: getfield present -/
theorem gF_14 (hc : Ok X g cc "PairedField" ret hx d) (hd : decode cc pc = .ok (.getfield 14, 3)) (k : Go X g kc ks Q w (pc + 3) lp (.ref (g.1 18) :: st)) : Go X g kc ks Q w pc lp (.ref (g.1 0) :: st) :=
  r_getf hc 0 0 1 (C := R_F) (T := T_F) (N := 8) hd (by decide) (ent_F g (w 0)) rfl (by decide) in_F rfl (t1_mem 106 rfl rfl) rfl k
/-- PairedField: getfield apartFrom -/
theorem gF_18 (hc : Ok X g cc "PairedField" ret hx d) (hd : decode cc pc = .ok (.getfield 18, 3)) (k : Go X g kc ks Q w (pc + 3) lp (.ref (g.1 19) :: st)) : Go X g kc ks Q w pc lp (.ref (g.1 0) :: st) :=
  r_getf hc 0 0 2 (C := R_F) (T := T_F) (N := 8) hd (by decide) (ent_F g (w 0)) rfl (by decide) in_F rfl (t1_mem 107 rfl rfl) rfl k
/-- PairedField: getfield standing -/
theorem gF_25 (hc : Ok X g cc "PairedField" ret hx d) (hd : decode cc pc = .ok (.getfield 25, 3)) (k : Go X g kc ks Q w (pc + 3) lp (.ref (g.1 20) :: st)) : Go X g kc ks Q w pc lp (.ref (g.1 0) :: st) :=
  r_getf hc 0 0 3 (C := R_F) (T := T_F) (N := 8) hd (by decide) (ent_F g (w 0)) rfl (by decide) in_F rfl (t1_mem 108 rfl rfl) rfl k
/-- PairedField: getfield pairing -/
theorem gF_32 (hc : Ok X g cc "PairedField" ret hx d) (hd : decode cc pc = .ok (.getfield 32, 3)) (k : Go X g kc ks Q w (pc + 3) lp (.ref (g.1 31) :: st)) : Go X g kc ks Q w pc lp (.ref (g.1 0) :: st) :=
  r_getf hc 0 0 4 (C := R_F) (T := T_F) (N := 8) hd (by decide) (ent_F g (w 0)) rfl (by decide) in_F rfl (t1_mem 109 rfl rfl) rfl k
/-- PairedField: getfield playerCount -/
theorem gF_45 (hc : Ok X g cc "PairedField" ret hx d) (hd : decode cc pc = .ok (.getfield 45, 3)) (k : Go X g kc ks Q w (pc + 3) lp (.int (w 0 5) :: st)) : Go X g kc ks Q w pc lp (.ref (g.1 0) :: st) :=
  r_getf hc 0 0 5 (C := R_F) (T := T_F) (N := 8) hd (by decide) (ent_F g (w 0)) rfl (by decide) in_F rfl (t1_mem 110 rfl rfl) rfl k
theorem pF_45 {x : Int32} (hc : Ok X g cc "PairedField" ret hx d) (hd : decode cc pc = .ok (.putfield 45, 3)) (k : Go X g kc ks Q (wu w 0 5 x) (pc + 3) lp st) : Go X g kc ks Q w pc lp (.int x :: .ref (g.1 0) :: st) :=
  r_putf hc 0 0 5 (C := R_F) (T := T_F) (N := 8) (ty0 := ty_F) (ty := .int) hd (by decide) (ent_F g (w 0)) rfl (by decide) in_F rfl tk_F nm_F rfl (by decide +kernel) rfl rfl (Nat.le_of_ble_eq_true rfl) (t1_mem 110 rfl rfl) rfl k
/-- PairedField: getfield closedRounds -/
theorem gF_73 (hc : Ok X g cc "PairedField" ret hx d) (hd : decode cc pc = .ok (.getfield 73, 3)) (k : Go X g kc ks Q w (pc + 3) lp (.int (w 0 6) :: st)) : Go X g kc ks Q w pc lp (.ref (g.1 0) :: st) :=
  r_getf hc 0 0 6 (C := R_F) (T := T_F) (N := 8) hd (by decide) (ent_F g (w 0)) rfl (by decide) in_F rfl (t1_mem 111 rfl rfl) rfl k
theorem pF_73 {x : Int32} (hc : Ok X g cc "PairedField" ret hx d) (hd : decode cc pc = .ok (.putfield 73, 3)) (k : Go X g kc ks Q (wu w 0 6 x) (pc + 3) lp st) : Go X g kc ks Q w pc lp (.int x :: .ref (g.1 0) :: st) :=
  r_putf hc 0 0 6 (C := R_F) (T := T_F) (N := 8) (ty0 := ty_F) (ty := .int) hd (by decide) (ent_F g (w 0)) rfl (by decide) in_F rfl tk_F nm_F rfl (by decide +kernel) rfl rfl (Nat.le_of_ble_eq_true rfl) (t1_mem 111 rfl rfl) rfl k
/-- PairedField: getfield open -/
theorem gF_135 (hc : Ok X g cc "PairedField" ret hx d) (hd : decode cc pc = .ok (.getfield 135, 3)) (k : Go X g kc ks Q w (pc + 3) lp (.int (w 0 7) :: st)) : Go X g kc ks Q w pc lp (.ref (g.1 0) :: st) :=
  r_getf hc 0 0 7 (C := R_F) (T := T_F) (N := 8) hd (by decide) (ent_F g (w 0)) rfl (by decide) in_F rfl (t1_mem 112 rfl rfl) rfl k
theorem pF_135 {x : Int32} (hc : Ok X g cc "PairedField" ret hx d) (hd : decode cc pc = .ok (.putfield 135, 3)) (hb : x = 0 ∨ x = 1) (k : Go X g kc ks Q (wu w 0 7 x) (pc + 3) lp st) : Go X g kc ks Q w pc lp (.int x :: .ref (g.1 0) :: st) :=
  r_putf hc 0 0 7 (C := R_F) (T := T_F) (N := 8) (ty0 := ty_F) (ty := .boolean) hd (by decide) (ent_F g (w 0)) rfl (by decide) in_F rfl tk_F nm_F rfl (by decide +kernel) (by rcases hb with rfl | rfl <;> rfl) (by rcases hb with rfl | rfl <;> rfl) (Nat.le_of_ble_eq_true rfl) (t1_mem 112 rfl rfl) rfl k
/-- PairedFieldModel: getfield thrown -/
theorem gM_48 (hc : Ok X g cc "PairedFieldModel" ret hx d) (hd : decode cc pc = .ok (.getfield 48, 3)) (k : Go X g kc ks Q w (pc + 3) lp (.int (w 48 0) :: st)) : Go X g kc ks Q w pc lp (.ref (g.1 48) :: st) :=
  r_getf hc 48 3 0 (C := R_M) (T := T_M) (N := 17) hd (by decide) (ent_M g (w 48)) rfl (by decide) in_M rfl (t3_mem 115 rfl rfl) rfl k
theorem pM_48 {x : Int32} (hc : Ok X g cc "PairedFieldModel" ret hx d) (hd : decode cc pc = .ok (.putfield 48, 3)) (k : Go X g kc ks Q (wu w 48 0 x) (pc + 3) lp st) : Go X g kc ks Q w pc lp (.int x :: .ref (g.1 48) :: st) :=
  r_putf hc 48 3 0 (C := R_M) (T := T_M) (N := 17) (ty0 := ty_M) (ty := .int) hd (by decide) (ent_M g (w 48)) rfl (by decide) in_M rfl tk_M nm_M rfl (by decide +kernel) rfl rfl (Nat.le_of_ble_eq_true rfl) (t3_mem 115 rfl rfl) rfl k
/-- PairedFieldModel: getfield players -/
theorem gM_44 (hc : Ok X g cc "PairedFieldModel" ret hx d) (hd : decode cc pc = .ok (.getfield 44, 3)) (k : Go X g kc ks Q w (pc + 3) lp (.int (w 48 1) :: st)) : Go X g kc ks Q w pc lp (.ref (g.1 48) :: st) :=
  r_getf hc 48 3 1 (C := R_M) (T := T_M) (N := 17) hd (by decide) (ent_M g (w 48)) rfl (by decide) in_M rfl (t3_mem 116 rfl rfl) rfl k
theorem pM_44 {x : Int32} (hc : Ok X g cc "PairedFieldModel" ret hx d) (hd : decode cc pc = .ok (.putfield 44, 3)) (k : Go X g kc ks Q (wu w 48 1 x) (pc + 3) lp st) : Go X g kc ks Q w pc lp (.int x :: .ref (g.1 48) :: st) :=
  r_putf hc 48 3 1 (C := R_M) (T := T_M) (N := 17) (ty0 := ty_M) (ty := .int) hd (by decide) (ent_M g (w 48)) rfl (by decide) in_M rfl tk_M nm_M rfl (by decide +kernel) rfl rfl (Nat.le_of_ble_eq_true rfl) (t3_mem 116 rfl rfl) rfl k
/-- PairedFieldModel: getfield in -/
theorem gM_7 (hc : Ok X g cc "PairedFieldModel" ret hx d) (hd : decode cc pc = .ok (.getfield 7, 3)) (k : Go X g kc ks Q w (pc + 3) lp (.ref (g.1 49) :: st)) : Go X g kc ks Q w pc lp (.ref (g.1 48) :: st) :=
  r_getf hc 48 3 2 (C := R_M) (T := T_M) (N := 17) hd (by decide) (ent_M g (w 48)) rfl (by decide) in_M rfl (t3_mem 117 rfl rfl) rfl k
/-- PairedFieldModel: getfield kept -/
theorem gM_13 (hc : Ok X g cc "PairedFieldModel" ret hx d) (hd : decode cc pc = .ok (.getfield 13, 3)) (k : Go X g kc ks Q w (pc + 3) lp (.ref (g.1 50) :: st)) : Go X g kc ks Q w pc lp (.ref (g.1 48) :: st) :=
  r_getf hc 48 3 3 (C := R_M) (T := T_M) (N := 17) hd (by decide) (ent_M g (w 48)) rfl (by decide) in_M rfl (t3_mem 118 rfl rfl) rfl k
/-- PairedFieldModel: getfield closed -/
theorem gM_63 (hc : Ok X g cc "PairedFieldModel" ret hx d) (hd : decode cc pc = .ok (.getfield 63, 3)) (k : Go X g kc ks Q w (pc + 3) lp (.int (w 48 4) :: st)) : Go X g kc ks Q w pc lp (.ref (g.1 48) :: st) :=
  r_getf hc 48 3 4 (C := R_M) (T := T_M) (N := 17) hd (by decide) (ent_M g (w 48)) rfl (by decide) in_M rfl (t3_mem 119 rfl rfl) rfl k
theorem pM_63 {x : Int32} (hc : Ok X g cc "PairedFieldModel" ret hx d) (hd : decode cc pc = .ok (.putfield 63, 3)) (k : Go X g kc ks Q (wu w 48 4 x) (pc + 3) lp st) : Go X g kc ks Q w pc lp (.int x :: .ref (g.1 48) :: st) :=
  r_putf hc 48 3 4 (C := R_M) (T := T_M) (N := 17) (ty0 := ty_M) (ty := .int) hd (by decide) (ent_M g (w 48)) rfl (by decide) in_M rfl tk_M nm_M rfl (by decide +kernel) rfl rfl (Nat.le_of_ble_eq_true rfl) (t3_mem 119 rfl rfl) rfl k
/-- PairedFieldModel: getfield open -/
theorem gM_51 (hc : Ok X g cc "PairedFieldModel" ret hx d) (hd : decode cc pc = .ok (.getfield 51, 3)) (k : Go X g kc ks Q w (pc + 3) lp (.int (w 48 5) :: st)) : Go X g kc ks Q w pc lp (.ref (g.1 48) :: st) :=
  r_getf hc 48 3 5 (C := R_M) (T := T_M) (N := 17) hd (by decide) (ent_M g (w 48)) rfl (by decide) in_M rfl (t3_mem 120 rfl rfl) rfl k
theorem pM_51 {x : Int32} (hc : Ok X g cc "PairedFieldModel" ret hx d) (hd : decode cc pc = .ok (.putfield 51, 3)) (hb : x = 0 ∨ x = 1) (k : Go X g kc ks Q (wu w 48 5 x) (pc + 3) lp st) : Go X g kc ks Q w pc lp (.int x :: .ref (g.1 48) :: st) :=
  r_putf hc 48 3 5 (C := R_M) (T := T_M) (N := 17) (ty0 := ty_M) (ty := .boolean) hd (by decide) (ent_M g (w 48)) rfl (by decide) in_M rfl tk_M nm_M rfl (by decide +kernel) (by rcases hb with rfl | rfl <;> rfl) (by rcases hb with rfl | rfl <;> rfl) (Nat.le_of_ble_eq_true rfl) (t3_mem 120 rfl rfl) rfl k
/-- PairedFieldModel: getfield opponents -/
theorem gM_16 (hc : Ok X g cc "PairedFieldModel" ret hx d) (hd : decode cc pc = .ok (.getfield 16, 3)) (k : Go X g kc ks Q w (pc + 3) lp (.ref (g.1 51) :: st)) : Go X g kc ks Q w pc lp (.ref (g.1 48) :: st) :=
  r_getf hc 48 3 6 (C := R_M) (T := T_M) (N := 17) hd (by decide) (ent_M g (w 48)) rfl (by decide) in_M rfl (t3_mem 121 rfl rfl) rfl k
/-- PairedFieldModel: getfield whites -/
theorem gM_20 (hc : Ok X g cc "PairedFieldModel" ret hx d) (hd : decode cc pc = .ok (.getfield 20, 3)) (k : Go X g kc ks Q w (pc + 3) lp (.ref (g.1 52) :: st)) : Go X g kc ks Q w pc lp (.ref (g.1 48) :: st) :=
  r_getf hc 48 3 7 (C := R_M) (T := T_M) (N := 17) hd (by decide) (ent_M g (w 48)) rfl (by decide) in_M rfl (t3_mem 122 rfl rfl) rfl k
/-- PairedFieldModel: getfield results -/
theorem gM_23 (hc : Ok X g cc "PairedFieldModel" ret hx d) (hd : decode cc pc = .ok (.getfield 23, 3)) (k : Go X g kc ks Q w (pc + 3) lp (.ref (g.1 53) :: st)) : Go X g kc ks Q w pc lp (.ref (g.1 48) :: st) :=
  r_getf hc 48 3 8 (C := R_M) (T := T_M) (N := 17) hd (by decide) (ent_M g (w 48)) rfl (by decide) in_M rfl (t3_mem 123 rfl rfl) rfl k
/-- PairedFieldModel: getfield many -/
theorem gM_100 (hc : Ok X g cc "PairedFieldModel" ret hx d) (hd : decode cc pc = .ok (.getfield 100, 3)) (k : Go X g kc ks Q w (pc + 3) lp (.int (w 48 9) :: st)) : Go X g kc ks Q w pc lp (.ref (g.1 48) :: st) :=
  r_getf hc 48 3 9 (C := R_M) (T := T_M) (N := 17) hd (by decide) (ent_M g (w 48)) rfl (by decide) in_M rfl (t3_mem 124 rfl rfl) rfl k
theorem pM_100 {x : Int32} (hc : Ok X g cc "PairedFieldModel" ret hx d) (hd : decode cc pc = .ok (.putfield 100, 3)) (k : Go X g kc ks Q (wu w 48 9 x) (pc + 3) lp st) : Go X g kc ks Q w pc lp (.int x :: .ref (g.1 48) :: st) :=
  r_putf hc 48 3 9 (C := R_M) (T := T_M) (N := 17) (ty0 := ty_M) (ty := .int) hd (by decide) (ent_M g (w 48)) rfl (by decide) in_M rfl tk_M nm_M rfl (by decide +kernel) rfl rfl (Nat.le_of_ble_eq_true rfl) (t3_mem 124 rfl rfl) rfl k
/-- PairedFieldModel: getfield order -/
theorem gM_26 (hc : Ok X g cc "PairedFieldModel" ret hx d) (hd : decode cc pc = .ok (.getfield 26, 3)) (k : Go X g kc ks Q w (pc + 3) lp (.ref (g.1 54) :: st)) : Go X g kc ks Q w pc lp (.ref (g.1 48) :: st) :=
  r_getf hc 48 3 10 (C := R_M) (T := T_M) (N := 17) hd (by decide) (ent_M g (w 48)) rfl (by decide) in_M rfl (t3_mem 125 rfl rfl) rfl k
/-- PairedFieldModel: getfield bye -/
theorem gM_97 (hc : Ok X g cc "PairedFieldModel" ret hx d) (hd : decode cc pc = .ok (.getfield 97, 3)) (k : Go X g kc ks Q w (pc + 3) lp (.int (w 48 11) :: st)) : Go X g kc ks Q w pc lp (.ref (g.1 48) :: st) :=
  r_getf hc 48 3 11 (C := R_M) (T := T_M) (N := 17) hd (by decide) (ent_M g (w 48)) rfl (by decide) in_M rfl (t3_mem 126 rfl rfl) rfl k
theorem pM_97 {x : Int32} (hc : Ok X g cc "PairedFieldModel" ret hx d) (hd : decode cc pc = .ok (.putfield 97, 3)) (k : Go X g kc ks Q (wu w 48 11 x) (pc + 3) lp st) : Go X g kc ks Q w pc lp (.int x :: .ref (g.1 48) :: st) :=
  r_putf hc 48 3 11 (C := R_M) (T := T_M) (N := 17) (ty0 := ty_M) (ty := .int) hd (by decide) (ent_M g (w 48)) rfl (by decide) in_M rfl tk_M nm_M rfl (by decide +kernel) rfl rfl (Nat.le_of_ble_eq_true rfl) (t3_mem 126 rfl rfl) rfl k
/-- PairedFieldModel: getfield costs -/
theorem gM_29 (hc : Ok X g cc "PairedFieldModel" ret hx d) (hd : decode cc pc = .ok (.getfield 29, 3)) (k : Go X g kc ks Q w (pc + 3) lp (.ref (g.1 55) :: st)) : Go X g kc ks Q w pc lp (.ref (g.1 48) :: st) :=
  r_getf hc 48 3 12 (C := R_M) (T := T_M) (N := 17) hd (by decide) (ent_M g (w 48)) rfl (by decide) in_M rfl (t3_mem 127 rfl rfl) rfl k
/-- PairedFieldModel: getfield best -/
theorem gM_32 (hc : Ok X g cc "PairedFieldModel" ret hx d) (hd : decode cc pc = .ok (.getfield 32, 3)) (k : Go X g kc ks Q w (pc + 3) lp (.ref (g.1 56) :: st)) : Go X g kc ks Q w pc lp (.ref (g.1 48) :: st) :=
  r_getf hc 48 3 13 (C := R_M) (T := T_M) (N := 17) hd (by decide) (ent_M g (w 48)) rfl (by decide) in_M rfl (t3_mem 128 rfl rfl) rfl k
/-- PairedFieldModel: getfield pick -/
theorem gM_35 (hc : Ok X g cc "PairedFieldModel" ret hx d) (hd : decode cc pc = .ok (.getfield 35, 3)) (k : Go X g kc ks Q w (pc + 3) lp (.ref (g.1 57) :: st)) : Go X g kc ks Q w pc lp (.ref (g.1 48) :: st) :=
  r_getf hc 48 3 14 (C := R_M) (T := T_M) (N := 17) hd (by decide) (ent_M g (w 48)) rfl (by decide) in_M rfl (t3_mem 129 rfl rfl) rfl k
/-- PairedFieldModel: getfield waysOf -/
theorem gM_38 (hc : Ok X g cc "PairedFieldModel" ret hx d) (hd : decode cc pc = .ok (.getfield 38, 3)) (k : Go X g kc ks Q w (pc + 3) lp (.ref (g.1 58) :: st)) : Go X g kc ks Q w pc lp (.ref (g.1 48) :: st) :=
  r_getf hc 48 3 15 (C := R_M) (T := T_M) (N := 17) hd (by decide) (ent_M g (w 48)) rfl (by decide) in_M rfl (t3_mem 130 rfl rfl) rfl k
/-- PairedFieldModel: getfield places -/
theorem gM_41 (hc : Ok X g cc "PairedFieldModel" ret hx d) (hd : decode cc pc = .ok (.getfield 41, 3)) (k : Go X g kc ks Q w (pc + 3) lp (.ref (g.1 59) :: st)) : Go X g kc ks Q w pc lp (.ref (g.1 48) :: st) :=
  r_getf hc 48 3 16 (C := R_M) (T := T_M) (N := 17) hd (by decide) (ent_M g (w 48)) rfl (by decide) in_M rfl (t3_mem 131 rfl rfl) rfl k
/-- PairedField: a call of java/lang/Math.min -/
theorem kF_36 {d' k n : Nat} {P : Rt → Wd → Prop} {a0 : Int32} {a1 : Int32} (hc : Ok X g cc "PairedField" ret hx d) (hd : decode cc pc = .ok (.invokestatic 36, 3)) (hcon : Con X.2.1 g yH_min bH_min 2 ((some .int)) [] d' k n [.int a0, .int a1] w P) (hdd : d' + 1 ≤ d) (hst : (st.map fun v => v.category).sum ≤ 8) (hcells : kc + k ≤ X.2.2.2.1.cells) (hslots : ks + n ≤ X.2.2.2.1.slots)
    (hret : ∀ (v : Option Value) (w' : Wd), P (.inl v) w' → Go X g (kc + k) (ks + n) Q w' (pc + 3) lp (v.toList ++ st)) (hthr : ∀ (cn : String) (w' : Wd), P (.inr cn) w' → GoX X g (kc + k) (ks + n) Q w' pc lp cn) : Go X g kc ks Q w pc lp (.int a1 :: .int a0 :: st) :=
  r_calls (av := [.int a0, .int a1]) (nL' := 2) hc hd hcon (t1_mem 99 rfl rfl) (t1_mem 100 rfl rfl) (t1_mem 4 rfl rfl) (t1_mem 101 rfl rfl) (by decide) (by decide +kernel) (show (parseMethodDescriptor yH_min.desc).map (fun d => d.parameters.length) = some 2 by decide +kernel) hdd (by decide) (fun v hv => by simp only [List.mem_cons, List.not_mem_nil, or_false] at hv; rcases hv with rfl | rfl <;> rfl) (Nat.le_of_ble_eq_true rfl) hst hcells hslots hret hthr
theorem kF_36r {d' : Nat} {P : Option Value → Wd → Prop} {a0 : Int32} {a1 : Int32} (hc : Ok X g cc "PairedField" ret hx d) (hd : decode cc pc = .ok (.invokestatic 36, 3)) (hcon : Con X.2.1 g yH_min bH_min 2 ((some .int)) [] d' 0 0 [.int a0, .int a1] w (Rp P)) (hdd : d' + 1 ≤ d) (hst : (st.map fun v => v.category).sum ≤ 8) (hret : ∀ (v : Option Value) (w' : Wd), P v w' → Go X g 0 0 Q w' (pc + 3) lp (v.toList ++ st)) : Go X g 0 0 Q w pc lp (.int a1 :: .int a0 :: st) :=
  kF_36 hc hd hcon hdd hst (Nat.zero_le _) (Nat.zero_le _) (fun v w' h => hret v w' (Rp_l h)) (fun cn w' h => absurd h Rp_r)
theorem kF_36t {d' : Nat} {cn : String} {P : Wd → Prop} {P2 : Rt → Wd → Prop} {a0 : Int32} {a1 : Int32} (hc : Ok X g cc "PairedField" ret [] d) (hd : decode cc pc = .ok (.invokestatic 36, 3)) (hcon : Con X.2.1 g yH_min bH_min 2 ((some .int)) [] d' 1 6 [.int a0, .int a1] w (Tp cn P)) (hdd : d' + 1 ≤ d) (hst : (st.map fun v => v.category).sum ≤ 8) (h1 : 1 ≤ X.2.2.2.1.cells) (h6 : 6 ≤ X.2.2.2.1.slots) (hP : ∀ w' : Wd, P w' → P2 (.inr cn) w') : Go X g 0 0 (Fen X g 1 6 P2) w pc lp (.int a1 :: .int a0 :: st) :=
  kF_36 hc hd hcon hdd hst (by omega) (by omega) (fun v w' h => absurd h Tp_l) (fun cn2 w' h => by obtain ⟨rfl, h⟩ := h; exact x_out hc (hP w' h))
/-- PairedField: a call of java/lang/Math.max -/
theorem kF_42 {d' k n : Nat} {P : Rt → Wd → Prop} {a0 : Int32} {a1 : Int32} (hc : Ok X g cc "PairedField" ret hx d) (hd : decode cc pc = .ok (.invokestatic 42, 3)) (hcon : Con X.2.1 g yH_max bH_max 2 ((some .int)) [] d' k n [.int a0, .int a1] w P) (hdd : d' + 1 ≤ d) (hst : (st.map fun v => v.category).sum ≤ 8) (hcells : kc + k ≤ X.2.2.2.1.cells) (hslots : ks + n ≤ X.2.2.2.1.slots)
    (hret : ∀ (v : Option Value) (w' : Wd), P (.inl v) w' → Go X g (kc + k) (ks + n) Q w' (pc + 3) lp (v.toList ++ st)) (hthr : ∀ (cn : String) (w' : Wd), P (.inr cn) w' → GoX X g (kc + k) (ks + n) Q w' pc lp cn) : Go X g kc ks Q w pc lp (.int a1 :: .int a0 :: st) :=
  r_calls (av := [.int a0, .int a1]) (nL' := 2) hc hd hcon (t1_mem 102 rfl rfl) (t1_mem 103 rfl rfl) (t1_mem 4 rfl rfl) (t1_mem 104 rfl rfl) (by decide) (by decide +kernel) (show (parseMethodDescriptor yH_max.desc).map (fun d => d.parameters.length) = some 2 by decide +kernel) hdd (by decide) (fun v hv => by simp only [List.mem_cons, List.not_mem_nil, or_false] at hv; rcases hv with rfl | rfl <;> rfl) (Nat.le_of_ble_eq_true rfl) hst hcells hslots hret hthr
theorem kF_42r {d' : Nat} {P : Option Value → Wd → Prop} {a0 : Int32} {a1 : Int32} (hc : Ok X g cc "PairedField" ret hx d) (hd : decode cc pc = .ok (.invokestatic 42, 3)) (hcon : Con X.2.1 g yH_max bH_max 2 ((some .int)) [] d' 0 0 [.int a0, .int a1] w (Rp P)) (hdd : d' + 1 ≤ d) (hst : (st.map fun v => v.category).sum ≤ 8) (hret : ∀ (v : Option Value) (w' : Wd), P v w' → Go X g 0 0 Q w' (pc + 3) lp (v.toList ++ st)) : Go X g 0 0 Q w pc lp (.int a1 :: .int a0 :: st) :=
  kF_42 hc hd hcon hdd hst (Nat.zero_le _) (Nat.zero_le _) (fun v w' h => hret v w' (Rp_l h)) (fun cn w' h => absurd h Rp_r)
theorem kF_42t {d' : Nat} {cn : String} {P : Wd → Prop} {P2 : Rt → Wd → Prop} {a0 : Int32} {a1 : Int32} (hc : Ok X g cc "PairedField" ret [] d) (hd : decode cc pc = .ok (.invokestatic 42, 3)) (hcon : Con X.2.1 g yH_max bH_max 2 ((some .int)) [] d' 1 6 [.int a0, .int a1] w (Tp cn P)) (hdd : d' + 1 ≤ d) (hst : (st.map fun v => v.category).sum ≤ 8) (h1 : 1 ≤ X.2.2.2.1.cells) (h6 : 6 ≤ X.2.2.2.1.slots) (hP : ∀ w' : Wd, P w' → P2 (.inr cn) w') : Go X g 0 0 (Fen X g 1 6 P2) w pc lp (.int a1 :: .int a0 :: st) :=
  kF_42 hc hd hcon hdd hst (by omega) (by omega) (fun v w' h => absurd h Tp_l) (fun cn2 w' h => by obtain ⟨rfl, h⟩ := h; exact x_out hc (hP w' h))
/-- PairedFieldLaw: a call of PairedField.ways -/
theorem kL_101 {d' k n : Nat} {P : Rt → Wd → Prop} (hc : Ok X g cc "PairedFieldLaw" ret hx d) (hd : decode cc pc = .ok (.invokevirtual 101, 3)) (hcon : Con X.2.1 g yF_ways bF_ways 1 ((some .int)) [] d' k n (.ref (g.1 0) :: []) w P) (hdd : d' + 1 ≤ d) (hst : (st.map fun v => v.category).sum ≤ 8) (hcells : kc + k ≤ X.2.2.2.1.cells) (hslots : ks + n ≤ X.2.2.2.1.slots)
    (hret : ∀ (v : Option Value) (w' : Wd), P (.inl v) w' → Go X g (kc + k) (ks + n) Q w' (pc + 3) lp (v.toList ++ st)) (hthr : ∀ (cn : String) (w' : Wd), P (.inr cn) w' → GoX X g (kc + k) (ks + n) Q w' pc lp cn) : Go X g kc ks Q w pc lp (.ref (g.1 0) :: st) :=
  r_callv (av := []) (nL' := 1) (q := 0) (ci := 0) (C := R_F) (Tc := T_F) (N := 8) hc hd hcon (t1_mem 130 rfl rfl) (t1_mem 131 rfl rfl) (t1_mem 132 rfl rfl) (t1_mem 133 rfl rfl) (by decide) (by decide +kernel) (show (parseMethodDescriptor yF_ways.desc).map (fun d => d.parameters.length) = some 0 by decide +kernel) (by decide) (ent_F g (w 0)) rfl hdd (by decide) (fun v hv => by cases hv) (Nat.le_of_ble_eq_true rfl) hst hcells hslots hret hthr
theorem kL_101r {d' : Nat} {P : Option Value → Wd → Prop} (hc : Ok X g cc "PairedFieldLaw" ret hx d) (hd : decode cc pc = .ok (.invokevirtual 101, 3)) (hcon : Con X.2.1 g yF_ways bF_ways 1 ((some .int)) [] d' 0 0 (.ref (g.1 0) :: []) w (Rp P)) (hdd : d' + 1 ≤ d) (hst : (st.map fun v => v.category).sum ≤ 8) (hret : ∀ (v : Option Value) (w' : Wd), P v w' → Go X g 0 0 Q w' (pc + 3) lp (v.toList ++ st)) : Go X g 0 0 Q w pc lp (.ref (g.1 0) :: st) :=
  kL_101 hc hd hcon hdd hst (Nat.zero_le _) (Nat.zero_le _) (fun v w' h => hret v w' (Rp_l h)) (fun cn w' h => absurd h Rp_r)
theorem kL_101t {d' : Nat} {cn : String} {P : Wd → Prop} {P2 : Rt → Wd → Prop} (hc : Ok X g cc "PairedFieldLaw" ret [] d) (hd : decode cc pc = .ok (.invokevirtual 101, 3)) (hcon : Con X.2.1 g yF_ways bF_ways 1 ((some .int)) [] d' 1 6 (.ref (g.1 0) :: []) w (Tp cn P)) (hdd : d' + 1 ≤ d) (hst : (st.map fun v => v.category).sum ≤ 8) (h1 : 1 ≤ X.2.2.2.1.cells) (h6 : 6 ≤ X.2.2.2.1.slots) (hP : ∀ w' : Wd, P w' → P2 (.inr cn) w') : Go X g 0 0 (Fen X g 1 6 P2) w pc lp (.ref (g.1 0) :: st) :=
  kL_101 hc hd hcon hdd hst (by omega) (by omega) (fun v w' h => absurd h Tp_l) (fun cn2 w' h => by obtain ⟨rfl, h⟩ := h; exact x_out hc (hP w' h))
/-- PairedField: a call of PairedField.workOutPairing -/
theorem kF_88 {d' k n : Nat} {P : Rt → Wd → Prop} (hc : Ok X g cc "PairedField" ret hx d) (hd : decode cc pc = .ok (.invokevirtual 88, 3)) (hcon : Con X.2.1 g yF_workOutPairing bF_workOutPairing 1 ((none : Option Jvm.ClassFile.FieldType)) [] d' k n (.ref (g.1 0) :: []) w P) (hdd : d' + 1 ≤ d) (hst : (st.map fun v => v.category).sum ≤ 8) (hcells : kc + k ≤ X.2.2.2.1.cells) (hslots : ks + n ≤ X.2.2.2.1.slots)
    (hret : ∀ (v : Option Value) (w' : Wd), P (.inl v) w' → Go X g (kc + k) (ks + n) Q w' (pc + 3) lp (v.toList ++ st)) (hthr : ∀ (cn : String) (w' : Wd), P (.inr cn) w' → GoX X g (kc + k) (ks + n) Q w' pc lp cn) : Go X g kc ks Q w pc lp (.ref (g.1 0) :: st) :=
  r_callv (av := []) (nL' := 1) (q := 0) (ci := 0) (C := R_F) (Tc := T_F) (N := 8) hc hd hcon (t1_mem 134 rfl rfl) (t1_mem 136 rfl rfl) (t0_mem 0 rfl rfl) (t1_mem 137 rfl rfl) (by decide) (by decide +kernel) (show (parseMethodDescriptor yF_workOutPairing.desc).map (fun d => d.parameters.length) = some 0 by decide +kernel) (by decide) (ent_F g (w 0)) rfl hdd (by decide) (fun v hv => by cases hv) (Nat.le_of_ble_eq_true rfl) hst hcells hslots hret hthr
theorem kF_88r {d' : Nat} {P : Option Value → Wd → Prop} (hc : Ok X g cc "PairedField" ret hx d) (hd : decode cc pc = .ok (.invokevirtual 88, 3)) (hcon : Con X.2.1 g yF_workOutPairing bF_workOutPairing 1 ((none : Option Jvm.ClassFile.FieldType)) [] d' 0 0 (.ref (g.1 0) :: []) w (Rp P)) (hdd : d' + 1 ≤ d) (hst : (st.map fun v => v.category).sum ≤ 8) (hret : ∀ (v : Option Value) (w' : Wd), P v w' → Go X g 0 0 Q w' (pc + 3) lp (v.toList ++ st)) : Go X g 0 0 Q w pc lp (.ref (g.1 0) :: st) :=
  kF_88 hc hd hcon hdd hst (Nat.zero_le _) (Nat.zero_le _) (fun v w' h => hret v w' (Rp_l h)) (fun cn w' h => absurd h Rp_r)
theorem kF_88t {d' : Nat} {cn : String} {P : Wd → Prop} {P2 : Rt → Wd → Prop} (hc : Ok X g cc "PairedField" ret [] d) (hd : decode cc pc = .ok (.invokevirtual 88, 3)) (hcon : Con X.2.1 g yF_workOutPairing bF_workOutPairing 1 ((none : Option Jvm.ClassFile.FieldType)) [] d' 1 6 (.ref (g.1 0) :: []) w (Tp cn P)) (hdd : d' + 1 ≤ d) (hst : (st.map fun v => v.category).sum ≤ 8) (h1 : 1 ≤ X.2.2.2.1.cells) (h6 : 6 ≤ X.2.2.2.1.slots) (hP : ∀ w' : Wd, P w' → P2 (.inr cn) w') : Go X g 0 0 (Fen X g 1 6 P2) w pc lp (.ref (g.1 0) :: st) :=
  kF_88 hc hd hcon hdd hst (by omega) (by omega) (fun v w' h => absurd h Tp_l) (fun cn2 w' h => by obtain ⟨rfl, h⟩ := h; exact x_out hc (hP w' h))
/-- PairedField: a call of PairedField$Pairing.workOut -/
theorem kF_191 {d' k n : Nat} {P : Rt → Wd → Prop} {a0 : Nat} {a1 : Nat} {a2 : Nat} {a3 : Int32} (hc : Ok X g cc "PairedField" ret hx d) (hd : decode cc pc = .ok (.invokevirtual 191, 3)) (hcon : Con X.2.1 g yP_workOut bP_workOut 5 ((none : Option Jvm.ClassFile.FieldType)) [] d' k n (.ref (g.1 31) :: [.ref a0, .ref a1, .ref a2, .int a3]) w P) (hdd : d' + 1 ≤ d) (hst : (st.map fun v => v.category).sum ≤ 8) (hcells : kc + k ≤ X.2.2.2.1.cells) (hslots : ks + n ≤ X.2.2.2.1.slots)
    (hret : ∀ (v : Option Value) (w' : Wd), P (.inl v) w' → Go X g (kc + k) (ks + n) Q w' (pc + 3) lp (v.toList ++ st)) (hthr : ∀ (cn : String) (w' : Wd), P (.inr cn) w' → GoX X g (kc + k) (ks + n) Q w' pc lp cn) : Go X g kc ks Q w pc lp (.int a3 :: .ref a2 :: .ref a1 :: .ref a0 :: .ref (g.1 31) :: st) :=
  r_callv (av := [.ref a0, .ref a1, .ref a2, .int a3]) (nL' := 5) (q := 31) (ci := 2) (C := R_P) (Tc := T_P) (N := 6) hc hd hcon (t1_mem 138 rfl rfl) (t1_mem 139 rfl rfl) (t1_mem 140 rfl rfl) (t1_mem 141 rfl rfl) (by decide) (by decide +kernel) (show (parseMethodDescriptor yP_workOut.desc).map (fun d => d.parameters.length) = some 4 by decide +kernel) (by decide) (ent_P g (w 31)) rfl hdd (by decide) (fun v hv => by simp only [List.mem_cons, List.not_mem_nil, or_false] at hv; rcases hv with rfl | rfl | rfl | rfl <;> rfl) (Nat.le_of_ble_eq_true rfl) hst hcells hslots hret hthr
theorem kF_191r {d' : Nat} {P : Option Value → Wd → Prop} {a0 : Nat} {a1 : Nat} {a2 : Nat} {a3 : Int32} (hc : Ok X g cc "PairedField" ret hx d) (hd : decode cc pc = .ok (.invokevirtual 191, 3)) (hcon : Con X.2.1 g yP_workOut bP_workOut 5 ((none : Option Jvm.ClassFile.FieldType)) [] d' 0 0 (.ref (g.1 31) :: [.ref a0, .ref a1, .ref a2, .int a3]) w (Rp P)) (hdd : d' + 1 ≤ d) (hst : (st.map fun v => v.category).sum ≤ 8) (hret : ∀ (v : Option Value) (w' : Wd), P v w' → Go X g 0 0 Q w' (pc + 3) lp (v.toList ++ st)) : Go X g 0 0 Q w pc lp (.int a3 :: .ref a2 :: .ref a1 :: .ref a0 :: .ref (g.1 31) :: st) :=
  kF_191 hc hd hcon hdd hst (Nat.zero_le _) (Nat.zero_le _) (fun v w' h => hret v w' (Rp_l h)) (fun cn w' h => absurd h Rp_r)
theorem kF_191t {d' : Nat} {cn : String} {P : Wd → Prop} {P2 : Rt → Wd → Prop} {a0 : Nat} {a1 : Nat} {a2 : Nat} {a3 : Int32} (hc : Ok X g cc "PairedField" ret [] d) (hd : decode cc pc = .ok (.invokevirtual 191, 3)) (hcon : Con X.2.1 g yP_workOut bP_workOut 5 ((none : Option Jvm.ClassFile.FieldType)) [] d' 1 6 (.ref (g.1 31) :: [.ref a0, .ref a1, .ref a2, .int a3]) w (Tp cn P)) (hdd : d' + 1 ≤ d) (hst : (st.map fun v => v.category).sum ≤ 8) (h1 : 1 ≤ X.2.2.2.1.cells) (h6 : 6 ≤ X.2.2.2.1.slots) (hP : ∀ w' : Wd, P w' → P2 (.inr cn) w') : Go X g 0 0 (Fen X g 1 6 P2) w pc lp (.int a3 :: .ref a2 :: .ref a1 :: .ref a0 :: .ref (g.1 31) :: st) :=
  kF_191 hc hd hcon hdd hst (by omega) (by omega) (fun v w' h => absurd h Tp_l) (fun cn2 w' h => by obtain ⟨rfl, h⟩ := h; exact x_out hc (hP w' h))
/-- PairedField$Pairing: a call of PairedField$Pairing.chooseBye -/
theorem kP_30 {d' k n : Nat} {P : Rt → Wd → Prop} {a0 : Nat} {a1 : Nat} (hc : Ok X g cc "PairedField$Pairing" ret hx d) (hd : decode cc pc = .ok (.invokevirtual 30, 3)) (hcon : Con X.2.1 g yP_chooseBye bP_chooseBye 6 ((none : Option Jvm.ClassFile.FieldType)) [] d' k n (.ref (g.1 31) :: [.ref a0, .ref a1]) w P) (hdd : d' + 1 ≤ d) (hst : (st.map fun v => v.category).sum ≤ 8) (hcells : kc + k ≤ X.2.2.2.1.cells) (hslots : ks + n ≤ X.2.2.2.1.slots)
    (hret : ∀ (v : Option Value) (w' : Wd), P (.inl v) w' → Go X g (kc + k) (ks + n) Q w' (pc + 3) lp (v.toList ++ st)) (hthr : ∀ (cn : String) (w' : Wd), P (.inr cn) w' → GoX X g (kc + k) (ks + n) Q w' pc lp cn) : Go X g kc ks Q w pc lp (.ref a1 :: .ref a0 :: .ref (g.1 31) :: st) :=
  r_callv (av := [.ref a0, .ref a1]) (nL' := 6) (q := 31) (ci := 2) (C := R_P) (Tc := T_P) (N := 6) hc hd hcon (t1_mem 142 rfl rfl) (t1_mem 144 rfl rfl) (t0_mem 1 rfl rfl) (t1_mem 145 rfl rfl) (by decide) (by decide +kernel) (show (parseMethodDescriptor yP_chooseBye.desc).map (fun d => d.parameters.length) = some 2 by decide +kernel) (by decide) (ent_P g (w 31)) rfl hdd (by decide) (fun v hv => by simp only [List.mem_cons, List.not_mem_nil, or_false] at hv; rcases hv with rfl | rfl <;> rfl) (Nat.le_of_ble_eq_true rfl) hst hcells hslots hret hthr
theorem kP_30r {d' : Nat} {P : Option Value → Wd → Prop} {a0 : Nat} {a1 : Nat} (hc : Ok X g cc "PairedField$Pairing" ret hx d) (hd : decode cc pc = .ok (.invokevirtual 30, 3)) (hcon : Con X.2.1 g yP_chooseBye bP_chooseBye 6 ((none : Option Jvm.ClassFile.FieldType)) [] d' 0 0 (.ref (g.1 31) :: [.ref a0, .ref a1]) w (Rp P)) (hdd : d' + 1 ≤ d) (hst : (st.map fun v => v.category).sum ≤ 8) (hret : ∀ (v : Option Value) (w' : Wd), P v w' → Go X g 0 0 Q w' (pc + 3) lp (v.toList ++ st)) : Go X g 0 0 Q w pc lp (.ref a1 :: .ref a0 :: .ref (g.1 31) :: st) :=
  kP_30 hc hd hcon hdd hst (Nat.zero_le _) (Nat.zero_le _) (fun v w' h => hret v w' (Rp_l h)) (fun cn w' h => absurd h Rp_r)
theorem kP_30t {d' : Nat} {cn : String} {P : Wd → Prop} {P2 : Rt → Wd → Prop} {a0 : Nat} {a1 : Nat} (hc : Ok X g cc "PairedField$Pairing" ret [] d) (hd : decode cc pc = .ok (.invokevirtual 30, 3)) (hcon : Con X.2.1 g yP_chooseBye bP_chooseBye 6 ((none : Option Jvm.ClassFile.FieldType)) [] d' 1 6 (.ref (g.1 31) :: [.ref a0, .ref a1]) w (Tp cn P)) (hdd : d' + 1 ≤ d) (hst : (st.map fun v => v.category).sum ≤ 8) (h1 : 1 ≤ X.2.2.2.1.cells) (h6 : 6 ≤ X.2.2.2.1.slots) (hP : ∀ w' : Wd, P w' → P2 (.inr cn) w') : Go X g 0 0 (Fen X g 1 6 P2) w pc lp (.ref a1 :: .ref a0 :: .ref (g.1 31) :: st) :=
  kP_30 hc hd hcon hdd hst (by omega) (by omega) (fun v w' h => absurd h Tp_l) (fun cn2 w' h => by obtain ⟨rfl, h⟩ := h; exact x_out hc (hP w' h))
/-- PairedField$Pairing: a call of PairedField$Standing.getsByeBefore -/
theorem kP_90 {d' k n : Nat} {P : Rt → Wd → Prop} {a0 : Int32} {a1 : Int32} (hc : Ok X g cc "PairedField$Pairing" ret hx d) (hd : decode cc pc = .ok (.invokevirtual 90, 3)) (hcon : Con X.2.1 g yS_getsByeBefore bS_getsByeBefore 3 ((some .boolean)) [] d' k n (.ref (g.1 20) :: [.int a0, .int a1]) w P) (hdd : d' + 1 ≤ d) (hst : (st.map fun v => v.category).sum ≤ 8) (hcells : kc + k ≤ X.2.2.2.1.cells) (hslots : ks + n ≤ X.2.2.2.1.slots)
    (hret : ∀ (v : Option Value) (w' : Wd), P (.inl v) w' → Go X g (kc + k) (ks + n) Q w' (pc + 3) lp (v.toList ++ st)) (hthr : ∀ (cn : String) (w' : Wd), P (.inr cn) w' → GoX X g (kc + k) (ks + n) Q w' pc lp cn) : Go X g kc ks Q w pc lp (.int a1 :: .int a0 :: .ref (g.1 20) :: st) :=
  r_callv (av := [.int a0, .int a1]) (nL' := 3) (q := 20) (ci := 1) (C := R_S) (Tc := T_S) (N := 10) hc hd hcon (t1_mem 146 rfl rfl) (t1_mem 147 rfl rfl) (t1_mem 148 rfl rfl) (t1_mem 149 rfl rfl) (by decide) (by decide +kernel) (show (parseMethodDescriptor yS_getsByeBefore.desc).map (fun d => d.parameters.length) = some 2 by decide +kernel) (by decide) (ent_S g (w 20)) rfl hdd (by decide) (fun v hv => by simp only [List.mem_cons, List.not_mem_nil, or_false] at hv; rcases hv with rfl | rfl <;> rfl) (Nat.le_of_ble_eq_true rfl) hst hcells hslots hret hthr
theorem kP_90r {d' : Nat} {P : Option Value → Wd → Prop} {a0 : Int32} {a1 : Int32} (hc : Ok X g cc "PairedField$Pairing" ret hx d) (hd : decode cc pc = .ok (.invokevirtual 90, 3)) (hcon : Con X.2.1 g yS_getsByeBefore bS_getsByeBefore 3 ((some .boolean)) [] d' 0 0 (.ref (g.1 20) :: [.int a0, .int a1]) w (Rp P)) (hdd : d' + 1 ≤ d) (hst : (st.map fun v => v.category).sum ≤ 8) (hret : ∀ (v : Option Value) (w' : Wd), P v w' → Go X g 0 0 Q w' (pc + 3) lp (v.toList ++ st)) : Go X g 0 0 Q w pc lp (.int a1 :: .int a0 :: .ref (g.1 20) :: st) :=
  kP_90 hc hd hcon hdd hst (Nat.zero_le _) (Nat.zero_le _) (fun v w' h => hret v w' (Rp_l h)) (fun cn w' h => absurd h Rp_r)
theorem kP_90t {d' : Nat} {cn : String} {P : Wd → Prop} {P2 : Rt → Wd → Prop} {a0 : Int32} {a1 : Int32} (hc : Ok X g cc "PairedField$Pairing" ret [] d) (hd : decode cc pc = .ok (.invokevirtual 90, 3)) (hcon : Con X.2.1 g yS_getsByeBefore bS_getsByeBefore 3 ((some .boolean)) [] d' 1 6 (.ref (g.1 20) :: [.int a0, .int a1]) w (Tp cn P)) (hdd : d' + 1 ≤ d) (hst : (st.map fun v => v.category).sum ≤ 8) (h1 : 1 ≤ X.2.2.2.1.cells) (h6 : 6 ≤ X.2.2.2.1.slots) (hP : ∀ w' : Wd, P w' → P2 (.inr cn) w') : Go X g 0 0 (Fen X g 1 6 P2) w pc lp (.int a1 :: .int a0 :: .ref (g.1 20) :: st) :=
  kP_90 hc hd hcon hdd hst (by omega) (by omega) (fun v w' h => absurd h Tp_l) (fun cn2 w' h => by obtain ⟨rfl, h⟩ := h; exact x_out hc (hP w' h))
/-- PairedField$Pairing: a call of PairedField$Pairing.seatPlayers -/
theorem kP_34 {d' k n : Nat} {P : Rt → Wd → Prop} {a0 : Nat} {a1 : Nat} (hc : Ok X g cc "PairedField$Pairing" ret hx d) (hd : decode cc pc = .ok (.invokevirtual 34, 3)) (hcon : Con X.2.1 g yP_seatPlayers bP_seatPlayers 4 ((none : Option Jvm.ClassFile.FieldType)) [] d' k n (.ref (g.1 31) :: [.ref a0, .ref a1]) w P) (hdd : d' + 1 ≤ d) (hst : (st.map fun v => v.category).sum ≤ 8) (hcells : kc + k ≤ X.2.2.2.1.cells) (hslots : ks + n ≤ X.2.2.2.1.slots)
    (hret : ∀ (v : Option Value) (w' : Wd), P (.inl v) w' → Go X g (kc + k) (ks + n) Q w' (pc + 3) lp (v.toList ++ st)) (hthr : ∀ (cn : String) (w' : Wd), P (.inr cn) w' → GoX X g (kc + k) (ks + n) Q w' pc lp cn) : Go X g kc ks Q w pc lp (.ref a1 :: .ref a0 :: .ref (g.1 31) :: st) :=
  r_callv (av := [.ref a0, .ref a1]) (nL' := 4) (q := 31) (ci := 2) (C := R_P) (Tc := T_P) (N := 6) hc hd hcon (t1_mem 150 rfl rfl) (t1_mem 152 rfl rfl) (t0_mem 2 rfl rfl) (t1_mem 153 rfl rfl) (by decide) (by decide +kernel) (show (parseMethodDescriptor yP_seatPlayers.desc).map (fun d => d.parameters.length) = some 2 by decide +kernel) (by decide) (ent_P g (w 31)) rfl hdd (by decide) (fun v hv => by simp only [List.mem_cons, List.not_mem_nil, or_false] at hv; rcases hv with rfl | rfl <;> rfl) (Nat.le_of_ble_eq_true rfl) hst hcells hslots hret hthr
theorem kP_34r {d' : Nat} {P : Option Value → Wd → Prop} {a0 : Nat} {a1 : Nat} (hc : Ok X g cc "PairedField$Pairing" ret hx d) (hd : decode cc pc = .ok (.invokevirtual 34, 3)) (hcon : Con X.2.1 g yP_seatPlayers bP_seatPlayers 4 ((none : Option Jvm.ClassFile.FieldType)) [] d' 0 0 (.ref (g.1 31) :: [.ref a0, .ref a1]) w (Rp P)) (hdd : d' + 1 ≤ d) (hst : (st.map fun v => v.category).sum ≤ 8) (hret : ∀ (v : Option Value) (w' : Wd), P v w' → Go X g 0 0 Q w' (pc + 3) lp (v.toList ++ st)) : Go X g 0 0 Q w pc lp (.ref a1 :: .ref a0 :: .ref (g.1 31) :: st) :=
  kP_34 hc hd hcon hdd hst (Nat.zero_le _) (Nat.zero_le _) (fun v w' h => hret v w' (Rp_l h)) (fun cn w' h => absurd h Rp_r)
theorem kP_34t {d' : Nat} {cn : String} {P : Wd → Prop} {P2 : Rt → Wd → Prop} {a0 : Nat} {a1 : Nat} (hc : Ok X g cc "PairedField$Pairing" ret [] d) (hd : decode cc pc = .ok (.invokevirtual 34, 3)) (hcon : Con X.2.1 g yP_seatPlayers bP_seatPlayers 4 ((none : Option Jvm.ClassFile.FieldType)) [] d' 1 6 (.ref (g.1 31) :: [.ref a0, .ref a1]) w (Tp cn P)) (hdd : d' + 1 ≤ d) (hst : (st.map fun v => v.category).sum ≤ 8) (h1 : 1 ≤ X.2.2.2.1.cells) (h6 : 6 ≤ X.2.2.2.1.slots) (hP : ∀ w' : Wd, P w' → P2 (.inr cn) w') : Go X g 0 0 (Fen X g 1 6 P2) w pc lp (.ref a1 :: .ref a0 :: .ref (g.1 31) :: st) :=
  kP_34 hc hd hcon hdd hst (by omega) (by omega) (fun v w' h => absurd h Tp_l) (fun cn2 w' h => by obtain ⟨rfl, h⟩ := h; exact x_out hc (hP w' h))
/-- PairedField$Pairing: a call of PairedField$Pairing.seatOne -/
theorem kP_94 {d' k n : Nat} {P : Rt → Wd → Prop} {a0 : Nat} {a1 : Int32} (hc : Ok X g cc "PairedField$Pairing" ret hx d) (hd : decode cc pc = .ok (.invokevirtual 94, 3)) (hcon : Con X.2.1 g yP_seatOne bP_seatOne 4 ((none : Option Jvm.ClassFile.FieldType)) [] d' k n (.ref (g.1 31) :: [.ref a0, .int a1]) w P) (hdd : d' + 1 ≤ d) (hst : (st.map fun v => v.category).sum ≤ 8) (hcells : kc + k ≤ X.2.2.2.1.cells) (hslots : ks + n ≤ X.2.2.2.1.slots)
    (hret : ∀ (v : Option Value) (w' : Wd), P (.inl v) w' → Go X g (kc + k) (ks + n) Q w' (pc + 3) lp (v.toList ++ st)) (hthr : ∀ (cn : String) (w' : Wd), P (.inr cn) w' → GoX X g (kc + k) (ks + n) Q w' pc lp cn) : Go X g kc ks Q w pc lp (.int a1 :: .ref a0 :: .ref (g.1 31) :: st) :=
  r_callv (av := [.ref a0, .int a1]) (nL' := 4) (q := 31) (ci := 2) (C := R_P) (Tc := T_P) (N := 6) hc hd hcon (t1_mem 154 rfl rfl) (t1_mem 156 rfl rfl) (t0_mem 3 rfl rfl) (t1_mem 157 rfl rfl) (by decide) (by decide +kernel) (show (parseMethodDescriptor yP_seatOne.desc).map (fun d => d.parameters.length) = some 2 by decide +kernel) (by decide) (ent_P g (w 31)) rfl hdd (by decide) (fun v hv => by simp only [List.mem_cons, List.not_mem_nil, or_false] at hv; rcases hv with rfl | rfl <;> rfl) (Nat.le_of_ble_eq_true rfl) hst hcells hslots hret hthr
theorem kP_94r {d' : Nat} {P : Option Value → Wd → Prop} {a0 : Nat} {a1 : Int32} (hc : Ok X g cc "PairedField$Pairing" ret hx d) (hd : decode cc pc = .ok (.invokevirtual 94, 3)) (hcon : Con X.2.1 g yP_seatOne bP_seatOne 4 ((none : Option Jvm.ClassFile.FieldType)) [] d' 0 0 (.ref (g.1 31) :: [.ref a0, .int a1]) w (Rp P)) (hdd : d' + 1 ≤ d) (hst : (st.map fun v => v.category).sum ≤ 8) (hret : ∀ (v : Option Value) (w' : Wd), P v w' → Go X g 0 0 Q w' (pc + 3) lp (v.toList ++ st)) : Go X g 0 0 Q w pc lp (.int a1 :: .ref a0 :: .ref (g.1 31) :: st) :=
  kP_94 hc hd hcon hdd hst (Nat.zero_le _) (Nat.zero_le _) (fun v w' h => hret v w' (Rp_l h)) (fun cn w' h => absurd h Rp_r)
theorem kP_94t {d' : Nat} {cn : String} {P : Wd → Prop} {P2 : Rt → Wd → Prop} {a0 : Nat} {a1 : Int32} (hc : Ok X g cc "PairedField$Pairing" ret [] d) (hd : decode cc pc = .ok (.invokevirtual 94, 3)) (hcon : Con X.2.1 g yP_seatOne bP_seatOne 4 ((none : Option Jvm.ClassFile.FieldType)) [] d' 1 6 (.ref (g.1 31) :: [.ref a0, .int a1]) w (Tp cn P)) (hdd : d' + 1 ≤ d) (hst : (st.map fun v => v.category).sum ≤ 8) (h1 : 1 ≤ X.2.2.2.1.cells) (h6 : 6 ≤ X.2.2.2.1.slots) (hP : ∀ w' : Wd, P w' → P2 (.inr cn) w') : Go X g 0 0 (Fen X g 1 6 P2) w pc lp (.int a1 :: .ref a0 :: .ref (g.1 31) :: st) :=
  kP_94 hc hd hcon hdd hst (by omega) (by omega) (fun v w' h => absurd h Tp_l) (fun cn2 w' h => by obtain ⟨rfl, h⟩ := h; exact x_out hc (hP w' h))
/-- PairedField$Pairing: a call of PairedField$Standing.isBeforeInOrder -/
theorem kP_98 {d' k n : Nat} {P : Rt → Wd → Prop} {a0 : Int32} {a1 : Int32} (hc : Ok X g cc "PairedField$Pairing" ret hx d) (hd : decode cc pc = .ok (.invokevirtual 98, 3)) (hcon : Con X.2.1 g yS_isBeforeInOrder bS_isBeforeInOrder 3 ((some .boolean)) [] d' k n (.ref (g.1 20) :: [.int a0, .int a1]) w P) (hdd : d' + 1 ≤ d) (hst : (st.map fun v => v.category).sum ≤ 8) (hcells : kc + k ≤ X.2.2.2.1.cells) (hslots : ks + n ≤ X.2.2.2.1.slots)
    (hret : ∀ (v : Option Value) (w' : Wd), P (.inl v) w' → Go X g (kc + k) (ks + n) Q w' (pc + 3) lp (v.toList ++ st)) (hthr : ∀ (cn : String) (w' : Wd), P (.inr cn) w' → GoX X g (kc + k) (ks + n) Q w' pc lp cn) : Go X g kc ks Q w pc lp (.int a1 :: .int a0 :: .ref (g.1 20) :: st) :=
  r_callv (av := [.int a0, .int a1]) (nL' := 3) (q := 20) (ci := 1) (C := R_S) (Tc := T_S) (N := 10) hc hd hcon (t1_mem 158 rfl rfl) (t1_mem 159 rfl rfl) (t1_mem 160 rfl rfl) (t1_mem 161 rfl rfl) (by decide) (by decide +kernel) (show (parseMethodDescriptor yS_isBeforeInOrder.desc).map (fun d => d.parameters.length) = some 2 by decide +kernel) (by decide) (ent_S g (w 20)) rfl hdd (by decide) (fun v hv => by simp only [List.mem_cons, List.not_mem_nil, or_false] at hv; rcases hv with rfl | rfl <;> rfl) (Nat.le_of_ble_eq_true rfl) hst hcells hslots hret hthr
theorem kP_98r {d' : Nat} {P : Option Value → Wd → Prop} {a0 : Int32} {a1 : Int32} (hc : Ok X g cc "PairedField$Pairing" ret hx d) (hd : decode cc pc = .ok (.invokevirtual 98, 3)) (hcon : Con X.2.1 g yS_isBeforeInOrder bS_isBeforeInOrder 3 ((some .boolean)) [] d' 0 0 (.ref (g.1 20) :: [.int a0, .int a1]) w (Rp P)) (hdd : d' + 1 ≤ d) (hst : (st.map fun v => v.category).sum ≤ 8) (hret : ∀ (v : Option Value) (w' : Wd), P v w' → Go X g 0 0 Q w' (pc + 3) lp (v.toList ++ st)) : Go X g 0 0 Q w pc lp (.int a1 :: .int a0 :: .ref (g.1 20) :: st) :=
  kP_98 hc hd hcon hdd hst (Nat.zero_le _) (Nat.zero_le _) (fun v w' h => hret v w' (Rp_l h)) (fun cn w' h => absurd h Rp_r)
theorem kP_98t {d' : Nat} {cn : String} {P : Wd → Prop} {P2 : Rt → Wd → Prop} {a0 : Int32} {a1 : Int32} (hc : Ok X g cc "PairedField$Pairing" ret [] d) (hd : decode cc pc = .ok (.invokevirtual 98, 3)) (hcon : Con X.2.1 g yS_isBeforeInOrder bS_isBeforeInOrder 3 ((some .boolean)) [] d' 1 6 (.ref (g.1 20) :: [.int a0, .int a1]) w (Tp cn P)) (hdd : d' + 1 ≤ d) (hst : (st.map fun v => v.category).sum ≤ 8) (h1 : 1 ≤ X.2.2.2.1.cells) (h6 : 6 ≤ X.2.2.2.1.slots) (hP : ∀ w' : Wd, P w' → P2 (.inr cn) w') : Go X g 0 0 (Fen X g 1 6 P2) w pc lp (.int a1 :: .int a0 :: .ref (g.1 20) :: st) :=
  kP_98 hc hd hcon hdd hst (by omega) (by omega) (fun v w' h => absurd h Tp_l) (fun cn2 w' h => by obtain ⟨rfl, h⟩ := h; exact x_out hc (hP w' h))
/-- PairedField$Pairing: a call of PairedField$Pairing.priceGames -/
theorem kP_37 {d' k n : Nat} {P : Rt → Wd → Prop} {a0 : Nat} {a1 : Nat} {a2 : Int32} (hc : Ok X g cc "PairedField$Pairing" ret hx d) (hd : decode cc pc = .ok (.invokevirtual 37, 3)) (hcon : Con X.2.1 g yP_priceGames bP_priceGames 10 ((none : Option Jvm.ClassFile.FieldType)) [] d' k n (.ref (g.1 31) :: [.ref a0, .ref a1, .int a2]) w P) (hdd : d' + 1 ≤ d) (hst : (st.map fun v => v.category).sum ≤ 8) (hcells : kc + k ≤ X.2.2.2.1.cells) (hslots : ks + n ≤ X.2.2.2.1.slots)
    (hret : ∀ (v : Option Value) (w' : Wd), P (.inl v) w' → Go X g (kc + k) (ks + n) Q w' (pc + 3) lp (v.toList ++ st)) (hthr : ∀ (cn : String) (w' : Wd), P (.inr cn) w' → GoX X g (kc + k) (ks + n) Q w' pc lp cn) : Go X g kc ks Q w pc lp (.int a2 :: .ref a1 :: .ref a0 :: .ref (g.1 31) :: st) :=
  r_callv (av := [.ref a0, .ref a1, .int a2]) (nL' := 10) (q := 31) (ci := 2) (C := R_P) (Tc := T_P) (N := 6) hc hd hcon (t1_mem 162 rfl rfl) (t1_mem 164 rfl rfl) (t0_mem 4 rfl rfl) (t1_mem 165 rfl rfl) (by decide) (by decide +kernel) (show (parseMethodDescriptor yP_priceGames.desc).map (fun d => d.parameters.length) = some 3 by decide +kernel) (by decide) (ent_P g (w 31)) rfl hdd (by decide) (fun v hv => by simp only [List.mem_cons, List.not_mem_nil, or_false] at hv; rcases hv with rfl | rfl | rfl <;> rfl) (Nat.le_of_ble_eq_true rfl) hst hcells hslots hret hthr
theorem kP_37r {d' : Nat} {P : Option Value → Wd → Prop} {a0 : Nat} {a1 : Nat} {a2 : Int32} (hc : Ok X g cc "PairedField$Pairing" ret hx d) (hd : decode cc pc = .ok (.invokevirtual 37, 3)) (hcon : Con X.2.1 g yP_priceGames bP_priceGames 10 ((none : Option Jvm.ClassFile.FieldType)) [] d' 0 0 (.ref (g.1 31) :: [.ref a0, .ref a1, .int a2]) w (Rp P)) (hdd : d' + 1 ≤ d) (hst : (st.map fun v => v.category).sum ≤ 8) (hret : ∀ (v : Option Value) (w' : Wd), P v w' → Go X g 0 0 Q w' (pc + 3) lp (v.toList ++ st)) : Go X g 0 0 Q w pc lp (.int a2 :: .ref a1 :: .ref a0 :: .ref (g.1 31) :: st) :=
  kP_37 hc hd hcon hdd hst (Nat.zero_le _) (Nat.zero_le _) (fun v w' h => hret v w' (Rp_l h)) (fun cn w' h => absurd h Rp_r)
theorem kP_37t {d' : Nat} {cn : String} {P : Wd → Prop} {P2 : Rt → Wd → Prop} {a0 : Nat} {a1 : Nat} {a2 : Int32} (hc : Ok X g cc "PairedField$Pairing" ret [] d) (hd : decode cc pc = .ok (.invokevirtual 37, 3)) (hcon : Con X.2.1 g yP_priceGames bP_priceGames 10 ((none : Option Jvm.ClassFile.FieldType)) [] d' 1 6 (.ref (g.1 31) :: [.ref a0, .ref a1, .int a2]) w (Tp cn P)) (hdd : d' + 1 ≤ d) (hst : (st.map fun v => v.category).sum ≤ 8) (h1 : 1 ≤ X.2.2.2.1.cells) (h6 : 6 ≤ X.2.2.2.1.slots) (hP : ∀ w' : Wd, P w' → P2 (.inr cn) w') : Go X g 0 0 (Fen X g 1 6 P2) w pc lp (.int a2 :: .ref a1 :: .ref a0 :: .ref (g.1 31) :: st) :=
  kP_37 hc hd hcon hdd hst (by omega) (by omega) (fun v w' h => absurd h Tp_l) (fun cn2 w' h => by obtain ⟨rfl, h⟩ := h; exact x_out hc (hP w' h))
/-- PairedField$Pairing: a call of PairedField$Standing.costOfGame -/
theorem kP_104 {d' k n : Nat} {P : Rt → Wd → Prop} {a0 : Int32} {a1 : Int32} {a2 : Int32} (hc : Ok X g cc "PairedField$Pairing" ret hx d) (hd : decode cc pc = .ok (.invokevirtual 104, 3)) (hcon : Con X.2.1 g yS_costOfGame bS_costOfGame 6 ((some .int)) [] d' k n (.ref (g.1 20) :: [.int a0, .int a1, .int a2]) w P) (hdd : d' + 1 ≤ d) (hst : (st.map fun v => v.category).sum ≤ 8) (hcells : kc + k ≤ X.2.2.2.1.cells) (hslots : ks + n ≤ X.2.2.2.1.slots)
    (hret : ∀ (v : Option Value) (w' : Wd), P (.inl v) w' → Go X g (kc + k) (ks + n) Q w' (pc + 3) lp (v.toList ++ st)) (hthr : ∀ (cn : String) (w' : Wd), P (.inr cn) w' → GoX X g (kc + k) (ks + n) Q w' pc lp cn) : Go X g kc ks Q w pc lp (.int a2 :: .int a1 :: .int a0 :: .ref (g.1 20) :: st) :=
  r_callv (av := [.int a0, .int a1, .int a2]) (nL' := 6) (q := 20) (ci := 1) (C := R_S) (Tc := T_S) (N := 10) hc hd hcon (t1_mem 166 rfl rfl) (t1_mem 167 rfl rfl) (t1_mem 168 rfl rfl) (t1_mem 169 rfl rfl) (by decide) (by decide +kernel) (show (parseMethodDescriptor yS_costOfGame.desc).map (fun d => d.parameters.length) = some 3 by decide +kernel) (by decide) (ent_S g (w 20)) rfl hdd (by decide) (fun v hv => by simp only [List.mem_cons, List.not_mem_nil, or_false] at hv; rcases hv with rfl | rfl | rfl <;> rfl) (Nat.le_of_ble_eq_true rfl) hst hcells hslots hret hthr
theorem kP_104r {d' : Nat} {P : Option Value → Wd → Prop} {a0 : Int32} {a1 : Int32} {a2 : Int32} (hc : Ok X g cc "PairedField$Pairing" ret hx d) (hd : decode cc pc = .ok (.invokevirtual 104, 3)) (hcon : Con X.2.1 g yS_costOfGame bS_costOfGame 6 ((some .int)) [] d' 0 0 (.ref (g.1 20) :: [.int a0, .int a1, .int a2]) w (Rp P)) (hdd : d' + 1 ≤ d) (hst : (st.map fun v => v.category).sum ≤ 8) (hret : ∀ (v : Option Value) (w' : Wd), P v w' → Go X g 0 0 Q w' (pc + 3) lp (v.toList ++ st)) : Go X g 0 0 Q w pc lp (.int a2 :: .int a1 :: .int a0 :: .ref (g.1 20) :: st) :=
  kP_104 hc hd hcon hdd hst (Nat.zero_le _) (Nat.zero_le _) (fun v w' h => hret v w' (Rp_l h)) (fun cn w' h => absurd h Rp_r)
theorem kP_104t {d' : Nat} {cn : String} {P : Wd → Prop} {P2 : Rt → Wd → Prop} {a0 : Int32} {a1 : Int32} {a2 : Int32} (hc : Ok X g cc "PairedField$Pairing" ret [] d) (hd : decode cc pc = .ok (.invokevirtual 104, 3)) (hcon : Con X.2.1 g yS_costOfGame bS_costOfGame 6 ((some .int)) [] d' 1 6 (.ref (g.1 20) :: [.int a0, .int a1, .int a2]) w (Tp cn P)) (hdd : d' + 1 ≤ d) (hst : (st.map fun v => v.category).sum ≤ 8) (h1 : 1 ≤ X.2.2.2.1.cells) (h6 : 6 ≤ X.2.2.2.1.slots) (hP : ∀ w' : Wd, P w' → P2 (.inr cn) w') : Go X g 0 0 (Fen X g 1 6 P2) w pc lp (.int a2 :: .int a1 :: .int a0 :: .ref (g.1 20) :: st) :=
  kP_104 hc hd hcon hdd hst (by omega) (by omega) (fun v w' h => absurd h Tp_l) (fun cn2 w' h => by obtain ⟨rfl, h⟩ := h; exact x_out hc (hP w' h))
/-- PairedField$Standing: a call of PairedField$Standing.colourOfFirst -/
theorem kS_78 {d' k n : Nat} {P : Rt → Wd → Prop} {a0 : Int32} {a1 : Int32} {a2 : Int32} (hc : Ok X g cc "PairedField$Standing" ret hx d) (hd : decode cc pc = .ok (.invokevirtual 78, 3)) (hcon : Con X.2.1 g yS_colourOfFirst bS_colourOfFirst 4 ((some .int)) [] d' k n (.ref (g.1 20) :: [.int a0, .int a1, .int a2]) w P) (hdd : d' + 1 ≤ d) (hst : (st.map fun v => v.category).sum ≤ 8) (hcells : kc + k ≤ X.2.2.2.1.cells) (hslots : ks + n ≤ X.2.2.2.1.slots)
    (hret : ∀ (v : Option Value) (w' : Wd), P (.inl v) w' → Go X g (kc + k) (ks + n) Q w' (pc + 3) lp (v.toList ++ st)) (hthr : ∀ (cn : String) (w' : Wd), P (.inr cn) w' → GoX X g (kc + k) (ks + n) Q w' pc lp cn) : Go X g kc ks Q w pc lp (.int a2 :: .int a1 :: .int a0 :: .ref (g.1 20) :: st) :=
  r_callv (av := [.int a0, .int a1, .int a2]) (nL' := 4) (q := 20) (ci := 1) (C := R_S) (Tc := T_S) (N := 10) hc hd hcon (t1_mem 170 rfl rfl) (t1_mem 171 rfl rfl) (t1_mem 172 rfl rfl) (t1_mem 173 rfl rfl) (by decide) (by decide +kernel) (show (parseMethodDescriptor yS_colourOfFirst.desc).map (fun d => d.parameters.length) = some 3 by decide +kernel) (by decide) (ent_S g (w 20)) rfl hdd (by decide) (fun v hv => by simp only [List.mem_cons, List.not_mem_nil, or_false] at hv; rcases hv with rfl | rfl | rfl <;> rfl) (Nat.le_of_ble_eq_true rfl) hst hcells hslots hret hthr
theorem kS_78r {d' : Nat} {P : Option Value → Wd → Prop} {a0 : Int32} {a1 : Int32} {a2 : Int32} (hc : Ok X g cc "PairedField$Standing" ret hx d) (hd : decode cc pc = .ok (.invokevirtual 78, 3)) (hcon : Con X.2.1 g yS_colourOfFirst bS_colourOfFirst 4 ((some .int)) [] d' 0 0 (.ref (g.1 20) :: [.int a0, .int a1, .int a2]) w (Rp P)) (hdd : d' + 1 ≤ d) (hst : (st.map fun v => v.category).sum ≤ 8) (hret : ∀ (v : Option Value) (w' : Wd), P v w' → Go X g 0 0 Q w' (pc + 3) lp (v.toList ++ st)) : Go X g 0 0 Q w pc lp (.int a2 :: .int a1 :: .int a0 :: .ref (g.1 20) :: st) :=
  kS_78 hc hd hcon hdd hst (Nat.zero_le _) (Nat.zero_le _) (fun v w' h => hret v w' (Rp_l h)) (fun cn w' h => absurd h Rp_r)
theorem kS_78t {d' : Nat} {cn : String} {P : Wd → Prop} {P2 : Rt → Wd → Prop} {a0 : Int32} {a1 : Int32} {a2 : Int32} (hc : Ok X g cc "PairedField$Standing" ret [] d) (hd : decode cc pc = .ok (.invokevirtual 78, 3)) (hcon : Con X.2.1 g yS_colourOfFirst bS_colourOfFirst 4 ((some .int)) [] d' 1 6 (.ref (g.1 20) :: [.int a0, .int a1, .int a2]) w (Tp cn P)) (hdd : d' + 1 ≤ d) (hst : (st.map fun v => v.category).sum ≤ 8) (h1 : 1 ≤ X.2.2.2.1.cells) (h6 : 6 ≤ X.2.2.2.1.slots) (hP : ∀ w' : Wd, P w' → P2 (.inr cn) w') : Go X g 0 0 (Fen X g 1 6 P2) w pc lp (.int a2 :: .int a1 :: .int a0 :: .ref (g.1 20) :: st) :=
  kS_78 hc hd hcon hdd hst (by omega) (by omega) (fun v w' h => absurd h Tp_l) (fun cn2 w' h => by obtain ⟨rfl, h⟩ := h; exact x_out hc (hP w' h))
/-- PairedField$Standing: a call of PairedField$Standing.clashes -/
theorem kS_82 {d' k n : Nat} {P : Rt → Wd → Prop} {a0 : Int32} {a1 : Int32} (hc : Ok X g cc "PairedField$Standing" ret hx d) (hd : decode cc pc = .ok (.invokevirtual 82, 3)) (hcon : Con X.2.1 g yS_clashes bS_clashes 5 ((some .int)) [] d' k n (.ref (g.1 20) :: [.int a0, .int a1]) w P) (hdd : d' + 1 ≤ d) (hst : (st.map fun v => v.category).sum ≤ 8) (hcells : kc + k ≤ X.2.2.2.1.cells) (hslots : ks + n ≤ X.2.2.2.1.slots)
    (hret : ∀ (v : Option Value) (w' : Wd), P (.inl v) w' → Go X g (kc + k) (ks + n) Q w' (pc + 3) lp (v.toList ++ st)) (hthr : ∀ (cn : String) (w' : Wd), P (.inr cn) w' → GoX X g (kc + k) (ks + n) Q w' pc lp cn) : Go X g kc ks Q w pc lp (.int a1 :: .int a0 :: .ref (g.1 20) :: st) :=
  r_callv (av := [.int a0, .int a1]) (nL' := 5) (q := 20) (ci := 1) (C := R_S) (Tc := T_S) (N := 10) hc hd hcon (t1_mem 174 rfl rfl) (t1_mem 176 rfl rfl) (t0_mem 5 rfl rfl) (t1_mem 177 rfl rfl) (by decide) (by decide +kernel) (show (parseMethodDescriptor yS_clashes.desc).map (fun d => d.parameters.length) = some 2 by decide +kernel) (by decide) (ent_S g (w 20)) rfl hdd (by decide) (fun v hv => by simp only [List.mem_cons, List.not_mem_nil, or_false] at hv; rcases hv with rfl | rfl <;> rfl) (Nat.le_of_ble_eq_true rfl) hst hcells hslots hret hthr
theorem kS_82r {d' : Nat} {P : Option Value → Wd → Prop} {a0 : Int32} {a1 : Int32} (hc : Ok X g cc "PairedField$Standing" ret hx d) (hd : decode cc pc = .ok (.invokevirtual 82, 3)) (hcon : Con X.2.1 g yS_clashes bS_clashes 5 ((some .int)) [] d' 0 0 (.ref (g.1 20) :: [.int a0, .int a1]) w (Rp P)) (hdd : d' + 1 ≤ d) (hst : (st.map fun v => v.category).sum ≤ 8) (hret : ∀ (v : Option Value) (w' : Wd), P v w' → Go X g 0 0 Q w' (pc + 3) lp (v.toList ++ st)) : Go X g 0 0 Q w pc lp (.int a1 :: .int a0 :: .ref (g.1 20) :: st) :=
  kS_82 hc hd hcon hdd hst (Nat.zero_le _) (Nat.zero_le _) (fun v w' h => hret v w' (Rp_l h)) (fun cn w' h => absurd h Rp_r)
theorem kS_82t {d' : Nat} {cn : String} {P : Wd → Prop} {P2 : Rt → Wd → Prop} {a0 : Int32} {a1 : Int32} (hc : Ok X g cc "PairedField$Standing" ret [] d) (hd : decode cc pc = .ok (.invokevirtual 82, 3)) (hcon : Con X.2.1 g yS_clashes bS_clashes 5 ((some .int)) [] d' 1 6 (.ref (g.1 20) :: [.int a0, .int a1]) w (Tp cn P)) (hdd : d' + 1 ≤ d) (hst : (st.map fun v => v.category).sum ≤ 8) (h1 : 1 ≤ X.2.2.2.1.cells) (h6 : 6 ≤ X.2.2.2.1.slots) (hP : ∀ w' : Wd, P w' → P2 (.inr cn) w') : Go X g 0 0 (Fen X g 1 6 P2) w pc lp (.int a1 :: .int a0 :: .ref (g.1 20) :: st) :=
  kS_82 hc hd hcon hdd hst (by omega) (by omega) (fun v w' h => absurd h Tp_l) (fun cn2 w' h => by obtain ⟨rfl, h⟩ := h; exact x_out hc (hP w' h))
/-- PairedField$Pairing: a call of PairedField$Pairing.solve -/
theorem kP_41 {d' k n : Nat} {P : Rt → Wd → Prop} (hc : Ok X g cc "PairedField$Pairing" ret hx d) (hd : decode cc pc = .ok (.invokevirtual 41, 3)) (hcon : Con X.2.1 g yP_solve bP_solve 4 ((none : Option Jvm.ClassFile.FieldType)) [] d' k n (.ref (g.1 31) :: []) w P) (hdd : d' + 1 ≤ d) (hst : (st.map fun v => v.category).sum ≤ 8) (hcells : kc + k ≤ X.2.2.2.1.cells) (hslots : ks + n ≤ X.2.2.2.1.slots)
    (hret : ∀ (v : Option Value) (w' : Wd), P (.inl v) w' → Go X g (kc + k) (ks + n) Q w' (pc + 3) lp (v.toList ++ st)) (hthr : ∀ (cn : String) (w' : Wd), P (.inr cn) w' → GoX X g (kc + k) (ks + n) Q w' pc lp cn) : Go X g kc ks Q w pc lp (.ref (g.1 31) :: st) :=
  r_callv (av := []) (nL' := 4) (q := 31) (ci := 2) (C := R_P) (Tc := T_P) (N := 6) hc hd hcon (t1_mem 178 rfl rfl) (t1_mem 180 rfl rfl) (t0_mem 6 rfl rfl) (t1_mem 181 rfl rfl) (by decide) (by decide +kernel) (show (parseMethodDescriptor yP_solve.desc).map (fun d => d.parameters.length) = some 0 by decide +kernel) (by decide) (ent_P g (w 31)) rfl hdd (by decide) (fun v hv => by cases hv) (Nat.le_of_ble_eq_true rfl) hst hcells hslots hret hthr
theorem kP_41r {d' : Nat} {P : Option Value → Wd → Prop} (hc : Ok X g cc "PairedField$Pairing" ret hx d) (hd : decode cc pc = .ok (.invokevirtual 41, 3)) (hcon : Con X.2.1 g yP_solve bP_solve 4 ((none : Option Jvm.ClassFile.FieldType)) [] d' 0 0 (.ref (g.1 31) :: []) w (Rp P)) (hdd : d' + 1 ≤ d) (hst : (st.map fun v => v.category).sum ≤ 8) (hret : ∀ (v : Option Value) (w' : Wd), P v w' → Go X g 0 0 Q w' (pc + 3) lp (v.toList ++ st)) : Go X g 0 0 Q w pc lp (.ref (g.1 31) :: st) :=
  kP_41 hc hd hcon hdd hst (Nat.zero_le _) (Nat.zero_le _) (fun v w' h => hret v w' (Rp_l h)) (fun cn w' h => absurd h Rp_r)
theorem kP_41t {d' : Nat} {cn : String} {P : Wd → Prop} {P2 : Rt → Wd → Prop} (hc : Ok X g cc "PairedField$Pairing" ret [] d) (hd : decode cc pc = .ok (.invokevirtual 41, 3)) (hcon : Con X.2.1 g yP_solve bP_solve 4 ((none : Option Jvm.ClassFile.FieldType)) [] d' 1 6 (.ref (g.1 31) :: []) w (Tp cn P)) (hdd : d' + 1 ≤ d) (hst : (st.map fun v => v.category).sum ≤ 8) (h1 : 1 ≤ X.2.2.2.1.cells) (h6 : 6 ≤ X.2.2.2.1.slots) (hP : ∀ w' : Wd, P w' → P2 (.inr cn) w') : Go X g 0 0 (Fen X g 1 6 P2) w pc lp (.ref (g.1 31) :: st) :=
  kP_41 hc hd hcon hdd hst (by omega) (by omega) (fun v w' h => absurd h Tp_l) (fun cn2 w' h => by obtain ⟨rfl, h⟩ := h; exact x_out hc (hP w' h))
/-- PairedField$Pairing: a call of PairedField$Pairing.evenSet -/
theorem kP_107 {d' k n : Nat} {P : Rt → Wd → Prop} {a0 : Int32} (hc : Ok X g cc "PairedField$Pairing" ret hx d) (hd : decode cc pc = .ok (.invokestatic 107, 3)) (hcon : Con X.2.1 g yP_evenSet bP_evenSet 1 ((some .int)) [] d' k n [.int a0] w P) (hdd : d' + 1 ≤ d) (hst : (st.map fun v => v.category).sum ≤ 8) (hcells : kc + k ≤ X.2.2.2.1.cells) (hslots : ks + n ≤ X.2.2.2.1.slots)
    (hret : ∀ (v : Option Value) (w' : Wd), P (.inl v) w' → Go X g (kc + k) (ks + n) Q w' (pc + 3) lp (v.toList ++ st)) (hthr : ∀ (cn : String) (w' : Wd), P (.inr cn) w' → GoX X g (kc + k) (ks + n) Q w' pc lp cn) : Go X g kc ks Q w pc lp (.int a0 :: st) :=
  r_calls (av := [.int a0]) (nL' := 1) hc hd hcon (t1_mem 182 rfl rfl) (t1_mem 183 rfl rfl) (t1_mem 3 rfl rfl) (t1_mem 184 rfl rfl) (by decide) (by decide +kernel) (show (parseMethodDescriptor yP_evenSet.desc).map (fun d => d.parameters.length) = some 1 by decide +kernel) hdd (by decide) (fun v hv => by simp only [List.mem_cons, List.not_mem_nil, or_false] at hv; rcases hv with rfl <;> rfl) (Nat.le_of_ble_eq_true rfl) hst hcells hslots hret hthr
theorem kP_107r {d' : Nat} {P : Option Value → Wd → Prop} {a0 : Int32} (hc : Ok X g cc "PairedField$Pairing" ret hx d) (hd : decode cc pc = .ok (.invokestatic 107, 3)) (hcon : Con X.2.1 g yP_evenSet bP_evenSet 1 ((some .int)) [] d' 0 0 [.int a0] w (Rp P)) (hdd : d' + 1 ≤ d) (hst : (st.map fun v => v.category).sum ≤ 8) (hret : ∀ (v : Option Value) (w' : Wd), P v w' → Go X g 0 0 Q w' (pc + 3) lp (v.toList ++ st)) : Go X g 0 0 Q w pc lp (.int a0 :: st) :=
  kP_107 hc hd hcon hdd hst (Nat.zero_le _) (Nat.zero_le _) (fun v w' h => hret v w' (Rp_l h)) (fun cn w' h => absurd h Rp_r)
theorem kP_107t {d' : Nat} {cn : String} {P : Wd → Prop} {P2 : Rt → Wd → Prop} {a0 : Int32} (hc : Ok X g cc "PairedField$Pairing" ret [] d) (hd : decode cc pc = .ok (.invokestatic 107, 3)) (hcon : Con X.2.1 g yP_evenSet bP_evenSet 1 ((some .int)) [] d' 1 6 [.int a0] w (Tp cn P)) (hdd : d' + 1 ≤ d) (hst : (st.map fun v => v.category).sum ≤ 8) (h1 : 1 ≤ X.2.2.2.1.cells) (h6 : 6 ≤ X.2.2.2.1.slots) (hP : ∀ w' : Wd, P w' → P2 (.inr cn) w') : Go X g 0 0 (Fen X g 1 6 P2) w pc lp (.int a0 :: st) :=
  kP_107 hc hd hcon hdd hst (by omega) (by omega) (fun v w' h => absurd h Tp_l) (fun cn2 w' h => by obtain ⟨rfl, h⟩ := h; exact x_out hc (hP w' h))
/-- PairedField$Pairing: a call of java/lang/Integer.bitCount -/
theorem kP_127 {d' k n : Nat} {P : Rt → Wd → Prop} {a0 : Int32} (hc : Ok X g cc "PairedField$Pairing" ret hx d) (hd : decode cc pc = .ok (.invokestatic 127, 3)) (hcon : Con X.2.1 g yI_bitCount bI_bitCount 1 ((some .int)) [] d' k n [.int a0] w P) (hdd : d' + 1 ≤ d) (hst : (st.map fun v => v.category).sum ≤ 8) (hcells : kc + k ≤ X.2.2.2.1.cells) (hslots : ks + n ≤ X.2.2.2.1.slots)
    (hret : ∀ (v : Option Value) (w' : Wd), P (.inl v) w' → Go X g (kc + k) (ks + n) Q w' (pc + 3) lp (v.toList ++ st)) (hthr : ∀ (cn : String) (w' : Wd), P (.inr cn) w' → GoX X g (kc + k) (ks + n) Q w' pc lp cn) : Go X g kc ks Q w pc lp (.int a0 :: st) :=
  r_calls (av := [.int a0]) (nL' := 1) hc hd hcon (t1_mem 185 rfl rfl) (t1_mem 186 rfl rfl) (t1_mem 13 rfl rfl) (t1_mem 187 rfl rfl) (by decide) (by decide +kernel) (show (parseMethodDescriptor yI_bitCount.desc).map (fun d => d.parameters.length) = some 1 by decide +kernel) hdd (by decide) (fun v hv => by simp only [List.mem_cons, List.not_mem_nil, or_false] at hv; rcases hv with rfl <;> rfl) (Nat.le_of_ble_eq_true rfl) hst hcells hslots hret hthr
theorem kP_127r {d' : Nat} {P : Option Value → Wd → Prop} {a0 : Int32} (hc : Ok X g cc "PairedField$Pairing" ret hx d) (hd : decode cc pc = .ok (.invokestatic 127, 3)) (hcon : Con X.2.1 g yI_bitCount bI_bitCount 1 ((some .int)) [] d' 0 0 [.int a0] w (Rp P)) (hdd : d' + 1 ≤ d) (hst : (st.map fun v => v.category).sum ≤ 8) (hret : ∀ (v : Option Value) (w' : Wd), P v w' → Go X g 0 0 Q w' (pc + 3) lp (v.toList ++ st)) : Go X g 0 0 Q w pc lp (.int a0 :: st) :=
  kP_127 hc hd hcon hdd hst (Nat.zero_le _) (Nat.zero_le _) (fun v w' h => hret v w' (Rp_l h)) (fun cn w' h => absurd h Rp_r)
theorem kP_127t {d' : Nat} {cn : String} {P : Wd → Prop} {P2 : Rt → Wd → Prop} {a0 : Int32} (hc : Ok X g cc "PairedField$Pairing" ret [] d) (hd : decode cc pc = .ok (.invokestatic 127, 3)) (hcon : Con X.2.1 g yI_bitCount bI_bitCount 1 ((some .int)) [] d' 1 6 [.int a0] w (Tp cn P)) (hdd : d' + 1 ≤ d) (hst : (st.map fun v => v.category).sum ≤ 8) (h1 : 1 ≤ X.2.2.2.1.cells) (h6 : 6 ≤ X.2.2.2.1.slots) (hP : ∀ w' : Wd, P w' → P2 (.inr cn) w') : Go X g 0 0 (Fen X g 1 6 P2) w pc lp (.int a0 :: st) :=
  kP_127 hc hd hcon hdd hst (by omega) (by omega) (fun v w' h => absurd h Tp_l) (fun cn2 w' h => by obtain ⟨rfl, h⟩ := h; exact x_out hc (hP w' h))
/-- PairedField$Pairing: a call of PairedField$Pairing.canBeLeft -/
theorem kP_110 {d' k n : Nat} {P : Rt → Wd → Prop} {a0 : Int32} (hc : Ok X g cc "PairedField$Pairing" ret hx d) (hd : decode cc pc = .ok (.invokevirtual 110, 3)) (hcon : Con X.2.1 g yP_canBeLeft bP_canBeLeft 3 ((some .boolean)) [] d' k n (.ref (g.1 31) :: [.int a0]) w P) (hdd : d' + 1 ≤ d) (hst : (st.map fun v => v.category).sum ≤ 8) (hcells : kc + k ≤ X.2.2.2.1.cells) (hslots : ks + n ≤ X.2.2.2.1.slots)
    (hret : ∀ (v : Option Value) (w' : Wd), P (.inl v) w' → Go X g (kc + k) (ks + n) Q w' (pc + 3) lp (v.toList ++ st)) (hthr : ∀ (cn : String) (w' : Wd), P (.inr cn) w' → GoX X g (kc + k) (ks + n) Q w' pc lp cn) : Go X g kc ks Q w pc lp (.int a0 :: .ref (g.1 31) :: st) :=
  r_callv (av := [.int a0]) (nL' := 3) (q := 31) (ci := 2) (C := R_P) (Tc := T_P) (N := 6) hc hd hcon (t1_mem 191 rfl rfl) (t1_mem 193 rfl rfl) (t0_mem 7 rfl rfl) (t1_mem 194 rfl rfl) (by decide) (by decide +kernel) (show (parseMethodDescriptor yP_canBeLeft.desc).map (fun d => d.parameters.length) = some 1 by decide +kernel) (by decide) (ent_P g (w 31)) rfl hdd (by decide) (fun v hv => by simp only [List.mem_cons, List.not_mem_nil, or_false] at hv; rcases hv with rfl <;> rfl) (Nat.le_of_ble_eq_true rfl) hst hcells hslots hret hthr
theorem kP_110r {d' : Nat} {P : Option Value → Wd → Prop} {a0 : Int32} (hc : Ok X g cc "PairedField$Pairing" ret hx d) (hd : decode cc pc = .ok (.invokevirtual 110, 3)) (hcon : Con X.2.1 g yP_canBeLeft bP_canBeLeft 3 ((some .boolean)) [] d' 0 0 (.ref (g.1 31) :: [.int a0]) w (Rp P)) (hdd : d' + 1 ≤ d) (hst : (st.map fun v => v.category).sum ≤ 8) (hret : ∀ (v : Option Value) (w' : Wd), P v w' → Go X g 0 0 Q w' (pc + 3) lp (v.toList ++ st)) : Go X g 0 0 Q w pc lp (.int a0 :: .ref (g.1 31) :: st) :=
  kP_110 hc hd hcon hdd hst (Nat.zero_le _) (Nat.zero_le _) (fun v w' h => hret v w' (Rp_l h)) (fun cn w' h => absurd h Rp_r)
theorem kP_110t {d' : Nat} {cn : String} {P : Wd → Prop} {P2 : Rt → Wd → Prop} {a0 : Int32} (hc : Ok X g cc "PairedField$Pairing" ret [] d) (hd : decode cc pc = .ok (.invokevirtual 110, 3)) (hcon : Con X.2.1 g yP_canBeLeft bP_canBeLeft 3 ((some .boolean)) [] d' 1 6 (.ref (g.1 31) :: [.int a0]) w (Tp cn P)) (hdd : d' + 1 ≤ d) (hst : (st.map fun v => v.category).sum ≤ 8) (h1 : 1 ≤ X.2.2.2.1.cells) (h6 : 6 ≤ X.2.2.2.1.slots) (hP : ∀ w' : Wd, P w' → P2 (.inr cn) w') : Go X g 0 0 (Fen X g 1 6 P2) w pc lp (.int a0 :: .ref (g.1 31) :: st) :=
  kP_110 hc hd hcon hdd hst (by omega) (by omega) (fun v w' h => absurd h Tp_l) (fun cn2 w' h => by obtain ⟨rfl, h⟩ := h; exact x_out hc (hP w' h))
/-- PairedField$Pairing: a call of java/lang/Integer.numberOfTrailingZeros -/
theorem kP_69 {d' k n : Nat} {P : Rt → Wd → Prop} {a0 : Int32} (hc : Ok X g cc "PairedField$Pairing" ret hx d) (hd : decode cc pc = .ok (.invokestatic 69, 3)) (hcon : Con X.2.1 g yI_numberOfTrailingZeros bI_numberOfTrailingZeros 2 ((some .int)) [] d' k n [.int a0] w P) (hdd : d' + 1 ≤ d) (hst : (st.map fun v => v.category).sum ≤ 8) (hcells : kc + k ≤ X.2.2.2.1.cells) (hslots : ks + n ≤ X.2.2.2.1.slots)
    (hret : ∀ (v : Option Value) (w' : Wd), P (.inl v) w' → Go X g (kc + k) (ks + n) Q w' (pc + 3) lp (v.toList ++ st)) (hthr : ∀ (cn : String) (w' : Wd), P (.inr cn) w' → GoX X g (kc + k) (ks + n) Q w' pc lp cn) : Go X g kc ks Q w pc lp (.int a0 :: st) :=
  r_calls (av := [.int a0]) (nL' := 2) hc hd hcon (t1_mem 195 rfl rfl) (t1_mem 196 rfl rfl) (t1_mem 13 rfl rfl) (t1_mem 197 rfl rfl) (by decide) (by decide +kernel) (show (parseMethodDescriptor yI_numberOfTrailingZeros.desc).map (fun d => d.parameters.length) = some 1 by decide +kernel) hdd (by decide) (fun v hv => by simp only [List.mem_cons, List.not_mem_nil, or_false] at hv; rcases hv with rfl <;> rfl) (Nat.le_of_ble_eq_true rfl) hst hcells hslots hret hthr
theorem kP_69r {d' : Nat} {P : Option Value → Wd → Prop} {a0 : Int32} (hc : Ok X g cc "PairedField$Pairing" ret hx d) (hd : decode cc pc = .ok (.invokestatic 69, 3)) (hcon : Con X.2.1 g yI_numberOfTrailingZeros bI_numberOfTrailingZeros 2 ((some .int)) [] d' 0 0 [.int a0] w (Rp P)) (hdd : d' + 1 ≤ d) (hst : (st.map fun v => v.category).sum ≤ 8) (hret : ∀ (v : Option Value) (w' : Wd), P v w' → Go X g 0 0 Q w' (pc + 3) lp (v.toList ++ st)) : Go X g 0 0 Q w pc lp (.int a0 :: st) :=
  kP_69 hc hd hcon hdd hst (Nat.zero_le _) (Nat.zero_le _) (fun v w' h => hret v w' (Rp_l h)) (fun cn w' h => absurd h Rp_r)
theorem kP_69t {d' : Nat} {cn : String} {P : Wd → Prop} {P2 : Rt → Wd → Prop} {a0 : Int32} (hc : Ok X g cc "PairedField$Pairing" ret [] d) (hd : decode cc pc = .ok (.invokestatic 69, 3)) (hcon : Con X.2.1 g yI_numberOfTrailingZeros bI_numberOfTrailingZeros 2 ((some .int)) [] d' 1 6 [.int a0] w (Tp cn P)) (hdd : d' + 1 ≤ d) (hst : (st.map fun v => v.category).sum ≤ 8) (h1 : 1 ≤ X.2.2.2.1.cells) (h6 : 6 ≤ X.2.2.2.1.slots) (hP : ∀ w' : Wd, P w' → P2 (.inr cn) w') : Go X g 0 0 (Fen X g 1 6 P2) w pc lp (.int a0 :: st) :=
  kP_69 hc hd hcon hdd hst (by omega) (by omega) (fun v w' h => absurd h Tp_l) (fun cn2 w' h => by obtain ⟨rfl, h⟩ := h; exact x_out hc (hP w' h))
/-- PairedField$Pairing: a call of PairedField$Pairing.solveSet -/
theorem kP_114 {d' k n : Nat} {P : Rt → Wd → Prop} {a0 : Int32} (hc : Ok X g cc "PairedField$Pairing" ret hx d) (hd : decode cc pc = .ok (.invokevirtual 114, 3)) (hcon : Con X.2.1 g yP_solveSet bP_solveSet 8 ((none : Option Jvm.ClassFile.FieldType)) [] d' k n (.ref (g.1 31) :: [.int a0]) w P) (hdd : d' + 1 ≤ d) (hst : (st.map fun v => v.category).sum ≤ 8) (hcells : kc + k ≤ X.2.2.2.1.cells) (hslots : ks + n ≤ X.2.2.2.1.slots)
    (hret : ∀ (v : Option Value) (w' : Wd), P (.inl v) w' → Go X g (kc + k) (ks + n) Q w' (pc + 3) lp (v.toList ++ st)) (hthr : ∀ (cn : String) (w' : Wd), P (.inr cn) w' → GoX X g (kc + k) (ks + n) Q w' pc lp cn) : Go X g kc ks Q w pc lp (.int a0 :: .ref (g.1 31) :: st) :=
  r_callv (av := [.int a0]) (nL' := 8) (q := 31) (ci := 2) (C := R_P) (Tc := T_P) (N := 6) hc hd hcon (t1_mem 199 rfl rfl) (t1_mem 201 rfl rfl) (t0_mem 8 rfl rfl) (t1_mem 202 rfl rfl) (by decide) (by decide +kernel) (show (parseMethodDescriptor yP_solveSet.desc).map (fun d => d.parameters.length) = some 1 by decide +kernel) (by decide) (ent_P g (w 31)) rfl hdd (by decide) (fun v hv => by simp only [List.mem_cons, List.not_mem_nil, or_false] at hv; rcases hv with rfl <;> rfl) (Nat.le_of_ble_eq_true rfl) hst hcells hslots hret hthr
theorem kP_114r {d' : Nat} {P : Option Value → Wd → Prop} {a0 : Int32} (hc : Ok X g cc "PairedField$Pairing" ret hx d) (hd : decode cc pc = .ok (.invokevirtual 114, 3)) (hcon : Con X.2.1 g yP_solveSet bP_solveSet 8 ((none : Option Jvm.ClassFile.FieldType)) [] d' 0 0 (.ref (g.1 31) :: [.int a0]) w (Rp P)) (hdd : d' + 1 ≤ d) (hst : (st.map fun v => v.category).sum ≤ 8) (hret : ∀ (v : Option Value) (w' : Wd), P v w' → Go X g 0 0 Q w' (pc + 3) lp (v.toList ++ st)) : Go X g 0 0 Q w pc lp (.int a0 :: .ref (g.1 31) :: st) :=
  kP_114 hc hd hcon hdd hst (Nat.zero_le _) (Nat.zero_le _) (fun v w' h => hret v w' (Rp_l h)) (fun cn w' h => absurd h Rp_r)
theorem kP_114t {d' : Nat} {cn : String} {P : Wd → Prop} {P2 : Rt → Wd → Prop} {a0 : Int32} (hc : Ok X g cc "PairedField$Pairing" ret [] d) (hd : decode cc pc = .ok (.invokevirtual 114, 3)) (hcon : Con X.2.1 g yP_solveSet bP_solveSet 8 ((none : Option Jvm.ClassFile.FieldType)) [] d' 1 6 (.ref (g.1 31) :: [.int a0]) w (Tp cn P)) (hdd : d' + 1 ≤ d) (hst : (st.map fun v => v.category).sum ≤ 8) (h1 : 1 ≤ X.2.2.2.1.cells) (h6 : 6 ≤ X.2.2.2.1.slots) (hP : ∀ w' : Wd, P w' → P2 (.inr cn) w') : Go X g 0 0 (Fen X g 1 6 P2) w pc lp (.int a0 :: .ref (g.1 31) :: st) :=
  kP_114 hc hd hcon hdd hst (by omega) (by omega) (fun v w' h => absurd h Tp_l) (fun cn2 w' h => by obtain ⟨rfl, h⟩ := h; exact x_out hc (hP w' h))
/-- PairedField$Pairing: a call of PairedField$Pairing.without -/
theorem kP_87 {d' k n : Nat} {P : Rt → Wd → Prop} {a0 : Int32} {a1 : Int32} {a2 : Int32} (hc : Ok X g cc "PairedField$Pairing" ret hx d) (hd : decode cc pc = .ok (.invokestatic 87, 3)) (hcon : Con X.2.1 g yP_without bP_without 3 ((some .int)) [] d' k n [.int a0, .int a1, .int a2] w P) (hdd : d' + 1 ≤ d) (hst : (st.map fun v => v.category).sum ≤ 8) (hcells : kc + k ≤ X.2.2.2.1.cells) (hslots : ks + n ≤ X.2.2.2.1.slots)
    (hret : ∀ (v : Option Value) (w' : Wd), P (.inl v) w' → Go X g (kc + k) (ks + n) Q w' (pc + 3) lp (v.toList ++ st)) (hthr : ∀ (cn : String) (w' : Wd), P (.inr cn) w' → GoX X g (kc + k) (ks + n) Q w' pc lp cn) : Go X g kc ks Q w pc lp (.int a2 :: .int a1 :: .int a0 :: st) :=
  r_calls (av := [.int a0, .int a1, .int a2]) (nL' := 3) hc hd hcon (t1_mem 203 rfl rfl) (t1_mem 204 rfl rfl) (t1_mem 3 rfl rfl) (t1_mem 205 rfl rfl) (by decide) (by decide +kernel) (show (parseMethodDescriptor yP_without.desc).map (fun d => d.parameters.length) = some 3 by decide +kernel) hdd (by decide) (fun v hv => by simp only [List.mem_cons, List.not_mem_nil, or_false] at hv; rcases hv with rfl | rfl | rfl <;> rfl) (Nat.le_of_ble_eq_true rfl) hst hcells hslots hret hthr
theorem kP_87r {d' : Nat} {P : Option Value → Wd → Prop} {a0 : Int32} {a1 : Int32} {a2 : Int32} (hc : Ok X g cc "PairedField$Pairing" ret hx d) (hd : decode cc pc = .ok (.invokestatic 87, 3)) (hcon : Con X.2.1 g yP_without bP_without 3 ((some .int)) [] d' 0 0 [.int a0, .int a1, .int a2] w (Rp P)) (hdd : d' + 1 ≤ d) (hst : (st.map fun v => v.category).sum ≤ 8) (hret : ∀ (v : Option Value) (w' : Wd), P v w' → Go X g 0 0 Q w' (pc + 3) lp (v.toList ++ st)) : Go X g 0 0 Q w pc lp (.int a2 :: .int a1 :: .int a0 :: st) :=
  kP_87 hc hd hcon hdd hst (Nat.zero_le _) (Nat.zero_le _) (fun v w' h => hret v w' (Rp_l h)) (fun cn w' h => absurd h Rp_r)
theorem kP_87t {d' : Nat} {cn : String} {P : Wd → Prop} {P2 : Rt → Wd → Prop} {a0 : Int32} {a1 : Int32} {a2 : Int32} (hc : Ok X g cc "PairedField$Pairing" ret [] d) (hd : decode cc pc = .ok (.invokestatic 87, 3)) (hcon : Con X.2.1 g yP_without bP_without 3 ((some .int)) [] d' 1 6 [.int a0, .int a1, .int a2] w (Tp cn P)) (hdd : d' + 1 ≤ d) (hst : (st.map fun v => v.category).sum ≤ 8) (h1 : 1 ≤ X.2.2.2.1.cells) (h6 : 6 ≤ X.2.2.2.1.slots) (hP : ∀ w' : Wd, P w' → P2 (.inr cn) w') : Go X g 0 0 (Fen X g 1 6 P2) w pc lp (.int a2 :: .int a1 :: .int a0 :: st) :=
  kP_87 hc hd hcon hdd hst (by omega) (by omega) (fun v w' h => absurd h Tp_l) (fun cn2 w' h => by obtain ⟨rfl, h⟩ := h; exact x_out hc (hP w' h))
/-- PairedField$Pairing: a call of PairedField$Pairing.indexOf -/
theorem kP_54 {d' k n : Nat} {P : Rt → Wd → Prop} {a0 : Int32} (hc : Ok X g cc "PairedField$Pairing" ret hx d) (hd : decode cc pc = .ok (.invokestatic 54, 3)) (hcon : Con X.2.1 g yP_indexOf bP_indexOf 1 ((some .int)) [] d' k n [.int a0] w P) (hdd : d' + 1 ≤ d) (hst : (st.map fun v => v.category).sum ≤ 8) (hcells : kc + k ≤ X.2.2.2.1.cells) (hslots : ks + n ≤ X.2.2.2.1.slots)
    (hret : ∀ (v : Option Value) (w' : Wd), P (.inl v) w' → Go X g (kc + k) (ks + n) Q w' (pc + 3) lp (v.toList ++ st)) (hthr : ∀ (cn : String) (w' : Wd), P (.inr cn) w' → GoX X g (kc + k) (ks + n) Q w' pc lp cn) : Go X g kc ks Q w pc lp (.int a0 :: st) :=
  r_calls (av := [.int a0]) (nL' := 1) hc hd hcon (t1_mem 206 rfl rfl) (t1_mem 207 rfl rfl) (t1_mem 3 rfl rfl) (t1_mem 208 rfl rfl) (by decide) (by decide +kernel) (show (parseMethodDescriptor yP_indexOf.desc).map (fun d => d.parameters.length) = some 1 by decide +kernel) hdd (by decide) (fun v hv => by simp only [List.mem_cons, List.not_mem_nil, or_false] at hv; rcases hv with rfl <;> rfl) (Nat.le_of_ble_eq_true rfl) hst hcells hslots hret hthr
theorem kP_54r {d' : Nat} {P : Option Value → Wd → Prop} {a0 : Int32} (hc : Ok X g cc "PairedField$Pairing" ret hx d) (hd : decode cc pc = .ok (.invokestatic 54, 3)) (hcon : Con X.2.1 g yP_indexOf bP_indexOf 1 ((some .int)) [] d' 0 0 [.int a0] w (Rp P)) (hdd : d' + 1 ≤ d) (hst : (st.map fun v => v.category).sum ≤ 8) (hret : ∀ (v : Option Value) (w' : Wd), P v w' → Go X g 0 0 Q w' (pc + 3) lp (v.toList ++ st)) : Go X g 0 0 Q w pc lp (.int a0 :: st) :=
  kP_54 hc hd hcon hdd hst (Nat.zero_le _) (Nat.zero_le _) (fun v w' h => hret v w' (Rp_l h)) (fun cn w' h => absurd h Rp_r)
theorem kP_54t {d' : Nat} {cn : String} {P : Wd → Prop} {P2 : Rt → Wd → Prop} {a0 : Int32} (hc : Ok X g cc "PairedField$Pairing" ret [] d) (hd : decode cc pc = .ok (.invokestatic 54, 3)) (hcon : Con X.2.1 g yP_indexOf bP_indexOf 1 ((some .int)) [] d' 1 6 [.int a0] w (Tp cn P)) (hdd : d' + 1 ≤ d) (hst : (st.map fun v => v.category).sum ≤ 8) (h1 : 1 ≤ X.2.2.2.1.cells) (h6 : 6 ≤ X.2.2.2.1.slots) (hP : ∀ w' : Wd, P w' → P2 (.inr cn) w') : Go X g 0 0 (Fen X g 1 6 P2) w pc lp (.int a0 :: st) :=
  kP_54 hc hd hcon hdd hst (by omega) (by omega) (fun v w' h => absurd h Tp_l) (fun cn2 w' h => by obtain ⟨rfl, h⟩ := h; exact x_out hc (hP w' h))
/-- PairedField$Pairing: a call of PairedField$Pairing.mayPlay -/
theorem kP_118 {d' k n : Nat} {P : Rt → Wd → Prop} {a0 : Int32} {a1 : Int32} {a2 : Int32} (hc : Ok X g cc "PairedField$Pairing" ret hx d) (hd : decode cc pc = .ok (.invokevirtual 118, 3)) (hcon : Con X.2.1 g yP_mayPlay bP_mayPlay 4 ((some .boolean)) [] d' k n (.ref (g.1 31) :: [.int a0, .int a1, .int a2]) w P) (hdd : d' + 1 ≤ d) (hst : (st.map fun v => v.category).sum ≤ 8) (hcells : kc + k ≤ X.2.2.2.1.cells) (hslots : ks + n ≤ X.2.2.2.1.slots)
    (hret : ∀ (v : Option Value) (w' : Wd), P (.inl v) w' → Go X g (kc + k) (ks + n) Q w' (pc + 3) lp (v.toList ++ st)) (hthr : ∀ (cn : String) (w' : Wd), P (.inr cn) w' → GoX X g (kc + k) (ks + n) Q w' pc lp cn) : Go X g kc ks Q w pc lp (.int a2 :: .int a1 :: .int a0 :: .ref (g.1 31) :: st) :=
  r_callv (av := [.int a0, .int a1, .int a2]) (nL' := 4) (q := 31) (ci := 2) (C := R_P) (Tc := T_P) (N := 6) hc hd hcon (t1_mem 209 rfl rfl) (t1_mem 211 rfl rfl) (t0_mem 9 rfl rfl) (t1_mem 212 rfl rfl) (by decide) (by decide +kernel) (show (parseMethodDescriptor yP_mayPlay.desc).map (fun d => d.parameters.length) = some 3 by decide +kernel) (by decide) (ent_P g (w 31)) rfl hdd (by decide) (fun v hv => by simp only [List.mem_cons, List.not_mem_nil, or_false] at hv; rcases hv with rfl | rfl | rfl <;> rfl) (Nat.le_of_ble_eq_true rfl) hst hcells hslots hret hthr
theorem kP_118r {d' : Nat} {P : Option Value → Wd → Prop} {a0 : Int32} {a1 : Int32} {a2 : Int32} (hc : Ok X g cc "PairedField$Pairing" ret hx d) (hd : decode cc pc = .ok (.invokevirtual 118, 3)) (hcon : Con X.2.1 g yP_mayPlay bP_mayPlay 4 ((some .boolean)) [] d' 0 0 (.ref (g.1 31) :: [.int a0, .int a1, .int a2]) w (Rp P)) (hdd : d' + 1 ≤ d) (hst : (st.map fun v => v.category).sum ≤ 8) (hret : ∀ (v : Option Value) (w' : Wd), P v w' → Go X g 0 0 Q w' (pc + 3) lp (v.toList ++ st)) : Go X g 0 0 Q w pc lp (.int a2 :: .int a1 :: .int a0 :: .ref (g.1 31) :: st) :=
  kP_118 hc hd hcon hdd hst (Nat.zero_le _) (Nat.zero_le _) (fun v w' h => hret v w' (Rp_l h)) (fun cn w' h => absurd h Rp_r)
theorem kP_118t {d' : Nat} {cn : String} {P : Wd → Prop} {P2 : Rt → Wd → Prop} {a0 : Int32} {a1 : Int32} {a2 : Int32} (hc : Ok X g cc "PairedField$Pairing" ret [] d) (hd : decode cc pc = .ok (.invokevirtual 118, 3)) (hcon : Con X.2.1 g yP_mayPlay bP_mayPlay 4 ((some .boolean)) [] d' 1 6 (.ref (g.1 31) :: [.int a0, .int a1, .int a2]) w (Tp cn P)) (hdd : d' + 1 ≤ d) (hst : (st.map fun v => v.category).sum ≤ 8) (h1 : 1 ≤ X.2.2.2.1.cells) (h6 : 6 ≤ X.2.2.2.1.slots) (hP : ∀ w' : Wd, P w' → P2 (.inr cn) w') : Go X g 0 0 (Fen X g 1 6 P2) w pc lp (.int a2 :: .int a1 :: .int a0 :: .ref (g.1 31) :: st) :=
  kP_118 hc hd hcon hdd hst (by omega) (by omega) (fun v w' h => absurd h Tp_l) (fun cn2 w' h => by obtain ⟨rfl, h⟩ := h; exact x_out hc (hP w' h))
/-- PairedField$Pairing: a call of java/lang/Math.min -/
theorem kP_122 {d' k n : Nat} {P : Rt → Wd → Prop} {a0 : Int32} {a1 : Int32} (hc : Ok X g cc "PairedField$Pairing" ret hx d) (hd : decode cc pc = .ok (.invokestatic 122, 3)) (hcon : Con X.2.1 g yH_min bH_min 2 ((some .int)) [] d' k n [.int a0, .int a1] w P) (hdd : d' + 1 ≤ d) (hst : (st.map fun v => v.category).sum ≤ 8) (hcells : kc + k ≤ X.2.2.2.1.cells) (hslots : ks + n ≤ X.2.2.2.1.slots)
    (hret : ∀ (v : Option Value) (w' : Wd), P (.inl v) w' → Go X g (kc + k) (ks + n) Q w' (pc + 3) lp (v.toList ++ st)) (hthr : ∀ (cn : String) (w' : Wd), P (.inr cn) w' → GoX X g (kc + k) (ks + n) Q w' pc lp cn) : Go X g kc ks Q w pc lp (.int a1 :: .int a0 :: st) :=
  r_calls (av := [.int a0, .int a1]) (nL' := 2) hc hd hcon (t1_mem 213 rfl rfl) (t1_mem 100 rfl rfl) (t1_mem 4 rfl rfl) (t1_mem 101 rfl rfl) (by decide) (by decide +kernel) (show (parseMethodDescriptor yH_min.desc).map (fun d => d.parameters.length) = some 2 by decide +kernel) hdd (by decide) (fun v hv => by simp only [List.mem_cons, List.not_mem_nil, or_false] at hv; rcases hv with rfl | rfl <;> rfl) (Nat.le_of_ble_eq_true rfl) hst hcells hslots hret hthr
theorem kP_122r {d' : Nat} {P : Option Value → Wd → Prop} {a0 : Int32} {a1 : Int32} (hc : Ok X g cc "PairedField$Pairing" ret hx d) (hd : decode cc pc = .ok (.invokestatic 122, 3)) (hcon : Con X.2.1 g yH_min bH_min 2 ((some .int)) [] d' 0 0 [.int a0, .int a1] w (Rp P)) (hdd : d' + 1 ≤ d) (hst : (st.map fun v => v.category).sum ≤ 8) (hret : ∀ (v : Option Value) (w' : Wd), P v w' → Go X g 0 0 Q w' (pc + 3) lp (v.toList ++ st)) : Go X g 0 0 Q w pc lp (.int a1 :: .int a0 :: st) :=
  kP_122 hc hd hcon hdd hst (Nat.zero_le _) (Nat.zero_le _) (fun v w' h => hret v w' (Rp_l h)) (fun cn w' h => absurd h Rp_r)
theorem kP_122t {d' : Nat} {cn : String} {P : Wd → Prop} {P2 : Rt → Wd → Prop} {a0 : Int32} {a1 : Int32} (hc : Ok X g cc "PairedField$Pairing" ret [] d) (hd : decode cc pc = .ok (.invokestatic 122, 3)) (hcon : Con X.2.1 g yH_min bH_min 2 ((some .int)) [] d' 1 6 [.int a0, .int a1] w (Tp cn P)) (hdd : d' + 1 ≤ d) (hst : (st.map fun v => v.category).sum ≤ 8) (h1 : 1 ≤ X.2.2.2.1.cells) (h6 : 6 ≤ X.2.2.2.1.slots) (hP : ∀ w' : Wd, P w' → P2 (.inr cn) w') : Go X g 0 0 (Fen X g 1 6 P2) w pc lp (.int a1 :: .int a0 :: st) :=
  kP_122 hc hd hcon hdd hst (by omega) (by omega) (fun v w' h => absurd h Tp_l) (fun cn2 w' h => by obtain ⟨rfl, h⟩ := h; exact x_out hc (hP w' h))
/-- PairedField: a call of PairedField$Pairing.count -/
theorem kF_97 {d' k n : Nat} {P : Rt → Wd → Prop} (hc : Ok X g cc "PairedField" ret hx d) (hd : decode cc pc = .ok (.invokevirtual 97, 3)) (hcon : Con X.2.1 g yP_count bP_count 1 ((some .int)) [] d' k n (.ref (g.1 31) :: []) w P) (hdd : d' + 1 ≤ d) (hst : (st.map fun v => v.category).sum ≤ 8) (hcells : kc + k ≤ X.2.2.2.1.cells) (hslots : ks + n ≤ X.2.2.2.1.slots)
    (hret : ∀ (v : Option Value) (w' : Wd), P (.inl v) w' → Go X g (kc + k) (ks + n) Q w' (pc + 3) lp (v.toList ++ st)) (hthr : ∀ (cn : String) (w' : Wd), P (.inr cn) w' → GoX X g (kc + k) (ks + n) Q w' pc lp cn) : Go X g kc ks Q w pc lp (.ref (g.1 31) :: st) :=
  r_callv (av := []) (nL' := 1) (q := 31) (ci := 2) (C := R_P) (Tc := T_P) (N := 6) hc hd hcon (t1_mem 214 rfl rfl) (t1_mem 215 rfl rfl) (t1_mem 216 rfl rfl) (t1_mem 217 rfl rfl) (by decide) (by decide +kernel) (show (parseMethodDescriptor yP_count.desc).map (fun d => d.parameters.length) = some 0 by decide +kernel) (by decide) (ent_P g (w 31)) rfl hdd (by decide) (fun v hv => by cases hv) (Nat.le_of_ble_eq_true rfl) hst hcells hslots hret hthr
theorem kF_97r {d' : Nat} {P : Option Value → Wd → Prop} (hc : Ok X g cc "PairedField" ret hx d) (hd : decode cc pc = .ok (.invokevirtual 97, 3)) (hcon : Con X.2.1 g yP_count bP_count 1 ((some .int)) [] d' 0 0 (.ref (g.1 31) :: []) w (Rp P)) (hdd : d' + 1 ≤ d) (hst : (st.map fun v => v.category).sum ≤ 8) (hret : ∀ (v : Option Value) (w' : Wd), P v w' → Go X g 0 0 Q w' (pc + 3) lp (v.toList ++ st)) : Go X g 0 0 Q w pc lp (.ref (g.1 31) :: st) :=
  kF_97 hc hd hcon hdd hst (Nat.zero_le _) (Nat.zero_le _) (fun v w' h => hret v w' (Rp_l h)) (fun cn w' h => absurd h Rp_r)
theorem kF_97t {d' : Nat} {cn : String} {P : Wd → Prop} {P2 : Rt → Wd → Prop} (hc : Ok X g cc "PairedField" ret [] d) (hd : decode cc pc = .ok (.invokevirtual 97, 3)) (hcon : Con X.2.1 g yP_count bP_count 1 ((some .int)) [] d' 1 6 (.ref (g.1 31) :: []) w (Tp cn P)) (hdd : d' + 1 ≤ d) (hst : (st.map fun v => v.category).sum ≤ 8) (h1 : 1 ≤ X.2.2.2.1.cells) (h6 : 6 ≤ X.2.2.2.1.slots) (hP : ∀ w' : Wd, P w' → P2 (.inr cn) w') : Go X g 0 0 (Fen X g 1 6 P2) w pc lp (.ref (g.1 31) :: st) :=
  kF_97 hc hd hcon hdd hst (by omega) (by omega) (fun v w' h => absurd h Tp_l) (fun cn2 w' h => by obtain ⟨rfl, h⟩ := h; exact x_out hc (hP w' h))
/-- PairedField$Pairing: a call of PairedField$Pairing.allSeats -/
theorem kP_51 {d' k n : Nat} {P : Rt → Wd → Prop} (hc : Ok X g cc "PairedField$Pairing" ret hx d) (hd : decode cc pc = .ok (.invokevirtual 51, 3)) (hcon : Con X.2.1 g yP_allSeats bP_allSeats 1 ((some .int)) [] d' k n (.ref (g.1 31) :: []) w P) (hdd : d' + 1 ≤ d) (hst : (st.map fun v => v.category).sum ≤ 8) (hcells : kc + k ≤ X.2.2.2.1.cells) (hslots : ks + n ≤ X.2.2.2.1.slots)
    (hret : ∀ (v : Option Value) (w' : Wd), P (.inl v) w' → Go X g (kc + k) (ks + n) Q w' (pc + 3) lp (v.toList ++ st)) (hthr : ∀ (cn : String) (w' : Wd), P (.inr cn) w' → GoX X g (kc + k) (ks + n) Q w' pc lp cn) : Go X g kc ks Q w pc lp (.ref (g.1 31) :: st) :=
  r_callv (av := []) (nL' := 1) (q := 31) (ci := 2) (C := R_P) (Tc := T_P) (N := 6) hc hd hcon (t1_mem 218 rfl rfl) (t1_mem 220 rfl rfl) (t0_mem 10 rfl rfl) (t1_mem 221 rfl rfl) (by decide) (by decide +kernel) (show (parseMethodDescriptor yP_allSeats.desc).map (fun d => d.parameters.length) = some 0 by decide +kernel) (by decide) (ent_P g (w 31)) rfl hdd (by decide) (fun v hv => by cases hv) (Nat.le_of_ble_eq_true rfl) hst hcells hslots hret hthr
theorem kP_51r {d' : Nat} {P : Option Value → Wd → Prop} (hc : Ok X g cc "PairedField$Pairing" ret hx d) (hd : decode cc pc = .ok (.invokevirtual 51, 3)) (hcon : Con X.2.1 g yP_allSeats bP_allSeats 1 ((some .int)) [] d' 0 0 (.ref (g.1 31) :: []) w (Rp P)) (hdd : d' + 1 ≤ d) (hst : (st.map fun v => v.category).sum ≤ 8) (hret : ∀ (v : Option Value) (w' : Wd), P v w' → Go X g 0 0 Q w' (pc + 3) lp (v.toList ++ st)) : Go X g 0 0 Q w pc lp (.ref (g.1 31) :: st) :=
  kP_51 hc hd hcon hdd hst (Nat.zero_le _) (Nat.zero_le _) (fun v w' h => hret v w' (Rp_l h)) (fun cn w' h => absurd h Rp_r)
theorem kP_51t {d' : Nat} {cn : String} {P : Wd → Prop} {P2 : Rt → Wd → Prop} (hc : Ok X g cc "PairedField$Pairing" ret [] d) (hd : decode cc pc = .ok (.invokevirtual 51, 3)) (hcon : Con X.2.1 g yP_allSeats bP_allSeats 1 ((some .int)) [] d' 1 6 (.ref (g.1 31) :: []) w (Tp cn P)) (hdd : d' + 1 ≤ d) (hst : (st.map fun v => v.category).sum ≤ 8) (h1 : 1 ≤ X.2.2.2.1.cells) (h6 : 6 ≤ X.2.2.2.1.slots) (hP : ∀ w' : Wd, P w' → P2 (.inr cn) w') : Go X g 0 0 (Fen X g 1 6 P2) w pc lp (.ref (g.1 31) :: st) :=
  kP_51 hc hd hcon hdd hst (by omega) (by omega) (fun v w' h => absurd h Tp_l) (fun cn2 w' h => by obtain ⟨rfl, h⟩ := h; exact x_out hc (hP w' h))
/-- PairedFieldLaw: a call of PairedField.players -/
theorem kL_128 {d' k n : Nat} {P : Rt → Wd → Prop} (hc : Ok X g cc "PairedFieldLaw" ret hx d) (hd : decode cc pc = .ok (.invokevirtual 128, 3)) (hcon : Con X.2.1 g yF_players bF_players 1 ((some .int)) [] d' k n (.ref (g.1 0) :: []) w P) (hdd : d' + 1 ≤ d) (hst : (st.map fun v => v.category).sum ≤ 8) (hcells : kc + k ≤ X.2.2.2.1.cells) (hslots : ks + n ≤ X.2.2.2.1.slots)
    (hret : ∀ (v : Option Value) (w' : Wd), P (.inl v) w' → Go X g (kc + k) (ks + n) Q w' (pc + 3) lp (v.toList ++ st)) (hthr : ∀ (cn : String) (w' : Wd), P (.inr cn) w' → GoX X g (kc + k) (ks + n) Q w' pc lp cn) : Go X g kc ks Q w pc lp (.ref (g.1 0) :: st) :=
  r_callv (av := []) (nL' := 1) (q := 0) (ci := 0) (C := R_F) (Tc := T_F) (N := 8) hc hd hcon (t1_mem 222 rfl rfl) (t1_mem 223 rfl rfl) (t1_mem 224 rfl rfl) (t1_mem 225 rfl rfl) (by decide) (by decide +kernel) (show (parseMethodDescriptor yF_players.desc).map (fun d => d.parameters.length) = some 0 by decide +kernel) (by decide) (ent_F g (w 0)) rfl hdd (by decide) (fun v hv => by cases hv) (Nat.le_of_ble_eq_true rfl) hst hcells hslots hret hthr
theorem kL_128r {d' : Nat} {P : Option Value → Wd → Prop} (hc : Ok X g cc "PairedFieldLaw" ret hx d) (hd : decode cc pc = .ok (.invokevirtual 128, 3)) (hcon : Con X.2.1 g yF_players bF_players 1 ((some .int)) [] d' 0 0 (.ref (g.1 0) :: []) w (Rp P)) (hdd : d' + 1 ≤ d) (hst : (st.map fun v => v.category).sum ≤ 8) (hret : ∀ (v : Option Value) (w' : Wd), P v w' → Go X g 0 0 Q w' (pc + 3) lp (v.toList ++ st)) : Go X g 0 0 Q w pc lp (.ref (g.1 0) :: st) :=
  kL_128 hc hd hcon hdd hst (Nat.zero_le _) (Nat.zero_le _) (fun v w' h => hret v w' (Rp_l h)) (fun cn w' h => absurd h Rp_r)
theorem kL_128t {d' : Nat} {cn : String} {P : Wd → Prop} {P2 : Rt → Wd → Prop} (hc : Ok X g cc "PairedFieldLaw" ret [] d) (hd : decode cc pc = .ok (.invokevirtual 128, 3)) (hcon : Con X.2.1 g yF_players bF_players 1 ((some .int)) [] d' 1 6 (.ref (g.1 0) :: []) w (Tp cn P)) (hdd : d' + 1 ≤ d) (hst : (st.map fun v => v.category).sum ≤ 8) (h1 : 1 ≤ X.2.2.2.1.cells) (h6 : 6 ≤ X.2.2.2.1.slots) (hP : ∀ w' : Wd, P w' → P2 (.inr cn) w') : Go X g 0 0 (Fen X g 1 6 P2) w pc lp (.ref (g.1 0) :: st) :=
  kL_128 hc hd hcon hdd hst (by omega) (by omega) (fun v w' h => absurd h Tp_l) (fun cn2 w' h => by obtain ⟨rfl, h⟩ := h; exact x_out hc (hP w' h))
/-- PairedFieldLaw: a call of PairedField.rounds -/
theorem kL_132 {d' k n : Nat} {P : Rt → Wd → Prop} (hc : Ok X g cc "PairedFieldLaw" ret hx d) (hd : decode cc pc = .ok (.invokevirtual 132, 3)) (hcon : Con X.2.1 g yF_rounds bF_rounds 1 ((some .int)) [] d' k n (.ref (g.1 0) :: []) w P) (hdd : d' + 1 ≤ d) (hst : (st.map fun v => v.category).sum ≤ 8) (hcells : kc + k ≤ X.2.2.2.1.cells) (hslots : ks + n ≤ X.2.2.2.1.slots)
    (hret : ∀ (v : Option Value) (w' : Wd), P (.inl v) w' → Go X g (kc + k) (ks + n) Q w' (pc + 3) lp (v.toList ++ st)) (hthr : ∀ (cn : String) (w' : Wd), P (.inr cn) w' → GoX X g (kc + k) (ks + n) Q w' pc lp cn) : Go X g kc ks Q w pc lp (.ref (g.1 0) :: st) :=
  r_callv (av := []) (nL' := 1) (q := 0) (ci := 0) (C := R_F) (Tc := T_F) (N := 8) hc hd hcon (t1_mem 226 rfl rfl) (t1_mem 227 rfl rfl) (t1_mem 228 rfl rfl) (t1_mem 229 rfl rfl) (by decide) (by decide +kernel) (show (parseMethodDescriptor yF_rounds.desc).map (fun d => d.parameters.length) = some 0 by decide +kernel) (by decide) (ent_F g (w 0)) rfl hdd (by decide) (fun v hv => by cases hv) (Nat.le_of_ble_eq_true rfl) hst hcells hslots hret hthr
theorem kL_132r {d' : Nat} {P : Option Value → Wd → Prop} (hc : Ok X g cc "PairedFieldLaw" ret hx d) (hd : decode cc pc = .ok (.invokevirtual 132, 3)) (hcon : Con X.2.1 g yF_rounds bF_rounds 1 ((some .int)) [] d' 0 0 (.ref (g.1 0) :: []) w (Rp P)) (hdd : d' + 1 ≤ d) (hst : (st.map fun v => v.category).sum ≤ 8) (hret : ∀ (v : Option Value) (w' : Wd), P v w' → Go X g 0 0 Q w' (pc + 3) lp (v.toList ++ st)) : Go X g 0 0 Q w pc lp (.ref (g.1 0) :: st) :=
  kL_132 hc hd hcon hdd hst (Nat.zero_le _) (Nat.zero_le _) (fun v w' h => hret v w' (Rp_l h)) (fun cn w' h => absurd h Rp_r)
theorem kL_132t {d' : Nat} {cn : String} {P : Wd → Prop} {P2 : Rt → Wd → Prop} (hc : Ok X g cc "PairedFieldLaw" ret [] d) (hd : decode cc pc = .ok (.invokevirtual 132, 3)) (hcon : Con X.2.1 g yF_rounds bF_rounds 1 ((some .int)) [] d' 1 6 (.ref (g.1 0) :: []) w (Tp cn P)) (hdd : d' + 1 ≤ d) (hst : (st.map fun v => v.category).sum ≤ 8) (h1 : 1 ≤ X.2.2.2.1.cells) (h6 : 6 ≤ X.2.2.2.1.slots) (hP : ∀ w' : Wd, P w' → P2 (.inr cn) w') : Go X g 0 0 (Fen X g 1 6 P2) w pc lp (.ref (g.1 0) :: st) :=
  kL_132 hc hd hcon hdd hst (by omega) (by omega) (fun v w' h => absurd h Tp_l) (fun cn2 w' h => by obtain ⟨rfl, h⟩ := h; exact x_out hc (hP w' h))
/-- PairedFieldLaw: a call of PairedField.isIn -/
theorem kL_136 {d' k n : Nat} {P : Rt → Wd → Prop} {a0 : Int32} (hc : Ok X g cc "PairedFieldLaw" ret hx d) (hd : decode cc pc = .ok (.invokevirtual 136, 3)) (hcon : Con X.2.1 g yF_isIn bF_isIn 2 ((some .boolean)) [] d' k n (.ref (g.1 0) :: [.int a0]) w P) (hdd : d' + 1 ≤ d) (hst : (st.map fun v => v.category).sum ≤ 8) (hcells : kc + k ≤ X.2.2.2.1.cells) (hslots : ks + n ≤ X.2.2.2.1.slots)
    (hret : ∀ (v : Option Value) (w' : Wd), P (.inl v) w' → Go X g (kc + k) (ks + n) Q w' (pc + 3) lp (v.toList ++ st)) (hthr : ∀ (cn : String) (w' : Wd), P (.inr cn) w' → GoX X g (kc + k) (ks + n) Q w' pc lp cn) : Go X g kc ks Q w pc lp (.int a0 :: .ref (g.1 0) :: st) :=
  r_callv (av := [.int a0]) (nL' := 2) (q := 0) (ci := 0) (C := R_F) (Tc := T_F) (N := 8) hc hd hcon (t1_mem 230 rfl rfl) (t1_mem 231 rfl rfl) (t1_mem 232 rfl rfl) (t1_mem 233 rfl rfl) (by decide) (by decide +kernel) (show (parseMethodDescriptor yF_isIn.desc).map (fun d => d.parameters.length) = some 1 by decide +kernel) (by decide) (ent_F g (w 0)) rfl hdd (by decide) (fun v hv => by simp only [List.mem_cons, List.not_mem_nil, or_false] at hv; rcases hv with rfl <;> rfl) (Nat.le_of_ble_eq_true rfl) hst hcells hslots hret hthr
theorem kL_136r {d' : Nat} {P : Option Value → Wd → Prop} {a0 : Int32} (hc : Ok X g cc "PairedFieldLaw" ret hx d) (hd : decode cc pc = .ok (.invokevirtual 136, 3)) (hcon : Con X.2.1 g yF_isIn bF_isIn 2 ((some .boolean)) [] d' 0 0 (.ref (g.1 0) :: [.int a0]) w (Rp P)) (hdd : d' + 1 ≤ d) (hst : (st.map fun v => v.category).sum ≤ 8) (hret : ∀ (v : Option Value) (w' : Wd), P v w' → Go X g 0 0 Q w' (pc + 3) lp (v.toList ++ st)) : Go X g 0 0 Q w pc lp (.int a0 :: .ref (g.1 0) :: st) :=
  kL_136 hc hd hcon hdd hst (Nat.zero_le _) (Nat.zero_le _) (fun v w' h => hret v w' (Rp_l h)) (fun cn w' h => absurd h Rp_r)
theorem kL_136t {d' : Nat} {cn : String} {P : Wd → Prop} {P2 : Rt → Wd → Prop} {a0 : Int32} (hc : Ok X g cc "PairedFieldLaw" ret [] d) (hd : decode cc pc = .ok (.invokevirtual 136, 3)) (hcon : Con X.2.1 g yF_isIn bF_isIn 2 ((some .boolean)) [] d' 1 6 (.ref (g.1 0) :: [.int a0]) w (Tp cn P)) (hdd : d' + 1 ≤ d) (hst : (st.map fun v => v.category).sum ≤ 8) (h1 : 1 ≤ X.2.2.2.1.cells) (h6 : 6 ≤ X.2.2.2.1.slots) (hP : ∀ w' : Wd, P w' → P2 (.inr cn) w') : Go X g 0 0 (Fen X g 1 6 P2) w pc lp (.int a0 :: .ref (g.1 0) :: st) :=
  kL_136 hc hd hcon hdd hst (by omega) (by omega) (fun v w' h => absurd h Tp_l) (fun cn2 w' h => by obtain ⟨rfl, h⟩ := h; exact x_out hc (hP w' h))
/-- PairedField: a call of PairedField.isPlayer -/
theorem kF_150 {d' k n : Nat} {P : Rt → Wd → Prop} {a0 : Int32} (hc : Ok X g cc "PairedField" ret hx d) (hd : decode cc pc = .ok (.invokevirtual 150, 3)) (hcon : Con X.2.1 g yF_isPlayer bF_isPlayer 2 ((some .boolean)) [] d' k n (.ref (g.1 0) :: [.int a0]) w P) (hdd : d' + 1 ≤ d) (hst : (st.map fun v => v.category).sum ≤ 8) (hcells : kc + k ≤ X.2.2.2.1.cells) (hslots : ks + n ≤ X.2.2.2.1.slots)
    (hret : ∀ (v : Option Value) (w' : Wd), P (.inl v) w' → Go X g (kc + k) (ks + n) Q w' (pc + 3) lp (v.toList ++ st)) (hthr : ∀ (cn : String) (w' : Wd), P (.inr cn) w' → GoX X g (kc + k) (ks + n) Q w' pc lp cn) : Go X g kc ks Q w pc lp (.int a0 :: .ref (g.1 0) :: st) :=
  r_callv (av := [.int a0]) (nL' := 2) (q := 0) (ci := 0) (C := R_F) (Tc := T_F) (N := 8) hc hd hcon (t1_mem 234 rfl rfl) (t1_mem 236 rfl rfl) (t0_mem 11 rfl rfl) (t1_mem 237 rfl rfl) (by decide) (by decide +kernel) (show (parseMethodDescriptor yF_isPlayer.desc).map (fun d => d.parameters.length) = some 1 by decide +kernel) (by decide) (ent_F g (w 0)) rfl hdd (by decide) (fun v hv => by simp only [List.mem_cons, List.not_mem_nil, or_false] at hv; rcases hv with rfl <;> rfl) (Nat.le_of_ble_eq_true rfl) hst hcells hslots hret hthr
theorem kF_150r {d' : Nat} {P : Option Value → Wd → Prop} {a0 : Int32} (hc : Ok X g cc "PairedField" ret hx d) (hd : decode cc pc = .ok (.invokevirtual 150, 3)) (hcon : Con X.2.1 g yF_isPlayer bF_isPlayer 2 ((some .boolean)) [] d' 0 0 (.ref (g.1 0) :: [.int a0]) w (Rp P)) (hdd : d' + 1 ≤ d) (hst : (st.map fun v => v.category).sum ≤ 8) (hret : ∀ (v : Option Value) (w' : Wd), P v w' → Go X g 0 0 Q w' (pc + 3) lp (v.toList ++ st)) : Go X g 0 0 Q w pc lp (.int a0 :: .ref (g.1 0) :: st) :=
  kF_150 hc hd hcon hdd hst (Nat.zero_le _) (Nat.zero_le _) (fun v w' h => hret v w' (Rp_l h)) (fun cn w' h => absurd h Rp_r)
theorem kF_150t {d' : Nat} {cn : String} {P : Wd → Prop} {P2 : Rt → Wd → Prop} {a0 : Int32} (hc : Ok X g cc "PairedField" ret [] d) (hd : decode cc pc = .ok (.invokevirtual 150, 3)) (hcon : Con X.2.1 g yF_isPlayer bF_isPlayer 2 ((some .boolean)) [] d' 1 6 (.ref (g.1 0) :: [.int a0]) w (Tp cn P)) (hdd : d' + 1 ≤ d) (hst : (st.map fun v => v.category).sum ≤ 8) (h1 : 1 ≤ X.2.2.2.1.cells) (h6 : 6 ≤ X.2.2.2.1.slots) (hP : ∀ w' : Wd, P w' → P2 (.inr cn) w') : Go X g 0 0 (Fen X g 1 6 P2) w pc lp (.int a0 :: .ref (g.1 0) :: st) :=
  kF_150 hc hd hcon hdd hst (by omega) (by omega) (fun v w' h => absurd h Tp_l) (fun cn2 w' h => by obtain ⟨rfl, h⟩ := h; exact x_out hc (hP w' h))
/-- PairedFieldLaw: a call of PairedFieldLaw.cell -/
theorem kL_69 {d' k n : Nat} {P : Rt → Wd → Prop} {a0 : Nat} {a1 : Int32} (hc : Ok X g cc "PairedFieldLaw" ret hx d) (hd : decode cc pc = .ok (.invokestatic 69, 3)) (hcon : Con X.2.1 g yL_cell bL_cell 2 ((some .int)) [] d' k n [.ref a0, .int a1] w P) (hdd : d' + 1 ≤ d) (hst : (st.map fun v => v.category).sum ≤ 8) (hcells : kc + k ≤ X.2.2.2.1.cells) (hslots : ks + n ≤ X.2.2.2.1.slots)
    (hret : ∀ (v : Option Value) (w' : Wd), P (.inl v) w' → Go X g (kc + k) (ks + n) Q w' (pc + 3) lp (v.toList ++ st)) (hthr : ∀ (cn : String) (w' : Wd), P (.inr cn) w' → GoX X g (kc + k) (ks + n) Q w' pc lp cn) : Go X g kc ks Q w pc lp (.int a1 :: .ref a0 :: st) :=
  r_calls (av := [.ref a0, .int a1]) (nL' := 2) hc hd hcon (t1_mem 238 rfl rfl) (t1_mem 239 rfl rfl) (t1_mem 0 rfl rfl) (t2_mem 0 rfl rfl) (by decide) (by decide +kernel) (show (parseMethodDescriptor yL_cell.desc).map (fun d => d.parameters.length) = some 2 by decide +kernel) hdd (by decide) (fun v hv => by simp only [List.mem_cons, List.not_mem_nil, or_false] at hv; rcases hv with rfl | rfl <;> rfl) (Nat.le_of_ble_eq_true rfl) hst hcells hslots hret hthr
theorem kL_69r {d' : Nat} {P : Option Value → Wd → Prop} {a0 : Nat} {a1 : Int32} (hc : Ok X g cc "PairedFieldLaw" ret hx d) (hd : decode cc pc = .ok (.invokestatic 69, 3)) (hcon : Con X.2.1 g yL_cell bL_cell 2 ((some .int)) [] d' 0 0 [.ref a0, .int a1] w (Rp P)) (hdd : d' + 1 ≤ d) (hst : (st.map fun v => v.category).sum ≤ 8) (hret : ∀ (v : Option Value) (w' : Wd), P v w' → Go X g 0 0 Q w' (pc + 3) lp (v.toList ++ st)) : Go X g 0 0 Q w pc lp (.int a1 :: .ref a0 :: st) :=
  kL_69 hc hd hcon hdd hst (Nat.zero_le _) (Nat.zero_le _) (fun v w' h => hret v w' (Rp_l h)) (fun cn w' h => absurd h Rp_r)
theorem kL_69t {d' : Nat} {cn : String} {P : Wd → Prop} {P2 : Rt → Wd → Prop} {a0 : Nat} {a1 : Int32} (hc : Ok X g cc "PairedFieldLaw" ret [] d) (hd : decode cc pc = .ok (.invokestatic 69, 3)) (hcon : Con X.2.1 g yL_cell bL_cell 2 ((some .int)) [] d' 1 6 [.ref a0, .int a1] w (Tp cn P)) (hdd : d' + 1 ≤ d) (hst : (st.map fun v => v.category).sum ≤ 8) (h1 : 1 ≤ X.2.2.2.1.cells) (h6 : 6 ≤ X.2.2.2.1.slots) (hP : ∀ w' : Wd, P w' → P2 (.inr cn) w') : Go X g 0 0 (Fen X g 1 6 P2) w pc lp (.int a1 :: .ref a0 :: st) :=
  kL_69 hc hd hcon hdd hst (by omega) (by omega) (fun v w' h => absurd h Tp_l) (fun cn2 w' h => by obtain ⟨rfl, h⟩ := h; exact x_out hc (hP w' h))
/-- PairedFieldLaw: a call of PairedField.enter -/
theorem kL_7 {d' k n : Nat} {P : Rt → Wd → Prop} (hc : Ok X g cc "PairedFieldLaw" ret hx d) (hd : decode cc pc = .ok (.invokevirtual 7, 3)) (hcon : Con X.2.1 g yF_enter bF_enter 1 ((some .int)) [] d' k n (.ref (g.1 0) :: []) w P) (hdd : d' + 1 ≤ d) (hst : (st.map fun v => v.category).sum ≤ 8) (hcells : kc + k ≤ X.2.2.2.1.cells) (hslots : ks + n ≤ X.2.2.2.1.slots)
    (hret : ∀ (v : Option Value) (w' : Wd), P (.inl v) w' → Go X g (kc + k) (ks + n) Q w' (pc + 3) lp (v.toList ++ st)) (hthr : ∀ (cn : String) (w' : Wd), P (.inr cn) w' → GoX X g (kc + k) (ks + n) Q w' pc lp cn) : Go X g kc ks Q w pc lp (.ref (g.1 0) :: st) :=
  r_callv (av := []) (nL' := 1) (q := 0) (ci := 0) (C := R_F) (Tc := T_F) (N := 8) hc hd hcon (t2_mem 5 rfl rfl) (t2_mem 6 rfl rfl) (t2_mem 7 rfl rfl) (t2_mem 8 rfl rfl) (by decide) (by decide +kernel) (show (parseMethodDescriptor yF_enter.desc).map (fun d => d.parameters.length) = some 0 by decide +kernel) (by decide) (ent_F g (w 0)) rfl hdd (by decide) (fun v hv => by cases hv) (Nat.le_of_ble_eq_true rfl) hst hcells hslots hret hthr
theorem kL_7r {d' : Nat} {P : Option Value → Wd → Prop} (hc : Ok X g cc "PairedFieldLaw" ret hx d) (hd : decode cc pc = .ok (.invokevirtual 7, 3)) (hcon : Con X.2.1 g yF_enter bF_enter 1 ((some .int)) [] d' 0 0 (.ref (g.1 0) :: []) w (Rp P)) (hdd : d' + 1 ≤ d) (hst : (st.map fun v => v.category).sum ≤ 8) (hret : ∀ (v : Option Value) (w' : Wd), P v w' → Go X g 0 0 Q w' (pc + 3) lp (v.toList ++ st)) : Go X g 0 0 Q w pc lp (.ref (g.1 0) :: st) :=
  kL_7 hc hd hcon hdd hst (Nat.zero_le _) (Nat.zero_le _) (fun v w' h => hret v w' (Rp_l h)) (fun cn w' h => absurd h Rp_r)
theorem kL_7t {d' : Nat} {cn : String} {P : Wd → Prop} {P2 : Rt → Wd → Prop} (hc : Ok X g cc "PairedFieldLaw" ret [] d) (hd : decode cc pc = .ok (.invokevirtual 7, 3)) (hcon : Con X.2.1 g yF_enter bF_enter 1 ((some .int)) [] d' 1 6 (.ref (g.1 0) :: []) w (Tp cn P)) (hdd : d' + 1 ≤ d) (hst : (st.map fun v => v.category).sum ≤ 8) (h1 : 1 ≤ X.2.2.2.1.cells) (h6 : 6 ≤ X.2.2.2.1.slots) (hP : ∀ w' : Wd, P w' → P2 (.inr cn) w') : Go X g 0 0 (Fen X g 1 6 P2) w pc lp (.ref (g.1 0) :: st) :=
  kL_7 hc hd hcon hdd hst (by omega) (by omega) (fun v w' h => absurd h Tp_l) (fun cn2 w' h => by obtain ⟨rfl, h⟩ := h; exact x_out hc (hP w' h))
/-- PairedField: a call of PairedField.refuseOpenRound -/
theorem kF_49 {d' k n : Nat} {P : Rt → Wd → Prop} (hc : Ok X g cc "PairedField" ret hx d) (hd : decode cc pc = .ok (.invokevirtual 49, 3)) (hcon : Con X.2.1 g yF_refuseOpenRound bF_refuseOpenRound 1 ((none : Option Jvm.ClassFile.FieldType)) [] d' k n (.ref (g.1 0) :: []) w P) (hdd : d' + 1 ≤ d) (hst : (st.map fun v => v.category).sum ≤ 8) (hcells : kc + k ≤ X.2.2.2.1.cells) (hslots : ks + n ≤ X.2.2.2.1.slots)
    (hret : ∀ (v : Option Value) (w' : Wd), P (.inl v) w' → Go X g (kc + k) (ks + n) Q w' (pc + 3) lp (v.toList ++ st)) (hthr : ∀ (cn : String) (w' : Wd), P (.inr cn) w' → GoX X g (kc + k) (ks + n) Q w' pc lp cn) : Go X g kc ks Q w pc lp (.ref (g.1 0) :: st) :=
  r_callv (av := []) (nL' := 1) (q := 0) (ci := 0) (C := R_F) (Tc := T_F) (N := 8) hc hd hcon (t2_mem 9 rfl rfl) (t2_mem 11 rfl rfl) (t0_mem 12 rfl rfl) (t2_mem 12 rfl rfl) (by decide) (by decide +kernel) (show (parseMethodDescriptor yF_refuseOpenRound.desc).map (fun d => d.parameters.length) = some 0 by decide +kernel) (by decide) (ent_F g (w 0)) rfl hdd (by decide) (fun v hv => by cases hv) (Nat.le_of_ble_eq_true rfl) hst hcells hslots hret hthr
theorem kF_49r {d' : Nat} {P : Option Value → Wd → Prop} (hc : Ok X g cc "PairedField" ret hx d) (hd : decode cc pc = .ok (.invokevirtual 49, 3)) (hcon : Con X.2.1 g yF_refuseOpenRound bF_refuseOpenRound 1 ((none : Option Jvm.ClassFile.FieldType)) [] d' 0 0 (.ref (g.1 0) :: []) w (Rp P)) (hdd : d' + 1 ≤ d) (hst : (st.map fun v => v.category).sum ≤ 8) (hret : ∀ (v : Option Value) (w' : Wd), P v w' → Go X g 0 0 Q w' (pc + 3) lp (v.toList ++ st)) : Go X g 0 0 Q w pc lp (.ref (g.1 0) :: st) :=
  kF_49 hc hd hcon hdd hst (Nat.zero_le _) (Nat.zero_le _) (fun v w' h => hret v w' (Rp_l h)) (fun cn w' h => absurd h Rp_r)
theorem kF_49t {d' : Nat} {cn : String} {P : Wd → Prop} {P2 : Rt → Wd → Prop} (hc : Ok X g cc "PairedField" ret [] d) (hd : decode cc pc = .ok (.invokevirtual 49, 3)) (hcon : Con X.2.1 g yF_refuseOpenRound bF_refuseOpenRound 1 ((none : Option Jvm.ClassFile.FieldType)) [] d' 1 6 (.ref (g.1 0) :: []) w (Tp cn P)) (hdd : d' + 1 ≤ d) (hst : (st.map fun v => v.category).sum ≤ 8) (h1 : 1 ≤ X.2.2.2.1.cells) (h6 : 6 ≤ X.2.2.2.1.slots) (hP : ∀ w' : Wd, P w' → P2 (.inr cn) w') : Go X g 0 0 (Fen X g 1 6 P2) w pc lp (.ref (g.1 0) :: st) :=
  kF_49 hc hd hcon hdd hst (by omega) (by omega) (fun v w' h => absurd h Tp_l) (fun cn2 w' h => by obtain ⟨rfl, h⟩ := h; exact x_out hc (hP w' h))
/-- PairedFieldLaw: a call of PairedField.leave -/
theorem kL_15 {d' k n : Nat} {P : Rt → Wd → Prop} {a0 : Int32} (hc : Ok X g cc "PairedFieldLaw" ret hx d) (hd : decode cc pc = .ok (.invokevirtual 15, 3)) (hcon : Con X.2.1 g yF_leave bF_leave 2 ((none : Option Jvm.ClassFile.FieldType)) [] d' k n (.ref (g.1 0) :: [.int a0]) w P) (hdd : d' + 1 ≤ d) (hst : (st.map fun v => v.category).sum ≤ 8) (hcells : kc + k ≤ X.2.2.2.1.cells) (hslots : ks + n ≤ X.2.2.2.1.slots)
    (hret : ∀ (v : Option Value) (w' : Wd), P (.inl v) w' → Go X g (kc + k) (ks + n) Q w' (pc + 3) lp (v.toList ++ st)) (hthr : ∀ (cn : String) (w' : Wd), P (.inr cn) w' → GoX X g (kc + k) (ks + n) Q w' pc lp cn) : Go X g kc ks Q w pc lp (.int a0 :: .ref (g.1 0) :: st) :=
  r_callv (av := [.int a0]) (nL' := 2) (q := 0) (ci := 0) (C := R_F) (Tc := T_F) (N := 8) hc hd hcon (t2_mem 88 rfl rfl) (t2_mem 89 rfl rfl) (t2_mem 90 rfl rfl) (t2_mem 91 rfl rfl) (by decide) (by decide +kernel) (show (parseMethodDescriptor yF_leave.desc).map (fun d => d.parameters.length) = some 1 by decide +kernel) (by decide) (ent_F g (w 0)) rfl hdd (by decide) (fun v hv => by simp only [List.mem_cons, List.not_mem_nil, or_false] at hv; rcases hv with rfl <;> rfl) (Nat.le_of_ble_eq_true rfl) hst hcells hslots hret hthr
theorem kL_15r {d' : Nat} {P : Option Value → Wd → Prop} {a0 : Int32} (hc : Ok X g cc "PairedFieldLaw" ret hx d) (hd : decode cc pc = .ok (.invokevirtual 15, 3)) (hcon : Con X.2.1 g yF_leave bF_leave 2 ((none : Option Jvm.ClassFile.FieldType)) [] d' 0 0 (.ref (g.1 0) :: [.int a0]) w (Rp P)) (hdd : d' + 1 ≤ d) (hst : (st.map fun v => v.category).sum ≤ 8) (hret : ∀ (v : Option Value) (w' : Wd), P v w' → Go X g 0 0 Q w' (pc + 3) lp (v.toList ++ st)) : Go X g 0 0 Q w pc lp (.int a0 :: .ref (g.1 0) :: st) :=
  kL_15 hc hd hcon hdd hst (Nat.zero_le _) (Nat.zero_le _) (fun v w' h => hret v w' (Rp_l h)) (fun cn w' h => absurd h Rp_r)
theorem kL_15t {d' : Nat} {cn : String} {P : Wd → Prop} {P2 : Rt → Wd → Prop} {a0 : Int32} (hc : Ok X g cc "PairedFieldLaw" ret [] d) (hd : decode cc pc = .ok (.invokevirtual 15, 3)) (hcon : Con X.2.1 g yF_leave bF_leave 2 ((none : Option Jvm.ClassFile.FieldType)) [] d' 1 6 (.ref (g.1 0) :: [.int a0]) w (Tp cn P)) (hdd : d' + 1 ≤ d) (hst : (st.map fun v => v.category).sum ≤ 8) (h1 : 1 ≤ X.2.2.2.1.cells) (h6 : 6 ≤ X.2.2.2.1.slots) (hP : ∀ w' : Wd, P w' → P2 (.inr cn) w') : Go X g 0 0 (Fen X g 1 6 P2) w pc lp (.int a0 :: .ref (g.1 0) :: st) :=
  kL_15 hc hd hcon hdd hst (by omega) (by omega) (fun v w' h => absurd h Tp_l) (fun cn2 w' h => by obtain ⟨rfl, h⟩ := h; exact x_out hc (hP w' h))
/-- PairedField: a call of PairedField.refuseNoPlayer -/
theorem kF_59 {d' k n : Nat} {P : Rt → Wd → Prop} {a0 : Int32} (hc : Ok X g cc "PairedField" ret hx d) (hd : decode cc pc = .ok (.invokevirtual 59, 3)) (hcon : Con X.2.1 g yF_refuseNoPlayer bF_refuseNoPlayer 2 ((none : Option Jvm.ClassFile.FieldType)) [] d' k n (.ref (g.1 0) :: [.int a0]) w P) (hdd : d' + 1 ≤ d) (hst : (st.map fun v => v.category).sum ≤ 8) (hcells : kc + k ≤ X.2.2.2.1.cells) (hslots : ks + n ≤ X.2.2.2.1.slots)
    (hret : ∀ (v : Option Value) (w' : Wd), P (.inl v) w' → Go X g (kc + k) (ks + n) Q w' (pc + 3) lp (v.toList ++ st)) (hthr : ∀ (cn : String) (w' : Wd), P (.inr cn) w' → GoX X g (kc + k) (ks + n) Q w' pc lp cn) : Go X g kc ks Q w pc lp (.int a0 :: .ref (g.1 0) :: st) :=
  r_callv (av := [.int a0]) (nL' := 2) (q := 0) (ci := 0) (C := R_F) (Tc := T_F) (N := 8) hc hd hcon (t2_mem 92 rfl rfl) (t2_mem 94 rfl rfl) (t0_mem 14 rfl rfl) (t2_mem 95 rfl rfl) (by decide) (by decide +kernel) (show (parseMethodDescriptor yF_refuseNoPlayer.desc).map (fun d => d.parameters.length) = some 1 by decide +kernel) (by decide) (ent_F g (w 0)) rfl hdd (by decide) (fun v hv => by simp only [List.mem_cons, List.not_mem_nil, or_false] at hv; rcases hv with rfl <;> rfl) (Nat.le_of_ble_eq_true rfl) hst hcells hslots hret hthr
theorem kF_59r {d' : Nat} {P : Option Value → Wd → Prop} {a0 : Int32} (hc : Ok X g cc "PairedField" ret hx d) (hd : decode cc pc = .ok (.invokevirtual 59, 3)) (hcon : Con X.2.1 g yF_refuseNoPlayer bF_refuseNoPlayer 2 ((none : Option Jvm.ClassFile.FieldType)) [] d' 0 0 (.ref (g.1 0) :: [.int a0]) w (Rp P)) (hdd : d' + 1 ≤ d) (hst : (st.map fun v => v.category).sum ≤ 8) (hret : ∀ (v : Option Value) (w' : Wd), P v w' → Go X g 0 0 Q w' (pc + 3) lp (v.toList ++ st)) : Go X g 0 0 Q w pc lp (.int a0 :: .ref (g.1 0) :: st) :=
  kF_59 hc hd hcon hdd hst (Nat.zero_le _) (Nat.zero_le _) (fun v w' h => hret v w' (Rp_l h)) (fun cn w' h => absurd h Rp_r)
theorem kF_59t {d' : Nat} {cn : String} {P : Wd → Prop} {P2 : Rt → Wd → Prop} {a0 : Int32} (hc : Ok X g cc "PairedField" ret [] d) (hd : decode cc pc = .ok (.invokevirtual 59, 3)) (hcon : Con X.2.1 g yF_refuseNoPlayer bF_refuseNoPlayer 2 ((none : Option Jvm.ClassFile.FieldType)) [] d' 1 6 (.ref (g.1 0) :: [.int a0]) w (Tp cn P)) (hdd : d' + 1 ≤ d) (hst : (st.map fun v => v.category).sum ≤ 8) (h1 : 1 ≤ X.2.2.2.1.cells) (h6 : 6 ≤ X.2.2.2.1.slots) (hP : ∀ w' : Wd, P w' → P2 (.inr cn) w') : Go X g 0 0 (Fen X g 1 6 P2) w pc lp (.int a0 :: .ref (g.1 0) :: st) :=
  kF_59 hc hd hcon hdd hst (by omega) (by omega) (fun v w' h => absurd h Tp_l) (fun cn2 w' h => by obtain ⟨rfl, h⟩ := h; exact x_out hc (hP w' h))
/-- PairedFieldLaw: a call of PairedField.apart -/
theorem kL_23 {d' k n : Nat} {P : Rt → Wd → Prop} {a0 : Int32} {a1 : Int32} {a2 : Int32} (hc : Ok X g cc "PairedFieldLaw" ret hx d) (hd : decode cc pc = .ok (.invokevirtual 23, 3)) (hcon : Con X.2.1 g yF_apart bF_apart 5 ((some .boolean)) [] d' k n (.ref (g.1 0) :: [.int a0, .int a1, .int a2]) w P) (hdd : d' + 1 ≤ d) (hst : (st.map fun v => v.category).sum ≤ 8) (hcells : kc + k ≤ X.2.2.2.1.cells) (hslots : ks + n ≤ X.2.2.2.1.slots)
    (hret : ∀ (v : Option Value) (w' : Wd), P (.inl v) w' → Go X g (kc + k) (ks + n) Q w' (pc + 3) lp (v.toList ++ st)) (hthr : ∀ (cn : String) (w' : Wd), P (.inr cn) w' → GoX X g (kc + k) (ks + n) Q w' pc lp cn) : Go X g kc ks Q w pc lp (.int a2 :: .int a1 :: .int a0 :: .ref (g.1 0) :: st) :=
  r_callv (av := [.int a0, .int a1, .int a2]) (nL' := 5) (q := 0) (ci := 0) (C := R_F) (Tc := T_F) (N := 8) hc hd hcon (t2_mem 132 rfl rfl) (t2_mem 133 rfl rfl) (t2_mem 134 rfl rfl) (t2_mem 135 rfl rfl) (by decide) (by decide +kernel) (show (parseMethodDescriptor yF_apart.desc).map (fun d => d.parameters.length) = some 3 by decide +kernel) (by decide) (ent_F g (w 0)) rfl hdd (by decide) (fun v hv => by simp only [List.mem_cons, List.not_mem_nil, or_false] at hv; rcases hv with rfl | rfl | rfl <;> rfl) (Nat.le_of_ble_eq_true rfl) hst hcells hslots hret hthr
theorem kL_23r {d' : Nat} {P : Option Value → Wd → Prop} {a0 : Int32} {a1 : Int32} {a2 : Int32} (hc : Ok X g cc "PairedFieldLaw" ret hx d) (hd : decode cc pc = .ok (.invokevirtual 23, 3)) (hcon : Con X.2.1 g yF_apart bF_apart 5 ((some .boolean)) [] d' 0 0 (.ref (g.1 0) :: [.int a0, .int a1, .int a2]) w (Rp P)) (hdd : d' + 1 ≤ d) (hst : (st.map fun v => v.category).sum ≤ 8) (hret : ∀ (v : Option Value) (w' : Wd), P v w' → Go X g 0 0 Q w' (pc + 3) lp (v.toList ++ st)) : Go X g 0 0 Q w pc lp (.int a2 :: .int a1 :: .int a0 :: .ref (g.1 0) :: st) :=
  kL_23 hc hd hcon hdd hst (Nat.zero_le _) (Nat.zero_le _) (fun v w' h => hret v w' (Rp_l h)) (fun cn w' h => absurd h Rp_r)
theorem kL_23t {d' : Nat} {cn : String} {P : Wd → Prop} {P2 : Rt → Wd → Prop} {a0 : Int32} {a1 : Int32} {a2 : Int32} (hc : Ok X g cc "PairedFieldLaw" ret [] d) (hd : decode cc pc = .ok (.invokevirtual 23, 3)) (hcon : Con X.2.1 g yF_apart bF_apart 5 ((some .boolean)) [] d' 1 6 (.ref (g.1 0) :: [.int a0, .int a1, .int a2]) w (Tp cn P)) (hdd : d' + 1 ≤ d) (hst : (st.map fun v => v.category).sum ≤ 8) (h1 : 1 ≤ X.2.2.2.1.cells) (h6 : 6 ≤ X.2.2.2.1.slots) (hP : ∀ w' : Wd, P w' → P2 (.inr cn) w') : Go X g 0 0 (Fen X g 1 6 P2) w pc lp (.int a2 :: .int a1 :: .int a0 :: .ref (g.1 0) :: st) :=
  kL_23 hc hd hcon hdd hst (by omega) (by omega) (fun v w' h => absurd h Tp_l) (fun cn2 w' h => by obtain ⟨rfl, h⟩ := h; exact x_out hc (hP w' h))
/-- PairedFieldLaw: a call of PairedField.pair -/
theorem kL_29 {d' k n : Nat} {P : Rt → Wd → Prop} (hc : Ok X g cc "PairedFieldLaw" ret hx d) (hd : decode cc pc = .ok (.invokevirtual 29, 3)) (hcon : Con X.2.1 g yF_pair bF_pair 1 ((some .int)) [] d' k n (.ref (g.1 0) :: []) w P) (hdd : d' + 1 ≤ d) (hst : (st.map fun v => v.category).sum ≤ 8) (hcells : kc + k ≤ X.2.2.2.1.cells) (hslots : ks + n ≤ X.2.2.2.1.slots)
    (hret : ∀ (v : Option Value) (w' : Wd), P (.inl v) w' → Go X g (kc + k) (ks + n) Q w' (pc + 3) lp (v.toList ++ st)) (hthr : ∀ (cn : String) (w' : Wd), P (.inr cn) w' → GoX X g (kc + k) (ks + n) Q w' pc lp cn) : Go X g kc ks Q w pc lp (.ref (g.1 0) :: st) :=
  r_callv (av := []) (nL' := 1) (q := 0) (ci := 0) (C := R_F) (Tc := T_F) (N := 8) hc hd hcon (t2_mem 155 rfl rfl) (t2_mem 156 rfl rfl) (t2_mem 157 rfl rfl) (t2_mem 158 rfl rfl) (by decide) (by decide +kernel) (show (parseMethodDescriptor yF_pair.desc).map (fun d => d.parameters.length) = some 0 by decide +kernel) (by decide) (ent_F g (w 0)) rfl hdd (by decide) (fun v hv => by cases hv) (Nat.le_of_ble_eq_true rfl) hst hcells hslots hret hthr
theorem kL_29r {d' : Nat} {P : Option Value → Wd → Prop} (hc : Ok X g cc "PairedFieldLaw" ret hx d) (hd : decode cc pc = .ok (.invokevirtual 29, 3)) (hcon : Con X.2.1 g yF_pair bF_pair 1 ((some .int)) [] d' 0 0 (.ref (g.1 0) :: []) w (Rp P)) (hdd : d' + 1 ≤ d) (hst : (st.map fun v => v.category).sum ≤ 8) (hret : ∀ (v : Option Value) (w' : Wd), P v w' → Go X g 0 0 Q w' (pc + 3) lp (v.toList ++ st)) : Go X g 0 0 Q w pc lp (.ref (g.1 0) :: st) :=
  kL_29 hc hd hcon hdd hst (Nat.zero_le _) (Nat.zero_le _) (fun v w' h => hret v w' (Rp_l h)) (fun cn w' h => absurd h Rp_r)
theorem kL_29t {d' : Nat} {cn : String} {P : Wd → Prop} {P2 : Rt → Wd → Prop} (hc : Ok X g cc "PairedFieldLaw" ret [] d) (hd : decode cc pc = .ok (.invokevirtual 29, 3)) (hcon : Con X.2.1 g yF_pair bF_pair 1 ((some .int)) [] d' 1 6 (.ref (g.1 0) :: []) w (Tp cn P)) (hdd : d' + 1 ≤ d) (hst : (st.map fun v => v.category).sum ≤ 8) (h1 : 1 ≤ X.2.2.2.1.cells) (h6 : 6 ≤ X.2.2.2.1.slots) (hP : ∀ w' : Wd, P w' → P2 (.inr cn) w') : Go X g 0 0 (Fen X g 1 6 P2) w pc lp (.ref (g.1 0) :: st) :=
  kL_29 hc hd hcon hdd hst (by omega) (by omega) (fun v w' h => absurd h Tp_l) (fun cn2 w' h => by obtain ⟨rfl, h⟩ := h; exact x_out hc (hP w' h))
/-- PairedField: a call of PairedField.openNextRound -/
theorem kF_78 {d' k n : Nat} {P : Rt → Wd → Prop} (hc : Ok X g cc "PairedField" ret hx d) (hd : decode cc pc = .ok (.invokevirtual 78, 3)) (hcon : Con X.2.1 g yF_openNextRound bF_openNextRound 1 ((some .boolean)) [] d' k n (.ref (g.1 0) :: []) w P) (hdd : d' + 1 ≤ d) (hst : (st.map fun v => v.category).sum ≤ 8) (hcells : kc + k ≤ X.2.2.2.1.cells) (hslots : ks + n ≤ X.2.2.2.1.slots)
    (hret : ∀ (v : Option Value) (w' : Wd), P (.inl v) w' → Go X g (kc + k) (ks + n) Q w' (pc + 3) lp (v.toList ++ st)) (hthr : ∀ (cn : String) (w' : Wd), P (.inr cn) w' → GoX X g (kc + k) (ks + n) Q w' pc lp cn) : Go X g kc ks Q w pc lp (.ref (g.1 0) :: st) :=
  r_callv (av := []) (nL' := 1) (q := 0) (ci := 0) (C := R_F) (Tc := T_F) (N := 8) hc hd hcon (t2_mem 160 rfl rfl) (t2_mem 162 rfl rfl) (t0_mem 15 rfl rfl) (t2_mem 163 rfl rfl) (by decide) (by decide +kernel) (show (parseMethodDescriptor yF_openNextRound.desc).map (fun d => d.parameters.length) = some 0 by decide +kernel) (by decide) (ent_F g (w 0)) rfl hdd (by decide) (fun v hv => by cases hv) (Nat.le_of_ble_eq_true rfl) hst hcells hslots hret hthr
theorem kF_78r {d' : Nat} {P : Option Value → Wd → Prop} (hc : Ok X g cc "PairedField" ret hx d) (hd : decode cc pc = .ok (.invokevirtual 78, 3)) (hcon : Con X.2.1 g yF_openNextRound bF_openNextRound 1 ((some .boolean)) [] d' 0 0 (.ref (g.1 0) :: []) w (Rp P)) (hdd : d' + 1 ≤ d) (hst : (st.map fun v => v.category).sum ≤ 8) (hret : ∀ (v : Option Value) (w' : Wd), P v w' → Go X g 0 0 Q w' (pc + 3) lp (v.toList ++ st)) : Go X g 0 0 Q w pc lp (.ref (g.1 0) :: st) :=
  kF_78 hc hd hcon hdd hst (Nat.zero_le _) (Nat.zero_le _) (fun v w' h => hret v w' (Rp_l h)) (fun cn w' h => absurd h Rp_r)
theorem kF_78t {d' : Nat} {cn : String} {P : Wd → Prop} {P2 : Rt → Wd → Prop} (hc : Ok X g cc "PairedField" ret [] d) (hd : decode cc pc = .ok (.invokevirtual 78, 3)) (hcon : Con X.2.1 g yF_openNextRound bF_openNextRound 1 ((some .boolean)) [] d' 1 6 (.ref (g.1 0) :: []) w (Tp cn P)) (hdd : d' + 1 ≤ d) (hst : (st.map fun v => v.category).sum ≤ 8) (h1 : 1 ≤ X.2.2.2.1.cells) (h6 : 6 ≤ X.2.2.2.1.slots) (hP : ∀ w' : Wd, P w' → P2 (.inr cn) w') : Go X g 0 0 (Fen X g 1 6 P2) w pc lp (.ref (g.1 0) :: st) :=
  kF_78 hc hd hcon hdd hst (by omega) (by omega) (fun v w' h => absurd h Tp_l) (fun cn2 w' h => by obtain ⟨rfl, h⟩ := h; exact x_out hc (hP w' h))
/-- PairedField: a call of PairedField$Pairing.isPossible -/
theorem kF_91 {d' k n : Nat} {P : Rt → Wd → Prop} (hc : Ok X g cc "PairedField" ret hx d) (hd : decode cc pc = .ok (.invokevirtual 91, 3)) (hcon : Con X.2.1 g yP_isPossible bP_isPossible 1 ((some .boolean)) [] d' k n (.ref (g.1 31) :: []) w P) (hdd : d' + 1 ≤ d) (hst : (st.map fun v => v.category).sum ≤ 8) (hcells : kc + k ≤ X.2.2.2.1.cells) (hslots : ks + n ≤ X.2.2.2.1.slots)
    (hret : ∀ (v : Option Value) (w' : Wd), P (.inl v) w' → Go X g (kc + k) (ks + n) Q w' (pc + 3) lp (v.toList ++ st)) (hthr : ∀ (cn : String) (w' : Wd), P (.inr cn) w' → GoX X g (kc + k) (ks + n) Q w' pc lp cn) : Go X g kc ks Q w pc lp (.ref (g.1 31) :: st) :=
  r_callv (av := []) (nL' := 1) (q := 31) (ci := 2) (C := R_P) (Tc := T_P) (N := 6) hc hd hcon (t2_mem 164 rfl rfl) (t2_mem 165 rfl rfl) (t2_mem 166 rfl rfl) (t2_mem 167 rfl rfl) (by decide) (by decide +kernel) (show (parseMethodDescriptor yP_isPossible.desc).map (fun d => d.parameters.length) = some 0 by decide +kernel) (by decide) (ent_P g (w 31)) rfl hdd (by decide) (fun v hv => by cases hv) (Nat.le_of_ble_eq_true rfl) hst hcells hslots hret hthr
theorem kF_91r {d' : Nat} {P : Option Value → Wd → Prop} (hc : Ok X g cc "PairedField" ret hx d) (hd : decode cc pc = .ok (.invokevirtual 91, 3)) (hcon : Con X.2.1 g yP_isPossible bP_isPossible 1 ((some .boolean)) [] d' 0 0 (.ref (g.1 31) :: []) w (Rp P)) (hdd : d' + 1 ≤ d) (hst : (st.map fun v => v.category).sum ≤ 8) (hret : ∀ (v : Option Value) (w' : Wd), P v w' → Go X g 0 0 Q w' (pc + 3) lp (v.toList ++ st)) : Go X g 0 0 Q w pc lp (.ref (g.1 31) :: st) :=
  kF_91 hc hd hcon hdd hst (Nat.zero_le _) (Nat.zero_le _) (fun v w' h => hret v w' (Rp_l h)) (fun cn w' h => absurd h Rp_r)
theorem kF_91t {d' : Nat} {cn : String} {P : Wd → Prop} {P2 : Rt → Wd → Prop} (hc : Ok X g cc "PairedField" ret [] d) (hd : decode cc pc = .ok (.invokevirtual 91, 3)) (hcon : Con X.2.1 g yP_isPossible bP_isPossible 1 ((some .boolean)) [] d' 1 6 (.ref (g.1 31) :: []) w (Tp cn P)) (hdd : d' + 1 ≤ d) (hst : (st.map fun v => v.category).sum ≤ 8) (h1 : 1 ≤ X.2.2.2.1.cells) (h6 : 6 ≤ X.2.2.2.1.slots) (hP : ∀ w' : Wd, P w' → P2 (.inr cn) w') : Go X g 0 0 (Fen X g 1 6 P2) w pc lp (.ref (g.1 31) :: st) :=
  kF_91 hc hd hcon hdd hst (by omega) (by omega) (fun v w' h => absurd h Tp_l) (fun cn2 w' h => by obtain ⟨rfl, h⟩ := h; exact x_out hc (hP w' h))
/-- PairedField$Pairing: a call of PairedField$Pairing.count -/
theorem kP_47 {d' k n : Nat} {P : Rt → Wd → Prop} (hc : Ok X g cc "PairedField$Pairing" ret hx d) (hd : decode cc pc = .ok (.invokevirtual 47, 3)) (hcon : Con X.2.1 g yP_count bP_count 1 ((some .int)) [] d' k n (.ref (g.1 31) :: []) w P) (hdd : d' + 1 ≤ d) (hst : (st.map fun v => v.category).sum ≤ 8) (hcells : kc + k ≤ X.2.2.2.1.cells) (hslots : ks + n ≤ X.2.2.2.1.slots)
    (hret : ∀ (v : Option Value) (w' : Wd), P (.inl v) w' → Go X g (kc + k) (ks + n) Q w' (pc + 3) lp (v.toList ++ st)) (hthr : ∀ (cn : String) (w' : Wd), P (.inr cn) w' → GoX X g (kc + k) (ks + n) Q w' pc lp cn) : Go X g kc ks Q w pc lp (.ref (g.1 31) :: st) :=
  r_callv (av := []) (nL' := 1) (q := 31) (ci := 2) (C := R_P) (Tc := T_P) (N := 6) hc hd hcon (t2_mem 168 rfl rfl) (t1_mem 215 rfl rfl) (t1_mem 216 rfl rfl) (t1_mem 217 rfl rfl) (by decide) (by decide +kernel) (show (parseMethodDescriptor yP_count.desc).map (fun d => d.parameters.length) = some 0 by decide +kernel) (by decide) (ent_P g (w 31)) rfl hdd (by decide) (fun v hv => by cases hv) (Nat.le_of_ble_eq_true rfl) hst hcells hslots hret hthr
theorem kP_47r {d' : Nat} {P : Option Value → Wd → Prop} (hc : Ok X g cc "PairedField$Pairing" ret hx d) (hd : decode cc pc = .ok (.invokevirtual 47, 3)) (hcon : Con X.2.1 g yP_count bP_count 1 ((some .int)) [] d' 0 0 (.ref (g.1 31) :: []) w (Rp P)) (hdd : d' + 1 ≤ d) (hst : (st.map fun v => v.category).sum ≤ 8) (hret : ∀ (v : Option Value) (w' : Wd), P v w' → Go X g 0 0 Q w' (pc + 3) lp (v.toList ++ st)) : Go X g 0 0 Q w pc lp (.ref (g.1 31) :: st) :=
  kP_47 hc hd hcon hdd hst (Nat.zero_le _) (Nat.zero_le _) (fun v w' h => hret v w' (Rp_l h)) (fun cn w' h => absurd h Rp_r)
theorem kP_47t {d' : Nat} {cn : String} {P : Wd → Prop} {P2 : Rt → Wd → Prop} (hc : Ok X g cc "PairedField$Pairing" ret [] d) (hd : decode cc pc = .ok (.invokevirtual 47, 3)) (hcon : Con X.2.1 g yP_count bP_count 1 ((some .int)) [] d' 1 6 (.ref (g.1 31) :: []) w (Tp cn P)) (hdd : d' + 1 ≤ d) (hst : (st.map fun v => v.category).sum ≤ 8) (h1 : 1 ≤ X.2.2.2.1.cells) (h6 : 6 ≤ X.2.2.2.1.slots) (hP : ∀ w' : Wd, P w' → P2 (.inr cn) w') : Go X g 0 0 (Fen X g 1 6 P2) w pc lp (.ref (g.1 31) :: st) :=
  kP_47 hc hd hcon hdd hst (by omega) (by omega) (fun v w' h => absurd h Tp_l) (fun cn2 w' h => by obtain ⟨rfl, h⟩ := h; exact x_out hc (hP w' h))
/-- PairedField: a call of PairedField$Pairing.writeTo -/
theorem kF_195 {d' k n : Nat} {P : Rt → Wd → Prop} {a0 : Nat} {a1 : Nat} {a2 : Int32} (hc : Ok X g cc "PairedField" ret hx d) (hd : decode cc pc = .ok (.invokevirtual 195, 3)) (hcon : Con X.2.1 g yP_writeTo bP_writeTo 11 ((none : Option Jvm.ClassFile.FieldType)) [] d' k n (.ref (g.1 31) :: [.ref a0, .ref a1, .int a2]) w P) (hdd : d' + 1 ≤ d) (hst : (st.map fun v => v.category).sum ≤ 8) (hcells : kc + k ≤ X.2.2.2.1.cells) (hslots : ks + n ≤ X.2.2.2.1.slots)
    (hret : ∀ (v : Option Value) (w' : Wd), P (.inl v) w' → Go X g (kc + k) (ks + n) Q w' (pc + 3) lp (v.toList ++ st)) (hthr : ∀ (cn : String) (w' : Wd), P (.inr cn) w' → GoX X g (kc + k) (ks + n) Q w' pc lp cn) : Go X g kc ks Q w pc lp (.int a2 :: .ref a1 :: .ref a0 :: .ref (g.1 31) :: st) :=
  r_callv (av := [.ref a0, .ref a1, .int a2]) (nL' := 11) (q := 31) (ci := 2) (C := R_P) (Tc := T_P) (N := 6) hc hd hcon (t2_mem 169 rfl rfl) (t2_mem 170 rfl rfl) (t2_mem 171 rfl rfl) (t2_mem 172 rfl rfl) (by decide) (by decide +kernel) (show (parseMethodDescriptor yP_writeTo.desc).map (fun d => d.parameters.length) = some 3 by decide +kernel) (by decide) (ent_P g (w 31)) rfl hdd (by decide) (fun v hv => by simp only [List.mem_cons, List.not_mem_nil, or_false] at hv; rcases hv with rfl | rfl | rfl <;> rfl) (Nat.le_of_ble_eq_true rfl) hst hcells hslots hret hthr
theorem kF_195r {d' : Nat} {P : Option Value → Wd → Prop} {a0 : Nat} {a1 : Nat} {a2 : Int32} (hc : Ok X g cc "PairedField" ret hx d) (hd : decode cc pc = .ok (.invokevirtual 195, 3)) (hcon : Con X.2.1 g yP_writeTo bP_writeTo 11 ((none : Option Jvm.ClassFile.FieldType)) [] d' 0 0 (.ref (g.1 31) :: [.ref a0, .ref a1, .int a2]) w (Rp P)) (hdd : d' + 1 ≤ d) (hst : (st.map fun v => v.category).sum ≤ 8) (hret : ∀ (v : Option Value) (w' : Wd), P v w' → Go X g 0 0 Q w' (pc + 3) lp (v.toList ++ st)) : Go X g 0 0 Q w pc lp (.int a2 :: .ref a1 :: .ref a0 :: .ref (g.1 31) :: st) :=
  kF_195 hc hd hcon hdd hst (Nat.zero_le _) (Nat.zero_le _) (fun v w' h => hret v w' (Rp_l h)) (fun cn w' h => absurd h Rp_r)
theorem kF_195t {d' : Nat} {cn : String} {P : Wd → Prop} {P2 : Rt → Wd → Prop} {a0 : Nat} {a1 : Nat} {a2 : Int32} (hc : Ok X g cc "PairedField" ret [] d) (hd : decode cc pc = .ok (.invokevirtual 195, 3)) (hcon : Con X.2.1 g yP_writeTo bP_writeTo 11 ((none : Option Jvm.ClassFile.FieldType)) [] d' 1 6 (.ref (g.1 31) :: [.ref a0, .ref a1, .int a2]) w (Tp cn P)) (hdd : d' + 1 ≤ d) (hst : (st.map fun v => v.category).sum ≤ 8) (h1 : 1 ≤ X.2.2.2.1.cells) (h6 : 6 ≤ X.2.2.2.1.slots) (hP : ∀ w' : Wd, P w' → P2 (.inr cn) w') : Go X g 0 0 (Fen X g 1 6 P2) w pc lp (.int a2 :: .ref a1 :: .ref a0 :: .ref (g.1 31) :: st) :=
  kF_195 hc hd hcon hdd hst (by omega) (by omega) (fun v w' h => absurd h Tp_l) (fun cn2 w' h => by obtain ⟨rfl, h⟩ := h; exact x_out hc (hP w' h))
/-- PairedField$Pairing: a call of java/util/Arrays.fill -/
theorem kP_58 {d' k n : Nat} {P : Rt → Wd → Prop} {a0 : Nat} {a1 : Int32} (hc : Ok X g cc "PairedField$Pairing" ret hx d) (hd : decode cc pc = .ok (.invokestatic 58, 3)) (hcon : Con X.2.1 g yA_fill bA_fill 4 ((none : Option Jvm.ClassFile.FieldType)) [] d' k n [.ref a0, .int a1] w P) (hdd : d' + 1 ≤ d) (hst : (st.map fun v => v.category).sum ≤ 8) (hcells : kc + k ≤ X.2.2.2.1.cells) (hslots : ks + n ≤ X.2.2.2.1.slots)
    (hret : ∀ (v : Option Value) (w' : Wd), P (.inl v) w' → Go X g (kc + k) (ks + n) Q w' (pc + 3) lp (v.toList ++ st)) (hthr : ∀ (cn : String) (w' : Wd), P (.inr cn) w' → GoX X g (kc + k) (ks + n) Q w' pc lp cn) : Go X g kc ks Q w pc lp (.int a1 :: .ref a0 :: st) :=
  r_calls (av := [.ref a0, .int a1]) (nL' := 4) hc hd hcon (t2_mem 173 rfl rfl) (t2_mem 174 rfl rfl) (t1_mem 14 rfl rfl) (t2_mem 175 rfl rfl) (by decide) (by decide +kernel) (show (parseMethodDescriptor yA_fill.desc).map (fun d => d.parameters.length) = some 2 by decide +kernel) hdd (by decide) (fun v hv => by simp only [List.mem_cons, List.not_mem_nil, or_false] at hv; rcases hv with rfl | rfl <;> rfl) (Nat.le_of_ble_eq_true rfl) hst hcells hslots hret hthr
theorem kP_58r {d' : Nat} {P : Option Value → Wd → Prop} {a0 : Nat} {a1 : Int32} (hc : Ok X g cc "PairedField$Pairing" ret hx d) (hd : decode cc pc = .ok (.invokestatic 58, 3)) (hcon : Con X.2.1 g yA_fill bA_fill 4 ((none : Option Jvm.ClassFile.FieldType)) [] d' 0 0 [.ref a0, .int a1] w (Rp P)) (hdd : d' + 1 ≤ d) (hst : (st.map fun v => v.category).sum ≤ 8) (hret : ∀ (v : Option Value) (w' : Wd), P v w' → Go X g 0 0 Q w' (pc + 3) lp (v.toList ++ st)) : Go X g 0 0 Q w pc lp (.int a1 :: .ref a0 :: st) :=
  kP_58 hc hd hcon hdd hst (Nat.zero_le _) (Nat.zero_le _) (fun v w' h => hret v w' (Rp_l h)) (fun cn w' h => absurd h Rp_r)
theorem kP_58t {d' : Nat} {cn : String} {P : Wd → Prop} {P2 : Rt → Wd → Prop} {a0 : Nat} {a1 : Int32} (hc : Ok X g cc "PairedField$Pairing" ret [] d) (hd : decode cc pc = .ok (.invokestatic 58, 3)) (hcon : Con X.2.1 g yA_fill bA_fill 4 ((none : Option Jvm.ClassFile.FieldType)) [] d' 1 6 [.ref a0, .int a1] w (Tp cn P)) (hdd : d' + 1 ≤ d) (hst : (st.map fun v => v.category).sum ≤ 8) (h1 : 1 ≤ X.2.2.2.1.cells) (h6 : 6 ≤ X.2.2.2.1.slots) (hP : ∀ w' : Wd, P w' → P2 (.inr cn) w') : Go X g 0 0 (Fen X g 1 6 P2) w pc lp (.int a1 :: .ref a0 :: st) :=
  kP_58 hc hd hcon hdd hst (by omega) (by omega) (fun v w' h => absurd h Tp_l) (fun cn2 w' h => by obtain ⟨rfl, h⟩ := h; exact x_out hc (hP w' h))
/-- PairedField$Pairing: a call of PairedField$Pairing.games -/
theorem kP_66 {d' k n : Nat} {P : Rt → Wd → Prop} (hc : Ok X g cc "PairedField$Pairing" ret hx d) (hd : decode cc pc = .ok (.invokevirtual 66, 3)) (hcon : Con X.2.1 g yP_games bP_games 1 ((some .int)) [] d' k n (.ref (g.1 31) :: []) w P) (hdd : d' + 1 ≤ d) (hst : (st.map fun v => v.category).sum ≤ 8) (hcells : kc + k ≤ X.2.2.2.1.cells) (hslots : ks + n ≤ X.2.2.2.1.slots)
    (hret : ∀ (v : Option Value) (w' : Wd), P (.inl v) w' → Go X g (kc + k) (ks + n) Q w' (pc + 3) lp (v.toList ++ st)) (hthr : ∀ (cn : String) (w' : Wd), P (.inr cn) w' → GoX X g (kc + k) (ks + n) Q w' pc lp cn) : Go X g kc ks Q w pc lp (.ref (g.1 31) :: st) :=
  r_callv (av := []) (nL' := 1) (q := 31) (ci := 2) (C := R_P) (Tc := T_P) (N := 6) hc hd hcon (t2_mem 176 rfl rfl) (t2_mem 177 rfl rfl) (t2_mem 178 rfl rfl) (t2_mem 179 rfl rfl) (by decide) (by decide +kernel) (show (parseMethodDescriptor yP_games.desc).map (fun d => d.parameters.length) = some 0 by decide +kernel) (by decide) (ent_P g (w 31)) rfl hdd (by decide) (fun v hv => by cases hv) (Nat.le_of_ble_eq_true rfl) hst hcells hslots hret hthr
theorem kP_66r {d' : Nat} {P : Option Value → Wd → Prop} (hc : Ok X g cc "PairedField$Pairing" ret hx d) (hd : decode cc pc = .ok (.invokevirtual 66, 3)) (hcon : Con X.2.1 g yP_games bP_games 1 ((some .int)) [] d' 0 0 (.ref (g.1 31) :: []) w (Rp P)) (hdd : d' + 1 ≤ d) (hst : (st.map fun v => v.category).sum ≤ 8) (hret : ∀ (v : Option Value) (w' : Wd), P v w' → Go X g 0 0 Q w' (pc + 3) lp (v.toList ++ st)) : Go X g 0 0 Q w pc lp (.ref (g.1 31) :: st) :=
  kP_66 hc hd hcon hdd hst (Nat.zero_le _) (Nat.zero_le _) (fun v w' h => hret v w' (Rp_l h)) (fun cn w' h => absurd h Rp_r)
theorem kP_66t {d' : Nat} {cn : String} {P : Wd → Prop} {P2 : Rt → Wd → Prop} (hc : Ok X g cc "PairedField$Pairing" ret [] d) (hd : decode cc pc = .ok (.invokevirtual 66, 3)) (hcon : Con X.2.1 g yP_games bP_games 1 ((some .int)) [] d' 1 6 (.ref (g.1 31) :: []) w (Tp cn P)) (hdd : d' + 1 ≤ d) (hst : (st.map fun v => v.category).sum ≤ 8) (h1 : 1 ≤ X.2.2.2.1.cells) (h6 : 6 ≤ X.2.2.2.1.slots) (hP : ∀ w' : Wd, P w' → P2 (.inr cn) w') : Go X g 0 0 (Fen X g 1 6 P2) w pc lp (.ref (g.1 31) :: st) :=
  kP_66 hc hd hcon hdd hst (by omega) (by omega) (fun v w' h => absurd h Tp_l) (fun cn2 w' h => by obtain ⟨rfl, h⟩ := h; exact x_out hc (hP w' h))
/-- PairedField$Pairing: a call of PairedField$Pairing.bestPartner -/
theorem kP_74 {d' k n : Nat} {P : Rt → Wd → Prop} {a0 : Int32} {a1 : Int32} (hc : Ok X g cc "PairedField$Pairing" ret hx d) (hd : decode cc pc = .ok (.invokevirtual 74, 3)) (hcon : Con X.2.1 g yP_bestPartner bP_bestPartner 5 ((some .int)) [] d' k n (.ref (g.1 31) :: [.int a0, .int a1]) w P) (hdd : d' + 1 ≤ d) (hst : (st.map fun v => v.category).sum ≤ 8) (hcells : kc + k ≤ X.2.2.2.1.cells) (hslots : ks + n ≤ X.2.2.2.1.slots)
    (hret : ∀ (v : Option Value) (w' : Wd), P (.inl v) w' → Go X g (kc + k) (ks + n) Q w' (pc + 3) lp (v.toList ++ st)) (hthr : ∀ (cn : String) (w' : Wd), P (.inr cn) w' → GoX X g (kc + k) (ks + n) Q w' pc lp cn) : Go X g kc ks Q w pc lp (.int a1 :: .int a0 :: .ref (g.1 31) :: st) :=
  r_callv (av := [.int a0, .int a1]) (nL' := 5) (q := 31) (ci := 2) (C := R_P) (Tc := T_P) (N := 6) hc hd hcon (t2_mem 180 rfl rfl) (t2_mem 182 rfl rfl) (t0_mem 16 rfl rfl) (t2_mem 183 rfl rfl) (by decide) (by decide +kernel) (show (parseMethodDescriptor yP_bestPartner.desc).map (fun d => d.parameters.length) = some 2 by decide +kernel) (by decide) (ent_P g (w 31)) rfl hdd (by decide) (fun v hv => by simp only [List.mem_cons, List.not_mem_nil, or_false] at hv; rcases hv with rfl | rfl <;> rfl) (Nat.le_of_ble_eq_true rfl) hst hcells hslots hret hthr
theorem kP_74r {d' : Nat} {P : Option Value → Wd → Prop} {a0 : Int32} {a1 : Int32} (hc : Ok X g cc "PairedField$Pairing" ret hx d) (hd : decode cc pc = .ok (.invokevirtual 74, 3)) (hcon : Con X.2.1 g yP_bestPartner bP_bestPartner 5 ((some .int)) [] d' 0 0 (.ref (g.1 31) :: [.int a0, .int a1]) w (Rp P)) (hdd : d' + 1 ≤ d) (hst : (st.map fun v => v.category).sum ≤ 8) (hret : ∀ (v : Option Value) (w' : Wd), P v w' → Go X g 0 0 Q w' (pc + 3) lp (v.toList ++ st)) : Go X g 0 0 Q w pc lp (.int a1 :: .int a0 :: .ref (g.1 31) :: st) :=
  kP_74 hc hd hcon hdd hst (Nat.zero_le _) (Nat.zero_le _) (fun v w' h => hret v w' (Rp_l h)) (fun cn w' h => absurd h Rp_r)
theorem kP_74t {d' : Nat} {cn : String} {P : Wd → Prop} {P2 : Rt → Wd → Prop} {a0 : Int32} {a1 : Int32} (hc : Ok X g cc "PairedField$Pairing" ret [] d) (hd : decode cc pc = .ok (.invokevirtual 74, 3)) (hcon : Con X.2.1 g yP_bestPartner bP_bestPartner 5 ((some .int)) [] d' 1 6 (.ref (g.1 31) :: [.int a0, .int a1]) w (Tp cn P)) (hdd : d' + 1 ≤ d) (hst : (st.map fun v => v.category).sum ≤ 8) (h1 : 1 ≤ X.2.2.2.1.cells) (h6 : 6 ≤ X.2.2.2.1.slots) (hP : ∀ w' : Wd, P w' → P2 (.inr cn) w') : Go X g 0 0 (Fen X g 1 6 P2) w pc lp (.int a1 :: .int a0 :: .ref (g.1 31) :: st) :=
  kP_74 hc hd hcon hdd hst (by omega) (by omega) (fun v w' h => absurd h Tp_l) (fun cn2 w' h => by obtain ⟨rfl, h⟩ := h; exact x_out hc (hP w' h))
/-- PairedField$Pairing: a call of PairedField$Standing.colourOfFirst -/
theorem kP_78 {d' k n : Nat} {P : Rt → Wd → Prop} {a0 : Int32} {a1 : Int32} {a2 : Int32} (hc : Ok X g cc "PairedField$Pairing" ret hx d) (hd : decode cc pc = .ok (.invokevirtual 78, 3)) (hcon : Con X.2.1 g yS_colourOfFirst bS_colourOfFirst 4 ((some .int)) [] d' k n (.ref (g.1 20) :: [.int a0, .int a1, .int a2]) w P) (hdd : d' + 1 ≤ d) (hst : (st.map fun v => v.category).sum ≤ 8) (hcells : kc + k ≤ X.2.2.2.1.cells) (hslots : ks + n ≤ X.2.2.2.1.slots)
    (hret : ∀ (v : Option Value) (w' : Wd), P (.inl v) w' → Go X g (kc + k) (ks + n) Q w' (pc + 3) lp (v.toList ++ st)) (hthr : ∀ (cn : String) (w' : Wd), P (.inr cn) w' → GoX X g (kc + k) (ks + n) Q w' pc lp cn) : Go X g kc ks Q w pc lp (.int a2 :: .int a1 :: .int a0 :: .ref (g.1 20) :: st) :=
  r_callv (av := [.int a0, .int a1, .int a2]) (nL' := 4) (q := 20) (ci := 1) (C := R_S) (Tc := T_S) (N := 10) hc hd hcon (t2_mem 184 rfl rfl) (t1_mem 171 rfl rfl) (t1_mem 172 rfl rfl) (t1_mem 173 rfl rfl) (by decide) (by decide +kernel) (show (parseMethodDescriptor yS_colourOfFirst.desc).map (fun d => d.parameters.length) = some 3 by decide +kernel) (by decide) (ent_S g (w 20)) rfl hdd (by decide) (fun v hv => by simp only [List.mem_cons, List.not_mem_nil, or_false] at hv; rcases hv with rfl | rfl | rfl <;> rfl) (Nat.le_of_ble_eq_true rfl) hst hcells hslots hret hthr
theorem kP_78r {d' : Nat} {P : Option Value → Wd → Prop} {a0 : Int32} {a1 : Int32} {a2 : Int32} (hc : Ok X g cc "PairedField$Pairing" ret hx d) (hd : decode cc pc = .ok (.invokevirtual 78, 3)) (hcon : Con X.2.1 g yS_colourOfFirst bS_colourOfFirst 4 ((some .int)) [] d' 0 0 (.ref (g.1 20) :: [.int a0, .int a1, .int a2]) w (Rp P)) (hdd : d' + 1 ≤ d) (hst : (st.map fun v => v.category).sum ≤ 8) (hret : ∀ (v : Option Value) (w' : Wd), P v w' → Go X g 0 0 Q w' (pc + 3) lp (v.toList ++ st)) : Go X g 0 0 Q w pc lp (.int a2 :: .int a1 :: .int a0 :: .ref (g.1 20) :: st) :=
  kP_78 hc hd hcon hdd hst (Nat.zero_le _) (Nat.zero_le _) (fun v w' h => hret v w' (Rp_l h)) (fun cn w' h => absurd h Rp_r)
theorem kP_78t {d' : Nat} {cn : String} {P : Wd → Prop} {P2 : Rt → Wd → Prop} {a0 : Int32} {a1 : Int32} {a2 : Int32} (hc : Ok X g cc "PairedField$Pairing" ret [] d) (hd : decode cc pc = .ok (.invokevirtual 78, 3)) (hcon : Con X.2.1 g yS_colourOfFirst bS_colourOfFirst 4 ((some .int)) [] d' 1 6 (.ref (g.1 20) :: [.int a0, .int a1, .int a2]) w (Tp cn P)) (hdd : d' + 1 ≤ d) (hst : (st.map fun v => v.category).sum ≤ 8) (h1 : 1 ≤ X.2.2.2.1.cells) (h6 : 6 ≤ X.2.2.2.1.slots) (hP : ∀ w' : Wd, P w' → P2 (.inr cn) w') : Go X g 0 0 (Fen X g 1 6 P2) w pc lp (.int a2 :: .int a1 :: .int a0 :: .ref (g.1 20) :: st) :=
  kP_78 hc hd hcon hdd hst (by omega) (by omega) (fun v w' h => absurd h Tp_l) (fun cn2 w' h => by obtain ⟨rfl, h⟩ := h; exact x_out hc (hP w' h))
/-- PairedField$Pairing: a call of PairedField$Cell.untoldGame -/
theorem kP_84 {d' k n : Nat} {P : Rt → Wd → Prop} {a0 : Int32} {a1 : Int32} (hc : Ok X g cc "PairedField$Pairing" ret hx d) (hd : decode cc pc = .ok (.invokestatic 84, 3)) (hcon : Con X.2.1 g yC_untoldGame bC_untoldGame 2 ((some .int)) [] d' k n [.int a0, .int a1] w P) (hdd : d' + 1 ≤ d) (hst : (st.map fun v => v.category).sum ≤ 8) (hcells : kc + k ≤ X.2.2.2.1.cells) (hslots : ks + n ≤ X.2.2.2.1.slots)
    (hret : ∀ (v : Option Value) (w' : Wd), P (.inl v) w' → Go X g (kc + k) (ks + n) Q w' (pc + 3) lp (v.toList ++ st)) (hthr : ∀ (cn : String) (w' : Wd), P (.inr cn) w' → GoX X g (kc + k) (ks + n) Q w' pc lp cn) : Go X g kc ks Q w pc lp (.int a1 :: .int a0 :: st) :=
  r_calls (av := [.int a0, .int a1]) (nL' := 2) hc hd hcon (t2_mem 185 rfl rfl) (t2_mem 186 rfl rfl) (t1_mem 15 rfl rfl) (t2_mem 187 rfl rfl) (by decide) (by decide +kernel) (show (parseMethodDescriptor yC_untoldGame.desc).map (fun d => d.parameters.length) = some 2 by decide +kernel) hdd (by decide) (fun v hv => by simp only [List.mem_cons, List.not_mem_nil, or_false] at hv; rcases hv with rfl | rfl <;> rfl) (Nat.le_of_ble_eq_true rfl) hst hcells hslots hret hthr
theorem kP_84r {d' : Nat} {P : Option Value → Wd → Prop} {a0 : Int32} {a1 : Int32} (hc : Ok X g cc "PairedField$Pairing" ret hx d) (hd : decode cc pc = .ok (.invokestatic 84, 3)) (hcon : Con X.2.1 g yC_untoldGame bC_untoldGame 2 ((some .int)) [] d' 0 0 [.int a0, .int a1] w (Rp P)) (hdd : d' + 1 ≤ d) (hst : (st.map fun v => v.category).sum ≤ 8) (hret : ∀ (v : Option Value) (w' : Wd), P v w' → Go X g 0 0 Q w' (pc + 3) lp (v.toList ++ st)) : Go X g 0 0 Q w pc lp (.int a1 :: .int a0 :: st) :=
  kP_84 hc hd hcon hdd hst (Nat.zero_le _) (Nat.zero_le _) (fun v w' h => hret v w' (Rp_l h)) (fun cn w' h => absurd h Rp_r)
theorem kP_84t {d' : Nat} {cn : String} {P : Wd → Prop} {P2 : Rt → Wd → Prop} {a0 : Int32} {a1 : Int32} (hc : Ok X g cc "PairedField$Pairing" ret [] d) (hd : decode cc pc = .ok (.invokestatic 84, 3)) (hcon : Con X.2.1 g yC_untoldGame bC_untoldGame 2 ((some .int)) [] d' 1 6 [.int a0, .int a1] w (Tp cn P)) (hdd : d' + 1 ≤ d) (hst : (st.map fun v => v.category).sum ≤ 8) (h1 : 1 ≤ X.2.2.2.1.cells) (h6 : 6 ≤ X.2.2.2.1.slots) (hP : ∀ w' : Wd, P w' → P2 (.inr cn) w') : Go X g 0 0 (Fen X g 1 6 P2) w pc lp (.int a1 :: .int a0 :: st) :=
  kP_84 hc hd hcon hdd hst (by omega) (by omega) (fun v w' h => absurd h Tp_l) (fun cn2 w' h => by obtain ⟨rfl, h⟩ := h; exact x_out hc (hP w' h))
/-- PairedField$Cell: a call of PairedField$Cell.withResult -/
theorem kC_11 {d' k n : Nat} {P : Rt → Wd → Prop} {a0 : Int32} {a1 : Int32} (hc : Ok X g cc "PairedField$Cell" ret hx d) (hd : decode cc pc = .ok (.invokestatic 11, 3)) (hcon : Con X.2.1 g yC_withResult bC_withResult 2 ((some .int)) [] d' k n [.int a0, .int a1] w P) (hdd : d' + 1 ≤ d) (hst : (st.map fun v => v.category).sum ≤ 8) (hcells : kc + k ≤ X.2.2.2.1.cells) (hslots : ks + n ≤ X.2.2.2.1.slots)
    (hret : ∀ (v : Option Value) (w' : Wd), P (.inl v) w' → Go X g (kc + k) (ks + n) Q w' (pc + 3) lp (v.toList ++ st)) (hthr : ∀ (cn : String) (w' : Wd), P (.inr cn) w' → GoX X g (kc + k) (ks + n) Q w' pc lp cn) : Go X g kc ks Q w pc lp (.int a1 :: .int a0 :: st) :=
  r_calls (av := [.int a0, .int a1]) (nL' := 2) hc hd hcon (t2_mem 188 rfl rfl) (t2_mem 189 rfl rfl) (t1_mem 15 rfl rfl) (t2_mem 190 rfl rfl) (by decide) (by decide +kernel) (show (parseMethodDescriptor yC_withResult.desc).map (fun d => d.parameters.length) = some 2 by decide +kernel) hdd (by decide) (fun v hv => by simp only [List.mem_cons, List.not_mem_nil, or_false] at hv; rcases hv with rfl | rfl <;> rfl) (Nat.le_of_ble_eq_true rfl) hst hcells hslots hret hthr
theorem kC_11r {d' : Nat} {P : Option Value → Wd → Prop} {a0 : Int32} {a1 : Int32} (hc : Ok X g cc "PairedField$Cell" ret hx d) (hd : decode cc pc = .ok (.invokestatic 11, 3)) (hcon : Con X.2.1 g yC_withResult bC_withResult 2 ((some .int)) [] d' 0 0 [.int a0, .int a1] w (Rp P)) (hdd : d' + 1 ≤ d) (hst : (st.map fun v => v.category).sum ≤ 8) (hret : ∀ (v : Option Value) (w' : Wd), P v w' → Go X g 0 0 Q w' (pc + 3) lp (v.toList ++ st)) : Go X g 0 0 Q w pc lp (.int a1 :: .int a0 :: st) :=
  kC_11 hc hd hcon hdd hst (Nat.zero_le _) (Nat.zero_le _) (fun v w' h => hret v w' (Rp_l h)) (fun cn w' h => absurd h Rp_r)
theorem kC_11t {d' : Nat} {cn : String} {P : Wd → Prop} {P2 : Rt → Wd → Prop} {a0 : Int32} {a1 : Int32} (hc : Ok X g cc "PairedField$Cell" ret [] d) (hd : decode cc pc = .ok (.invokestatic 11, 3)) (hcon : Con X.2.1 g yC_withResult bC_withResult 2 ((some .int)) [] d' 1 6 [.int a0, .int a1] w (Tp cn P)) (hdd : d' + 1 ≤ d) (hst : (st.map fun v => v.category).sum ≤ 8) (h1 : 1 ≤ X.2.2.2.1.cells) (h6 : 6 ≤ X.2.2.2.1.slots) (hP : ∀ w' : Wd, P w' → P2 (.inr cn) w') : Go X g 0 0 (Fen X g 1 6 P2) w pc lp (.int a1 :: .int a0 :: st) :=
  kC_11 hc hd hcon hdd hst (by omega) (by omega) (fun v w' h => absurd h Tp_l) (fun cn2 w' h => by obtain ⟨rfl, h⟩ := h; exact x_out hc (hP w' h))
/-- PairedField: a call of PairedField$Pairing.games -/
theorem kF_84 {d' k n : Nat} {P : Rt → Wd → Prop} (hc : Ok X g cc "PairedField" ret hx d) (hd : decode cc pc = .ok (.invokevirtual 84, 3)) (hcon : Con X.2.1 g yP_games bP_games 1 ((some .int)) [] d' k n (.ref (g.1 31) :: []) w P) (hdd : d' + 1 ≤ d) (hst : (st.map fun v => v.category).sum ≤ 8) (hcells : kc + k ≤ X.2.2.2.1.cells) (hslots : ks + n ≤ X.2.2.2.1.slots)
    (hret : ∀ (v : Option Value) (w' : Wd), P (.inl v) w' → Go X g (kc + k) (ks + n) Q w' (pc + 3) lp (v.toList ++ st)) (hthr : ∀ (cn : String) (w' : Wd), P (.inr cn) w' → GoX X g (kc + k) (ks + n) Q w' pc lp cn) : Go X g kc ks Q w pc lp (.ref (g.1 31) :: st) :=
  r_callv (av := []) (nL' := 1) (q := 31) (ci := 2) (C := R_P) (Tc := T_P) (N := 6) hc hd hcon (t2_mem 192 rfl rfl) (t2_mem 177 rfl rfl) (t2_mem 178 rfl rfl) (t2_mem 179 rfl rfl) (by decide) (by decide +kernel) (show (parseMethodDescriptor yP_games.desc).map (fun d => d.parameters.length) = some 0 by decide +kernel) (by decide) (ent_P g (w 31)) rfl hdd (by decide) (fun v hv => by cases hv) (Nat.le_of_ble_eq_true rfl) hst hcells hslots hret hthr
theorem kF_84r {d' : Nat} {P : Option Value → Wd → Prop} (hc : Ok X g cc "PairedField" ret hx d) (hd : decode cc pc = .ok (.invokevirtual 84, 3)) (hcon : Con X.2.1 g yP_games bP_games 1 ((some .int)) [] d' 0 0 (.ref (g.1 31) :: []) w (Rp P)) (hdd : d' + 1 ≤ d) (hst : (st.map fun v => v.category).sum ≤ 8) (hret : ∀ (v : Option Value) (w' : Wd), P v w' → Go X g 0 0 Q w' (pc + 3) lp (v.toList ++ st)) : Go X g 0 0 Q w pc lp (.ref (g.1 31) :: st) :=
  kF_84 hc hd hcon hdd hst (Nat.zero_le _) (Nat.zero_le _) (fun v w' h => hret v w' (Rp_l h)) (fun cn w' h => absurd h Rp_r)
theorem kF_84t {d' : Nat} {cn : String} {P : Wd → Prop} {P2 : Rt → Wd → Prop} (hc : Ok X g cc "PairedField" ret [] d) (hd : decode cc pc = .ok (.invokevirtual 84, 3)) (hcon : Con X.2.1 g yP_games bP_games 1 ((some .int)) [] d' 1 6 (.ref (g.1 31) :: []) w (Tp cn P)) (hdd : d' + 1 ≤ d) (hst : (st.map fun v => v.category).sum ≤ 8) (h1 : 1 ≤ X.2.2.2.1.cells) (h6 : 6 ≤ X.2.2.2.1.slots) (hP : ∀ w' : Wd, P w' → P2 (.inr cn) w') : Go X g 0 0 (Fen X g 1 6 P2) w pc lp (.ref (g.1 31) :: st) :=
  kF_84 hc hd hcon hdd hst (by omega) (by omega) (fun v w' h => absurd h Tp_l) (fun cn2 w' h => by obtain ⟨rfl, h⟩ := h; exact x_out hc (hP w' h))
/-- PairedFieldLaw: a call of PairedField.cost -/
theorem kL_32 {d' k n : Nat} {P : Rt → Wd → Prop} (hc : Ok X g cc "PairedFieldLaw" ret hx d) (hd : decode cc pc = .ok (.invokevirtual 32, 3)) (hcon : Con X.2.1 g yF_cost bF_cost 1 ((some .int)) [] d' k n (.ref (g.1 0) :: []) w P) (hdd : d' + 1 ≤ d) (hst : (st.map fun v => v.category).sum ≤ 8) (hcells : kc + k ≤ X.2.2.2.1.cells) (hslots : ks + n ≤ X.2.2.2.1.slots)
    (hret : ∀ (v : Option Value) (w' : Wd), P (.inl v) w' → Go X g (kc + k) (ks + n) Q w' (pc + 3) lp (v.toList ++ st)) (hthr : ∀ (cn : String) (w' : Wd), P (.inr cn) w' → GoX X g (kc + k) (ks + n) Q w' pc lp cn) : Go X g kc ks Q w pc lp (.ref (g.1 0) :: st) :=
  r_callv (av := []) (nL' := 1) (q := 0) (ci := 0) (C := R_F) (Tc := T_F) (N := 8) hc hd hcon (t2_mem 196 rfl rfl) (t2_mem 197 rfl rfl) (t2_mem 198 rfl rfl) (t2_mem 199 rfl rfl) (by decide) (by decide +kernel) (show (parseMethodDescriptor yF_cost.desc).map (fun d => d.parameters.length) = some 0 by decide +kernel) (by decide) (ent_F g (w 0)) rfl hdd (by decide) (fun v hv => by cases hv) (Nat.le_of_ble_eq_true rfl) hst hcells hslots hret hthr
theorem kL_32r {d' : Nat} {P : Option Value → Wd → Prop} (hc : Ok X g cc "PairedFieldLaw" ret hx d) (hd : decode cc pc = .ok (.invokevirtual 32, 3)) (hcon : Con X.2.1 g yF_cost bF_cost 1 ((some .int)) [] d' 0 0 (.ref (g.1 0) :: []) w (Rp P)) (hdd : d' + 1 ≤ d) (hst : (st.map fun v => v.category).sum ≤ 8) (hret : ∀ (v : Option Value) (w' : Wd), P v w' → Go X g 0 0 Q w' (pc + 3) lp (v.toList ++ st)) : Go X g 0 0 Q w pc lp (.ref (g.1 0) :: st) :=
  kL_32 hc hd hcon hdd hst (Nat.zero_le _) (Nat.zero_le _) (fun v w' h => hret v w' (Rp_l h)) (fun cn w' h => absurd h Rp_r)
theorem kL_32t {d' : Nat} {cn : String} {P : Wd → Prop} {P2 : Rt → Wd → Prop} (hc : Ok X g cc "PairedFieldLaw" ret [] d) (hd : decode cc pc = .ok (.invokevirtual 32, 3)) (hcon : Con X.2.1 g yF_cost bF_cost 1 ((some .int)) [] d' 1 6 (.ref (g.1 0) :: []) w (Tp cn P)) (hdd : d' + 1 ≤ d) (hst : (st.map fun v => v.category).sum ≤ 8) (h1 : 1 ≤ X.2.2.2.1.cells) (h6 : 6 ≤ X.2.2.2.1.slots) (hP : ∀ w' : Wd, P w' → P2 (.inr cn) w') : Go X g 0 0 (Fen X g 1 6 P2) w pc lp (.ref (g.1 0) :: st) :=
  kL_32 hc hd hcon hdd hst (by omega) (by omega) (fun v w' h => absurd h Tp_l) (fun cn2 w' h => by obtain ⟨rfl, h⟩ := h; exact x_out hc (hP w' h))
/-- PairedField: a call of PairedField$Pairing.leastCost -/
theorem kF_94 {d' k n : Nat} {P : Rt → Wd → Prop} (hc : Ok X g cc "PairedField" ret hx d) (hd : decode cc pc = .ok (.invokevirtual 94, 3)) (hcon : Con X.2.1 g yP_leastCost bP_leastCost 1 ((some .int)) [] d' k n (.ref (g.1 31) :: []) w P) (hdd : d' + 1 ≤ d) (hst : (st.map fun v => v.category).sum ≤ 8) (hcells : kc + k ≤ X.2.2.2.1.cells) (hslots : ks + n ≤ X.2.2.2.1.slots)
    (hret : ∀ (v : Option Value) (w' : Wd), P (.inl v) w' → Go X g (kc + k) (ks + n) Q w' (pc + 3) lp (v.toList ++ st)) (hthr : ∀ (cn : String) (w' : Wd), P (.inr cn) w' → GoX X g (kc + k) (ks + n) Q w' pc lp cn) : Go X g kc ks Q w pc lp (.ref (g.1 31) :: st) :=
  r_callv (av := []) (nL' := 1) (q := 31) (ci := 2) (C := R_P) (Tc := T_P) (N := 6) hc hd hcon (t2_mem 200 rfl rfl) (t2_mem 201 rfl rfl) (t2_mem 202 rfl rfl) (t2_mem 203 rfl rfl) (by decide) (by decide +kernel) (show (parseMethodDescriptor yP_leastCost.desc).map (fun d => d.parameters.length) = some 0 by decide +kernel) (by decide) (ent_P g (w 31)) rfl hdd (by decide) (fun v hv => by cases hv) (Nat.le_of_ble_eq_true rfl) hst hcells hslots hret hthr
theorem kF_94r {d' : Nat} {P : Option Value → Wd → Prop} (hc : Ok X g cc "PairedField" ret hx d) (hd : decode cc pc = .ok (.invokevirtual 94, 3)) (hcon : Con X.2.1 g yP_leastCost bP_leastCost 1 ((some .int)) [] d' 0 0 (.ref (g.1 31) :: []) w (Rp P)) (hdd : d' + 1 ≤ d) (hst : (st.map fun v => v.category).sum ≤ 8) (hret : ∀ (v : Option Value) (w' : Wd), P v w' → Go X g 0 0 Q w' (pc + 3) lp (v.toList ++ st)) : Go X g 0 0 Q w pc lp (.ref (g.1 31) :: st) :=
  kF_94 hc hd hcon hdd hst (Nat.zero_le _) (Nat.zero_le _) (fun v w' h => hret v w' (Rp_l h)) (fun cn w' h => absurd h Rp_r)
theorem kF_94t {d' : Nat} {cn : String} {P : Wd → Prop} {P2 : Rt → Wd → Prop} (hc : Ok X g cc "PairedField" ret [] d) (hd : decode cc pc = .ok (.invokevirtual 94, 3)) (hcon : Con X.2.1 g yP_leastCost bP_leastCost 1 ((some .int)) [] d' 1 6 (.ref (g.1 31) :: []) w (Tp cn P)) (hdd : d' + 1 ≤ d) (hst : (st.map fun v => v.category).sum ≤ 8) (h1 : 1 ≤ X.2.2.2.1.cells) (h6 : 6 ≤ X.2.2.2.1.slots) (hP : ∀ w' : Wd, P w' → P2 (.inr cn) w') : Go X g 0 0 (Fen X g 1 6 P2) w pc lp (.ref (g.1 31) :: st) :=
  kF_94 hc hd hcon hdd hst (by omega) (by omega) (fun v w' h => absurd h Tp_l) (fun cn2 w' h => by obtain ⟨rfl, h⟩ := h; exact x_out hc (hP w' h))
/-- PairedFieldLaw: a call of PairedField.opponent -/
theorem kL_35 {d' k n : Nat} {P : Rt → Wd → Prop} {a0 : Int32} (hc : Ok X g cc "PairedFieldLaw" ret hx d) (hd : decode cc pc = .ok (.invokevirtual 35, 3)) (hcon : Con X.2.1 g yF_opponent bF_opponent 3 ((some .int)) [] d' k n (.ref (g.1 0) :: [.int a0]) w P) (hdd : d' + 1 ≤ d) (hst : (st.map fun v => v.category).sum ≤ 8) (hcells : kc + k ≤ X.2.2.2.1.cells) (hslots : ks + n ≤ X.2.2.2.1.slots)
    (hret : ∀ (v : Option Value) (w' : Wd), P (.inl v) w' → Go X g (kc + k) (ks + n) Q w' (pc + 3) lp (v.toList ++ st)) (hthr : ∀ (cn : String) (w' : Wd), P (.inr cn) w' → GoX X g (kc + k) (ks + n) Q w' pc lp cn) : Go X g kc ks Q w pc lp (.int a0 :: .ref (g.1 0) :: st) :=
  r_callv (av := [.int a0]) (nL' := 3) (q := 0) (ci := 0) (C := R_F) (Tc := T_F) (N := 8) hc hd hcon (t2_mem 207 rfl rfl) (t2_mem 208 rfl rfl) (t2_mem 209 rfl rfl) (t2_mem 210 rfl rfl) (by decide) (by decide +kernel) (show (parseMethodDescriptor yF_opponent.desc).map (fun d => d.parameters.length) = some 1 by decide +kernel) (by decide) (ent_F g (w 0)) rfl hdd (by decide) (fun v hv => by simp only [List.mem_cons, List.not_mem_nil, or_false] at hv; rcases hv with rfl <;> rfl) (Nat.le_of_ble_eq_true rfl) hst hcells hslots hret hthr
theorem kL_35r {d' : Nat} {P : Option Value → Wd → Prop} {a0 : Int32} (hc : Ok X g cc "PairedFieldLaw" ret hx d) (hd : decode cc pc = .ok (.invokevirtual 35, 3)) (hcon : Con X.2.1 g yF_opponent bF_opponent 3 ((some .int)) [] d' 0 0 (.ref (g.1 0) :: [.int a0]) w (Rp P)) (hdd : d' + 1 ≤ d) (hst : (st.map fun v => v.category).sum ≤ 8) (hret : ∀ (v : Option Value) (w' : Wd), P v w' → Go X g 0 0 Q w' (pc + 3) lp (v.toList ++ st)) : Go X g 0 0 Q w pc lp (.int a0 :: .ref (g.1 0) :: st) :=
  kL_35 hc hd hcon hdd hst (Nat.zero_le _) (Nat.zero_le _) (fun v w' h => hret v w' (Rp_l h)) (fun cn w' h => absurd h Rp_r)
theorem kL_35t {d' : Nat} {cn : String} {P : Wd → Prop} {P2 : Rt → Wd → Prop} {a0 : Int32} (hc : Ok X g cc "PairedFieldLaw" ret [] d) (hd : decode cc pc = .ok (.invokevirtual 35, 3)) (hcon : Con X.2.1 g yF_opponent bF_opponent 3 ((some .int)) [] d' 1 6 (.ref (g.1 0) :: [.int a0]) w (Tp cn P)) (hdd : d' + 1 ≤ d) (hst : (st.map fun v => v.category).sum ≤ 8) (h1 : 1 ≤ X.2.2.2.1.cells) (h6 : 6 ≤ X.2.2.2.1.slots) (hP : ∀ w' : Wd, P w' → P2 (.inr cn) w') : Go X g 0 0 (Fen X g 1 6 P2) w pc lp (.int a0 :: .ref (g.1 0) :: st) :=
  kL_35 hc hd hcon hdd hst (by omega) (by omega) (fun v w' h => absurd h Tp_l) (fun cn2 w' h => by obtain ⟨rfl, h⟩ := h; exact x_out hc (hP w' h))
/-- PairedField: a call of PairedField.refuseNoRound -/
theorem kF_100 {d' k n : Nat} {P : Rt → Wd → Prop} (hc : Ok X g cc "PairedField" ret hx d) (hd : decode cc pc = .ok (.invokevirtual 100, 3)) (hcon : Con X.2.1 g yF_refuseNoRound bF_refuseNoRound 1 ((none : Option Jvm.ClassFile.FieldType)) [] d' k n (.ref (g.1 0) :: []) w P) (hdd : d' + 1 ≤ d) (hst : (st.map fun v => v.category).sum ≤ 8) (hcells : kc + k ≤ X.2.2.2.1.cells) (hslots : ks + n ≤ X.2.2.2.1.slots)
    (hret : ∀ (v : Option Value) (w' : Wd), P (.inl v) w' → Go X g (kc + k) (ks + n) Q w' (pc + 3) lp (v.toList ++ st)) (hthr : ∀ (cn : String) (w' : Wd), P (.inr cn) w' → GoX X g (kc + k) (ks + n) Q w' pc lp cn) : Go X g kc ks Q w pc lp (.ref (g.1 0) :: st) :=
  r_callv (av := []) (nL' := 1) (q := 0) (ci := 0) (C := R_F) (Tc := T_F) (N := 8) hc hd hcon (t2_mem 211 rfl rfl) (t2_mem 213 rfl rfl) (t0_mem 17 rfl rfl) (t2_mem 214 rfl rfl) (by decide) (by decide +kernel) (show (parseMethodDescriptor yF_refuseNoRound.desc).map (fun d => d.parameters.length) = some 0 by decide +kernel) (by decide) (ent_F g (w 0)) rfl hdd (by decide) (fun v hv => by cases hv) (Nat.le_of_ble_eq_true rfl) hst hcells hslots hret hthr
theorem kF_100r {d' : Nat} {P : Option Value → Wd → Prop} (hc : Ok X g cc "PairedField" ret hx d) (hd : decode cc pc = .ok (.invokevirtual 100, 3)) (hcon : Con X.2.1 g yF_refuseNoRound bF_refuseNoRound 1 ((none : Option Jvm.ClassFile.FieldType)) [] d' 0 0 (.ref (g.1 0) :: []) w (Rp P)) (hdd : d' + 1 ≤ d) (hst : (st.map fun v => v.category).sum ≤ 8) (hret : ∀ (v : Option Value) (w' : Wd), P v w' → Go X g 0 0 Q w' (pc + 3) lp (v.toList ++ st)) : Go X g 0 0 Q w pc lp (.ref (g.1 0) :: st) :=
  kF_100 hc hd hcon hdd hst (Nat.zero_le _) (Nat.zero_le _) (fun v w' h => hret v w' (Rp_l h)) (fun cn w' h => absurd h Rp_r)
theorem kF_100t {d' : Nat} {cn : String} {P : Wd → Prop} {P2 : Rt → Wd → Prop} (hc : Ok X g cc "PairedField" ret [] d) (hd : decode cc pc = .ok (.invokevirtual 100, 3)) (hcon : Con X.2.1 g yF_refuseNoRound bF_refuseNoRound 1 ((none : Option Jvm.ClassFile.FieldType)) [] d' 1 6 (.ref (g.1 0) :: []) w (Tp cn P)) (hdd : d' + 1 ≤ d) (hst : (st.map fun v => v.category).sum ≤ 8) (h1 : 1 ≤ X.2.2.2.1.cells) (h6 : 6 ≤ X.2.2.2.1.slots) (hP : ∀ w' : Wd, P w' → P2 (.inr cn) w') : Go X g 0 0 (Fen X g 1 6 P2) w pc lp (.ref (g.1 0) :: st) :=
  kF_100 hc hd hcon hdd hst (by omega) (by omega) (fun v w' h => absurd h Tp_l) (fun cn2 w' h => by obtain ⟨rfl, h⟩ := h; exact x_out hc (hP w' h))
/-- PairedField: a call of PairedField$Cell.opponentIn -/
theorem kF_103 {d' k n : Nat} {P : Rt → Wd → Prop} {a0 : Int32} (hc : Ok X g cc "PairedField" ret hx d) (hd : decode cc pc = .ok (.invokestatic 103, 3)) (hcon : Con X.2.1 g yC_opponentIn bC_opponentIn 1 ((some .int)) [] d' k n [.int a0] w P) (hdd : d' + 1 ≤ d) (hst : (st.map fun v => v.category).sum ≤ 8) (hcells : kc + k ≤ X.2.2.2.1.cells) (hslots : ks + n ≤ X.2.2.2.1.slots)
    (hret : ∀ (v : Option Value) (w' : Wd), P (.inl v) w' → Go X g (kc + k) (ks + n) Q w' (pc + 3) lp (v.toList ++ st)) (hthr : ∀ (cn : String) (w' : Wd), P (.inr cn) w' → GoX X g (kc + k) (ks + n) Q w' pc lp cn) : Go X g kc ks Q w pc lp (.int a0 :: st) :=
  r_calls (av := [.int a0]) (nL' := 1) hc hd hcon (t2_mem 216 rfl rfl) (t2_mem 217 rfl rfl) (t1_mem 15 rfl rfl) (t2_mem 218 rfl rfl) (by decide) (by decide +kernel) (show (parseMethodDescriptor yC_opponentIn.desc).map (fun d => d.parameters.length) = some 1 by decide +kernel) hdd (by decide) (fun v hv => by simp only [List.mem_cons, List.not_mem_nil, or_false] at hv; rcases hv with rfl <;> rfl) (Nat.le_of_ble_eq_true rfl) hst hcells hslots hret hthr
theorem kF_103r {d' : Nat} {P : Option Value → Wd → Prop} {a0 : Int32} (hc : Ok X g cc "PairedField" ret hx d) (hd : decode cc pc = .ok (.invokestatic 103, 3)) (hcon : Con X.2.1 g yC_opponentIn bC_opponentIn 1 ((some .int)) [] d' 0 0 [.int a0] w (Rp P)) (hdd : d' + 1 ≤ d) (hst : (st.map fun v => v.category).sum ≤ 8) (hret : ∀ (v : Option Value) (w' : Wd), P v w' → Go X g 0 0 Q w' (pc + 3) lp (v.toList ++ st)) : Go X g 0 0 Q w pc lp (.int a0 :: st) :=
  kF_103 hc hd hcon hdd hst (Nat.zero_le _) (Nat.zero_le _) (fun v w' h => hret v w' (Rp_l h)) (fun cn w' h => absurd h Rp_r)
theorem kF_103t {d' : Nat} {cn : String} {P : Wd → Prop} {P2 : Rt → Wd → Prop} {a0 : Int32} (hc : Ok X g cc "PairedField" ret [] d) (hd : decode cc pc = .ok (.invokestatic 103, 3)) (hcon : Con X.2.1 g yC_opponentIn bC_opponentIn 1 ((some .int)) [] d' 1 6 [.int a0] w (Tp cn P)) (hdd : d' + 1 ≤ d) (hst : (st.map fun v => v.category).sum ≤ 8) (h1 : 1 ≤ X.2.2.2.1.cells) (h6 : 6 ≤ X.2.2.2.1.slots) (hP : ∀ w' : Wd, P w' → P2 (.inr cn) w') : Go X g 0 0 (Fen X g 1 6 P2) w pc lp (.int a0 :: st) :=
  kF_103 hc hd hcon hdd hst (by omega) (by omega) (fun v w' h => absurd h Tp_l) (fun cn2 w' h => by obtain ⟨rfl, h⟩ := h; exact x_out hc (hP w' h))
/-- PairedFieldLaw: a call of PairedField.isWhite -/
theorem kL_39 {d' k n : Nat} {P : Rt → Wd → Prop} {a0 : Int32} (hc : Ok X g cc "PairedFieldLaw" ret hx d) (hd : decode cc pc = .ok (.invokevirtual 39, 3)) (hcon : Con X.2.1 g yF_isWhite bF_isWhite 3 ((some .boolean)) [] d' k n (.ref (g.1 0) :: [.int a0]) w P) (hdd : d' + 1 ≤ d) (hst : (st.map fun v => v.category).sum ≤ 8) (hcells : kc + k ≤ X.2.2.2.1.cells) (hslots : ks + n ≤ X.2.2.2.1.slots)
    (hret : ∀ (v : Option Value) (w' : Wd), P (.inl v) w' → Go X g (kc + k) (ks + n) Q w' (pc + 3) lp (v.toList ++ st)) (hthr : ∀ (cn : String) (w' : Wd), P (.inr cn) w' → GoX X g (kc + k) (ks + n) Q w' pc lp cn) : Go X g kc ks Q w pc lp (.int a0 :: .ref (g.1 0) :: st) :=
  r_callv (av := [.int a0]) (nL' := 3) (q := 0) (ci := 0) (C := R_F) (Tc := T_F) (N := 8) hc hd hcon (t2_mem 222 rfl rfl) (t2_mem 223 rfl rfl) (t2_mem 224 rfl rfl) (t2_mem 225 rfl rfl) (by decide) (by decide +kernel) (show (parseMethodDescriptor yF_isWhite.desc).map (fun d => d.parameters.length) = some 1 by decide +kernel) (by decide) (ent_F g (w 0)) rfl hdd (by decide) (fun v hv => by simp only [List.mem_cons, List.not_mem_nil, or_false] at hv; rcases hv with rfl <;> rfl) (Nat.le_of_ble_eq_true rfl) hst hcells hslots hret hthr
theorem kL_39r {d' : Nat} {P : Option Value → Wd → Prop} {a0 : Int32} (hc : Ok X g cc "PairedFieldLaw" ret hx d) (hd : decode cc pc = .ok (.invokevirtual 39, 3)) (hcon : Con X.2.1 g yF_isWhite bF_isWhite 3 ((some .boolean)) [] d' 0 0 (.ref (g.1 0) :: [.int a0]) w (Rp P)) (hdd : d' + 1 ≤ d) (hst : (st.map fun v => v.category).sum ≤ 8) (hret : ∀ (v : Option Value) (w' : Wd), P v w' → Go X g 0 0 Q w' (pc + 3) lp (v.toList ++ st)) : Go X g 0 0 Q w pc lp (.int a0 :: .ref (g.1 0) :: st) :=
  kL_39 hc hd hcon hdd hst (Nat.zero_le _) (Nat.zero_le _) (fun v w' h => hret v w' (Rp_l h)) (fun cn w' h => absurd h Rp_r)
theorem kL_39t {d' : Nat} {cn : String} {P : Wd → Prop} {P2 : Rt → Wd → Prop} {a0 : Int32} (hc : Ok X g cc "PairedFieldLaw" ret [] d) (hd : decode cc pc = .ok (.invokevirtual 39, 3)) (hcon : Con X.2.1 g yF_isWhite bF_isWhite 3 ((some .boolean)) [] d' 1 6 (.ref (g.1 0) :: [.int a0]) w (Tp cn P)) (hdd : d' + 1 ≤ d) (hst : (st.map fun v => v.category).sum ≤ 8) (h1 : 1 ≤ X.2.2.2.1.cells) (h6 : 6 ≤ X.2.2.2.1.slots) (hP : ∀ w' : Wd, P w' → P2 (.inr cn) w') : Go X g 0 0 (Fen X g 1 6 P2) w pc lp (.int a0 :: .ref (g.1 0) :: st) :=
  kL_39 hc hd hcon hdd hst (by omega) (by omega) (fun v w' h => absurd h Tp_l) (fun cn2 w' h => by obtain ⟨rfl, h⟩ := h; exact x_out hc (hP w' h))
/-- PairedField: a call of PairedField$Cell.isGame -/
theorem kF_109 {d' k n : Nat} {P : Rt → Wd → Prop} {a0 : Int32} (hc : Ok X g cc "PairedField" ret hx d) (hd : decode cc pc = .ok (.invokestatic 109, 3)) (hcon : Con X.2.1 g yC_isGame bC_isGame 1 ((some .boolean)) [] d' k n [.int a0] w P) (hdd : d' + 1 ≤ d) (hst : (st.map fun v => v.category).sum ≤ 8) (hcells : kc + k ≤ X.2.2.2.1.cells) (hslots : ks + n ≤ X.2.2.2.1.slots)
    (hret : ∀ (v : Option Value) (w' : Wd), P (.inl v) w' → Go X g (kc + k) (ks + n) Q w' (pc + 3) lp (v.toList ++ st)) (hthr : ∀ (cn : String) (w' : Wd), P (.inr cn) w' → GoX X g (kc + k) (ks + n) Q w' pc lp cn) : Go X g kc ks Q w pc lp (.int a0 :: st) :=
  r_calls (av := [.int a0]) (nL' := 1) hc hd hcon (t2_mem 226 rfl rfl) (t2_mem 227 rfl rfl) (t1_mem 15 rfl rfl) (t2_mem 228 rfl rfl) (by decide) (by decide +kernel) (show (parseMethodDescriptor yC_isGame.desc).map (fun d => d.parameters.length) = some 1 by decide +kernel) hdd (by decide) (fun v hv => by simp only [List.mem_cons, List.not_mem_nil, or_false] at hv; rcases hv with rfl <;> rfl) (Nat.le_of_ble_eq_true rfl) hst hcells hslots hret hthr
theorem kF_109r {d' : Nat} {P : Option Value → Wd → Prop} {a0 : Int32} (hc : Ok X g cc "PairedField" ret hx d) (hd : decode cc pc = .ok (.invokestatic 109, 3)) (hcon : Con X.2.1 g yC_isGame bC_isGame 1 ((some .boolean)) [] d' 0 0 [.int a0] w (Rp P)) (hdd : d' + 1 ≤ d) (hst : (st.map fun v => v.category).sum ≤ 8) (hret : ∀ (v : Option Value) (w' : Wd), P v w' → Go X g 0 0 Q w' (pc + 3) lp (v.toList ++ st)) : Go X g 0 0 Q w pc lp (.int a0 :: st) :=
  kF_109 hc hd hcon hdd hst (Nat.zero_le _) (Nat.zero_le _) (fun v w' h => hret v w' (Rp_l h)) (fun cn w' h => absurd h Rp_r)
theorem kF_109t {d' : Nat} {cn : String} {P : Wd → Prop} {P2 : Rt → Wd → Prop} {a0 : Int32} (hc : Ok X g cc "PairedField" ret [] d) (hd : decode cc pc = .ok (.invokestatic 109, 3)) (hcon : Con X.2.1 g yC_isGame bC_isGame 1 ((some .boolean)) [] d' 1 6 [.int a0] w (Tp cn P)) (hdd : d' + 1 ≤ d) (hst : (st.map fun v => v.category).sum ≤ 8) (h1 : 1 ≤ X.2.2.2.1.cells) (h6 : 6 ≤ X.2.2.2.1.slots) (hP : ∀ w' : Wd, P w' → P2 (.inr cn) w') : Go X g 0 0 (Fen X g 1 6 P2) w pc lp (.int a0 :: st) :=
  kF_109 hc hd hcon hdd hst (by omega) (by omega) (fun v w' h => absurd h Tp_l) (fun cn2 w' h => by obtain ⟨rfl, h⟩ := h; exact x_out hc (hP w' h))
/-- PairedField: a call of PairedField$Cell.colourIn -/
theorem kF_113 {d' k n : Nat} {P : Rt → Wd → Prop} {a0 : Int32} (hc : Ok X g cc "PairedField" ret hx d) (hd : decode cc pc = .ok (.invokestatic 113, 3)) (hcon : Con X.2.1 g yC_colourIn bC_colourIn 1 ((some .int)) [] d' k n [.int a0] w P) (hdd : d' + 1 ≤ d) (hst : (st.map fun v => v.category).sum ≤ 8) (hcells : kc + k ≤ X.2.2.2.1.cells) (hslots : ks + n ≤ X.2.2.2.1.slots)
    (hret : ∀ (v : Option Value) (w' : Wd), P (.inl v) w' → Go X g (kc + k) (ks + n) Q w' (pc + 3) lp (v.toList ++ st)) (hthr : ∀ (cn : String) (w' : Wd), P (.inr cn) w' → GoX X g (kc + k) (ks + n) Q w' pc lp cn) : Go X g kc ks Q w pc lp (.int a0 :: st) :=
  r_calls (av := [.int a0]) (nL' := 1) hc hd hcon (t2_mem 229 rfl rfl) (t2_mem 230 rfl rfl) (t1_mem 15 rfl rfl) (t2_mem 231 rfl rfl) (by decide) (by decide +kernel) (show (parseMethodDescriptor yC_colourIn.desc).map (fun d => d.parameters.length) = some 1 by decide +kernel) hdd (by decide) (fun v hv => by simp only [List.mem_cons, List.not_mem_nil, or_false] at hv; rcases hv with rfl <;> rfl) (Nat.le_of_ble_eq_true rfl) hst hcells hslots hret hthr
theorem kF_113r {d' : Nat} {P : Option Value → Wd → Prop} {a0 : Int32} (hc : Ok X g cc "PairedField" ret hx d) (hd : decode cc pc = .ok (.invokestatic 113, 3)) (hcon : Con X.2.1 g yC_colourIn bC_colourIn 1 ((some .int)) [] d' 0 0 [.int a0] w (Rp P)) (hdd : d' + 1 ≤ d) (hst : (st.map fun v => v.category).sum ≤ 8) (hret : ∀ (v : Option Value) (w' : Wd), P v w' → Go X g 0 0 Q w' (pc + 3) lp (v.toList ++ st)) : Go X g 0 0 Q w pc lp (.int a0 :: st) :=
  kF_113 hc hd hcon hdd hst (Nat.zero_le _) (Nat.zero_le _) (fun v w' h => hret v w' (Rp_l h)) (fun cn w' h => absurd h Rp_r)
theorem kF_113t {d' : Nat} {cn : String} {P : Wd → Prop} {P2 : Rt → Wd → Prop} {a0 : Int32} (hc : Ok X g cc "PairedField" ret [] d) (hd : decode cc pc = .ok (.invokestatic 113, 3)) (hcon : Con X.2.1 g yC_colourIn bC_colourIn 1 ((some .int)) [] d' 1 6 [.int a0] w (Tp cn P)) (hdd : d' + 1 ≤ d) (hst : (st.map fun v => v.category).sum ≤ 8) (h1 : 1 ≤ X.2.2.2.1.cells) (h6 : 6 ≤ X.2.2.2.1.slots) (hP : ∀ w' : Wd, P w' → P2 (.inr cn) w') : Go X g 0 0 (Fen X g 1 6 P2) w pc lp (.int a0 :: st) :=
  kF_113 hc hd hcon hdd hst (by omega) (by omega) (fun v w' h => absurd h Tp_l) (fun cn2 w' h => by obtain ⟨rfl, h⟩ := h; exact x_out hc (hP w' h))
/-- PairedFieldLaw: a call of PairedField.report -/
theorem kL_43 {d' k n : Nat} {P : Rt → Wd → Prop} {a0 : Int32} {a1 : Int32} (hc : Ok X g cc "PairedFieldLaw" ret hx d) (hd : decode cc pc = .ok (.invokevirtual 43, 3)) (hcon : Con X.2.1 g yF_report bF_report 3 ((none : Option Jvm.ClassFile.FieldType)) [] d' k n (.ref (g.1 0) :: [.int a0, .int a1]) w P) (hdd : d' + 1 ≤ d) (hst : (st.map fun v => v.category).sum ≤ 8) (hcells : kc + k ≤ X.2.2.2.1.cells) (hslots : ks + n ≤ X.2.2.2.1.slots)
    (hret : ∀ (v : Option Value) (w' : Wd), P (.inl v) w' → Go X g (kc + k) (ks + n) Q w' (pc + 3) lp (v.toList ++ st)) (hthr : ∀ (cn : String) (w' : Wd), P (.inr cn) w' → GoX X g (kc + k) (ks + n) Q w' pc lp cn) : Go X g kc ks Q w pc lp (.int a1 :: .int a0 :: .ref (g.1 0) :: st) :=
  r_callv (av := [.int a0, .int a1]) (nL' := 3) (q := 0) (ci := 0) (C := R_F) (Tc := T_F) (N := 8) hc hd hcon (t2_mem 235 rfl rfl) (t2_mem 236 rfl rfl) (t2_mem 237 rfl rfl) (t2_mem 238 rfl rfl) (by decide) (by decide +kernel) (show (parseMethodDescriptor yF_report.desc).map (fun d => d.parameters.length) = some 2 by decide +kernel) (by decide) (ent_F g (w 0)) rfl hdd (by decide) (fun v hv => by simp only [List.mem_cons, List.not_mem_nil, or_false] at hv; rcases hv with rfl | rfl <;> rfl) (Nat.le_of_ble_eq_true rfl) hst hcells hslots hret hthr
theorem kL_43r {d' : Nat} {P : Option Value → Wd → Prop} {a0 : Int32} {a1 : Int32} (hc : Ok X g cc "PairedFieldLaw" ret hx d) (hd : decode cc pc = .ok (.invokevirtual 43, 3)) (hcon : Con X.2.1 g yF_report bF_report 3 ((none : Option Jvm.ClassFile.FieldType)) [] d' 0 0 (.ref (g.1 0) :: [.int a0, .int a1]) w (Rp P)) (hdd : d' + 1 ≤ d) (hst : (st.map fun v => v.category).sum ≤ 8) (hret : ∀ (v : Option Value) (w' : Wd), P v w' → Go X g 0 0 Q w' (pc + 3) lp (v.toList ++ st)) : Go X g 0 0 Q w pc lp (.int a1 :: .int a0 :: .ref (g.1 0) :: st) :=
  kL_43 hc hd hcon hdd hst (Nat.zero_le _) (Nat.zero_le _) (fun v w' h => hret v w' (Rp_l h)) (fun cn w' h => absurd h Rp_r)
theorem kL_43t {d' : Nat} {cn : String} {P : Wd → Prop} {P2 : Rt → Wd → Prop} {a0 : Int32} {a1 : Int32} (hc : Ok X g cc "PairedFieldLaw" ret [] d) (hd : decode cc pc = .ok (.invokevirtual 43, 3)) (hcon : Con X.2.1 g yF_report bF_report 3 ((none : Option Jvm.ClassFile.FieldType)) [] d' 1 6 (.ref (g.1 0) :: [.int a0, .int a1]) w (Tp cn P)) (hdd : d' + 1 ≤ d) (hst : (st.map fun v => v.category).sum ≤ 8) (h1 : 1 ≤ X.2.2.2.1.cells) (h6 : 6 ≤ X.2.2.2.1.slots) (hP : ∀ w' : Wd, P w' → P2 (.inr cn) w') : Go X g 0 0 (Fen X g 1 6 P2) w pc lp (.int a1 :: .int a0 :: .ref (g.1 0) :: st) :=
  kL_43 hc hd hcon hdd hst (by omega) (by omega) (fun v w' h => absurd h Tp_l) (fun cn2 w' h => by obtain ⟨rfl, h⟩ := h; exact x_out hc (hP w' h))
/-- PairedField: a call of PairedField$Cell.isUntold -/
theorem kF_118 {d' k n : Nat} {P : Rt → Wd → Prop} {a0 : Int32} (hc : Ok X g cc "PairedField" ret hx d) (hd : decode cc pc = .ok (.invokestatic 118, 3)) (hcon : Con X.2.1 g yC_isUntold bC_isUntold 1 ((some .boolean)) [] d' k n [.int a0] w P) (hdd : d' + 1 ≤ d) (hst : (st.map fun v => v.category).sum ≤ 8) (hcells : kc + k ≤ X.2.2.2.1.cells) (hslots : ks + n ≤ X.2.2.2.1.slots)
    (hret : ∀ (v : Option Value) (w' : Wd), P (.inl v) w' → Go X g (kc + k) (ks + n) Q w' (pc + 3) lp (v.toList ++ st)) (hthr : ∀ (cn : String) (w' : Wd), P (.inr cn) w' → GoX X g (kc + k) (ks + n) Q w' pc lp cn) : Go X g kc ks Q w pc lp (.int a0 :: st) :=
  r_calls (av := [.int a0]) (nL' := 1) hc hd hcon (t3_mem 0 rfl rfl) (t3_mem 1 rfl rfl) (t1_mem 15 rfl rfl) (t3_mem 2 rfl rfl) (by decide) (by decide +kernel) (show (parseMethodDescriptor yC_isUntold.desc).map (fun d => d.parameters.length) = some 1 by decide +kernel) hdd (by decide) (fun v hv => by simp only [List.mem_cons, List.not_mem_nil, or_false] at hv; rcases hv with rfl <;> rfl) (Nat.le_of_ble_eq_true rfl) hst hcells hslots hret hthr
theorem kF_118r {d' : Nat} {P : Option Value → Wd → Prop} {a0 : Int32} (hc : Ok X g cc "PairedField" ret hx d) (hd : decode cc pc = .ok (.invokestatic 118, 3)) (hcon : Con X.2.1 g yC_isUntold bC_isUntold 1 ((some .boolean)) [] d' 0 0 [.int a0] w (Rp P)) (hdd : d' + 1 ≤ d) (hst : (st.map fun v => v.category).sum ≤ 8) (hret : ∀ (v : Option Value) (w' : Wd), P v w' → Go X g 0 0 Q w' (pc + 3) lp (v.toList ++ st)) : Go X g 0 0 Q w pc lp (.int a0 :: st) :=
  kF_118 hc hd hcon hdd hst (Nat.zero_le _) (Nat.zero_le _) (fun v w' h => hret v w' (Rp_l h)) (fun cn w' h => absurd h Rp_r)
theorem kF_118t {d' : Nat} {cn : String} {P : Wd → Prop} {P2 : Rt → Wd → Prop} {a0 : Int32} (hc : Ok X g cc "PairedField" ret [] d) (hd : decode cc pc = .ok (.invokestatic 118, 3)) (hcon : Con X.2.1 g yC_isUntold bC_isUntold 1 ((some .boolean)) [] d' 1 6 [.int a0] w (Tp cn P)) (hdd : d' + 1 ≤ d) (hst : (st.map fun v => v.category).sum ≤ 8) (h1 : 1 ≤ X.2.2.2.1.cells) (h6 : 6 ≤ X.2.2.2.1.slots) (hP : ∀ w' : Wd, P w' → P2 (.inr cn) w') : Go X g 0 0 (Fen X g 1 6 P2) w pc lp (.int a0 :: st) :=
  kF_118 hc hd hcon hdd hst (by omega) (by omega) (fun v w' h => absurd h Tp_l) (fun cn2 w' h => by obtain ⟨rfl, h⟩ := h; exact x_out hc (hP w' h))
/-- PairedField$Cell: a call of PairedField$Cell.isGame -/
theorem kC_15 {d' k n : Nat} {P : Rt → Wd → Prop} {a0 : Int32} (hc : Ok X g cc "PairedField$Cell" ret hx d) (hd : decode cc pc = .ok (.invokestatic 15, 3)) (hcon : Con X.2.1 g yC_isGame bC_isGame 1 ((some .boolean)) [] d' k n [.int a0] w P) (hdd : d' + 1 ≤ d) (hst : (st.map fun v => v.category).sum ≤ 8) (hcells : kc + k ≤ X.2.2.2.1.cells) (hslots : ks + n ≤ X.2.2.2.1.slots)
    (hret : ∀ (v : Option Value) (w' : Wd), P (.inl v) w' → Go X g (kc + k) (ks + n) Q w' (pc + 3) lp (v.toList ++ st)) (hthr : ∀ (cn : String) (w' : Wd), P (.inr cn) w' → GoX X g (kc + k) (ks + n) Q w' pc lp cn) : Go X g kc ks Q w pc lp (.int a0 :: st) :=
  r_calls (av := [.int a0]) (nL' := 1) hc hd hcon (t3_mem 3 rfl rfl) (t2_mem 227 rfl rfl) (t1_mem 15 rfl rfl) (t2_mem 228 rfl rfl) (by decide) (by decide +kernel) (show (parseMethodDescriptor yC_isGame.desc).map (fun d => d.parameters.length) = some 1 by decide +kernel) hdd (by decide) (fun v hv => by simp only [List.mem_cons, List.not_mem_nil, or_false] at hv; rcases hv with rfl <;> rfl) (Nat.le_of_ble_eq_true rfl) hst hcells hslots hret hthr
theorem kC_15r {d' : Nat} {P : Option Value → Wd → Prop} {a0 : Int32} (hc : Ok X g cc "PairedField$Cell" ret hx d) (hd : decode cc pc = .ok (.invokestatic 15, 3)) (hcon : Con X.2.1 g yC_isGame bC_isGame 1 ((some .boolean)) [] d' 0 0 [.int a0] w (Rp P)) (hdd : d' + 1 ≤ d) (hst : (st.map fun v => v.category).sum ≤ 8) (hret : ∀ (v : Option Value) (w' : Wd), P v w' → Go X g 0 0 Q w' (pc + 3) lp (v.toList ++ st)) : Go X g 0 0 Q w pc lp (.int a0 :: st) :=
  kC_15 hc hd hcon hdd hst (Nat.zero_le _) (Nat.zero_le _) (fun v w' h => hret v w' (Rp_l h)) (fun cn w' h => absurd h Rp_r)
theorem kC_15t {d' : Nat} {cn : String} {P : Wd → Prop} {P2 : Rt → Wd → Prop} {a0 : Int32} (hc : Ok X g cc "PairedField$Cell" ret [] d) (hd : decode cc pc = .ok (.invokestatic 15, 3)) (hcon : Con X.2.1 g yC_isGame bC_isGame 1 ((some .boolean)) [] d' 1 6 [.int a0] w (Tp cn P)) (hdd : d' + 1 ≤ d) (hst : (st.map fun v => v.category).sum ≤ 8) (h1 : 1 ≤ X.2.2.2.1.cells) (h6 : 6 ≤ X.2.2.2.1.slots) (hP : ∀ w' : Wd, P w' → P2 (.inr cn) w') : Go X g 0 0 (Fen X g 1 6 P2) w pc lp (.int a0 :: st) :=
  kC_15 hc hd hcon hdd hst (by omega) (by omega) (fun v w' h => absurd h Tp_l) (fun cn2 w' h => by obtain ⟨rfl, h⟩ := h; exact x_out hc (hP w' h))
/-- PairedField$Cell: a call of PairedField$Cell.resultIn -/
theorem kC_19 {d' k n : Nat} {P : Rt → Wd → Prop} {a0 : Int32} (hc : Ok X g cc "PairedField$Cell" ret hx d) (hd : decode cc pc = .ok (.invokestatic 19, 3)) (hcon : Con X.2.1 g yC_resultIn bC_resultIn 1 ((some .int)) [] d' k n [.int a0] w P) (hdd : d' + 1 ≤ d) (hst : (st.map fun v => v.category).sum ≤ 8) (hcells : kc + k ≤ X.2.2.2.1.cells) (hslots : ks + n ≤ X.2.2.2.1.slots)
    (hret : ∀ (v : Option Value) (w' : Wd), P (.inl v) w' → Go X g (kc + k) (ks + n) Q w' (pc + 3) lp (v.toList ++ st)) (hthr : ∀ (cn : String) (w' : Wd), P (.inr cn) w' → GoX X g (kc + k) (ks + n) Q w' pc lp cn) : Go X g kc ks Q w pc lp (.int a0 :: st) :=
  r_calls (av := [.int a0]) (nL' := 1) hc hd hcon (t3_mem 4 rfl rfl) (t3_mem 5 rfl rfl) (t1_mem 15 rfl rfl) (t3_mem 6 rfl rfl) (by decide) (by decide +kernel) (show (parseMethodDescriptor yC_resultIn.desc).map (fun d => d.parameters.length) = some 1 by decide +kernel) hdd (by decide) (fun v hv => by simp only [List.mem_cons, List.not_mem_nil, or_false] at hv; rcases hv with rfl <;> rfl) (Nat.le_of_ble_eq_true rfl) hst hcells hslots hret hthr
theorem kC_19r {d' : Nat} {P : Option Value → Wd → Prop} {a0 : Int32} (hc : Ok X g cc "PairedField$Cell" ret hx d) (hd : decode cc pc = .ok (.invokestatic 19, 3)) (hcon : Con X.2.1 g yC_resultIn bC_resultIn 1 ((some .int)) [] d' 0 0 [.int a0] w (Rp P)) (hdd : d' + 1 ≤ d) (hst : (st.map fun v => v.category).sum ≤ 8) (hret : ∀ (v : Option Value) (w' : Wd), P v w' → Go X g 0 0 Q w' (pc + 3) lp (v.toList ++ st)) : Go X g 0 0 Q w pc lp (.int a0 :: st) :=
  kC_19 hc hd hcon hdd hst (Nat.zero_le _) (Nat.zero_le _) (fun v w' h => hret v w' (Rp_l h)) (fun cn w' h => absurd h Rp_r)
theorem kC_19t {d' : Nat} {cn : String} {P : Wd → Prop} {P2 : Rt → Wd → Prop} {a0 : Int32} (hc : Ok X g cc "PairedField$Cell" ret [] d) (hd : decode cc pc = .ok (.invokestatic 19, 3)) (hcon : Con X.2.1 g yC_resultIn bC_resultIn 1 ((some .int)) [] d' 1 6 [.int a0] w (Tp cn P)) (hdd : d' + 1 ≤ d) (hst : (st.map fun v => v.category).sum ≤ 8) (h1 : 1 ≤ X.2.2.2.1.cells) (h6 : 6 ≤ X.2.2.2.1.slots) (hP : ∀ w' : Wd, P w' → P2 (.inr cn) w') : Go X g 0 0 (Fen X g 1 6 P2) w pc lp (.int a0 :: st) :=
  kC_19 hc hd hcon hdd hst (by omega) (by omega) (fun v w' h => absurd h Tp_l) (fun cn2 w' h => by obtain ⟨rfl, h⟩ := h; exact x_out hc (hP w' h))
/-- PairedField: a call of PairedField.noteResult -/
theorem kF_123 {d' k n : Nat} {P : Rt → Wd → Prop} {a0 : Int32} {a1 : Int32} (hc : Ok X g cc "PairedField" ret hx d) (hd : decode cc pc = .ok (.invokevirtual 123, 3)) (hcon : Con X.2.1 g yF_noteResult bF_noteResult 5 ((none : Option Jvm.ClassFile.FieldType)) [] d' k n (.ref (g.1 0) :: [.int a0, .int a1]) w P) (hdd : d' + 1 ≤ d) (hst : (st.map fun v => v.category).sum ≤ 8) (hcells : kc + k ≤ X.2.2.2.1.cells) (hslots : ks + n ≤ X.2.2.2.1.slots)
    (hret : ∀ (v : Option Value) (w' : Wd), P (.inl v) w' → Go X g (kc + k) (ks + n) Q w' (pc + 3) lp (v.toList ++ st)) (hthr : ∀ (cn : String) (w' : Wd), P (.inr cn) w' → GoX X g (kc + k) (ks + n) Q w' pc lp cn) : Go X g kc ks Q w pc lp (.int a1 :: .int a0 :: .ref (g.1 0) :: st) :=
  r_callv (av := [.int a0, .int a1]) (nL' := 5) (q := 0) (ci := 0) (C := R_F) (Tc := T_F) (N := 8) hc hd hcon (t3_mem 8 rfl rfl) (t3_mem 10 rfl rfl) (t0_mem 18 rfl rfl) (t3_mem 11 rfl rfl) (by decide) (by decide +kernel) (show (parseMethodDescriptor yF_noteResult.desc).map (fun d => d.parameters.length) = some 2 by decide +kernel) (by decide) (ent_F g (w 0)) rfl hdd (by decide) (fun v hv => by simp only [List.mem_cons, List.not_mem_nil, or_false] at hv; rcases hv with rfl | rfl <;> rfl) (Nat.le_of_ble_eq_true rfl) hst hcells hslots hret hthr
theorem kF_123r {d' : Nat} {P : Option Value → Wd → Prop} {a0 : Int32} {a1 : Int32} (hc : Ok X g cc "PairedField" ret hx d) (hd : decode cc pc = .ok (.invokevirtual 123, 3)) (hcon : Con X.2.1 g yF_noteResult bF_noteResult 5 ((none : Option Jvm.ClassFile.FieldType)) [] d' 0 0 (.ref (g.1 0) :: [.int a0, .int a1]) w (Rp P)) (hdd : d' + 1 ≤ d) (hst : (st.map fun v => v.category).sum ≤ 8) (hret : ∀ (v : Option Value) (w' : Wd), P v w' → Go X g 0 0 Q w' (pc + 3) lp (v.toList ++ st)) : Go X g 0 0 Q w pc lp (.int a1 :: .int a0 :: .ref (g.1 0) :: st) :=
  kF_123 hc hd hcon hdd hst (Nat.zero_le _) (Nat.zero_le _) (fun v w' h => hret v w' (Rp_l h)) (fun cn w' h => absurd h Rp_r)
theorem kF_123t {d' : Nat} {cn : String} {P : Wd → Prop} {P2 : Rt → Wd → Prop} {a0 : Int32} {a1 : Int32} (hc : Ok X g cc "PairedField" ret [] d) (hd : decode cc pc = .ok (.invokevirtual 123, 3)) (hcon : Con X.2.1 g yF_noteResult bF_noteResult 5 ((none : Option Jvm.ClassFile.FieldType)) [] d' 1 6 (.ref (g.1 0) :: [.int a0, .int a1]) w (Tp cn P)) (hdd : d' + 1 ≤ d) (hst : (st.map fun v => v.category).sum ≤ 8) (h1 : 1 ≤ X.2.2.2.1.cells) (h6 : 6 ≤ X.2.2.2.1.slots) (hP : ∀ w' : Wd, P w' → P2 (.inr cn) w') : Go X g 0 0 (Fen X g 1 6 P2) w pc lp (.int a1 :: .int a0 :: .ref (g.1 0) :: st) :=
  kF_123 hc hd hcon hdd hst (by omega) (by omega) (fun v w' h => absurd h Tp_l) (fun cn2 w' h => by obtain ⟨rfl, h⟩ := h; exact x_out hc (hP w' h))
/-- PairedField: a call of PairedField$Cell.withResult -/
theorem kF_199 {d' k n : Nat} {P : Rt → Wd → Prop} {a0 : Int32} {a1 : Int32} (hc : Ok X g cc "PairedField" ret hx d) (hd : decode cc pc = .ok (.invokestatic 199, 3)) (hcon : Con X.2.1 g yC_withResult bC_withResult 2 ((some .int)) [] d' k n [.int a0, .int a1] w P) (hdd : d' + 1 ≤ d) (hst : (st.map fun v => v.category).sum ≤ 8) (hcells : kc + k ≤ X.2.2.2.1.cells) (hslots : ks + n ≤ X.2.2.2.1.slots)
    (hret : ∀ (v : Option Value) (w' : Wd), P (.inl v) w' → Go X g (kc + k) (ks + n) Q w' (pc + 3) lp (v.toList ++ st)) (hthr : ∀ (cn : String) (w' : Wd), P (.inr cn) w' → GoX X g (kc + k) (ks + n) Q w' pc lp cn) : Go X g kc ks Q w pc lp (.int a1 :: .int a0 :: st) :=
  r_calls (av := [.int a0, .int a1]) (nL' := 2) hc hd hcon (t3_mem 12 rfl rfl) (t2_mem 189 rfl rfl) (t1_mem 15 rfl rfl) (t2_mem 190 rfl rfl) (by decide) (by decide +kernel) (show (parseMethodDescriptor yC_withResult.desc).map (fun d => d.parameters.length) = some 2 by decide +kernel) hdd (by decide) (fun v hv => by simp only [List.mem_cons, List.not_mem_nil, or_false] at hv; rcases hv with rfl | rfl <;> rfl) (Nat.le_of_ble_eq_true rfl) hst hcells hslots hret hthr
theorem kF_199r {d' : Nat} {P : Option Value → Wd → Prop} {a0 : Int32} {a1 : Int32} (hc : Ok X g cc "PairedField" ret hx d) (hd : decode cc pc = .ok (.invokestatic 199, 3)) (hcon : Con X.2.1 g yC_withResult bC_withResult 2 ((some .int)) [] d' 0 0 [.int a0, .int a1] w (Rp P)) (hdd : d' + 1 ≤ d) (hst : (st.map fun v => v.category).sum ≤ 8) (hret : ∀ (v : Option Value) (w' : Wd), P v w' → Go X g 0 0 Q w' (pc + 3) lp (v.toList ++ st)) : Go X g 0 0 Q w pc lp (.int a1 :: .int a0 :: st) :=
  kF_199 hc hd hcon hdd hst (Nat.zero_le _) (Nat.zero_le _) (fun v w' h => hret v w' (Rp_l h)) (fun cn w' h => absurd h Rp_r)
theorem kF_199t {d' : Nat} {cn : String} {P : Wd → Prop} {P2 : Rt → Wd → Prop} {a0 : Int32} {a1 : Int32} (hc : Ok X g cc "PairedField" ret [] d) (hd : decode cc pc = .ok (.invokestatic 199, 3)) (hcon : Con X.2.1 g yC_withResult bC_withResult 2 ((some .int)) [] d' 1 6 [.int a0, .int a1] w (Tp cn P)) (hdd : d' + 1 ≤ d) (hst : (st.map fun v => v.category).sum ≤ 8) (h1 : 1 ≤ X.2.2.2.1.cells) (h6 : 6 ≤ X.2.2.2.1.slots) (hP : ∀ w' : Wd, P w' → P2 (.inr cn) w') : Go X g 0 0 (Fen X g 1 6 P2) w pc lp (.int a1 :: .int a0 :: st) :=
  kF_199 hc hd hcon hdd hst (by omega) (by omega) (fun v w' h => absurd h Tp_l) (fun cn2 w' h => by obtain ⟨rfl, h⟩ := h; exact x_out hc (hP w' h))
/-- PairedFieldLaw: a call of PairedField.missing -/
theorem kL_47 {d' k n : Nat} {P : Rt → Wd → Prop} (hc : Ok X g cc "PairedFieldLaw" ret hx d) (hd : decode cc pc = .ok (.invokevirtual 47, 3)) (hcon : Con X.2.1 g yF_missing bF_missing 1 ((some .int)) [] d' k n (.ref (g.1 0) :: []) w P) (hdd : d' + 1 ≤ d) (hst : (st.map fun v => v.category).sum ≤ 8) (hcells : kc + k ≤ X.2.2.2.1.cells) (hslots : ks + n ≤ X.2.2.2.1.slots)
    (hret : ∀ (v : Option Value) (w' : Wd), P (.inl v) w' → Go X g (kc + k) (ks + n) Q w' (pc + 3) lp (v.toList ++ st)) (hthr : ∀ (cn : String) (w' : Wd), P (.inr cn) w' → GoX X g (kc + k) (ks + n) Q w' pc lp cn) : Go X g kc ks Q w pc lp (.ref (g.1 0) :: st) :=
  r_callv (av := []) (nL' := 1) (q := 0) (ci := 0) (C := R_F) (Tc := T_F) (N := 8) hc hd hcon (t3_mem 16 rfl rfl) (t3_mem 17 rfl rfl) (t3_mem 18 rfl rfl) (t3_mem 19 rfl rfl) (by decide) (by decide +kernel) (show (parseMethodDescriptor yF_missing.desc).map (fun d => d.parameters.length) = some 0 by decide +kernel) (by decide) (ent_F g (w 0)) rfl hdd (by decide) (fun v hv => by cases hv) (Nat.le_of_ble_eq_true rfl) hst hcells hslots hret hthr
theorem kL_47r {d' : Nat} {P : Option Value → Wd → Prop} (hc : Ok X g cc "PairedFieldLaw" ret hx d) (hd : decode cc pc = .ok (.invokevirtual 47, 3)) (hcon : Con X.2.1 g yF_missing bF_missing 1 ((some .int)) [] d' 0 0 (.ref (g.1 0) :: []) w (Rp P)) (hdd : d' + 1 ≤ d) (hst : (st.map fun v => v.category).sum ≤ 8) (hret : ∀ (v : Option Value) (w' : Wd), P v w' → Go X g 0 0 Q w' (pc + 3) lp (v.toList ++ st)) : Go X g 0 0 Q w pc lp (.ref (g.1 0) :: st) :=
  kL_47 hc hd hcon hdd hst (Nat.zero_le _) (Nat.zero_le _) (fun v w' h => hret v w' (Rp_l h)) (fun cn w' h => absurd h Rp_r)
theorem kL_47t {d' : Nat} {cn : String} {P : Wd → Prop} {P2 : Rt → Wd → Prop} (hc : Ok X g cc "PairedFieldLaw" ret [] d) (hd : decode cc pc = .ok (.invokevirtual 47, 3)) (hcon : Con X.2.1 g yF_missing bF_missing 1 ((some .int)) [] d' 1 6 (.ref (g.1 0) :: []) w (Tp cn P)) (hdd : d' + 1 ≤ d) (hst : (st.map fun v => v.category).sum ≤ 8) (h1 : 1 ≤ X.2.2.2.1.cells) (h6 : 6 ≤ X.2.2.2.1.slots) (hP : ∀ w' : Wd, P w' → P2 (.inr cn) w') : Go X g 0 0 (Fen X g 1 6 P2) w pc lp (.ref (g.1 0) :: st) :=
  kL_47 hc hd hcon hdd hst (by omega) (by omega) (fun v w' h => absurd h Tp_l) (fun cn2 w' h => by obtain ⟨rfl, h⟩ := h; exact x_out hc (hP w' h))
/-- PairedField: a call of PairedField.countUntold -/
theorem kF_127 {d' k n : Nat} {P : Rt → Wd → Prop} (hc : Ok X g cc "PairedField" ret hx d) (hd : decode cc pc = .ok (.invokevirtual 127, 3)) (hcon : Con X.2.1 g yF_countUntold bF_countUntold 4 ((some .int)) [] d' k n (.ref (g.1 0) :: []) w P) (hdd : d' + 1 ≤ d) (hst : (st.map fun v => v.category).sum ≤ 8) (hcells : kc + k ≤ X.2.2.2.1.cells) (hslots : ks + n ≤ X.2.2.2.1.slots)
    (hret : ∀ (v : Option Value) (w' : Wd), P (.inl v) w' → Go X g (kc + k) (ks + n) Q w' (pc + 3) lp (v.toList ++ st)) (hthr : ∀ (cn : String) (w' : Wd), P (.inr cn) w' → GoX X g (kc + k) (ks + n) Q w' pc lp cn) : Go X g kc ks Q w pc lp (.ref (g.1 0) :: st) :=
  r_callv (av := []) (nL' := 4) (q := 0) (ci := 0) (C := R_F) (Tc := T_F) (N := 8) hc hd hcon (t3_mem 20 rfl rfl) (t3_mem 22 rfl rfl) (t0_mem 19 rfl rfl) (t3_mem 23 rfl rfl) (by decide) (by decide +kernel) (show (parseMethodDescriptor yF_countUntold.desc).map (fun d => d.parameters.length) = some 0 by decide +kernel) (by decide) (ent_F g (w 0)) rfl hdd (by decide) (fun v hv => by cases hv) (Nat.le_of_ble_eq_true rfl) hst hcells hslots hret hthr
theorem kF_127r {d' : Nat} {P : Option Value → Wd → Prop} (hc : Ok X g cc "PairedField" ret hx d) (hd : decode cc pc = .ok (.invokevirtual 127, 3)) (hcon : Con X.2.1 g yF_countUntold bF_countUntold 4 ((some .int)) [] d' 0 0 (.ref (g.1 0) :: []) w (Rp P)) (hdd : d' + 1 ≤ d) (hst : (st.map fun v => v.category).sum ≤ 8) (hret : ∀ (v : Option Value) (w' : Wd), P v w' → Go X g 0 0 Q w' (pc + 3) lp (v.toList ++ st)) : Go X g 0 0 Q w pc lp (.ref (g.1 0) :: st) :=
  kF_127 hc hd hcon hdd hst (Nat.zero_le _) (Nat.zero_le _) (fun v w' h => hret v w' (Rp_l h)) (fun cn w' h => absurd h Rp_r)
theorem kF_127t {d' : Nat} {cn : String} {P : Wd → Prop} {P2 : Rt → Wd → Prop} (hc : Ok X g cc "PairedField" ret [] d) (hd : decode cc pc = .ok (.invokevirtual 127, 3)) (hcon : Con X.2.1 g yF_countUntold bF_countUntold 4 ((some .int)) [] d' 1 6 (.ref (g.1 0) :: []) w (Tp cn P)) (hdd : d' + 1 ≤ d) (hst : (st.map fun v => v.category).sum ≤ 8) (h1 : 1 ≤ X.2.2.2.1.cells) (h6 : 6 ≤ X.2.2.2.1.slots) (hP : ∀ w' : Wd, P w' → P2 (.inr cn) w') : Go X g 0 0 (Fen X g 1 6 P2) w pc lp (.ref (g.1 0) :: st) :=
  kF_127 hc hd hcon hdd hst (by omega) (by omega) (fun v w' h => absurd h Tp_l) (fun cn2 w' h => by obtain ⟨rfl, h⟩ := h; exact x_out hc (hP w' h))
/-- PairedFieldLaw: a call of PairedField.close -/
theorem kL_50 {d' k n : Nat} {P : Rt → Wd → Prop} (hc : Ok X g cc "PairedFieldLaw" ret hx d) (hd : decode cc pc = .ok (.invokevirtual 50, 3)) (hcon : Con X.2.1 g yF_close bF_close 1 ((some .int)) [] d' k n (.ref (g.1 0) :: []) w P) (hdd : d' + 1 ≤ d) (hst : (st.map fun v => v.category).sum ≤ 8) (hcells : kc + k ≤ X.2.2.2.1.cells) (hslots : ks + n ≤ X.2.2.2.1.slots)
    (hret : ∀ (v : Option Value) (w' : Wd), P (.inl v) w' → Go X g (kc + k) (ks + n) Q w' (pc + 3) lp (v.toList ++ st)) (hthr : ∀ (cn : String) (w' : Wd), P (.inr cn) w' → GoX X g (kc + k) (ks + n) Q w' pc lp cn) : Go X g kc ks Q w pc lp (.ref (g.1 0) :: st) :=
  r_callv (av := []) (nL' := 1) (q := 0) (ci := 0) (C := R_F) (Tc := T_F) (N := 8) hc hd hcon (t3_mem 27 rfl rfl) (t3_mem 28 rfl rfl) (t3_mem 29 rfl rfl) (t3_mem 30 rfl rfl) (by decide) (by decide +kernel) (show (parseMethodDescriptor yF_close.desc).map (fun d => d.parameters.length) = some 0 by decide +kernel) (by decide) (ent_F g (w 0)) rfl hdd (by decide) (fun v hv => by cases hv) (Nat.le_of_ble_eq_true rfl) hst hcells hslots hret hthr
theorem kL_50r {d' : Nat} {P : Option Value → Wd → Prop} (hc : Ok X g cc "PairedFieldLaw" ret hx d) (hd : decode cc pc = .ok (.invokevirtual 50, 3)) (hcon : Con X.2.1 g yF_close bF_close 1 ((some .int)) [] d' 0 0 (.ref (g.1 0) :: []) w (Rp P)) (hdd : d' + 1 ≤ d) (hst : (st.map fun v => v.category).sum ≤ 8) (hret : ∀ (v : Option Value) (w' : Wd), P v w' → Go X g 0 0 Q w' (pc + 3) lp (v.toList ++ st)) : Go X g 0 0 Q w pc lp (.ref (g.1 0) :: st) :=
  kL_50 hc hd hcon hdd hst (Nat.zero_le _) (Nat.zero_le _) (fun v w' h => hret v w' (Rp_l h)) (fun cn w' h => absurd h Rp_r)
theorem kL_50t {d' : Nat} {cn : String} {P : Wd → Prop} {P2 : Rt → Wd → Prop} (hc : Ok X g cc "PairedFieldLaw" ret [] d) (hd : decode cc pc = .ok (.invokevirtual 50, 3)) (hcon : Con X.2.1 g yF_close bF_close 1 ((some .int)) [] d' 1 6 (.ref (g.1 0) :: []) w (Tp cn P)) (hdd : d' + 1 ≤ d) (hst : (st.map fun v => v.category).sum ≤ 8) (h1 : 1 ≤ X.2.2.2.1.cells) (h6 : 6 ≤ X.2.2.2.1.slots) (hP : ∀ w' : Wd, P w' → P2 (.inr cn) w') : Go X g 0 0 (Fen X g 1 6 P2) w pc lp (.ref (g.1 0) :: st) :=
  kL_50 hc hd hcon hdd hst (by omega) (by omega) (fun v w' h => absurd h Tp_l) (fun cn2 w' h => by obtain ⟨rfl, h⟩ := h; exact x_out hc (hP w' h))
/-- PairedField: a call of PairedField.closeRound -/
theorem kF_132 {d' k n : Nat} {P : Rt → Wd → Prop} (hc : Ok X g cc "PairedField" ret hx d) (hd : decode cc pc = .ok (.invokevirtual 132, 3)) (hcon : Con X.2.1 g yF_closeRound bF_closeRound 1 ((none : Option Jvm.ClassFile.FieldType)) [] d' k n (.ref (g.1 0) :: []) w P) (hdd : d' + 1 ≤ d) (hst : (st.map fun v => v.category).sum ≤ 8) (hcells : kc + k ≤ X.2.2.2.1.cells) (hslots : ks + n ≤ X.2.2.2.1.slots)
    (hret : ∀ (v : Option Value) (w' : Wd), P (.inl v) w' → Go X g (kc + k) (ks + n) Q w' (pc + 3) lp (v.toList ++ st)) (hthr : ∀ (cn : String) (w' : Wd), P (.inr cn) w' → GoX X g (kc + k) (ks + n) Q w' pc lp cn) : Go X g kc ks Q w pc lp (.ref (g.1 0) :: st) :=
  r_callv (av := []) (nL' := 1) (q := 0) (ci := 0) (C := R_F) (Tc := T_F) (N := 8) hc hd hcon (t3_mem 32 rfl rfl) (t3_mem 34 rfl rfl) (t0_mem 20 rfl rfl) (t3_mem 35 rfl rfl) (by decide) (by decide +kernel) (show (parseMethodDescriptor yF_closeRound.desc).map (fun d => d.parameters.length) = some 0 by decide +kernel) (by decide) (ent_F g (w 0)) rfl hdd (by decide) (fun v hv => by cases hv) (Nat.le_of_ble_eq_true rfl) hst hcells hslots hret hthr
theorem kF_132r {d' : Nat} {P : Option Value → Wd → Prop} (hc : Ok X g cc "PairedField" ret hx d) (hd : decode cc pc = .ok (.invokevirtual 132, 3)) (hcon : Con X.2.1 g yF_closeRound bF_closeRound 1 ((none : Option Jvm.ClassFile.FieldType)) [] d' 0 0 (.ref (g.1 0) :: []) w (Rp P)) (hdd : d' + 1 ≤ d) (hst : (st.map fun v => v.category).sum ≤ 8) (hret : ∀ (v : Option Value) (w' : Wd), P v w' → Go X g 0 0 Q w' (pc + 3) lp (v.toList ++ st)) : Go X g 0 0 Q w pc lp (.ref (g.1 0) :: st) :=
  kF_132 hc hd hcon hdd hst (Nat.zero_le _) (Nat.zero_le _) (fun v w' h => hret v w' (Rp_l h)) (fun cn w' h => absurd h Rp_r)
theorem kF_132t {d' : Nat} {cn : String} {P : Wd → Prop} {P2 : Rt → Wd → Prop} (hc : Ok X g cc "PairedField" ret [] d) (hd : decode cc pc = .ok (.invokevirtual 132, 3)) (hcon : Con X.2.1 g yF_closeRound bF_closeRound 1 ((none : Option Jvm.ClassFile.FieldType)) [] d' 1 6 (.ref (g.1 0) :: []) w (Tp cn P)) (hdd : d' + 1 ≤ d) (hst : (st.map fun v => v.category).sum ≤ 8) (h1 : 1 ≤ X.2.2.2.1.cells) (h6 : 6 ≤ X.2.2.2.1.slots) (hP : ∀ w' : Wd, P w' → P2 (.inr cn) w') : Go X g 0 0 (Fen X g 1 6 P2) w pc lp (.ref (g.1 0) :: st) :=
  kF_132 hc hd hcon hdd hst (by omega) (by omega) (fun v w' h => absurd h Tp_l) (fun cn2 w' h => by obtain ⟨rfl, h⟩ := h; exact x_out hc (hP w' h))
/-- PairedField: a call of PairedField$Standing.recount -/
theorem kF_141 {d' k n : Nat} {P : Rt → Wd → Prop} {a0 : Nat} {a1 : Int32} (hc : Ok X g cc "PairedField" ret hx d) (hd : decode cc pc = .ok (.invokevirtual 141, 3)) (hcon : Con X.2.1 g yS_recount bS_recount 5 ((none : Option Jvm.ClassFile.FieldType)) [] d' k n (.ref (g.1 20) :: [.ref a0, .int a1]) w P) (hdd : d' + 1 ≤ d) (hst : (st.map fun v => v.category).sum ≤ 8) (hcells : kc + k ≤ X.2.2.2.1.cells) (hslots : ks + n ≤ X.2.2.2.1.slots)
    (hret : ∀ (v : Option Value) (w' : Wd), P (.inl v) w' → Go X g (kc + k) (ks + n) Q w' (pc + 3) lp (v.toList ++ st)) (hthr : ∀ (cn : String) (w' : Wd), P (.inr cn) w' → GoX X g (kc + k) (ks + n) Q w' pc lp cn) : Go X g kc ks Q w pc lp (.int a1 :: .ref a0 :: .ref (g.1 20) :: st) :=
  r_callv (av := [.ref a0, .int a1]) (nL' := 5) (q := 20) (ci := 1) (C := R_S) (Tc := T_S) (N := 10) hc hd hcon (t3_mem 36 rfl rfl) (t3_mem 37 rfl rfl) (t3_mem 38 rfl rfl) (t3_mem 39 rfl rfl) (by decide) (by decide +kernel) (show (parseMethodDescriptor yS_recount.desc).map (fun d => d.parameters.length) = some 2 by decide +kernel) (by decide) (ent_S g (w 20)) rfl hdd (by decide) (fun v hv => by simp only [List.mem_cons, List.not_mem_nil, or_false] at hv; rcases hv with rfl | rfl <;> rfl) (Nat.le_of_ble_eq_true rfl) hst hcells hslots hret hthr
theorem kF_141r {d' : Nat} {P : Option Value → Wd → Prop} {a0 : Nat} {a1 : Int32} (hc : Ok X g cc "PairedField" ret hx d) (hd : decode cc pc = .ok (.invokevirtual 141, 3)) (hcon : Con X.2.1 g yS_recount bS_recount 5 ((none : Option Jvm.ClassFile.FieldType)) [] d' 0 0 (.ref (g.1 20) :: [.ref a0, .int a1]) w (Rp P)) (hdd : d' + 1 ≤ d) (hst : (st.map fun v => v.category).sum ≤ 8) (hret : ∀ (v : Option Value) (w' : Wd), P v w' → Go X g 0 0 Q w' (pc + 3) lp (v.toList ++ st)) : Go X g 0 0 Q w pc lp (.int a1 :: .ref a0 :: .ref (g.1 20) :: st) :=
  kF_141 hc hd hcon hdd hst (Nat.zero_le _) (Nat.zero_le _) (fun v w' h => hret v w' (Rp_l h)) (fun cn w' h => absurd h Rp_r)
theorem kF_141t {d' : Nat} {cn : String} {P : Wd → Prop} {P2 : Rt → Wd → Prop} {a0 : Nat} {a1 : Int32} (hc : Ok X g cc "PairedField" ret [] d) (hd : decode cc pc = .ok (.invokevirtual 141, 3)) (hcon : Con X.2.1 g yS_recount bS_recount 5 ((none : Option Jvm.ClassFile.FieldType)) [] d' 1 6 (.ref (g.1 20) :: [.ref a0, .int a1]) w (Tp cn P)) (hdd : d' + 1 ≤ d) (hst : (st.map fun v => v.category).sum ≤ 8) (h1 : 1 ≤ X.2.2.2.1.cells) (h6 : 6 ≤ X.2.2.2.1.slots) (hP : ∀ w' : Wd, P w' → P2 (.inr cn) w') : Go X g 0 0 (Fen X g 1 6 P2) w pc lp (.int a1 :: .ref a0 :: .ref (g.1 20) :: st) :=
  kF_141 hc hd hcon hdd hst (by omega) (by omega) (fun v w' h => absurd h Tp_l) (fun cn2 w' h => by obtain ⟨rfl, h⟩ := h; exact x_out hc (hP w' h))
/-- PairedField$Standing: a call of PairedField$Standing.clear -/
theorem kS_42 {d' k n : Nat} {P : Rt → Wd → Prop} (hc : Ok X g cc "PairedField$Standing" ret hx d) (hd : decode cc pc = .ok (.invokevirtual 42, 3)) (hcon : Con X.2.1 g yS_clear bS_clear 1 ((none : Option Jvm.ClassFile.FieldType)) [] d' k n (.ref (g.1 20) :: []) w P) (hdd : d' + 1 ≤ d) (hst : (st.map fun v => v.category).sum ≤ 8) (hcells : kc + k ≤ X.2.2.2.1.cells) (hslots : ks + n ≤ X.2.2.2.1.slots)
    (hret : ∀ (v : Option Value) (w' : Wd), P (.inl v) w' → Go X g (kc + k) (ks + n) Q w' (pc + 3) lp (v.toList ++ st)) (hthr : ∀ (cn : String) (w' : Wd), P (.inr cn) w' → GoX X g (kc + k) (ks + n) Q w' pc lp cn) : Go X g kc ks Q w pc lp (.ref (g.1 20) :: st) :=
  r_callv (av := []) (nL' := 1) (q := 20) (ci := 1) (C := R_S) (Tc := T_S) (N := 10) hc hd hcon (t3_mem 40 rfl rfl) (t3_mem 42 rfl rfl) (t0_mem 21 rfl rfl) (t3_mem 43 rfl rfl) (by decide) (by decide +kernel) (show (parseMethodDescriptor yS_clear.desc).map (fun d => d.parameters.length) = some 0 by decide +kernel) (by decide) (ent_S g (w 20)) rfl hdd (by decide) (fun v hv => by cases hv) (Nat.le_of_ble_eq_true rfl) hst hcells hslots hret hthr
theorem kS_42r {d' : Nat} {P : Option Value → Wd → Prop} (hc : Ok X g cc "PairedField$Standing" ret hx d) (hd : decode cc pc = .ok (.invokevirtual 42, 3)) (hcon : Con X.2.1 g yS_clear bS_clear 1 ((none : Option Jvm.ClassFile.FieldType)) [] d' 0 0 (.ref (g.1 20) :: []) w (Rp P)) (hdd : d' + 1 ≤ d) (hst : (st.map fun v => v.category).sum ≤ 8) (hret : ∀ (v : Option Value) (w' : Wd), P v w' → Go X g 0 0 Q w' (pc + 3) lp (v.toList ++ st)) : Go X g 0 0 Q w pc lp (.ref (g.1 20) :: st) :=
  kS_42 hc hd hcon hdd hst (Nat.zero_le _) (Nat.zero_le _) (fun v w' h => hret v w' (Rp_l h)) (fun cn w' h => absurd h Rp_r)
theorem kS_42t {d' : Nat} {cn : String} {P : Wd → Prop} {P2 : Rt → Wd → Prop} (hc : Ok X g cc "PairedField$Standing" ret [] d) (hd : decode cc pc = .ok (.invokevirtual 42, 3)) (hcon : Con X.2.1 g yS_clear bS_clear 1 ((none : Option Jvm.ClassFile.FieldType)) [] d' 1 6 (.ref (g.1 20) :: []) w (Tp cn P)) (hdd : d' + 1 ≤ d) (hst : (st.map fun v => v.category).sum ≤ 8) (h1 : 1 ≤ X.2.2.2.1.cells) (h6 : 6 ≤ X.2.2.2.1.slots) (hP : ∀ w' : Wd, P w' → P2 (.inr cn) w') : Go X g 0 0 (Fen X g 1 6 P2) w pc lp (.ref (g.1 20) :: st) :=
  kS_42 hc hd hcon hdd hst (by omega) (by omega) (fun v w' h => absurd h Tp_l) (fun cn2 w' h => by obtain ⟨rfl, h⟩ := h; exact x_out hc (hP w' h))
/-- PairedField$Standing: a call of java/util/Arrays.fill -/
theorem kS_52 {d' k n : Nat} {P : Rt → Wd → Prop} {a0 : Nat} {a1 : Int32} (hc : Ok X g cc "PairedField$Standing" ret hx d) (hd : decode cc pc = .ok (.invokestatic 52, 3)) (hcon : Con X.2.1 g yA_fill bA_fill 4 ((none : Option Jvm.ClassFile.FieldType)) [] d' k n [.ref a0, .int a1] w P) (hdd : d' + 1 ≤ d) (hst : (st.map fun v => v.category).sum ≤ 8) (hcells : kc + k ≤ X.2.2.2.1.cells) (hslots : ks + n ≤ X.2.2.2.1.slots)
    (hret : ∀ (v : Option Value) (w' : Wd), P (.inl v) w' → Go X g (kc + k) (ks + n) Q w' (pc + 3) lp (v.toList ++ st)) (hthr : ∀ (cn : String) (w' : Wd), P (.inr cn) w' → GoX X g (kc + k) (ks + n) Q w' pc lp cn) : Go X g kc ks Q w pc lp (.int a1 :: .ref a0 :: st) :=
  r_calls (av := [.ref a0, .int a1]) (nL' := 4) hc hd hcon (t3_mem 44 rfl rfl) (t2_mem 174 rfl rfl) (t1_mem 14 rfl rfl) (t2_mem 175 rfl rfl) (by decide) (by decide +kernel) (show (parseMethodDescriptor yA_fill.desc).map (fun d => d.parameters.length) = some 2 by decide +kernel) hdd (by decide) (fun v hv => by simp only [List.mem_cons, List.not_mem_nil, or_false] at hv; rcases hv with rfl | rfl <;> rfl) (Nat.le_of_ble_eq_true rfl) hst hcells hslots hret hthr
theorem kS_52r {d' : Nat} {P : Option Value → Wd → Prop} {a0 : Nat} {a1 : Int32} (hc : Ok X g cc "PairedField$Standing" ret hx d) (hd : decode cc pc = .ok (.invokestatic 52, 3)) (hcon : Con X.2.1 g yA_fill bA_fill 4 ((none : Option Jvm.ClassFile.FieldType)) [] d' 0 0 [.ref a0, .int a1] w (Rp P)) (hdd : d' + 1 ≤ d) (hst : (st.map fun v => v.category).sum ≤ 8) (hret : ∀ (v : Option Value) (w' : Wd), P v w' → Go X g 0 0 Q w' (pc + 3) lp (v.toList ++ st)) : Go X g 0 0 Q w pc lp (.int a1 :: .ref a0 :: st) :=
  kS_52 hc hd hcon hdd hst (Nat.zero_le _) (Nat.zero_le _) (fun v w' h => hret v w' (Rp_l h)) (fun cn w' h => absurd h Rp_r)
theorem kS_52t {d' : Nat} {cn : String} {P : Wd → Prop} {P2 : Rt → Wd → Prop} {a0 : Nat} {a1 : Int32} (hc : Ok X g cc "PairedField$Standing" ret [] d) (hd : decode cc pc = .ok (.invokestatic 52, 3)) (hcon : Con X.2.1 g yA_fill bA_fill 4 ((none : Option Jvm.ClassFile.FieldType)) [] d' 1 6 [.ref a0, .int a1] w (Tp cn P)) (hdd : d' + 1 ≤ d) (hst : (st.map fun v => v.category).sum ≤ 8) (h1 : 1 ≤ X.2.2.2.1.cells) (h6 : 6 ≤ X.2.2.2.1.slots) (hP : ∀ w' : Wd, P w' → P2 (.inr cn) w') : Go X g 0 0 (Fen X g 1 6 P2) w pc lp (.int a1 :: .ref a0 :: st) :=
  kS_52 hc hd hcon hdd hst (by omega) (by omega) (fun v w' h => absurd h Tp_l) (fun cn2 w' h => by obtain ⟨rfl, h⟩ := h; exact x_out hc (hP w' h))
/-- PairedField$Standing: a call of PairedField$Standing.countCell -/
theorem kS_45 {d' k n : Nat} {P : Rt → Wd → Prop} {a0 : Int32} {a1 : Int32} (hc : Ok X g cc "PairedField$Standing" ret hx d) (hd : decode cc pc = .ok (.invokevirtual 45, 3)) (hcon : Con X.2.1 g yS_countCell bS_countCell 4 ((none : Option Jvm.ClassFile.FieldType)) [] d' k n (.ref (g.1 20) :: [.int a0, .int a1]) w P) (hdd : d' + 1 ≤ d) (hst : (st.map fun v => v.category).sum ≤ 8) (hcells : kc + k ≤ X.2.2.2.1.cells) (hslots : ks + n ≤ X.2.2.2.1.slots)
    (hret : ∀ (v : Option Value) (w' : Wd), P (.inl v) w' → Go X g (kc + k) (ks + n) Q w' (pc + 3) lp (v.toList ++ st)) (hthr : ∀ (cn : String) (w' : Wd), P (.inr cn) w' → GoX X g (kc + k) (ks + n) Q w' pc lp cn) : Go X g kc ks Q w pc lp (.int a1 :: .int a0 :: .ref (g.1 20) :: st) :=
  r_callv (av := [.int a0, .int a1]) (nL' := 4) (q := 20) (ci := 1) (C := R_S) (Tc := T_S) (N := 10) hc hd hcon (t3_mem 45 rfl rfl) (t3_mem 47 rfl rfl) (t0_mem 22 rfl rfl) (t3_mem 48 rfl rfl) (by decide) (by decide +kernel) (show (parseMethodDescriptor yS_countCell.desc).map (fun d => d.parameters.length) = some 2 by decide +kernel) (by decide) (ent_S g (w 20)) rfl hdd (by decide) (fun v hv => by simp only [List.mem_cons, List.not_mem_nil, or_false] at hv; rcases hv with rfl | rfl <;> rfl) (Nat.le_of_ble_eq_true rfl) hst hcells hslots hret hthr
theorem kS_45r {d' : Nat} {P : Option Value → Wd → Prop} {a0 : Int32} {a1 : Int32} (hc : Ok X g cc "PairedField$Standing" ret hx d) (hd : decode cc pc = .ok (.invokevirtual 45, 3)) (hcon : Con X.2.1 g yS_countCell bS_countCell 4 ((none : Option Jvm.ClassFile.FieldType)) [] d' 0 0 (.ref (g.1 20) :: [.int a0, .int a1]) w (Rp P)) (hdd : d' + 1 ≤ d) (hst : (st.map fun v => v.category).sum ≤ 8) (hret : ∀ (v : Option Value) (w' : Wd), P v w' → Go X g 0 0 Q w' (pc + 3) lp (v.toList ++ st)) : Go X g 0 0 Q w pc lp (.int a1 :: .int a0 :: .ref (g.1 20) :: st) :=
  kS_45 hc hd hcon hdd hst (Nat.zero_le _) (Nat.zero_le _) (fun v w' h => hret v w' (Rp_l h)) (fun cn w' h => absurd h Rp_r)
theorem kS_45t {d' : Nat} {cn : String} {P : Wd → Prop} {P2 : Rt → Wd → Prop} {a0 : Int32} {a1 : Int32} (hc : Ok X g cc "PairedField$Standing" ret [] d) (hd : decode cc pc = .ok (.invokevirtual 45, 3)) (hcon : Con X.2.1 g yS_countCell bS_countCell 4 ((none : Option Jvm.ClassFile.FieldType)) [] d' 1 6 (.ref (g.1 20) :: [.int a0, .int a1]) w (Tp cn P)) (hdd : d' + 1 ≤ d) (hst : (st.map fun v => v.category).sum ≤ 8) (h1 : 1 ≤ X.2.2.2.1.cells) (h6 : 6 ≤ X.2.2.2.1.slots) (hP : ∀ w' : Wd, P w' → P2 (.inr cn) w') : Go X g 0 0 (Fen X g 1 6 P2) w pc lp (.int a1 :: .int a0 :: .ref (g.1 20) :: st) :=
  kS_45 hc hd hcon hdd hst (by omega) (by omega) (fun v w' h => absurd h Tp_l) (fun cn2 w' h => by obtain ⟨rfl, h⟩ := h; exact x_out hc (hP w' h))
/-- PairedField$Standing: a call of PairedField$Cell.resultIn -/
theorem kS_58 {d' k n : Nat} {P : Rt → Wd → Prop} {a0 : Int32} (hc : Ok X g cc "PairedField$Standing" ret hx d) (hd : decode cc pc = .ok (.invokestatic 58, 3)) (hcon : Con X.2.1 g yC_resultIn bC_resultIn 1 ((some .int)) [] d' k n [.int a0] w P) (hdd : d' + 1 ≤ d) (hst : (st.map fun v => v.category).sum ≤ 8) (hcells : kc + k ≤ X.2.2.2.1.cells) (hslots : ks + n ≤ X.2.2.2.1.slots)
    (hret : ∀ (v : Option Value) (w' : Wd), P (.inl v) w' → Go X g (kc + k) (ks + n) Q w' (pc + 3) lp (v.toList ++ st)) (hthr : ∀ (cn : String) (w' : Wd), P (.inr cn) w' → GoX X g (kc + k) (ks + n) Q w' pc lp cn) : Go X g kc ks Q w pc lp (.int a0 :: st) :=
  r_calls (av := [.int a0]) (nL' := 1) hc hd hcon (t3_mem 49 rfl rfl) (t3_mem 5 rfl rfl) (t1_mem 15 rfl rfl) (t3_mem 6 rfl rfl) (by decide) (by decide +kernel) (show (parseMethodDescriptor yC_resultIn.desc).map (fun d => d.parameters.length) = some 1 by decide +kernel) hdd (by decide) (fun v hv => by simp only [List.mem_cons, List.not_mem_nil, or_false] at hv; rcases hv with rfl <;> rfl) (Nat.le_of_ble_eq_true rfl) hst hcells hslots hret hthr
theorem kS_58r {d' : Nat} {P : Option Value → Wd → Prop} {a0 : Int32} (hc : Ok X g cc "PairedField$Standing" ret hx d) (hd : decode cc pc = .ok (.invokestatic 58, 3)) (hcon : Con X.2.1 g yC_resultIn bC_resultIn 1 ((some .int)) [] d' 0 0 [.int a0] w (Rp P)) (hdd : d' + 1 ≤ d) (hst : (st.map fun v => v.category).sum ≤ 8) (hret : ∀ (v : Option Value) (w' : Wd), P v w' → Go X g 0 0 Q w' (pc + 3) lp (v.toList ++ st)) : Go X g 0 0 Q w pc lp (.int a0 :: st) :=
  kS_58 hc hd hcon hdd hst (Nat.zero_le _) (Nat.zero_le _) (fun v w' h => hret v w' (Rp_l h)) (fun cn w' h => absurd h Rp_r)
theorem kS_58t {d' : Nat} {cn : String} {P : Wd → Prop} {P2 : Rt → Wd → Prop} {a0 : Int32} (hc : Ok X g cc "PairedField$Standing" ret [] d) (hd : decode cc pc = .ok (.invokestatic 58, 3)) (hcon : Con X.2.1 g yC_resultIn bC_resultIn 1 ((some .int)) [] d' 1 6 [.int a0] w (Tp cn P)) (hdd : d' + 1 ≤ d) (hst : (st.map fun v => v.category).sum ≤ 8) (h1 : 1 ≤ X.2.2.2.1.cells) (h6 : 6 ≤ X.2.2.2.1.slots) (hP : ∀ w' : Wd, P w' → P2 (.inr cn) w') : Go X g 0 0 (Fen X g 1 6 P2) w pc lp (.int a0 :: st) :=
  kS_58 hc hd hcon hdd hst (by omega) (by omega) (fun v w' h => absurd h Tp_l) (fun cn2 w' h => by obtain ⟨rfl, h⟩ := h; exact x_out hc (hP w' h))
/-- PairedField$Standing: a call of PairedField$Cell.isGame -/
theorem kS_64 {d' k n : Nat} {P : Rt → Wd → Prop} {a0 : Int32} (hc : Ok X g cc "PairedField$Standing" ret hx d) (hd : decode cc pc = .ok (.invokestatic 64, 3)) (hcon : Con X.2.1 g yC_isGame bC_isGame 1 ((some .boolean)) [] d' k n [.int a0] w P) (hdd : d' + 1 ≤ d) (hst : (st.map fun v => v.category).sum ≤ 8) (hcells : kc + k ≤ X.2.2.2.1.cells) (hslots : ks + n ≤ X.2.2.2.1.slots)
    (hret : ∀ (v : Option Value) (w' : Wd), P (.inl v) w' → Go X g (kc + k) (ks + n) Q w' (pc + 3) lp (v.toList ++ st)) (hthr : ∀ (cn : String) (w' : Wd), P (.inr cn) w' → GoX X g (kc + k) (ks + n) Q w' pc lp cn) : Go X g kc ks Q w pc lp (.int a0 :: st) :=
  r_calls (av := [.int a0]) (nL' := 1) hc hd hcon (t3_mem 50 rfl rfl) (t2_mem 227 rfl rfl) (t1_mem 15 rfl rfl) (t2_mem 228 rfl rfl) (by decide) (by decide +kernel) (show (parseMethodDescriptor yC_isGame.desc).map (fun d => d.parameters.length) = some 1 by decide +kernel) hdd (by decide) (fun v hv => by simp only [List.mem_cons, List.not_mem_nil, or_false] at hv; rcases hv with rfl <;> rfl) (Nat.le_of_ble_eq_true rfl) hst hcells hslots hret hthr
theorem kS_64r {d' : Nat} {P : Option Value → Wd → Prop} {a0 : Int32} (hc : Ok X g cc "PairedField$Standing" ret hx d) (hd : decode cc pc = .ok (.invokestatic 64, 3)) (hcon : Con X.2.1 g yC_isGame bC_isGame 1 ((some .boolean)) [] d' 0 0 [.int a0] w (Rp P)) (hdd : d' + 1 ≤ d) (hst : (st.map fun v => v.category).sum ≤ 8) (hret : ∀ (v : Option Value) (w' : Wd), P v w' → Go X g 0 0 Q w' (pc + 3) lp (v.toList ++ st)) : Go X g 0 0 Q w pc lp (.int a0 :: st) :=
  kS_64 hc hd hcon hdd hst (Nat.zero_le _) (Nat.zero_le _) (fun v w' h => hret v w' (Rp_l h)) (fun cn w' h => absurd h Rp_r)
theorem kS_64t {d' : Nat} {cn : String} {P : Wd → Prop} {P2 : Rt → Wd → Prop} {a0 : Int32} (hc : Ok X g cc "PairedField$Standing" ret [] d) (hd : decode cc pc = .ok (.invokestatic 64, 3)) (hcon : Con X.2.1 g yC_isGame bC_isGame 1 ((some .boolean)) [] d' 1 6 [.int a0] w (Tp cn P)) (hdd : d' + 1 ≤ d) (hst : (st.map fun v => v.category).sum ≤ 8) (h1 : 1 ≤ X.2.2.2.1.cells) (h6 : 6 ≤ X.2.2.2.1.slots) (hP : ∀ w' : Wd, P w' → P2 (.inr cn) w') : Go X g 0 0 (Fen X g 1 6 P2) w pc lp (.int a0 :: st) :=
  kS_64 hc hd hcon hdd hst (by omega) (by omega) (fun v w' h => absurd h Tp_l) (fun cn2 w' h => by obtain ⟨rfl, h⟩ := h; exact x_out hc (hP w' h))
/-- PairedField$Standing: a call of PairedField$Cell.colourIn -/
theorem kS_68 {d' k n : Nat} {P : Rt → Wd → Prop} {a0 : Int32} (hc : Ok X g cc "PairedField$Standing" ret hx d) (hd : decode cc pc = .ok (.invokestatic 68, 3)) (hcon : Con X.2.1 g yC_colourIn bC_colourIn 1 ((some .int)) [] d' k n [.int a0] w P) (hdd : d' + 1 ≤ d) (hst : (st.map fun v => v.category).sum ≤ 8) (hcells : kc + k ≤ X.2.2.2.1.cells) (hslots : ks + n ≤ X.2.2.2.1.slots)
    (hret : ∀ (v : Option Value) (w' : Wd), P (.inl v) w' → Go X g (kc + k) (ks + n) Q w' (pc + 3) lp (v.toList ++ st)) (hthr : ∀ (cn : String) (w' : Wd), P (.inr cn) w' → GoX X g (kc + k) (ks + n) Q w' pc lp cn) : Go X g kc ks Q w pc lp (.int a0 :: st) :=
  r_calls (av := [.int a0]) (nL' := 1) hc hd hcon (t3_mem 51 rfl rfl) (t2_mem 230 rfl rfl) (t1_mem 15 rfl rfl) (t2_mem 231 rfl rfl) (by decide) (by decide +kernel) (show (parseMethodDescriptor yC_colourIn.desc).map (fun d => d.parameters.length) = some 1 by decide +kernel) hdd (by decide) (fun v hv => by simp only [List.mem_cons, List.not_mem_nil, or_false] at hv; rcases hv with rfl <;> rfl) (Nat.le_of_ble_eq_true rfl) hst hcells hslots hret hthr
theorem kS_68r {d' : Nat} {P : Option Value → Wd → Prop} {a0 : Int32} (hc : Ok X g cc "PairedField$Standing" ret hx d) (hd : decode cc pc = .ok (.invokestatic 68, 3)) (hcon : Con X.2.1 g yC_colourIn bC_colourIn 1 ((some .int)) [] d' 0 0 [.int a0] w (Rp P)) (hdd : d' + 1 ≤ d) (hst : (st.map fun v => v.category).sum ≤ 8) (hret : ∀ (v : Option Value) (w' : Wd), P v w' → Go X g 0 0 Q w' (pc + 3) lp (v.toList ++ st)) : Go X g 0 0 Q w pc lp (.int a0 :: st) :=
  kS_68 hc hd hcon hdd hst (Nat.zero_le _) (Nat.zero_le _) (fun v w' h => hret v w' (Rp_l h)) (fun cn w' h => absurd h Rp_r)
theorem kS_68t {d' : Nat} {cn : String} {P : Wd → Prop} {P2 : Rt → Wd → Prop} {a0 : Int32} (hc : Ok X g cc "PairedField$Standing" ret [] d) (hd : decode cc pc = .ok (.invokestatic 68, 3)) (hcon : Con X.2.1 g yC_colourIn bC_colourIn 1 ((some .int)) [] d' 1 6 [.int a0] w (Tp cn P)) (hdd : d' + 1 ≤ d) (hst : (st.map fun v => v.category).sum ≤ 8) (h1 : 1 ≤ X.2.2.2.1.cells) (h6 : 6 ≤ X.2.2.2.1.slots) (hP : ∀ w' : Wd, P w' → P2 (.inr cn) w') : Go X g 0 0 (Fen X g 1 6 P2) w pc lp (.int a0 :: st) :=
  kS_68 hc hd hcon hdd hst (by omega) (by omega) (fun v w' h => absurd h Tp_l) (fun cn2 w' h => by obtain ⟨rfl, h⟩ := h; exact x_out hc (hP w' h))
/-- PairedField$Standing: a call of PairedField$Cell.opponentIn -/
theorem kS_71 {d' k n : Nat} {P : Rt → Wd → Prop} {a0 : Int32} (hc : Ok X g cc "PairedField$Standing" ret hx d) (hd : decode cc pc = .ok (.invokestatic 71, 3)) (hcon : Con X.2.1 g yC_opponentIn bC_opponentIn 1 ((some .int)) [] d' k n [.int a0] w P) (hdd : d' + 1 ≤ d) (hst : (st.map fun v => v.category).sum ≤ 8) (hcells : kc + k ≤ X.2.2.2.1.cells) (hslots : ks + n ≤ X.2.2.2.1.slots)
    (hret : ∀ (v : Option Value) (w' : Wd), P (.inl v) w' → Go X g (kc + k) (ks + n) Q w' (pc + 3) lp (v.toList ++ st)) (hthr : ∀ (cn : String) (w' : Wd), P (.inr cn) w' → GoX X g (kc + k) (ks + n) Q w' pc lp cn) : Go X g kc ks Q w pc lp (.int a0 :: st) :=
  r_calls (av := [.int a0]) (nL' := 1) hc hd hcon (t3_mem 52 rfl rfl) (t2_mem 217 rfl rfl) (t1_mem 15 rfl rfl) (t2_mem 218 rfl rfl) (by decide) (by decide +kernel) (show (parseMethodDescriptor yC_opponentIn.desc).map (fun d => d.parameters.length) = some 1 by decide +kernel) hdd (by decide) (fun v hv => by simp only [List.mem_cons, List.not_mem_nil, or_false] at hv; rcases hv with rfl <;> rfl) (Nat.le_of_ble_eq_true rfl) hst hcells hslots hret hthr
theorem kS_71r {d' : Nat} {P : Option Value → Wd → Prop} {a0 : Int32} (hc : Ok X g cc "PairedField$Standing" ret hx d) (hd : decode cc pc = .ok (.invokestatic 71, 3)) (hcon : Con X.2.1 g yC_opponentIn bC_opponentIn 1 ((some .int)) [] d' 0 0 [.int a0] w (Rp P)) (hdd : d' + 1 ≤ d) (hst : (st.map fun v => v.category).sum ≤ 8) (hret : ∀ (v : Option Value) (w' : Wd), P v w' → Go X g 0 0 Q w' (pc + 3) lp (v.toList ++ st)) : Go X g 0 0 Q w pc lp (.int a0 :: st) :=
  kS_71 hc hd hcon hdd hst (Nat.zero_le _) (Nat.zero_le _) (fun v w' h => hret v w' (Rp_l h)) (fun cn w' h => absurd h Rp_r)
theorem kS_71t {d' : Nat} {cn : String} {P : Wd → Prop} {P2 : Rt → Wd → Prop} {a0 : Int32} (hc : Ok X g cc "PairedField$Standing" ret [] d) (hd : decode cc pc = .ok (.invokestatic 71, 3)) (hcon : Con X.2.1 g yC_opponentIn bC_opponentIn 1 ((some .int)) [] d' 1 6 [.int a0] w (Tp cn P)) (hdd : d' + 1 ≤ d) (hst : (st.map fun v => v.category).sum ≤ 8) (h1 : 1 ≤ X.2.2.2.1.cells) (h6 : 6 ≤ X.2.2.2.1.slots) (hP : ∀ w' : Wd, P w' → P2 (.inr cn) w') : Go X g 0 0 (Fen X g 1 6 P2) w pc lp (.int a0 :: st) :=
  kS_71 hc hd hcon hdd hst (by omega) (by omega) (fun v w' h => absurd h Tp_l) (fun cn2 w' h => by obtain ⟨rfl, h⟩ := h; exact x_out hc (hP w' h))
/-- PairedField$Standing: a call of PairedField$Standing.countOpponent -/
theorem kS_49 {d' k n : Nat} {P : Rt → Wd → Prop} {a0 : Int32} {a1 : Int32} (hc : Ok X g cc "PairedField$Standing" ret hx d) (hd : decode cc pc = .ok (.invokevirtual 49, 3)) (hcon : Con X.2.1 g yS_countOpponent bS_countOpponent 4 ((none : Option Jvm.ClassFile.FieldType)) [] d' k n (.ref (g.1 20) :: [.int a0, .int a1]) w P) (hdd : d' + 1 ≤ d) (hst : (st.map fun v => v.category).sum ≤ 8) (hcells : kc + k ≤ X.2.2.2.1.cells) (hslots : ks + n ≤ X.2.2.2.1.slots)
    (hret : ∀ (v : Option Value) (w' : Wd), P (.inl v) w' → Go X g (kc + k) (ks + n) Q w' (pc + 3) lp (v.toList ++ st)) (hthr : ∀ (cn : String) (w' : Wd), P (.inr cn) w' → GoX X g (kc + k) (ks + n) Q w' pc lp cn) : Go X g kc ks Q w pc lp (.int a1 :: .int a0 :: .ref (g.1 20) :: st) :=
  r_callv (av := [.int a0, .int a1]) (nL' := 4) (q := 20) (ci := 1) (C := R_S) (Tc := T_S) (N := 10) hc hd hcon (t3_mem 53 rfl rfl) (t3_mem 55 rfl rfl) (t0_mem 23 rfl rfl) (t3_mem 56 rfl rfl) (by decide) (by decide +kernel) (show (parseMethodDescriptor yS_countOpponent.desc).map (fun d => d.parameters.length) = some 2 by decide +kernel) (by decide) (ent_S g (w 20)) rfl hdd (by decide) (fun v hv => by simp only [List.mem_cons, List.not_mem_nil, or_false] at hv; rcases hv with rfl | rfl <;> rfl) (Nat.le_of_ble_eq_true rfl) hst hcells hslots hret hthr
theorem kS_49r {d' : Nat} {P : Option Value → Wd → Prop} {a0 : Int32} {a1 : Int32} (hc : Ok X g cc "PairedField$Standing" ret hx d) (hd : decode cc pc = .ok (.invokevirtual 49, 3)) (hcon : Con X.2.1 g yS_countOpponent bS_countOpponent 4 ((none : Option Jvm.ClassFile.FieldType)) [] d' 0 0 (.ref (g.1 20) :: [.int a0, .int a1]) w (Rp P)) (hdd : d' + 1 ≤ d) (hst : (st.map fun v => v.category).sum ≤ 8) (hret : ∀ (v : Option Value) (w' : Wd), P v w' → Go X g 0 0 Q w' (pc + 3) lp (v.toList ++ st)) : Go X g 0 0 Q w pc lp (.int a1 :: .int a0 :: .ref (g.1 20) :: st) :=
  kS_49 hc hd hcon hdd hst (Nat.zero_le _) (Nat.zero_le _) (fun v w' h => hret v w' (Rp_l h)) (fun cn w' h => absurd h Rp_r)
theorem kS_49t {d' : Nat} {cn : String} {P : Wd → Prop} {P2 : Rt → Wd → Prop} {a0 : Int32} {a1 : Int32} (hc : Ok X g cc "PairedField$Standing" ret [] d) (hd : decode cc pc = .ok (.invokevirtual 49, 3)) (hcon : Con X.2.1 g yS_countOpponent bS_countOpponent 4 ((none : Option Jvm.ClassFile.FieldType)) [] d' 1 6 (.ref (g.1 20) :: [.int a0, .int a1]) w (Tp cn P)) (hdd : d' + 1 ≤ d) (hst : (st.map fun v => v.category).sum ≤ 8) (h1 : 1 ≤ X.2.2.2.1.cells) (h6 : 6 ≤ X.2.2.2.1.slots) (hP : ∀ w' : Wd, P w' → P2 (.inr cn) w') : Go X g 0 0 (Fen X g 1 6 P2) w pc lp (.int a1 :: .int a0 :: .ref (g.1 20) :: st) :=
  kS_49 hc hd hcon hdd hst (by omega) (by omega) (fun v w' h => absurd h Tp_l) (fun cn2 w' h => by obtain ⟨rfl, h⟩ := h; exact x_out hc (hP w' h))
/-- PairedFieldLaw: a call of PairedField.back -/
theorem kL_53 {d' k n : Nat} {P : Rt → Wd → Prop} (hc : Ok X g cc "PairedFieldLaw" ret hx d) (hd : decode cc pc = .ok (.invokevirtual 53, 3)) (hcon : Con X.2.1 g yF_back bF_back 1 ((some .int)) [] d' k n (.ref (g.1 0) :: []) w P) (hdd : d' + 1 ≤ d) (hst : (st.map fun v => v.category).sum ≤ 8) (hcells : kc + k ≤ X.2.2.2.1.cells) (hslots : ks + n ≤ X.2.2.2.1.slots)
    (hret : ∀ (v : Option Value) (w' : Wd), P (.inl v) w' → Go X g (kc + k) (ks + n) Q w' (pc + 3) lp (v.toList ++ st)) (hthr : ∀ (cn : String) (w' : Wd), P (.inr cn) w' → GoX X g (kc + k) (ks + n) Q w' pc lp cn) : Go X g kc ks Q w pc lp (.ref (g.1 0) :: st) :=
  r_callv (av := []) (nL' := 1) (q := 0) (ci := 0) (C := R_F) (Tc := T_F) (N := 8) hc hd hcon (t3_mem 60 rfl rfl) (t3_mem 61 rfl rfl) (t3_mem 62 rfl rfl) (t3_mem 63 rfl rfl) (by decide) (by decide +kernel) (show (parseMethodDescriptor yF_back.desc).map (fun d => d.parameters.length) = some 0 by decide +kernel) (by decide) (ent_F g (w 0)) rfl hdd (by decide) (fun v hv => by cases hv) (Nat.le_of_ble_eq_true rfl) hst hcells hslots hret hthr
theorem kL_53r {d' : Nat} {P : Option Value → Wd → Prop} (hc : Ok X g cc "PairedFieldLaw" ret hx d) (hd : decode cc pc = .ok (.invokevirtual 53, 3)) (hcon : Con X.2.1 g yF_back bF_back 1 ((some .int)) [] d' 0 0 (.ref (g.1 0) :: []) w (Rp P)) (hdd : d' + 1 ≤ d) (hst : (st.map fun v => v.category).sum ≤ 8) (hret : ∀ (v : Option Value) (w' : Wd), P v w' → Go X g 0 0 Q w' (pc + 3) lp (v.toList ++ st)) : Go X g 0 0 Q w pc lp (.ref (g.1 0) :: st) :=
  kL_53 hc hd hcon hdd hst (Nat.zero_le _) (Nat.zero_le _) (fun v w' h => hret v w' (Rp_l h)) (fun cn w' h => absurd h Rp_r)
theorem kL_53t {d' : Nat} {cn : String} {P : Wd → Prop} {P2 : Rt → Wd → Prop} (hc : Ok X g cc "PairedFieldLaw" ret [] d) (hd : decode cc pc = .ok (.invokevirtual 53, 3)) (hcon : Con X.2.1 g yF_back bF_back 1 ((some .int)) [] d' 1 6 (.ref (g.1 0) :: []) w (Tp cn P)) (hdd : d' + 1 ≤ d) (hst : (st.map fun v => v.category).sum ≤ 8) (h1 : 1 ≤ X.2.2.2.1.cells) (h6 : 6 ≤ X.2.2.2.1.slots) (hP : ∀ w' : Wd, P w' → P2 (.inr cn) w') : Go X g 0 0 (Fen X g 1 6 P2) w pc lp (.ref (g.1 0) :: st) :=
  kL_53 hc hd hcon hdd hst (by omega) (by omega) (fun v w' h => absurd h Tp_l) (fun cn2 w' h => by obtain ⟨rfl, h⟩ := h; exact x_out hc (hP w' h))
/-- PairedFieldLaw: a call of PairedField.play -/
theorem kL_56 {d' k n : Nat} {P : Rt → Wd → Prop} {a0 : Int32} (hc : Ok X g cc "PairedFieldLaw" ret hx d) (hd : decode cc pc = .ok (.invokevirtual 56, 3)) (hcon : Con X.2.1 g yF_play bF_play 3 ((some .int)) [] d' k n (.ref (g.1 0) :: [.int a0]) w P) (hdd : d' + 1 ≤ d) (hst : (st.map fun v => v.category).sum ≤ 8) (hcells : kc + k ≤ X.2.2.2.1.cells) (hslots : ks + n ≤ X.2.2.2.1.slots)
    (hret : ∀ (v : Option Value) (w' : Wd), P (.inl v) w' → Go X g (kc + k) (ks + n) Q w' (pc + 3) lp (v.toList ++ st)) (hthr : ∀ (cn : String) (w' : Wd), P (.inr cn) w' → GoX X g (kc + k) (ks + n) Q w' pc lp cn) : Go X g kc ks Q w pc lp (.int a0 :: .ref (g.1 0) :: st) :=
  r_callv (av := [.int a0]) (nL' := 3) (q := 0) (ci := 0) (C := R_F) (Tc := T_F) (N := 8) hc hd hcon (t3_mem 68 rfl rfl) (t3_mem 69 rfl rfl) (t3_mem 70 rfl rfl) (t3_mem 71 rfl rfl) (by decide) (by decide +kernel) (show (parseMethodDescriptor yF_play.desc).map (fun d => d.parameters.length) = some 1 by decide +kernel) (by decide) (ent_F g (w 0)) rfl hdd (by decide) (fun v hv => by simp only [List.mem_cons, List.not_mem_nil, or_false] at hv; rcases hv with rfl <;> rfl) (Nat.le_of_ble_eq_true rfl) hst hcells hslots hret hthr
theorem kL_56r {d' : Nat} {P : Option Value → Wd → Prop} {a0 : Int32} (hc : Ok X g cc "PairedFieldLaw" ret hx d) (hd : decode cc pc = .ok (.invokevirtual 56, 3)) (hcon : Con X.2.1 g yF_play bF_play 3 ((some .int)) [] d' 0 0 (.ref (g.1 0) :: [.int a0]) w (Rp P)) (hdd : d' + 1 ≤ d) (hst : (st.map fun v => v.category).sum ≤ 8) (hret : ∀ (v : Option Value) (w' : Wd), P v w' → Go X g 0 0 Q w' (pc + 3) lp (v.toList ++ st)) : Go X g 0 0 Q w pc lp (.int a0 :: .ref (g.1 0) :: st) :=
  kL_56 hc hd hcon hdd hst (Nat.zero_le _) (Nat.zero_le _) (fun v w' h => hret v w' (Rp_l h)) (fun cn w' h => absurd h Rp_r)
theorem kL_56t {d' : Nat} {cn : String} {P : Wd → Prop} {P2 : Rt → Wd → Prop} {a0 : Int32} (hc : Ok X g cc "PairedFieldLaw" ret [] d) (hd : decode cc pc = .ok (.invokevirtual 56, 3)) (hcon : Con X.2.1 g yF_play bF_play 3 ((some .int)) [] d' 1 6 (.ref (g.1 0) :: [.int a0]) w (Tp cn P)) (hdd : d' + 1 ≤ d) (hst : (st.map fun v => v.category).sum ≤ 8) (h1 : 1 ≤ X.2.2.2.1.cells) (h6 : 6 ≤ X.2.2.2.1.slots) (hP : ∀ w' : Wd, P w' → P2 (.inr cn) w') : Go X g 0 0 (Fen X g 1 6 P2) w pc lp (.int a0 :: .ref (g.1 0) :: st) :=
  kL_56 hc hd hcon hdd hst (by omega) (by omega) (fun v w' h => absurd h Tp_l) (fun cn2 w' h => by obtain ⟨rfl, h⟩ := h; exact x_out hc (hP w' h))
/-- PairedField: a call of PairedField.noteResultsByNumber -/
theorem kF_147 {d' k n : Nat} {P : Rt → Wd → Prop} (hc : Ok X g cc "PairedField" ret hx d) (hd : decode cc pc = .ok (.invokevirtual 147, 3)) (hcon : Con X.2.1 g yF_noteResultsByNumber bF_noteResultsByNumber 4 ((none : Option Jvm.ClassFile.FieldType)) [] d' k n (.ref (g.1 0) :: []) w P) (hdd : d' + 1 ≤ d) (hst : (st.map fun v => v.category).sum ≤ 8) (hcells : kc + k ≤ X.2.2.2.1.cells) (hslots : ks + n ≤ X.2.2.2.1.slots)
    (hret : ∀ (v : Option Value) (w' : Wd), P (.inl v) w' → Go X g (kc + k) (ks + n) Q w' (pc + 3) lp (v.toList ++ st)) (hthr : ∀ (cn : String) (w' : Wd), P (.inr cn) w' → GoX X g (kc + k) (ks + n) Q w' pc lp cn) : Go X g kc ks Q w pc lp (.ref (g.1 0) :: st) :=
  r_callv (av := []) (nL' := 4) (q := 0) (ci := 0) (C := R_F) (Tc := T_F) (N := 8) hc hd hcon (t3_mem 73 rfl rfl) (t3_mem 75 rfl rfl) (t0_mem 24 rfl rfl) (t3_mem 76 rfl rfl) (by decide) (by decide +kernel) (show (parseMethodDescriptor yF_noteResultsByNumber.desc).map (fun d => d.parameters.length) = some 0 by decide +kernel) (by decide) (ent_F g (w 0)) rfl hdd (by decide) (fun v hv => by cases hv) (Nat.le_of_ble_eq_true rfl) hst hcells hslots hret hthr
theorem kF_147r {d' : Nat} {P : Option Value → Wd → Prop} (hc : Ok X g cc "PairedField" ret hx d) (hd : decode cc pc = .ok (.invokevirtual 147, 3)) (hcon : Con X.2.1 g yF_noteResultsByNumber bF_noteResultsByNumber 4 ((none : Option Jvm.ClassFile.FieldType)) [] d' 0 0 (.ref (g.1 0) :: []) w (Rp P)) (hdd : d' + 1 ≤ d) (hst : (st.map fun v => v.category).sum ≤ 8) (hret : ∀ (v : Option Value) (w' : Wd), P v w' → Go X g 0 0 Q w' (pc + 3) lp (v.toList ++ st)) : Go X g 0 0 Q w pc lp (.ref (g.1 0) :: st) :=
  kF_147 hc hd hcon hdd hst (Nat.zero_le _) (Nat.zero_le _) (fun v w' h => hret v w' (Rp_l h)) (fun cn w' h => absurd h Rp_r)
theorem kF_147t {d' : Nat} {cn : String} {P : Wd → Prop} {P2 : Rt → Wd → Prop} (hc : Ok X g cc "PairedField" ret [] d) (hd : decode cc pc = .ok (.invokevirtual 147, 3)) (hcon : Con X.2.1 g yF_noteResultsByNumber bF_noteResultsByNumber 4 ((none : Option Jvm.ClassFile.FieldType)) [] d' 1 6 (.ref (g.1 0) :: []) w (Tp cn P)) (hdd : d' + 1 ≤ d) (hst : (st.map fun v => v.category).sum ≤ 8) (h1 : 1 ≤ X.2.2.2.1.cells) (h6 : 6 ≤ X.2.2.2.1.slots) (hP : ∀ w' : Wd, P w' → P2 (.inr cn) w') : Go X g 0 0 (Fen X g 1 6 P2) w pc lp (.ref (g.1 0) :: st) :=
  kF_147 hc hd hcon hdd hst (by omega) (by omega) (fun v w' h => absurd h Tp_l) (fun cn2 w' h => by obtain ⟨rfl, h⟩ := h; exact x_out hc (hP w' h))
/-- PairedFieldLaw: a call of PairedField.tell -/
theorem kL_59 {d' k n : Nat} {P : Rt → Wd → Prop} {a0 : Int32} {a1 : Int32} (hc : Ok X g cc "PairedFieldLaw" ret hx d) (hd : decode cc pc = .ok (.invokevirtual 59, 3)) (hcon : Con X.2.1 g yF_tell bF_tell 3 ((some .int)) [] d' k n (.ref (g.1 0) :: [.int a0, .int a1]) w P) (hdd : d' + 1 ≤ d) (hst : (st.map fun v => v.category).sum ≤ 8) (hcells : kc + k ≤ X.2.2.2.1.cells) (hslots : ks + n ≤ X.2.2.2.1.slots)
    (hret : ∀ (v : Option Value) (w' : Wd), P (.inl v) w' → Go X g (kc + k) (ks + n) Q w' (pc + 3) lp (v.toList ++ st)) (hthr : ∀ (cn : String) (w' : Wd), P (.inr cn) w' → GoX X g (kc + k) (ks + n) Q w' pc lp cn) : Go X g kc ks Q w pc lp (.int a1 :: .int a0 :: .ref (g.1 0) :: st) :=
  r_callv (av := [.int a0, .int a1]) (nL' := 3) (q := 0) (ci := 0) (C := R_F) (Tc := T_F) (N := 8) hc hd hcon (t3_mem 80 rfl rfl) (t3_mem 81 rfl rfl) (t3_mem 82 rfl rfl) (t3_mem 83 rfl rfl) (by decide) (by decide +kernel) (show (parseMethodDescriptor yF_tell.desc).map (fun d => d.parameters.length) = some 2 by decide +kernel) (by decide) (ent_F g (w 0)) rfl hdd (by decide) (fun v hv => by simp only [List.mem_cons, List.not_mem_nil, or_false] at hv; rcases hv with rfl | rfl <;> rfl) (Nat.le_of_ble_eq_true rfl) hst hcells hslots hret hthr
theorem kL_59r {d' : Nat} {P : Option Value → Wd → Prop} {a0 : Int32} {a1 : Int32} (hc : Ok X g cc "PairedFieldLaw" ret hx d) (hd : decode cc pc = .ok (.invokevirtual 59, 3)) (hcon : Con X.2.1 g yF_tell bF_tell 3 ((some .int)) [] d' 0 0 (.ref (g.1 0) :: [.int a0, .int a1]) w (Rp P)) (hdd : d' + 1 ≤ d) (hst : (st.map fun v => v.category).sum ≤ 8) (hret : ∀ (v : Option Value) (w' : Wd), P v w' → Go X g 0 0 Q w' (pc + 3) lp (v.toList ++ st)) : Go X g 0 0 Q w pc lp (.int a1 :: .int a0 :: .ref (g.1 0) :: st) :=
  kL_59 hc hd hcon hdd hst (Nat.zero_le _) (Nat.zero_le _) (fun v w' h => hret v w' (Rp_l h)) (fun cn w' h => absurd h Rp_r)
theorem kL_59t {d' : Nat} {cn : String} {P : Wd → Prop} {P2 : Rt → Wd → Prop} {a0 : Int32} {a1 : Int32} (hc : Ok X g cc "PairedFieldLaw" ret [] d) (hd : decode cc pc = .ok (.invokevirtual 59, 3)) (hcon : Con X.2.1 g yF_tell bF_tell 3 ((some .int)) [] d' 1 6 (.ref (g.1 0) :: [.int a0, .int a1]) w (Tp cn P)) (hdd : d' + 1 ≤ d) (hst : (st.map fun v => v.category).sum ≤ 8) (h1 : 1 ≤ X.2.2.2.1.cells) (h6 : 6 ≤ X.2.2.2.1.slots) (hP : ∀ w' : Wd, P w' → P2 (.inr cn) w') : Go X g 0 0 (Fen X g 1 6 P2) w pc lp (.int a1 :: .int a0 :: .ref (g.1 0) :: st) :=
  kL_59 hc hd hcon hdd hst (by omega) (by omega) (fun v w' h => absurd h Tp_l) (fun cn2 w' h => by obtain ⟨rfl, h⟩ := h; exact x_out hc (hP w' h))
/-- PairedFieldLaw: a call of PairedField.had -/
theorem kL_63 {d' k n : Nat} {P : Rt → Wd → Prop} {a0 : Int32} {a1 : Int32} (hc : Ok X g cc "PairedFieldLaw" ret hx d) (hd : decode cc pc = .ok (.invokevirtual 63, 3)) (hcon : Con X.2.1 g yF_had bF_had 3 ((some .int)) [] d' k n (.ref (g.1 0) :: [.int a0, .int a1]) w P) (hdd : d' + 1 ≤ d) (hst : (st.map fun v => v.category).sum ≤ 8) (hcells : kc + k ≤ X.2.2.2.1.cells) (hslots : ks + n ≤ X.2.2.2.1.slots)
    (hret : ∀ (v : Option Value) (w' : Wd), P (.inl v) w' → Go X g (kc + k) (ks + n) Q w' (pc + 3) lp (v.toList ++ st)) (hthr : ∀ (cn : String) (w' : Wd), P (.inr cn) w' → GoX X g (kc + k) (ks + n) Q w' pc lp cn) : Go X g kc ks Q w pc lp (.int a1 :: .int a0 :: .ref (g.1 0) :: st) :=
  r_callv (av := [.int a0, .int a1]) (nL' := 3) (q := 0) (ci := 0) (C := R_F) (Tc := T_F) (N := 8) hc hd hcon (t3_mem 88 rfl rfl) (t3_mem 89 rfl rfl) (t3_mem 90 rfl rfl) (t3_mem 91 rfl rfl) (by decide) (by decide +kernel) (show (parseMethodDescriptor yF_had.desc).map (fun d => d.parameters.length) = some 2 by decide +kernel) (by decide) (ent_F g (w 0)) rfl hdd (by decide) (fun v hv => by simp only [List.mem_cons, List.not_mem_nil, or_false] at hv; rcases hv with rfl | rfl <;> rfl) (Nat.le_of_ble_eq_true rfl) hst hcells hslots hret hthr
theorem kL_63r {d' : Nat} {P : Option Value → Wd → Prop} {a0 : Int32} {a1 : Int32} (hc : Ok X g cc "PairedFieldLaw" ret hx d) (hd : decode cc pc = .ok (.invokevirtual 63, 3)) (hcon : Con X.2.1 g yF_had bF_had 3 ((some .int)) [] d' 0 0 (.ref (g.1 0) :: [.int a0, .int a1]) w (Rp P)) (hdd : d' + 1 ≤ d) (hst : (st.map fun v => v.category).sum ≤ 8) (hret : ∀ (v : Option Value) (w' : Wd), P v w' → Go X g 0 0 Q w' (pc + 3) lp (v.toList ++ st)) : Go X g 0 0 Q w pc lp (.int a1 :: .int a0 :: .ref (g.1 0) :: st) :=
  kL_63 hc hd hcon hdd hst (Nat.zero_le _) (Nat.zero_le _) (fun v w' h => hret v w' (Rp_l h)) (fun cn w' h => absurd h Rp_r)
theorem kL_63t {d' : Nat} {cn : String} {P : Wd → Prop} {P2 : Rt → Wd → Prop} {a0 : Int32} {a1 : Int32} (hc : Ok X g cc "PairedFieldLaw" ret [] d) (hd : decode cc pc = .ok (.invokevirtual 63, 3)) (hcon : Con X.2.1 g yF_had bF_had 3 ((some .int)) [] d' 1 6 (.ref (g.1 0) :: [.int a0, .int a1]) w (Tp cn P)) (hdd : d' + 1 ≤ d) (hst : (st.map fun v => v.category).sum ≤ 8) (h1 : 1 ≤ X.2.2.2.1.cells) (h6 : 6 ≤ X.2.2.2.1.slots) (hP : ∀ w' : Wd, P w' → P2 (.inr cn) w') : Go X g 0 0 (Fen X g 1 6 P2) w pc lp (.int a1 :: .int a0 :: .ref (g.1 0) :: st) :=
  kL_63 hc hd hcon hdd hst (by omega) (by omega) (fun v w' h => absurd h Tp_l) (fun cn2 w' h => by obtain ⟨rfl, h⟩ := h; exact x_out hc (hP w' h))
/-- PairedFieldLaw: a call of PairedField.table -/
theorem kL_66 {d' k n : Nat} {P : Rt → Wd → Prop} {a0 : Int32} (hc : Ok X g cc "PairedFieldLaw" ret hx d) (hd : decode cc pc = .ok (.invokevirtual 66, 3)) (hcon : Con X.2.1 g yF_table bF_table 2 ((some .int)) [] d' k n (.ref (g.1 0) :: [.int a0]) w P) (hdd : d' + 1 ≤ d) (hst : (st.map fun v => v.category).sum ≤ 8) (hcells : kc + k ≤ X.2.2.2.1.cells) (hslots : ks + n ≤ X.2.2.2.1.slots)
    (hret : ∀ (v : Option Value) (w' : Wd), P (.inl v) w' → Go X g (kc + k) (ks + n) Q w' (pc + 3) lp (v.toList ++ st)) (hthr : ∀ (cn : String) (w' : Wd), P (.inr cn) w' → GoX X g (kc + k) (ks + n) Q w' pc lp cn) : Go X g kc ks Q w pc lp (.int a0 :: .ref (g.1 0) :: st) :=
  r_callv (av := [.int a0]) (nL' := 2) (q := 0) (ci := 0) (C := R_F) (Tc := T_F) (N := 8) hc hd hcon (t3_mem 96 rfl rfl) (t3_mem 97 rfl rfl) (t3_mem 98 rfl rfl) (t3_mem 99 rfl rfl) (by decide) (by decide +kernel) (show (parseMethodDescriptor yF_table.desc).map (fun d => d.parameters.length) = some 1 by decide +kernel) (by decide) (ent_F g (w 0)) rfl hdd (by decide) (fun v hv => by simp only [List.mem_cons, List.not_mem_nil, or_false] at hv; rcases hv with rfl <;> rfl) (Nat.le_of_ble_eq_true rfl) hst hcells hslots hret hthr
theorem kL_66r {d' : Nat} {P : Option Value → Wd → Prop} {a0 : Int32} (hc : Ok X g cc "PairedFieldLaw" ret hx d) (hd : decode cc pc = .ok (.invokevirtual 66, 3)) (hcon : Con X.2.1 g yF_table bF_table 2 ((some .int)) [] d' 0 0 (.ref (g.1 0) :: [.int a0]) w (Rp P)) (hdd : d' + 1 ≤ d) (hst : (st.map fun v => v.category).sum ≤ 8) (hret : ∀ (v : Option Value) (w' : Wd), P v w' → Go X g 0 0 Q w' (pc + 3) lp (v.toList ++ st)) : Go X g 0 0 Q w pc lp (.int a0 :: .ref (g.1 0) :: st) :=
  kL_66 hc hd hcon hdd hst (Nat.zero_le _) (Nat.zero_le _) (fun v w' h => hret v w' (Rp_l h)) (fun cn w' h => absurd h Rp_r)
theorem kL_66t {d' : Nat} {cn : String} {P : Wd → Prop} {P2 : Rt → Wd → Prop} {a0 : Int32} (hc : Ok X g cc "PairedFieldLaw" ret [] d) (hd : decode cc pc = .ok (.invokevirtual 66, 3)) (hcon : Con X.2.1 g yF_table bF_table 2 ((some .int)) [] d' 1 6 (.ref (g.1 0) :: [.int a0]) w (Tp cn P)) (hdd : d' + 1 ≤ d) (hst : (st.map fun v => v.category).sum ≤ 8) (h1 : 1 ≤ X.2.2.2.1.cells) (h6 : 6 ≤ X.2.2.2.1.slots) (hP : ∀ w' : Wd, P w' → P2 (.inr cn) w') : Go X g 0 0 (Fen X g 1 6 P2) w pc lp (.int a0 :: .ref (g.1 0) :: st) :=
  kL_66 hc hd hcon hdd hst (by omega) (by omega) (fun v w' h => absurd h Tp_l) (fun cn2 w' h => by obtain ⟨rfl, h⟩ := h; exact x_out hc (hP w' h))
/-- PairedField: a call of PairedField$Standing.playerAt -/
theorem kF_182 {d' k n : Nat} {P : Rt → Wd → Prop} {a0 : Int32} {a1 : Int32} (hc : Ok X g cc "PairedField" ret hx d) (hd : decode cc pc = .ok (.invokevirtual 182, 3)) (hcon : Con X.2.1 g yS_playerAt bS_playerAt 6 ((some .int)) [] d' k n (.ref (g.1 20) :: [.int a0, .int a1]) w P) (hdd : d' + 1 ≤ d) (hst : (st.map fun v => v.category).sum ≤ 8) (hcells : kc + k ≤ X.2.2.2.1.cells) (hslots : ks + n ≤ X.2.2.2.1.slots)
    (hret : ∀ (v : Option Value) (w' : Wd), P (.inl v) w' → Go X g (kc + k) (ks + n) Q w' (pc + 3) lp (v.toList ++ st)) (hthr : ∀ (cn : String) (w' : Wd), P (.inr cn) w' → GoX X g (kc + k) (ks + n) Q w' pc lp cn) : Go X g kc ks Q w pc lp (.int a1 :: .int a0 :: .ref (g.1 20) :: st) :=
  r_callv (av := [.int a0, .int a1]) (nL' := 6) (q := 20) (ci := 1) (C := R_S) (Tc := T_S) (N := 10) hc hd hcon (t3_mem 101 rfl rfl) (t3_mem 102 rfl rfl) (t3_mem 103 rfl rfl) (t3_mem 104 rfl rfl) (by decide) (by decide +kernel) (show (parseMethodDescriptor yS_playerAt.desc).map (fun d => d.parameters.length) = some 2 by decide +kernel) (by decide) (ent_S g (w 20)) rfl hdd (by decide) (fun v hv => by simp only [List.mem_cons, List.not_mem_nil, or_false] at hv; rcases hv with rfl | rfl <;> rfl) (Nat.le_of_ble_eq_true rfl) hst hcells hslots hret hthr
theorem kF_182r {d' : Nat} {P : Option Value → Wd → Prop} {a0 : Int32} {a1 : Int32} (hc : Ok X g cc "PairedField" ret hx d) (hd : decode cc pc = .ok (.invokevirtual 182, 3)) (hcon : Con X.2.1 g yS_playerAt bS_playerAt 6 ((some .int)) [] d' 0 0 (.ref (g.1 20) :: [.int a0, .int a1]) w (Rp P)) (hdd : d' + 1 ≤ d) (hst : (st.map fun v => v.category).sum ≤ 8) (hret : ∀ (v : Option Value) (w' : Wd), P v w' → Go X g 0 0 Q w' (pc + 3) lp (v.toList ++ st)) : Go X g 0 0 Q w pc lp (.int a1 :: .int a0 :: .ref (g.1 20) :: st) :=
  kF_182 hc hd hcon hdd hst (Nat.zero_le _) (Nat.zero_le _) (fun v w' h => hret v w' (Rp_l h)) (fun cn w' h => absurd h Rp_r)
theorem kF_182t {d' : Nat} {cn : String} {P : Wd → Prop} {P2 : Rt → Wd → Prop} {a0 : Int32} {a1 : Int32} (hc : Ok X g cc "PairedField" ret [] d) (hd : decode cc pc = .ok (.invokevirtual 182, 3)) (hcon : Con X.2.1 g yS_playerAt bS_playerAt 6 ((some .int)) [] d' 1 6 (.ref (g.1 20) :: [.int a0, .int a1]) w (Tp cn P)) (hdd : d' + 1 ≤ d) (hst : (st.map fun v => v.category).sum ≤ 8) (h1 : 1 ≤ X.2.2.2.1.cells) (h6 : 6 ≤ X.2.2.2.1.slots) (hP : ∀ w' : Wd, P w' → P2 (.inr cn) w') : Go X g 0 0 (Fen X g 1 6 P2) w pc lp (.int a1 :: .int a0 :: .ref (g.1 20) :: st) :=
  kF_182 hc hd hcon hdd hst (by omega) (by omega) (fun v w' h => absurd h Tp_l) (fun cn2 w' h => by obtain ⟨rfl, h⟩ := h; exact x_out hc (hP w' h))
/-- PairedField$Standing: a call of PairedField$Standing.isBeforeInTable -/
theorem kS_74 {d' k n : Nat} {P : Rt → Wd → Prop} {a0 : Int32} {a1 : Int32} (hc : Ok X g cc "PairedField$Standing" ret hx d) (hd : decode cc pc = .ok (.invokevirtual 74, 3)) (hcon : Con X.2.1 g yS_isBeforeInTable bS_isBeforeInTable 3 ((some .boolean)) [] d' k n (.ref (g.1 20) :: [.int a0, .int a1]) w P) (hdd : d' + 1 ≤ d) (hst : (st.map fun v => v.category).sum ≤ 8) (hcells : kc + k ≤ X.2.2.2.1.cells) (hslots : ks + n ≤ X.2.2.2.1.slots)
    (hret : ∀ (v : Option Value) (w' : Wd), P (.inl v) w' → Go X g (kc + k) (ks + n) Q w' (pc + 3) lp (v.toList ++ st)) (hthr : ∀ (cn : String) (w' : Wd), P (.inr cn) w' → GoX X g (kc + k) (ks + n) Q w' pc lp cn) : Go X g kc ks Q w pc lp (.int a1 :: .int a0 :: .ref (g.1 20) :: st) :=
  r_callv (av := [.int a0, .int a1]) (nL' := 3) (q := 20) (ci := 1) (C := R_S) (Tc := T_S) (N := 10) hc hd hcon (t3_mem 105 rfl rfl) (t3_mem 107 rfl rfl) (t0_mem 25 rfl rfl) (t3_mem 108 rfl rfl) (by decide) (by decide +kernel) (show (parseMethodDescriptor yS_isBeforeInTable.desc).map (fun d => d.parameters.length) = some 2 by decide +kernel) (by decide) (ent_S g (w 20)) rfl hdd (by decide) (fun v hv => by simp only [List.mem_cons, List.not_mem_nil, or_false] at hv; rcases hv with rfl | rfl <;> rfl) (Nat.le_of_ble_eq_true rfl) hst hcells hslots hret hthr
theorem kS_74r {d' : Nat} {P : Option Value → Wd → Prop} {a0 : Int32} {a1 : Int32} (hc : Ok X g cc "PairedField$Standing" ret hx d) (hd : decode cc pc = .ok (.invokevirtual 74, 3)) (hcon : Con X.2.1 g yS_isBeforeInTable bS_isBeforeInTable 3 ((some .boolean)) [] d' 0 0 (.ref (g.1 20) :: [.int a0, .int a1]) w (Rp P)) (hdd : d' + 1 ≤ d) (hst : (st.map fun v => v.category).sum ≤ 8) (hret : ∀ (v : Option Value) (w' : Wd), P v w' → Go X g 0 0 Q w' (pc + 3) lp (v.toList ++ st)) : Go X g 0 0 Q w pc lp (.int a1 :: .int a0 :: .ref (g.1 20) :: st) :=
  kS_74 hc hd hcon hdd hst (Nat.zero_le _) (Nat.zero_le _) (fun v w' h => hret v w' (Rp_l h)) (fun cn w' h => absurd h Rp_r)
theorem kS_74t {d' : Nat} {cn : String} {P : Wd → Prop} {P2 : Rt → Wd → Prop} {a0 : Int32} {a1 : Int32} (hc : Ok X g cc "PairedField$Standing" ret [] d) (hd : decode cc pc = .ok (.invokevirtual 74, 3)) (hcon : Con X.2.1 g yS_isBeforeInTable bS_isBeforeInTable 3 ((some .boolean)) [] d' 1 6 (.ref (g.1 20) :: [.int a0, .int a1]) w (Tp cn P)) (hdd : d' + 1 ≤ d) (hst : (st.map fun v => v.category).sum ≤ 8) (h1 : 1 ≤ X.2.2.2.1.cells) (h6 : 6 ≤ X.2.2.2.1.slots) (hP : ∀ w' : Wd, P w' → P2 (.inr cn) w') : Go X g 0 0 (Fen X g 1 6 P2) w pc lp (.int a1 :: .int a0 :: .ref (g.1 20) :: st) :=
  kS_74 hc hd hcon hdd hst (by omega) (by omega) (fun v w' h => absurd h Tp_l) (fun cn2 w' h => by obtain ⟨rfl, h⟩ := h; exact x_out hc (hP w' h))
/-- PairedFieldLaw: a call of PairedFieldModel.thrown -/
theorem kL_84 {d' k n : Nat} {P : Rt → Wd → Prop} (hc : Ok X g cc "PairedFieldLaw" ret hx d) (hd : decode cc pc = .ok (.invokevirtual 84, 3)) (hcon : Con X.2.1 g yM_thrown bM_thrown 1 ((some .int)) [] d' k n (.ref (g.1 48) :: []) w P) (hdd : d' + 1 ≤ d) (hst : (st.map fun v => v.category).sum ≤ 8) (hcells : kc + k ≤ X.2.2.2.1.cells) (hslots : ks + n ≤ X.2.2.2.1.slots)
    (hret : ∀ (v : Option Value) (w' : Wd), P (.inl v) w' → Go X g (kc + k) (ks + n) Q w' (pc + 3) lp (v.toList ++ st)) (hthr : ∀ (cn : String) (w' : Wd), P (.inr cn) w' → GoX X g (kc + k) (ks + n) Q w' pc lp cn) : Go X g kc ks Q w pc lp (.ref (g.1 48) :: st) :=
  r_callv (av := []) (nL' := 1) (q := 48) (ci := 3) (C := R_M) (Tc := T_M) (N := 17) hc hd hcon (t3_mem 167 rfl rfl) (t3_mem 168 rfl rfl) (t3_mem 169 rfl rfl) (t3_mem 170 rfl rfl) (by decide) (by decide +kernel) (show (parseMethodDescriptor yM_thrown.desc).map (fun d => d.parameters.length) = some 0 by decide +kernel) (by decide) (ent_M g (w 48)) rfl hdd (by decide) (fun v hv => by cases hv) (Nat.le_of_ble_eq_true rfl) hst hcells hslots hret hthr
theorem kL_84r {d' : Nat} {P : Option Value → Wd → Prop} (hc : Ok X g cc "PairedFieldLaw" ret hx d) (hd : decode cc pc = .ok (.invokevirtual 84, 3)) (hcon : Con X.2.1 g yM_thrown bM_thrown 1 ((some .int)) [] d' 0 0 (.ref (g.1 48) :: []) w (Rp P)) (hdd : d' + 1 ≤ d) (hst : (st.map fun v => v.category).sum ≤ 8) (hret : ∀ (v : Option Value) (w' : Wd), P v w' → Go X g 0 0 Q w' (pc + 3) lp (v.toList ++ st)) : Go X g 0 0 Q w pc lp (.ref (g.1 48) :: st) :=
  kL_84 hc hd hcon hdd hst (Nat.zero_le _) (Nat.zero_le _) (fun v w' h => hret v w' (Rp_l h)) (fun cn w' h => absurd h Rp_r)
theorem kL_84t {d' : Nat} {cn : String} {P : Wd → Prop} {P2 : Rt → Wd → Prop} (hc : Ok X g cc "PairedFieldLaw" ret [] d) (hd : decode cc pc = .ok (.invokevirtual 84, 3)) (hcon : Con X.2.1 g yM_thrown bM_thrown 1 ((some .int)) [] d' 1 6 (.ref (g.1 48) :: []) w (Tp cn P)) (hdd : d' + 1 ≤ d) (hst : (st.map fun v => v.category).sum ≤ 8) (h1 : 1 ≤ X.2.2.2.1.cells) (h6 : 6 ≤ X.2.2.2.1.slots) (hP : ∀ w' : Wd, P w' → P2 (.inr cn) w') : Go X g 0 0 (Fen X g 1 6 P2) w pc lp (.ref (g.1 48) :: st) :=
  kL_84 hc hd hcon hdd hst (by omega) (by omega) (fun v w' h => absurd h Tp_l) (fun cn2 w' h => by obtain ⟨rfl, h⟩ := h; exact x_out hc (hP w' h))
/-- PairedFieldLaw: a call of PairedFieldModel.enter -/
theorem kL_83 {d' k n : Nat} {P : Rt → Wd → Prop} (hc : Ok X g cc "PairedFieldLaw" ret hx d) (hd : decode cc pc = .ok (.invokevirtual 83, 3)) (hcon : Con X.2.1 g yM_enter bM_enter 3 ((some .int)) [] d' k n (.ref (g.1 48) :: []) w P) (hdd : d' + 1 ≤ d) (hst : (st.map fun v => v.category).sum ≤ 8) (hcells : kc + k ≤ X.2.2.2.1.cells) (hslots : ks + n ≤ X.2.2.2.1.slots)
    (hret : ∀ (v : Option Value) (w' : Wd), P (.inl v) w' → Go X g (kc + k) (ks + n) Q w' (pc + 3) lp (v.toList ++ st)) (hthr : ∀ (cn : String) (w' : Wd), P (.inr cn) w' → GoX X g (kc + k) (ks + n) Q w' pc lp cn) : Go X g kc ks Q w pc lp (.ref (g.1 48) :: st) :=
  r_callv (av := []) (nL' := 3) (q := 48) (ci := 3) (C := R_M) (Tc := T_M) (N := 17) hc hd hcon (t3_mem 171 rfl rfl) (t3_mem 172 rfl rfl) (t3_mem 173 rfl rfl) (t3_mem 174 rfl rfl) (by decide) (by decide +kernel) (show (parseMethodDescriptor yM_enter.desc).map (fun d => d.parameters.length) = some 0 by decide +kernel) (by decide) (ent_M g (w 48)) rfl hdd (by decide) (fun v hv => by cases hv) (Nat.le_of_ble_eq_true rfl) hst hcells hslots hret hthr
theorem kL_83r {d' : Nat} {P : Option Value → Wd → Prop} (hc : Ok X g cc "PairedFieldLaw" ret hx d) (hd : decode cc pc = .ok (.invokevirtual 83, 3)) (hcon : Con X.2.1 g yM_enter bM_enter 3 ((some .int)) [] d' 0 0 (.ref (g.1 48) :: []) w (Rp P)) (hdd : d' + 1 ≤ d) (hst : (st.map fun v => v.category).sum ≤ 8) (hret : ∀ (v : Option Value) (w' : Wd), P v w' → Go X g 0 0 Q w' (pc + 3) lp (v.toList ++ st)) : Go X g 0 0 Q w pc lp (.ref (g.1 48) :: st) :=
  kL_83 hc hd hcon hdd hst (Nat.zero_le _) (Nat.zero_le _) (fun v w' h => hret v w' (Rp_l h)) (fun cn w' h => absurd h Rp_r)
theorem kL_83t {d' : Nat} {cn : String} {P : Wd → Prop} {P2 : Rt → Wd → Prop} (hc : Ok X g cc "PairedFieldLaw" ret [] d) (hd : decode cc pc = .ok (.invokevirtual 83, 3)) (hcon : Con X.2.1 g yM_enter bM_enter 3 ((some .int)) [] d' 1 6 (.ref (g.1 48) :: []) w (Tp cn P)) (hdd : d' + 1 ≤ d) (hst : (st.map fun v => v.category).sum ≤ 8) (h1 : 1 ≤ X.2.2.2.1.cells) (h6 : 6 ≤ X.2.2.2.1.slots) (hP : ∀ w' : Wd, P w' → P2 (.inr cn) w') : Go X g 0 0 (Fen X g 1 6 P2) w pc lp (.ref (g.1 48) :: st) :=
  kL_83 hc hd hcon hdd hst (by omega) (by omega) (fun v w' h => absurd h Tp_l) (fun cn2 w' h => by obtain ⟨rfl, h⟩ := h; exact x_out hc (hP w' h))
/-- PairedFieldModel: a call of PairedFieldModel.refused -/
theorem kM_55 {d' k n : Nat} {P : Rt → Wd → Prop} {a0 : Int32} {a1 : Int32} {a2 : Int32} (hc : Ok X g cc "PairedFieldModel" ret hx d) (hd : decode cc pc = .ok (.invokevirtual 55, 3)) (hcon : Con X.2.1 g yM_refused bM_refused 4 ((some .boolean)) [] d' k n (.ref (g.1 48) :: [.int a0, .int a1, .int a2]) w P) (hdd : d' + 1 ≤ d) (hst : (st.map fun v => v.category).sum ≤ 8) (hcells : kc + k ≤ X.2.2.2.1.cells) (hslots : ks + n ≤ X.2.2.2.1.slots)
    (hret : ∀ (v : Option Value) (w' : Wd), P (.inl v) w' → Go X g (kc + k) (ks + n) Q w' (pc + 3) lp (v.toList ++ st)) (hthr : ∀ (cn : String) (w' : Wd), P (.inr cn) w' → GoX X g (kc + k) (ks + n) Q w' pc lp cn) : Go X g kc ks Q w pc lp (.int a2 :: .int a1 :: .int a0 :: .ref (g.1 48) :: st) :=
  r_callv (av := [.int a0, .int a1, .int a2]) (nL' := 4) (q := 48) (ci := 3) (C := R_M) (Tc := T_M) (N := 17) hc hd hcon (t3_mem 175 rfl rfl) (t3_mem 177 rfl rfl) (t0_mem 26 rfl rfl) (t3_mem 178 rfl rfl) (by decide) (by decide +kernel) (show (parseMethodDescriptor yM_refused.desc).map (fun d => d.parameters.length) = some 3 by decide +kernel) (by decide) (ent_M g (w 48)) rfl hdd (by decide) (fun v hv => by simp only [List.mem_cons, List.not_mem_nil, or_false] at hv; rcases hv with rfl | rfl | rfl <;> rfl) (Nat.le_of_ble_eq_true rfl) hst hcells hslots hret hthr
theorem kM_55r {d' : Nat} {P : Option Value → Wd → Prop} {a0 : Int32} {a1 : Int32} {a2 : Int32} (hc : Ok X g cc "PairedFieldModel" ret hx d) (hd : decode cc pc = .ok (.invokevirtual 55, 3)) (hcon : Con X.2.1 g yM_refused bM_refused 4 ((some .boolean)) [] d' 0 0 (.ref (g.1 48) :: [.int a0, .int a1, .int a2]) w (Rp P)) (hdd : d' + 1 ≤ d) (hst : (st.map fun v => v.category).sum ≤ 8) (hret : ∀ (v : Option Value) (w' : Wd), P v w' → Go X g 0 0 Q w' (pc + 3) lp (v.toList ++ st)) : Go X g 0 0 Q w pc lp (.int a2 :: .int a1 :: .int a0 :: .ref (g.1 48) :: st) :=
  kM_55 hc hd hcon hdd hst (Nat.zero_le _) (Nat.zero_le _) (fun v w' h => hret v w' (Rp_l h)) (fun cn w' h => absurd h Rp_r)
theorem kM_55t {d' : Nat} {cn : String} {P : Wd → Prop} {P2 : Rt → Wd → Prop} {a0 : Int32} {a1 : Int32} {a2 : Int32} (hc : Ok X g cc "PairedFieldModel" ret [] d) (hd : decode cc pc = .ok (.invokevirtual 55, 3)) (hcon : Con X.2.1 g yM_refused bM_refused 4 ((some .boolean)) [] d' 1 6 (.ref (g.1 48) :: [.int a0, .int a1, .int a2]) w (Tp cn P)) (hdd : d' + 1 ≤ d) (hst : (st.map fun v => v.category).sum ≤ 8) (h1 : 1 ≤ X.2.2.2.1.cells) (h6 : 6 ≤ X.2.2.2.1.slots) (hP : ∀ w' : Wd, P w' → P2 (.inr cn) w') : Go X g 0 0 (Fen X g 1 6 P2) w pc lp (.int a2 :: .int a1 :: .int a0 :: .ref (g.1 48) :: st) :=
  kM_55 hc hd hcon hdd hst (by omega) (by omega) (fun v w' h => absurd h Tp_l) (fun cn2 w' h => by obtain ⟨rfl, h⟩ := h; exact x_out hc (hP w' h))
/-- PairedFieldLaw: a call of PairedFieldModel.leave -/
theorem kL_90 {d' k n : Nat} {P : Rt → Wd → Prop} {a0 : Int32} (hc : Ok X g cc "PairedFieldLaw" ret hx d) (hd : decode cc pc = .ok (.invokevirtual 90, 3)) (hcon : Con X.2.1 g yM_leave bM_leave 2 ((none : Option Jvm.ClassFile.FieldType)) [] d' k n (.ref (g.1 48) :: [.int a0]) w P) (hdd : d' + 1 ≤ d) (hst : (st.map fun v => v.category).sum ≤ 8) (hcells : kc + k ≤ X.2.2.2.1.cells) (hslots : ks + n ≤ X.2.2.2.1.slots)
    (hret : ∀ (v : Option Value) (w' : Wd), P (.inl v) w' → Go X g (kc + k) (ks + n) Q w' (pc + 3) lp (v.toList ++ st)) (hthr : ∀ (cn : String) (w' : Wd), P (.inr cn) w' → GoX X g (kc + k) (ks + n) Q w' pc lp cn) : Go X g kc ks Q w pc lp (.int a0 :: .ref (g.1 48) :: st) :=
  r_callv (av := [.int a0]) (nL' := 2) (q := 48) (ci := 3) (C := R_M) (Tc := T_M) (N := 17) hc hd hcon (t3_mem 179 rfl rfl) (t3_mem 180 rfl rfl) (t3_mem 181 rfl rfl) (t3_mem 182 rfl rfl) (by decide) (by decide +kernel) (show (parseMethodDescriptor yM_leave.desc).map (fun d => d.parameters.length) = some 1 by decide +kernel) (by decide) (ent_M g (w 48)) rfl hdd (by decide) (fun v hv => by simp only [List.mem_cons, List.not_mem_nil, or_false] at hv; rcases hv with rfl <;> rfl) (Nat.le_of_ble_eq_true rfl) hst hcells hslots hret hthr
theorem kL_90r {d' : Nat} {P : Option Value → Wd → Prop} {a0 : Int32} (hc : Ok X g cc "PairedFieldLaw" ret hx d) (hd : decode cc pc = .ok (.invokevirtual 90, 3)) (hcon : Con X.2.1 g yM_leave bM_leave 2 ((none : Option Jvm.ClassFile.FieldType)) [] d' 0 0 (.ref (g.1 48) :: [.int a0]) w (Rp P)) (hdd : d' + 1 ≤ d) (hst : (st.map fun v => v.category).sum ≤ 8) (hret : ∀ (v : Option Value) (w' : Wd), P v w' → Go X g 0 0 Q w' (pc + 3) lp (v.toList ++ st)) : Go X g 0 0 Q w pc lp (.int a0 :: .ref (g.1 48) :: st) :=
  kL_90 hc hd hcon hdd hst (Nat.zero_le _) (Nat.zero_le _) (fun v w' h => hret v w' (Rp_l h)) (fun cn w' h => absurd h Rp_r)
theorem kL_90t {d' : Nat} {cn : String} {P : Wd → Prop} {P2 : Rt → Wd → Prop} {a0 : Int32} (hc : Ok X g cc "PairedFieldLaw" ret [] d) (hd : decode cc pc = .ok (.invokevirtual 90, 3)) (hcon : Con X.2.1 g yM_leave bM_leave 2 ((none : Option Jvm.ClassFile.FieldType)) [] d' 1 6 (.ref (g.1 48) :: [.int a0]) w (Tp cn P)) (hdd : d' + 1 ≤ d) (hst : (st.map fun v => v.category).sum ≤ 8) (h1 : 1 ≤ X.2.2.2.1.cells) (h6 : 6 ≤ X.2.2.2.1.slots) (hP : ∀ w' : Wd, P w' → P2 (.inr cn) w') : Go X g 0 0 (Fen X g 1 6 P2) w pc lp (.int a0 :: .ref (g.1 48) :: st) :=
  kL_90 hc hd hcon hdd hst (by omega) (by omega) (fun v w' h => absurd h Tp_l) (fun cn2 w' h => by obtain ⟨rfl, h⟩ := h; exact x_out hc (hP w' h))
/-- PairedFieldModel: a call of PairedFieldModel.isPlayer -/
theorem kM_59 {d' k n : Nat} {P : Rt → Wd → Prop} {a0 : Int32} (hc : Ok X g cc "PairedFieldModel" ret hx d) (hd : decode cc pc = .ok (.invokevirtual 59, 3)) (hcon : Con X.2.1 g yM_isPlayer bM_isPlayer 2 ((some .boolean)) [] d' k n (.ref (g.1 48) :: [.int a0]) w P) (hdd : d' + 1 ≤ d) (hst : (st.map fun v => v.category).sum ≤ 8) (hcells : kc + k ≤ X.2.2.2.1.cells) (hslots : ks + n ≤ X.2.2.2.1.slots)
    (hret : ∀ (v : Option Value) (w' : Wd), P (.inl v) w' → Go X g (kc + k) (ks + n) Q w' (pc + 3) lp (v.toList ++ st)) (hthr : ∀ (cn : String) (w' : Wd), P (.inr cn) w' → GoX X g (kc + k) (ks + n) Q w' pc lp cn) : Go X g kc ks Q w pc lp (.int a0 :: .ref (g.1 48) :: st) :=
  r_callv (av := [.int a0]) (nL' := 2) (q := 48) (ci := 3) (C := R_M) (Tc := T_M) (N := 17) hc hd hcon (t3_mem 183 rfl rfl) (t3_mem 185 rfl rfl) (t0_mem 27 rfl rfl) (t3_mem 186 rfl rfl) (by decide) (by decide +kernel) (show (parseMethodDescriptor yM_isPlayer.desc).map (fun d => d.parameters.length) = some 1 by decide +kernel) (by decide) (ent_M g (w 48)) rfl hdd (by decide) (fun v hv => by simp only [List.mem_cons, List.not_mem_nil, or_false] at hv; rcases hv with rfl <;> rfl) (Nat.le_of_ble_eq_true rfl) hst hcells hslots hret hthr
theorem kM_59r {d' : Nat} {P : Option Value → Wd → Prop} {a0 : Int32} (hc : Ok X g cc "PairedFieldModel" ret hx d) (hd : decode cc pc = .ok (.invokevirtual 59, 3)) (hcon : Con X.2.1 g yM_isPlayer bM_isPlayer 2 ((some .boolean)) [] d' 0 0 (.ref (g.1 48) :: [.int a0]) w (Rp P)) (hdd : d' + 1 ≤ d) (hst : (st.map fun v => v.category).sum ≤ 8) (hret : ∀ (v : Option Value) (w' : Wd), P v w' → Go X g 0 0 Q w' (pc + 3) lp (v.toList ++ st)) : Go X g 0 0 Q w pc lp (.int a0 :: .ref (g.1 48) :: st) :=
  kM_59 hc hd hcon hdd hst (Nat.zero_le _) (Nat.zero_le _) (fun v w' h => hret v w' (Rp_l h)) (fun cn w' h => absurd h Rp_r)
theorem kM_59t {d' : Nat} {cn : String} {P : Wd → Prop} {P2 : Rt → Wd → Prop} {a0 : Int32} (hc : Ok X g cc "PairedFieldModel" ret [] d) (hd : decode cc pc = .ok (.invokevirtual 59, 3)) (hcon : Con X.2.1 g yM_isPlayer bM_isPlayer 2 ((some .boolean)) [] d' 1 6 (.ref (g.1 48) :: [.int a0]) w (Tp cn P)) (hdd : d' + 1 ≤ d) (hst : (st.map fun v => v.category).sum ≤ 8) (h1 : 1 ≤ X.2.2.2.1.cells) (h6 : 6 ≤ X.2.2.2.1.slots) (hP : ∀ w' : Wd, P w' → P2 (.inr cn) w') : Go X g 0 0 (Fen X g 1 6 P2) w pc lp (.int a0 :: .ref (g.1 48) :: st) :=
  kM_59 hc hd hcon hdd hst (by omega) (by omega) (fun v w' h => absurd h Tp_l) (fun cn2 w' h => by obtain ⟨rfl, h⟩ := h; exact x_out hc (hP w' h))
/-- PairedFieldLaw: a call of PairedFieldModel.apart -/
theorem kL_94 {d' k n : Nat} {P : Rt → Wd → Prop} {a0 : Int32} {a1 : Int32} {a2 : Int32} (hc : Ok X g cc "PairedFieldLaw" ret hx d) (hd : decode cc pc = .ok (.invokevirtual 94, 3)) (hcon : Con X.2.1 g yM_apart bM_apart 5 ((some .boolean)) [] d' k n (.ref (g.1 48) :: [.int a0, .int a1, .int a2]) w P) (hdd : d' + 1 ≤ d) (hst : (st.map fun v => v.category).sum ≤ 8) (hcells : kc + k ≤ X.2.2.2.1.cells) (hslots : ks + n ≤ X.2.2.2.1.slots)
    (hret : ∀ (v : Option Value) (w' : Wd), P (.inl v) w' → Go X g (kc + k) (ks + n) Q w' (pc + 3) lp (v.toList ++ st)) (hthr : ∀ (cn : String) (w' : Wd), P (.inr cn) w' → GoX X g (kc + k) (ks + n) Q w' pc lp cn) : Go X g kc ks Q w pc lp (.int a2 :: .int a1 :: .int a0 :: .ref (g.1 48) :: st) :=
  r_callv (av := [.int a0, .int a1, .int a2]) (nL' := 5) (q := 48) (ci := 3) (C := R_M) (Tc := T_M) (N := 17) hc hd hcon (t3_mem 187 rfl rfl) (t3_mem 188 rfl rfl) (t3_mem 189 rfl rfl) (t3_mem 190 rfl rfl) (by decide) (by decide +kernel) (show (parseMethodDescriptor yM_apart.desc).map (fun d => d.parameters.length) = some 3 by decide +kernel) (by decide) (ent_M g (w 48)) rfl hdd (by decide) (fun v hv => by simp only [List.mem_cons, List.not_mem_nil, or_false] at hv; rcases hv with rfl | rfl | rfl <;> rfl) (Nat.le_of_ble_eq_true rfl) hst hcells hslots hret hthr
theorem kL_94r {d' : Nat} {P : Option Value → Wd → Prop} {a0 : Int32} {a1 : Int32} {a2 : Int32} (hc : Ok X g cc "PairedFieldLaw" ret hx d) (hd : decode cc pc = .ok (.invokevirtual 94, 3)) (hcon : Con X.2.1 g yM_apart bM_apart 5 ((some .boolean)) [] d' 0 0 (.ref (g.1 48) :: [.int a0, .int a1, .int a2]) w (Rp P)) (hdd : d' + 1 ≤ d) (hst : (st.map fun v => v.category).sum ≤ 8) (hret : ∀ (v : Option Value) (w' : Wd), P v w' → Go X g 0 0 Q w' (pc + 3) lp (v.toList ++ st)) : Go X g 0 0 Q w pc lp (.int a2 :: .int a1 :: .int a0 :: .ref (g.1 48) :: st) :=
  kL_94 hc hd hcon hdd hst (Nat.zero_le _) (Nat.zero_le _) (fun v w' h => hret v w' (Rp_l h)) (fun cn w' h => absurd h Rp_r)
theorem kL_94t {d' : Nat} {cn : String} {P : Wd → Prop} {P2 : Rt → Wd → Prop} {a0 : Int32} {a1 : Int32} {a2 : Int32} (hc : Ok X g cc "PairedFieldLaw" ret [] d) (hd : decode cc pc = .ok (.invokevirtual 94, 3)) (hcon : Con X.2.1 g yM_apart bM_apart 5 ((some .boolean)) [] d' 1 6 (.ref (g.1 48) :: [.int a0, .int a1, .int a2]) w (Tp cn P)) (hdd : d' + 1 ≤ d) (hst : (st.map fun v => v.category).sum ≤ 8) (h1 : 1 ≤ X.2.2.2.1.cells) (h6 : 6 ≤ X.2.2.2.1.slots) (hP : ∀ w' : Wd, P w' → P2 (.inr cn) w') : Go X g 0 0 (Fen X g 1 6 P2) w pc lp (.int a2 :: .int a1 :: .int a0 :: .ref (g.1 48) :: st) :=
  kL_94 hc hd hcon hdd hst (by omega) (by omega) (fun v w' h => absurd h Tp_l) (fun cn2 w' h => by obtain ⟨rfl, h⟩ := h; exact x_out hc (hP w' h))
/-- PairedFieldLaw: a call of PairedFieldModel.pair -/
theorem kL_97 {d' k n : Nat} {P : Rt → Wd → Prop} (hc : Ok X g cc "PairedFieldLaw" ret hx d) (hd : decode cc pc = .ok (.invokevirtual 97, 3)) (hcon : Con X.2.1 g yM_pair bM_pair 3 ((some .int)) [] d' k n (.ref (g.1 48) :: []) w P) (hdd : d' + 1 ≤ d) (hst : (st.map fun v => v.category).sum ≤ 8) (hcells : kc + k ≤ X.2.2.2.1.cells) (hslots : ks + n ≤ X.2.2.2.1.slots)
    (hret : ∀ (v : Option Value) (w' : Wd), P (.inl v) w' → Go X g (kc + k) (ks + n) Q w' (pc + 3) lp (v.toList ++ st)) (hthr : ∀ (cn : String) (w' : Wd), P (.inr cn) w' → GoX X g (kc + k) (ks + n) Q w' pc lp cn) : Go X g kc ks Q w pc lp (.ref (g.1 48) :: st) :=
  r_callv (av := []) (nL' := 3) (q := 48) (ci := 3) (C := R_M) (Tc := T_M) (N := 17) hc hd hcon (t3_mem 191 rfl rfl) (t3_mem 192 rfl rfl) (t3_mem 193 rfl rfl) (t3_mem 194 rfl rfl) (by decide) (by decide +kernel) (show (parseMethodDescriptor yM_pair.desc).map (fun d => d.parameters.length) = some 0 by decide +kernel) (by decide) (ent_M g (w 48)) rfl hdd (by decide) (fun v hv => by cases hv) (Nat.le_of_ble_eq_true rfl) hst hcells hslots hret hthr
theorem kL_97r {d' : Nat} {P : Option Value → Wd → Prop} (hc : Ok X g cc "PairedFieldLaw" ret hx d) (hd : decode cc pc = .ok (.invokevirtual 97, 3)) (hcon : Con X.2.1 g yM_pair bM_pair 3 ((some .int)) [] d' 0 0 (.ref (g.1 48) :: []) w (Rp P)) (hdd : d' + 1 ≤ d) (hst : (st.map fun v => v.category).sum ≤ 8) (hret : ∀ (v : Option Value) (w' : Wd), P v w' → Go X g 0 0 Q w' (pc + 3) lp (v.toList ++ st)) : Go X g 0 0 Q w pc lp (.ref (g.1 48) :: st) :=
  kL_97 hc hd hcon hdd hst (Nat.zero_le _) (Nat.zero_le _) (fun v w' h => hret v w' (Rp_l h)) (fun cn w' h => absurd h Rp_r)
theorem kL_97t {d' : Nat} {cn : String} {P : Wd → Prop} {P2 : Rt → Wd → Prop} (hc : Ok X g cc "PairedFieldLaw" ret [] d) (hd : decode cc pc = .ok (.invokevirtual 97, 3)) (hcon : Con X.2.1 g yM_pair bM_pair 3 ((some .int)) [] d' 1 6 (.ref (g.1 48) :: []) w (Tp cn P)) (hdd : d' + 1 ≤ d) (hst : (st.map fun v => v.category).sum ≤ 8) (h1 : 1 ≤ X.2.2.2.1.cells) (h6 : 6 ≤ X.2.2.2.1.slots) (hP : ∀ w' : Wd, P w' → P2 (.inr cn) w') : Go X g 0 0 (Fen X g 1 6 P2) w pc lp (.ref (g.1 48) :: st) :=
  kL_97 hc hd hcon hdd hst (by omega) (by omega) (fun v w' h => absurd h Tp_l) (fun cn2 w' h => by obtain ⟨rfl, h⟩ := h; exact x_out hc (hP w' h))
/-- PairedFieldModel: a call of PairedFieldModel.canPair -/
theorem kM_119 {d' k n : Nat} {P : Rt → Wd → Prop} (hc : Ok X g cc "PairedFieldModel" ret hx d) (hd : decode cc pc = .ok (.invokevirtual 119, 3)) (hcon : Con X.2.1 g yM_canPair bM_canPair 1 ((some .boolean)) [] d' k n (.ref (g.1 48) :: []) w P) (hdd : d' + 1 ≤ d) (hst : (st.map fun v => v.category).sum ≤ 8) (hcells : kc + k ≤ X.2.2.2.1.cells) (hslots : ks + n ≤ X.2.2.2.1.slots)
    (hret : ∀ (v : Option Value) (w' : Wd), P (.inl v) w' → Go X g (kc + k) (ks + n) Q w' (pc + 3) lp (v.toList ++ st)) (hthr : ∀ (cn : String) (w' : Wd), P (.inr cn) w' → GoX X g (kc + k) (ks + n) Q w' pc lp cn) : Go X g kc ks Q w pc lp (.ref (g.1 48) :: st) :=
  r_callv (av := []) (nL' := 1) (q := 48) (ci := 3) (C := R_M) (Tc := T_M) (N := 17) hc hd hcon (t3_mem 195 rfl rfl) (t3_mem 197 rfl rfl) (t0_mem 28 rfl rfl) (t3_mem 198 rfl rfl) (by decide) (by decide +kernel) (show (parseMethodDescriptor yM_canPair.desc).map (fun d => d.parameters.length) = some 0 by decide +kernel) (by decide) (ent_M g (w 48)) rfl hdd (by decide) (fun v hv => by cases hv) (Nat.le_of_ble_eq_true rfl) hst hcells hslots hret hthr
theorem kM_119r {d' : Nat} {P : Option Value → Wd → Prop} (hc : Ok X g cc "PairedFieldModel" ret hx d) (hd : decode cc pc = .ok (.invokevirtual 119, 3)) (hcon : Con X.2.1 g yM_canPair bM_canPair 1 ((some .boolean)) [] d' 0 0 (.ref (g.1 48) :: []) w (Rp P)) (hdd : d' + 1 ≤ d) (hst : (st.map fun v => v.category).sum ≤ 8) (hret : ∀ (v : Option Value) (w' : Wd), P v w' → Go X g 0 0 Q w' (pc + 3) lp (v.toList ++ st)) : Go X g 0 0 Q w pc lp (.ref (g.1 48) :: st) :=
  kM_119 hc hd hcon hdd hst (Nat.zero_le _) (Nat.zero_le _) (fun v w' h => hret v w' (Rp_l h)) (fun cn w' h => absurd h Rp_r)
theorem kM_119t {d' : Nat} {cn : String} {P : Wd → Prop} {P2 : Rt → Wd → Prop} (hc : Ok X g cc "PairedFieldModel" ret [] d) (hd : decode cc pc = .ok (.invokevirtual 119, 3)) (hcon : Con X.2.1 g yM_canPair bM_canPair 1 ((some .boolean)) [] d' 1 6 (.ref (g.1 48) :: []) w (Tp cn P)) (hdd : d' + 1 ≤ d) (hst : (st.map fun v => v.category).sum ≤ 8) (h1 : 1 ≤ X.2.2.2.1.cells) (h6 : 6 ≤ X.2.2.2.1.slots) (hP : ∀ w' : Wd, P w' → P2 (.inr cn) w') : Go X g 0 0 (Fen X g 1 6 P2) w pc lp (.ref (g.1 48) :: st) :=
  kM_119 hc hd hcon hdd hst (by omega) (by omega) (fun v w' h => absurd h Tp_l) (fun cn2 w' h => by obtain ⟨rfl, h⟩ := h; exact x_out hc (hP w' h))
/-- PairedFieldModel: a call of PairedFieldModel.work -/
theorem kM_113 {d' k n : Nat} {P : Rt → Wd → Prop} (hc : Ok X g cc "PairedFieldModel" ret hx d) (hd : decode cc pc = .ok (.invokevirtual 113, 3)) (hcon : Con X.2.1 g yM_work bM_work 6 ((none : Option Jvm.ClassFile.FieldType)) [] d' k n (.ref (g.1 48) :: []) w P) (hdd : d' + 1 ≤ d) (hst : (st.map fun v => v.category).sum ≤ 8) (hcells : kc + k ≤ X.2.2.2.1.cells) (hslots : ks + n ≤ X.2.2.2.1.slots)
    (hret : ∀ (v : Option Value) (w' : Wd), P (.inl v) w' → Go X g (kc + k) (ks + n) Q w' (pc + 3) lp (v.toList ++ st)) (hthr : ∀ (cn : String) (w' : Wd), P (.inr cn) w' → GoX X g (kc + k) (ks + n) Q w' pc lp cn) : Go X g kc ks Q w pc lp (.ref (g.1 48) :: st) :=
  r_callv (av := []) (nL' := 6) (q := 48) (ci := 3) (C := R_M) (Tc := T_M) (N := 17) hc hd hcon (t3_mem 199 rfl rfl) (t3_mem 201 rfl rfl) (t0_mem 29 rfl rfl) (t3_mem 202 rfl rfl) (by decide) (by decide +kernel) (show (parseMethodDescriptor yM_work.desc).map (fun d => d.parameters.length) = some 0 by decide +kernel) (by decide) (ent_M g (w 48)) rfl hdd (by decide) (fun v hv => by cases hv) (Nat.le_of_ble_eq_true rfl) hst hcells hslots hret hthr
theorem kM_113r {d' : Nat} {P : Option Value → Wd → Prop} (hc : Ok X g cc "PairedFieldModel" ret hx d) (hd : decode cc pc = .ok (.invokevirtual 113, 3)) (hcon : Con X.2.1 g yM_work bM_work 6 ((none : Option Jvm.ClassFile.FieldType)) [] d' 0 0 (.ref (g.1 48) :: []) w (Rp P)) (hdd : d' + 1 ≤ d) (hst : (st.map fun v => v.category).sum ≤ 8) (hret : ∀ (v : Option Value) (w' : Wd), P v w' → Go X g 0 0 Q w' (pc + 3) lp (v.toList ++ st)) : Go X g 0 0 Q w pc lp (.ref (g.1 48) :: st) :=
  kM_113 hc hd hcon hdd hst (Nat.zero_le _) (Nat.zero_le _) (fun v w' h => hret v w' (Rp_l h)) (fun cn w' h => absurd h Rp_r)
theorem kM_113t {d' : Nat} {cn : String} {P : Wd → Prop} {P2 : Rt → Wd → Prop} (hc : Ok X g cc "PairedFieldModel" ret [] d) (hd : decode cc pc = .ok (.invokevirtual 113, 3)) (hcon : Con X.2.1 g yM_work bM_work 6 ((none : Option Jvm.ClassFile.FieldType)) [] d' 1 6 (.ref (g.1 48) :: []) w (Tp cn P)) (hdd : d' + 1 ≤ d) (hst : (st.map fun v => v.category).sum ≤ 8) (h1 : 1 ≤ X.2.2.2.1.cells) (h6 : 6 ≤ X.2.2.2.1.slots) (hP : ∀ w' : Wd, P w' → P2 (.inr cn) w') : Go X g 0 0 (Fen X g 1 6 P2) w pc lp (.ref (g.1 48) :: st) :=
  kM_113 hc hd hcon hdd hst (by omega) (by omega) (fun v w' h => absurd h Tp_l) (fun cn2 w' h => by obtain ⟨rfl, h⟩ := h; exact x_out hc (hP w' h))
/-- PairedFieldModel: a call of PairedFieldModel.lineUp -/
theorem kM_110 {d' k n : Nat} {P : Rt → Wd → Prop} (hc : Ok X g cc "PairedFieldModel" ret hx d) (hd : decode cc pc = .ok (.invokevirtual 110, 3)) (hcon : Con X.2.1 g yM_lineUp bM_lineUp 4 ((none : Option Jvm.ClassFile.FieldType)) [] d' k n (.ref (g.1 48) :: []) w P) (hdd : d' + 1 ≤ d) (hst : (st.map fun v => v.category).sum ≤ 8) (hcells : kc + k ≤ X.2.2.2.1.cells) (hslots : ks + n ≤ X.2.2.2.1.slots)
    (hret : ∀ (v : Option Value) (w' : Wd), P (.inl v) w' → Go X g (kc + k) (ks + n) Q w' (pc + 3) lp (v.toList ++ st)) (hthr : ∀ (cn : String) (w' : Wd), P (.inr cn) w' → GoX X g (kc + k) (ks + n) Q w' pc lp cn) : Go X g kc ks Q w pc lp (.ref (g.1 48) :: st) :=
  r_callv (av := []) (nL' := 4) (q := 48) (ci := 3) (C := R_M) (Tc := T_M) (N := 17) hc hd hcon (t3_mem 203 rfl rfl) (t3_mem 205 rfl rfl) (t0_mem 30 rfl rfl) (t3_mem 206 rfl rfl) (by decide) (by decide +kernel) (show (parseMethodDescriptor yM_lineUp.desc).map (fun d => d.parameters.length) = some 0 by decide +kernel) (by decide) (ent_M g (w 48)) rfl hdd (by decide) (fun v hv => by cases hv) (Nat.le_of_ble_eq_true rfl) hst hcells hslots hret hthr
theorem kM_110r {d' : Nat} {P : Option Value → Wd → Prop} (hc : Ok X g cc "PairedFieldModel" ret hx d) (hd : decode cc pc = .ok (.invokevirtual 110, 3)) (hcon : Con X.2.1 g yM_lineUp bM_lineUp 4 ((none : Option Jvm.ClassFile.FieldType)) [] d' 0 0 (.ref (g.1 48) :: []) w (Rp P)) (hdd : d' + 1 ≤ d) (hst : (st.map fun v => v.category).sum ≤ 8) (hret : ∀ (v : Option Value) (w' : Wd), P v w' → Go X g 0 0 Q w' (pc + 3) lp (v.toList ++ st)) : Go X g 0 0 Q w pc lp (.ref (g.1 48) :: st) :=
  kM_110 hc hd hcon hdd hst (Nat.zero_le _) (Nat.zero_le _) (fun v w' h => hret v w' (Rp_l h)) (fun cn w' h => absurd h Rp_r)
theorem kM_110t {d' : Nat} {cn : String} {P : Wd → Prop} {P2 : Rt → Wd → Prop} (hc : Ok X g cc "PairedFieldModel" ret [] d) (hd : decode cc pc = .ok (.invokevirtual 110, 3)) (hcon : Con X.2.1 g yM_lineUp bM_lineUp 4 ((none : Option Jvm.ClassFile.FieldType)) [] d' 1 6 (.ref (g.1 48) :: []) w (Tp cn P)) (hdd : d' + 1 ≤ d) (hst : (st.map fun v => v.category).sum ≤ 8) (h1 : 1 ≤ X.2.2.2.1.cells) (h6 : 6 ≤ X.2.2.2.1.slots) (hP : ∀ w' : Wd, P w' → P2 (.inr cn) w') : Go X g 0 0 (Fen X g 1 6 P2) w pc lp (.ref (g.1 48) :: st) :=
  kM_110 hc hd hcon hdd hst (by omega) (by omega) (fun v w' h => absurd h Tp_l) (fun cn2 w' h => by obtain ⟨rfl, h⟩ := h; exact x_out hc (hP w' h))
/-- PairedFieldModel: a call of PairedFieldModel.inMany -/
theorem kM_90 {d' k n : Nat} {P : Rt → Wd → Prop} (hc : Ok X g cc "PairedFieldModel" ret hx d) (hd : decode cc pc = .ok (.invokevirtual 90, 3)) (hcon : Con X.2.1 g yM_inMany bM_inMany 3 ((some .int)) [] d' k n (.ref (g.1 48) :: []) w P) (hdd : d' + 1 ≤ d) (hst : (st.map fun v => v.category).sum ≤ 8) (hcells : kc + k ≤ X.2.2.2.1.cells) (hslots : ks + n ≤ X.2.2.2.1.slots)
    (hret : ∀ (v : Option Value) (w' : Wd), P (.inl v) w' → Go X g (kc + k) (ks + n) Q w' (pc + 3) lp (v.toList ++ st)) (hthr : ∀ (cn : String) (w' : Wd), P (.inr cn) w' → GoX X g (kc + k) (ks + n) Q w' pc lp cn) : Go X g kc ks Q w pc lp (.ref (g.1 48) :: st) :=
  r_callv (av := []) (nL' := 3) (q := 48) (ci := 3) (C := R_M) (Tc := T_M) (N := 17) hc hd hcon (t3_mem 207 rfl rfl) (t3_mem 209 rfl rfl) (t0_mem 31 rfl rfl) (t3_mem 210 rfl rfl) (by decide) (by decide +kernel) (show (parseMethodDescriptor yM_inMany.desc).map (fun d => d.parameters.length) = some 0 by decide +kernel) (by decide) (ent_M g (w 48)) rfl hdd (by decide) (fun v hv => by cases hv) (Nat.le_of_ble_eq_true rfl) hst hcells hslots hret hthr
theorem kM_90r {d' : Nat} {P : Option Value → Wd → Prop} (hc : Ok X g cc "PairedFieldModel" ret hx d) (hd : decode cc pc = .ok (.invokevirtual 90, 3)) (hcon : Con X.2.1 g yM_inMany bM_inMany 3 ((some .int)) [] d' 0 0 (.ref (g.1 48) :: []) w (Rp P)) (hdd : d' + 1 ≤ d) (hst : (st.map fun v => v.category).sum ≤ 8) (hret : ∀ (v : Option Value) (w' : Wd), P v w' → Go X g 0 0 Q w' (pc + 3) lp (v.toList ++ st)) : Go X g 0 0 Q w pc lp (.ref (g.1 48) :: st) :=
  kM_90 hc hd hcon hdd hst (Nat.zero_le _) (Nat.zero_le _) (fun v w' h => hret v w' (Rp_l h)) (fun cn w' h => absurd h Rp_r)
theorem kM_90t {d' : Nat} {cn : String} {P : Wd → Prop} {P2 : Rt → Wd → Prop} (hc : Ok X g cc "PairedFieldModel" ret [] d) (hd : decode cc pc = .ok (.invokevirtual 90, 3)) (hcon : Con X.2.1 g yM_inMany bM_inMany 3 ((some .int)) [] d' 1 6 (.ref (g.1 48) :: []) w (Tp cn P)) (hdd : d' + 1 ≤ d) (hst : (st.map fun v => v.category).sum ≤ 8) (h1 : 1 ≤ X.2.2.2.1.cells) (h6 : 6 ≤ X.2.2.2.1.slots) (hP : ∀ w' : Wd, P w' → P2 (.inr cn) w') : Go X g 0 0 (Fen X g 1 6 P2) w pc lp (.ref (g.1 48) :: st) :=
  kM_90 hc hd hcon hdd hst (by omega) (by omega) (fun v w' h => absurd h Tp_l) (fun cn2 w' h => by obtain ⟨rfl, h⟩ := h; exact x_out hc (hP w' h))
/-- PairedFieldModel: a call of PairedFieldModel.findBye -/
theorem kM_94 {d' k n : Nat} {P : Rt → Wd → Prop} (hc : Ok X g cc "PairedFieldModel" ret hx d) (hd : decode cc pc = .ok (.invokevirtual 94, 3)) (hcon : Con X.2.1 g yM_findBye bM_findBye 6 ((some .int)) [] d' k n (.ref (g.1 48) :: []) w P) (hdd : d' + 1 ≤ d) (hst : (st.map fun v => v.category).sum ≤ 8) (hcells : kc + k ≤ X.2.2.2.1.cells) (hslots : ks + n ≤ X.2.2.2.1.slots)
    (hret : ∀ (v : Option Value) (w' : Wd), P (.inl v) w' → Go X g (kc + k) (ks + n) Q w' (pc + 3) lp (v.toList ++ st)) (hthr : ∀ (cn : String) (w' : Wd), P (.inr cn) w' → GoX X g (kc + k) (ks + n) Q w' pc lp cn) : Go X g kc ks Q w pc lp (.ref (g.1 48) :: st) :=
  r_callv (av := []) (nL' := 6) (q := 48) (ci := 3) (C := R_M) (Tc := T_M) (N := 17) hc hd hcon (t3_mem 211 rfl rfl) (t3_mem 213 rfl rfl) (t0_mem 32 rfl rfl) (t3_mem 214 rfl rfl) (by decide) (by decide +kernel) (show (parseMethodDescriptor yM_findBye.desc).map (fun d => d.parameters.length) = some 0 by decide +kernel) (by decide) (ent_M g (w 48)) rfl hdd (by decide) (fun v hv => by cases hv) (Nat.le_of_ble_eq_true rfl) hst hcells hslots hret hthr
theorem kM_94r {d' : Nat} {P : Option Value → Wd → Prop} (hc : Ok X g cc "PairedFieldModel" ret hx d) (hd : decode cc pc = .ok (.invokevirtual 94, 3)) (hcon : Con X.2.1 g yM_findBye bM_findBye 6 ((some .int)) [] d' 0 0 (.ref (g.1 48) :: []) w (Rp P)) (hdd : d' + 1 ≤ d) (hst : (st.map fun v => v.category).sum ≤ 8) (hret : ∀ (v : Option Value) (w' : Wd), P v w' → Go X g 0 0 Q w' (pc + 3) lp (v.toList ++ st)) : Go X g 0 0 Q w pc lp (.ref (g.1 48) :: st) :=
  kM_94 hc hd hcon hdd hst (Nat.zero_le _) (Nat.zero_le _) (fun v w' h => hret v w' (Rp_l h)) (fun cn w' h => absurd h Rp_r)
theorem kM_94t {d' : Nat} {cn : String} {P : Wd → Prop} {P2 : Rt → Wd → Prop} (hc : Ok X g cc "PairedFieldModel" ret [] d) (hd : decode cc pc = .ok (.invokevirtual 94, 3)) (hcon : Con X.2.1 g yM_findBye bM_findBye 6 ((some .int)) [] d' 1 6 (.ref (g.1 48) :: []) w (Tp cn P)) (hdd : d' + 1 ≤ d) (hst : (st.map fun v => v.category).sum ≤ 8) (h1 : 1 ≤ X.2.2.2.1.cells) (h6 : 6 ≤ X.2.2.2.1.slots) (hP : ∀ w' : Wd, P w' → P2 (.inr cn) w') : Go X g 0 0 (Fen X g 1 6 P2) w pc lp (.ref (g.1 48) :: st) :=
  kM_94 hc hd hcon hdd hst (by omega) (by omega) (fun v w' h => absurd h Tp_l) (fun cn2 w' h => by obtain ⟨rfl, h⟩ := h; exact x_out hc (hP w' h))
/-- PairedFieldModel: a call of PairedFieldModel.byesOf -/
theorem kM_87 {d' k n : Nat} {P : Rt → Wd → Prop} {a0 : Int32} (hc : Ok X g cc "PairedFieldModel" ret hx d) (hd : decode cc pc = .ok (.invokevirtual 87, 3)) (hcon : Con X.2.1 g yM_byesOf bM_byesOf 4 ((some .int)) [] d' k n (.ref (g.1 48) :: [.int a0]) w P) (hdd : d' + 1 ≤ d) (hst : (st.map fun v => v.category).sum ≤ 8) (hcells : kc + k ≤ X.2.2.2.1.cells) (hslots : ks + n ≤ X.2.2.2.1.slots)
    (hret : ∀ (v : Option Value) (w' : Wd), P (.inl v) w' → Go X g (kc + k) (ks + n) Q w' (pc + 3) lp (v.toList ++ st)) (hthr : ∀ (cn : String) (w' : Wd), P (.inr cn) w' → GoX X g (kc + k) (ks + n) Q w' pc lp cn) : Go X g kc ks Q w pc lp (.int a0 :: .ref (g.1 48) :: st) :=
  r_callv (av := [.int a0]) (nL' := 4) (q := 48) (ci := 3) (C := R_M) (Tc := T_M) (N := 17) hc hd hcon (t3_mem 215 rfl rfl) (t3_mem 217 rfl rfl) (t0_mem 33 rfl rfl) (t3_mem 218 rfl rfl) (by decide) (by decide +kernel) (show (parseMethodDescriptor yM_byesOf.desc).map (fun d => d.parameters.length) = some 1 by decide +kernel) (by decide) (ent_M g (w 48)) rfl hdd (by decide) (fun v hv => by simp only [List.mem_cons, List.not_mem_nil, or_false] at hv; rcases hv with rfl <;> rfl) (Nat.le_of_ble_eq_true rfl) hst hcells hslots hret hthr
theorem kM_87r {d' : Nat} {P : Option Value → Wd → Prop} {a0 : Int32} (hc : Ok X g cc "PairedFieldModel" ret hx d) (hd : decode cc pc = .ok (.invokevirtual 87, 3)) (hcon : Con X.2.1 g yM_byesOf bM_byesOf 4 ((some .int)) [] d' 0 0 (.ref (g.1 48) :: [.int a0]) w (Rp P)) (hdd : d' + 1 ≤ d) (hst : (st.map fun v => v.category).sum ≤ 8) (hret : ∀ (v : Option Value) (w' : Wd), P v w' → Go X g 0 0 Q w' (pc + 3) lp (v.toList ++ st)) : Go X g 0 0 Q w pc lp (.int a0 :: .ref (g.1 48) :: st) :=
  kM_87 hc hd hcon hdd hst (Nat.zero_le _) (Nat.zero_le _) (fun v w' h => hret v w' (Rp_l h)) (fun cn w' h => absurd h Rp_r)
theorem kM_87t {d' : Nat} {cn : String} {P : Wd → Prop} {P2 : Rt → Wd → Prop} {a0 : Int32} (hc : Ok X g cc "PairedFieldModel" ret [] d) (hd : decode cc pc = .ok (.invokevirtual 87, 3)) (hcon : Con X.2.1 g yM_byesOf bM_byesOf 4 ((some .int)) [] d' 1 6 (.ref (g.1 48) :: [.int a0]) w (Tp cn P)) (hdd : d' + 1 ≤ d) (hst : (st.map fun v => v.category).sum ≤ 8) (h1 : 1 ≤ X.2.2.2.1.cells) (h6 : 6 ≤ X.2.2.2.1.slots) (hP : ∀ w' : Wd, P w' → P2 (.inr cn) w') : Go X g 0 0 (Fen X g 1 6 P2) w pc lp (.int a0 :: .ref (g.1 48) :: st) :=
  kM_87 hc hd hcon hdd hst (by omega) (by omega) (fun v w' h => absurd h Tp_l) (fun cn2 w' h => by obtain ⟨rfl, h⟩ := h; exact x_out hc (hP w' h))
/-- PairedFieldModel: a call of PairedFieldModel.scoreOf -/
theorem kM_70 {d' k n : Nat} {P : Rt → Wd → Prop} {a0 : Int32} (hc : Ok X g cc "PairedFieldModel" ret hx d) (hd : decode cc pc = .ok (.invokevirtual 70, 3)) (hcon : Con X.2.1 g yM_scoreOf bM_scoreOf 5 ((some .int)) [] d' k n (.ref (g.1 48) :: [.int a0]) w P) (hdd : d' + 1 ≤ d) (hst : (st.map fun v => v.category).sum ≤ 8) (hcells : kc + k ≤ X.2.2.2.1.cells) (hslots : ks + n ≤ X.2.2.2.1.slots)
    (hret : ∀ (v : Option Value) (w' : Wd), P (.inl v) w' → Go X g (kc + k) (ks + n) Q w' (pc + 3) lp (v.toList ++ st)) (hthr : ∀ (cn : String) (w' : Wd), P (.inr cn) w' → GoX X g (kc + k) (ks + n) Q w' pc lp cn) : Go X g kc ks Q w pc lp (.int a0 :: .ref (g.1 48) :: st) :=
  r_callv (av := [.int a0]) (nL' := 5) (q := 48) (ci := 3) (C := R_M) (Tc := T_M) (N := 17) hc hd hcon (t3_mem 219 rfl rfl) (t3_mem 221 rfl rfl) (t0_mem 34 rfl rfl) (t3_mem 222 rfl rfl) (by decide) (by decide +kernel) (show (parseMethodDescriptor yM_scoreOf.desc).map (fun d => d.parameters.length) = some 1 by decide +kernel) (by decide) (ent_M g (w 48)) rfl hdd (by decide) (fun v hv => by simp only [List.mem_cons, List.not_mem_nil, or_false] at hv; rcases hv with rfl <;> rfl) (Nat.le_of_ble_eq_true rfl) hst hcells hslots hret hthr
theorem kM_70r {d' : Nat} {P : Option Value → Wd → Prop} {a0 : Int32} (hc : Ok X g cc "PairedFieldModel" ret hx d) (hd : decode cc pc = .ok (.invokevirtual 70, 3)) (hcon : Con X.2.1 g yM_scoreOf bM_scoreOf 5 ((some .int)) [] d' 0 0 (.ref (g.1 48) :: [.int a0]) w (Rp P)) (hdd : d' + 1 ≤ d) (hst : (st.map fun v => v.category).sum ≤ 8) (hret : ∀ (v : Option Value) (w' : Wd), P v w' → Go X g 0 0 Q w' (pc + 3) lp (v.toList ++ st)) : Go X g 0 0 Q w pc lp (.int a0 :: .ref (g.1 48) :: st) :=
  kM_70 hc hd hcon hdd hst (Nat.zero_le _) (Nat.zero_le _) (fun v w' h => hret v w' (Rp_l h)) (fun cn w' h => absurd h Rp_r)
theorem kM_70t {d' : Nat} {cn : String} {P : Wd → Prop} {P2 : Rt → Wd → Prop} {a0 : Int32} (hc : Ok X g cc "PairedFieldModel" ret [] d) (hd : decode cc pc = .ok (.invokevirtual 70, 3)) (hcon : Con X.2.1 g yM_scoreOf bM_scoreOf 5 ((some .int)) [] d' 1 6 (.ref (g.1 48) :: [.int a0]) w (Tp cn P)) (hdd : d' + 1 ≤ d) (hst : (st.map fun v => v.category).sum ≤ 8) (h1 : 1 ≤ X.2.2.2.1.cells) (h6 : 6 ≤ X.2.2.2.1.slots) (hP : ∀ w' : Wd, P w' → P2 (.inr cn) w') : Go X g 0 0 (Fen X g 1 6 P2) w pc lp (.int a0 :: .ref (g.1 48) :: st) :=
  kM_70 hc hd hcon hdd hst (by omega) (by omega) (fun v w' h => absurd h Tp_l) (fun cn2 w' h => by obtain ⟨rfl, h⟩ := h; exact x_out hc (hP w' h))
/-- PairedFieldModel: a call of PairedFieldModel.hadEachOther -/
theorem kM_103 {d' k n : Nat} {P : Rt → Wd → Prop} {a0 : Int32} {a1 : Int32} (hc : Ok X g cc "PairedFieldModel" ret hx d) (hd : decode cc pc = .ok (.invokevirtual 103, 3)) (hcon : Con X.2.1 g yM_hadEachOther bM_hadEachOther 5 ((some .boolean)) [] d' k n (.ref (g.1 48) :: [.int a0, .int a1]) w P) (hdd : d' + 1 ≤ d) (hst : (st.map fun v => v.category).sum ≤ 8) (hcells : kc + k ≤ X.2.2.2.1.cells) (hslots : ks + n ≤ X.2.2.2.1.slots)
    (hret : ∀ (v : Option Value) (w' : Wd), P (.inl v) w' → Go X g (kc + k) (ks + n) Q w' (pc + 3) lp (v.toList ++ st)) (hthr : ∀ (cn : String) (w' : Wd), P (.inr cn) w' → GoX X g (kc + k) (ks + n) Q w' pc lp cn) : Go X g kc ks Q w pc lp (.int a1 :: .int a0 :: .ref (g.1 48) :: st) :=
  r_callv (av := [.int a0, .int a1]) (nL' := 5) (q := 48) (ci := 3) (C := R_M) (Tc := T_M) (N := 17) hc hd hcon (t3_mem 223 rfl rfl) (t3_mem 225 rfl rfl) (t0_mem 35 rfl rfl) (t3_mem 226 rfl rfl) (by decide) (by decide +kernel) (show (parseMethodDescriptor yM_hadEachOther.desc).map (fun d => d.parameters.length) = some 2 by decide +kernel) (by decide) (ent_M g (w 48)) rfl hdd (by decide) (fun v hv => by simp only [List.mem_cons, List.not_mem_nil, or_false] at hv; rcases hv with rfl | rfl <;> rfl) (Nat.le_of_ble_eq_true rfl) hst hcells hslots hret hthr
theorem kM_103r {d' : Nat} {P : Option Value → Wd → Prop} {a0 : Int32} {a1 : Int32} (hc : Ok X g cc "PairedFieldModel" ret hx d) (hd : decode cc pc = .ok (.invokevirtual 103, 3)) (hcon : Con X.2.1 g yM_hadEachOther bM_hadEachOther 5 ((some .boolean)) [] d' 0 0 (.ref (g.1 48) :: [.int a0, .int a1]) w (Rp P)) (hdd : d' + 1 ≤ d) (hst : (st.map fun v => v.category).sum ≤ 8) (hret : ∀ (v : Option Value) (w' : Wd), P v w' → Go X g 0 0 Q w' (pc + 3) lp (v.toList ++ st)) : Go X g 0 0 Q w pc lp (.int a1 :: .int a0 :: .ref (g.1 48) :: st) :=
  kM_103 hc hd hcon hdd hst (Nat.zero_le _) (Nat.zero_le _) (fun v w' h => hret v w' (Rp_l h)) (fun cn w' h => absurd h Rp_r)
theorem kM_103t {d' : Nat} {cn : String} {P : Wd → Prop} {P2 : Rt → Wd → Prop} {a0 : Int32} {a1 : Int32} (hc : Ok X g cc "PairedFieldModel" ret [] d) (hd : decode cc pc = .ok (.invokevirtual 103, 3)) (hcon : Con X.2.1 g yM_hadEachOther bM_hadEachOther 5 ((some .boolean)) [] d' 1 6 (.ref (g.1 48) :: [.int a0, .int a1]) w (Tp cn P)) (hdd : d' + 1 ≤ d) (hst : (st.map fun v => v.category).sum ≤ 8) (h1 : 1 ≤ X.2.2.2.1.cells) (h6 : 6 ≤ X.2.2.2.1.slots) (hP : ∀ w' : Wd, P w' → P2 (.inr cn) w') : Go X g 0 0 (Fen X g 1 6 P2) w pc lp (.int a1 :: .int a0 :: .ref (g.1 48) :: st) :=
  kM_103 hc hd hcon hdd hst (by omega) (by omega) (fun v w' h => absurd h Tp_l) (fun cn2 w' h => by obtain ⟨rfl, h⟩ := h; exact x_out hc (hP w' h))
/-- PairedFieldModel: a call of PairedFieldModel.costOf -/
theorem kM_106 {d' k n : Nat} {P : Rt → Wd → Prop} {a0 : Int32} {a1 : Int32} (hc : Ok X g cc "PairedFieldModel" ret hx d) (hd : decode cc pc = .ok (.invokevirtual 106, 3)) (hcon : Con X.2.1 g yM_costOf bM_costOf 5 ((some .int)) [] d' k n (.ref (g.1 48) :: [.int a0, .int a1]) w P) (hdd : d' + 1 ≤ d) (hst : (st.map fun v => v.category).sum ≤ 8) (hcells : kc + k ≤ X.2.2.2.1.cells) (hslots : ks + n ≤ X.2.2.2.1.slots)
    (hret : ∀ (v : Option Value) (w' : Wd), P (.inl v) w' → Go X g (kc + k) (ks + n) Q w' (pc + 3) lp (v.toList ++ st)) (hthr : ∀ (cn : String) (w' : Wd), P (.inr cn) w' → GoX X g (kc + k) (ks + n) Q w' pc lp cn) : Go X g kc ks Q w pc lp (.int a1 :: .int a0 :: .ref (g.1 48) :: st) :=
  r_callv (av := [.int a0, .int a1]) (nL' := 5) (q := 48) (ci := 3) (C := R_M) (Tc := T_M) (N := 17) hc hd hcon (t3_mem 227 rfl rfl) (t3_mem 229 rfl rfl) (t0_mem 36 rfl rfl) (t3_mem 230 rfl rfl) (by decide) (by decide +kernel) (show (parseMethodDescriptor yM_costOf.desc).map (fun d => d.parameters.length) = some 2 by decide +kernel) (by decide) (ent_M g (w 48)) rfl hdd (by decide) (fun v hv => by simp only [List.mem_cons, List.not_mem_nil, or_false] at hv; rcases hv with rfl | rfl <;> rfl) (Nat.le_of_ble_eq_true rfl) hst hcells hslots hret hthr
theorem kM_106r {d' : Nat} {P : Option Value → Wd → Prop} {a0 : Int32} {a1 : Int32} (hc : Ok X g cc "PairedFieldModel" ret hx d) (hd : decode cc pc = .ok (.invokevirtual 106, 3)) (hcon : Con X.2.1 g yM_costOf bM_costOf 5 ((some .int)) [] d' 0 0 (.ref (g.1 48) :: [.int a0, .int a1]) w (Rp P)) (hdd : d' + 1 ≤ d) (hst : (st.map fun v => v.category).sum ≤ 8) (hret : ∀ (v : Option Value) (w' : Wd), P v w' → Go X g 0 0 Q w' (pc + 3) lp (v.toList ++ st)) : Go X g 0 0 Q w pc lp (.int a1 :: .int a0 :: .ref (g.1 48) :: st) :=
  kM_106 hc hd hcon hdd hst (Nat.zero_le _) (Nat.zero_le _) (fun v w' h => hret v w' (Rp_l h)) (fun cn w' h => absurd h Rp_r)
theorem kM_106t {d' : Nat} {cn : String} {P : Wd → Prop} {P2 : Rt → Wd → Prop} {a0 : Int32} {a1 : Int32} (hc : Ok X g cc "PairedFieldModel" ret [] d) (hd : decode cc pc = .ok (.invokevirtual 106, 3)) (hcon : Con X.2.1 g yM_costOf bM_costOf 5 ((some .int)) [] d' 1 6 (.ref (g.1 48) :: [.int a0, .int a1]) w (Tp cn P)) (hdd : d' + 1 ≤ d) (hst : (st.map fun v => v.category).sum ≤ 8) (h1 : 1 ≤ X.2.2.2.1.cells) (h6 : 6 ≤ X.2.2.2.1.slots) (hP : ∀ w' : Wd, P w' → P2 (.inr cn) w') : Go X g 0 0 (Fen X g 1 6 P2) w pc lp (.int a1 :: .int a0 :: .ref (g.1 48) :: st) :=
  kM_106 hc hd hcon hdd hst (by omega) (by omega) (fun v w' h => absurd h Tp_l) (fun cn2 w' h => by obtain ⟨rfl, h⟩ := h; exact x_out hc (hP w' h))
/-- PairedFieldModel: a call of PairedFieldModel.isFirstWhite -/
theorem kM_81 {d' k n : Nat} {P : Rt → Wd → Prop} {a0 : Int32} {a1 : Int32} (hc : Ok X g cc "PairedFieldModel" ret hx d) (hd : decode cc pc = .ok (.invokevirtual 81, 3)) (hcon : Con X.2.1 g yM_isFirstWhite bM_isFirstWhite 7 ((some .boolean)) [] d' k n (.ref (g.1 48) :: [.int a0, .int a1]) w P) (hdd : d' + 1 ≤ d) (hst : (st.map fun v => v.category).sum ≤ 8) (hcells : kc + k ≤ X.2.2.2.1.cells) (hslots : ks + n ≤ X.2.2.2.1.slots)
    (hret : ∀ (v : Option Value) (w' : Wd), P (.inl v) w' → Go X g (kc + k) (ks + n) Q w' (pc + 3) lp (v.toList ++ st)) (hthr : ∀ (cn : String) (w' : Wd), P (.inr cn) w' → GoX X g (kc + k) (ks + n) Q w' pc lp cn) : Go X g kc ks Q w pc lp (.int a1 :: .int a0 :: .ref (g.1 48) :: st) :=
  r_callv (av := [.int a0, .int a1]) (nL' := 7) (q := 48) (ci := 3) (C := R_M) (Tc := T_M) (N := 17) hc hd hcon (t3_mem 231 rfl rfl) (t3_mem 233 rfl rfl) (t0_mem 37 rfl rfl) (t3_mem 234 rfl rfl) (by decide) (by decide +kernel) (show (parseMethodDescriptor yM_isFirstWhite.desc).map (fun d => d.parameters.length) = some 2 by decide +kernel) (by decide) (ent_M g (w 48)) rfl hdd (by decide) (fun v hv => by simp only [List.mem_cons, List.not_mem_nil, or_false] at hv; rcases hv with rfl | rfl <;> rfl) (Nat.le_of_ble_eq_true rfl) hst hcells hslots hret hthr
theorem kM_81r {d' : Nat} {P : Option Value → Wd → Prop} {a0 : Int32} {a1 : Int32} (hc : Ok X g cc "PairedFieldModel" ret hx d) (hd : decode cc pc = .ok (.invokevirtual 81, 3)) (hcon : Con X.2.1 g yM_isFirstWhite bM_isFirstWhite 7 ((some .boolean)) [] d' 0 0 (.ref (g.1 48) :: [.int a0, .int a1]) w (Rp P)) (hdd : d' + 1 ≤ d) (hst : (st.map fun v => v.category).sum ≤ 8) (hret : ∀ (v : Option Value) (w' : Wd), P v w' → Go X g 0 0 Q w' (pc + 3) lp (v.toList ++ st)) : Go X g 0 0 Q w pc lp (.int a1 :: .int a0 :: .ref (g.1 48) :: st) :=
  kM_81 hc hd hcon hdd hst (Nat.zero_le _) (Nat.zero_le _) (fun v w' h => hret v w' (Rp_l h)) (fun cn w' h => absurd h Rp_r)
theorem kM_81t {d' : Nat} {cn : String} {P : Wd → Prop} {P2 : Rt → Wd → Prop} {a0 : Int32} {a1 : Int32} (hc : Ok X g cc "PairedFieldModel" ret [] d) (hd : decode cc pc = .ok (.invokevirtual 81, 3)) (hcon : Con X.2.1 g yM_isFirstWhite bM_isFirstWhite 7 ((some .boolean)) [] d' 1 6 (.ref (g.1 48) :: [.int a0, .int a1]) w (Tp cn P)) (hdd : d' + 1 ≤ d) (hst : (st.map fun v => v.category).sum ≤ 8) (h1 : 1 ≤ X.2.2.2.1.cells) (h6 : 6 ≤ X.2.2.2.1.slots) (hP : ∀ w' : Wd, P w' → P2 (.inr cn) w') : Go X g 0 0 (Fen X g 1 6 P2) w pc lp (.int a1 :: .int a0 :: .ref (g.1 48) :: st) :=
  kM_81 hc hd hcon hdd hst (by omega) (by omega) (fun v w' h => absurd h Tp_l) (fun cn2 w' h => by obtain ⟨rfl, h⟩ := h; exact x_out hc (hP w' h))
/-- PairedFieldModel: a call of PairedFieldModel.balanceOf -/
theorem kM_74 {d' k n : Nat} {P : Rt → Wd → Prop} {a0 : Int32} (hc : Ok X g cc "PairedFieldModel" ret hx d) (hd : decode cc pc = .ok (.invokevirtual 74, 3)) (hcon : Con X.2.1 g yM_balanceOf bM_balanceOf 4 ((some .int)) [] d' k n (.ref (g.1 48) :: [.int a0]) w P) (hdd : d' + 1 ≤ d) (hst : (st.map fun v => v.category).sum ≤ 8) (hcells : kc + k ≤ X.2.2.2.1.cells) (hslots : ks + n ≤ X.2.2.2.1.slots)
    (hret : ∀ (v : Option Value) (w' : Wd), P (.inl v) w' → Go X g (kc + k) (ks + n) Q w' (pc + 3) lp (v.toList ++ st)) (hthr : ∀ (cn : String) (w' : Wd), P (.inr cn) w' → GoX X g (kc + k) (ks + n) Q w' pc lp cn) : Go X g kc ks Q w pc lp (.int a0 :: .ref (g.1 48) :: st) :=
  r_callv (av := [.int a0]) (nL' := 4) (q := 48) (ci := 3) (C := R_M) (Tc := T_M) (N := 17) hc hd hcon (t3_mem 235 rfl rfl) (t3_mem 237 rfl rfl) (t0_mem 38 rfl rfl) (t3_mem 238 rfl rfl) (by decide) (by decide +kernel) (show (parseMethodDescriptor yM_balanceOf.desc).map (fun d => d.parameters.length) = some 1 by decide +kernel) (by decide) (ent_M g (w 48)) rfl hdd (by decide) (fun v hv => by simp only [List.mem_cons, List.not_mem_nil, or_false] at hv; rcases hv with rfl <;> rfl) (Nat.le_of_ble_eq_true rfl) hst hcells hslots hret hthr
theorem kM_74r {d' : Nat} {P : Option Value → Wd → Prop} {a0 : Int32} (hc : Ok X g cc "PairedFieldModel" ret hx d) (hd : decode cc pc = .ok (.invokevirtual 74, 3)) (hcon : Con X.2.1 g yM_balanceOf bM_balanceOf 4 ((some .int)) [] d' 0 0 (.ref (g.1 48) :: [.int a0]) w (Rp P)) (hdd : d' + 1 ≤ d) (hst : (st.map fun v => v.category).sum ≤ 8) (hret : ∀ (v : Option Value) (w' : Wd), P v w' → Go X g 0 0 Q w' (pc + 3) lp (v.toList ++ st)) : Go X g 0 0 Q w pc lp (.int a0 :: .ref (g.1 48) :: st) :=
  kM_74 hc hd hcon hdd hst (Nat.zero_le _) (Nat.zero_le _) (fun v w' h => hret v w' (Rp_l h)) (fun cn w' h => absurd h Rp_r)
theorem kM_74t {d' : Nat} {cn : String} {P : Wd → Prop} {P2 : Rt → Wd → Prop} {a0 : Int32} (hc : Ok X g cc "PairedFieldModel" ret [] d) (hd : decode cc pc = .ok (.invokevirtual 74, 3)) (hcon : Con X.2.1 g yM_balanceOf bM_balanceOf 4 ((some .int)) [] d' 1 6 (.ref (g.1 48) :: [.int a0]) w (Tp cn P)) (hdd : d' + 1 ≤ d) (hst : (st.map fun v => v.category).sum ≤ 8) (h1 : 1 ≤ X.2.2.2.1.cells) (h6 : 6 ≤ X.2.2.2.1.slots) (hP : ∀ w' : Wd, P w' → P2 (.inr cn) w') : Go X g 0 0 (Fen X g 1 6 P2) w pc lp (.int a0 :: .ref (g.1 48) :: st) :=
  kM_74 hc hd hcon hdd hst (by omega) (by omega) (fun v w' h => absurd h Tp_l) (fun cn2 w' h => by obtain ⟨rfl, h⟩ := h; exact x_out hc (hP w' h))
/-- PairedFieldModel: a call of PairedFieldModel.hadGame -/
theorem kM_66 {d' k n : Nat} {P : Rt → Wd → Prop} {a0 : Int32} {a1 : Int32} (hc : Ok X g cc "PairedFieldModel" ret hx d) (hd : decode cc pc = .ok (.invokevirtual 66, 3)) (hcon : Con X.2.1 g yM_hadGame bM_hadGame 4 ((some .boolean)) [] d' k n (.ref (g.1 48) :: [.int a0, .int a1]) w P) (hdd : d' + 1 ≤ d) (hst : (st.map fun v => v.category).sum ≤ 8) (hcells : kc + k ≤ X.2.2.2.1.cells) (hslots : ks + n ≤ X.2.2.2.1.slots)
    (hret : ∀ (v : Option Value) (w' : Wd), P (.inl v) w' → Go X g (kc + k) (ks + n) Q w' (pc + 3) lp (v.toList ++ st)) (hthr : ∀ (cn : String) (w' : Wd), P (.inr cn) w' → GoX X g (kc + k) (ks + n) Q w' pc lp cn) : Go X g kc ks Q w pc lp (.int a1 :: .int a0 :: .ref (g.1 48) :: st) :=
  r_callv (av := [.int a0, .int a1]) (nL' := 4) (q := 48) (ci := 3) (C := R_M) (Tc := T_M) (N := 17) hc hd hcon (t3_mem 239 rfl rfl) (t4_mem 1 rfl rfl) (t0_mem 39 rfl rfl) (t4_mem 2 rfl rfl) (by decide) (by decide +kernel) (show (parseMethodDescriptor yM_hadGame.desc).map (fun d => d.parameters.length) = some 2 by decide +kernel) (by decide) (ent_M g (w 48)) rfl hdd (by decide) (fun v hv => by simp only [List.mem_cons, List.not_mem_nil, or_false] at hv; rcases hv with rfl | rfl <;> rfl) (Nat.le_of_ble_eq_true rfl) hst hcells hslots hret hthr
theorem kM_66r {d' : Nat} {P : Option Value → Wd → Prop} {a0 : Int32} {a1 : Int32} (hc : Ok X g cc "PairedFieldModel" ret hx d) (hd : decode cc pc = .ok (.invokevirtual 66, 3)) (hcon : Con X.2.1 g yM_hadGame bM_hadGame 4 ((some .boolean)) [] d' 0 0 (.ref (g.1 48) :: [.int a0, .int a1]) w (Rp P)) (hdd : d' + 1 ≤ d) (hst : (st.map fun v => v.category).sum ≤ 8) (hret : ∀ (v : Option Value) (w' : Wd), P v w' → Go X g 0 0 Q w' (pc + 3) lp (v.toList ++ st)) : Go X g 0 0 Q w pc lp (.int a1 :: .int a0 :: .ref (g.1 48) :: st) :=
  kM_66 hc hd hcon hdd hst (Nat.zero_le _) (Nat.zero_le _) (fun v w' h => hret v w' (Rp_l h)) (fun cn w' h => absurd h Rp_r)
theorem kM_66t {d' : Nat} {cn : String} {P : Wd → Prop} {P2 : Rt → Wd → Prop} {a0 : Int32} {a1 : Int32} (hc : Ok X g cc "PairedFieldModel" ret [] d) (hd : decode cc pc = .ok (.invokevirtual 66, 3)) (hcon : Con X.2.1 g yM_hadGame bM_hadGame 4 ((some .boolean)) [] d' 1 6 (.ref (g.1 48) :: [.int a0, .int a1]) w (Tp cn P)) (hdd : d' + 1 ≤ d) (hst : (st.map fun v => v.category).sum ≤ 8) (h1 : 1 ≤ X.2.2.2.1.cells) (h6 : 6 ≤ X.2.2.2.1.slots) (hP : ∀ w' : Wd, P w' → P2 (.inr cn) w') : Go X g 0 0 (Fen X g 1 6 P2) w pc lp (.int a1 :: .int a0 :: .ref (g.1 48) :: st) :=
  kM_66 hc hd hcon hdd hst (by omega) (by omega) (fun v w' h => absurd h Tp_l) (fun cn2 w' h => by obtain ⟨rfl, h⟩ := h; exact x_out hc (hP w' h))
/-- PairedFieldModel: a call of PairedFieldModel.colourOf -/
theorem kM_77 {d' k n : Nat} {P : Rt → Wd → Prop} {a0 : Int32} {a1 : Int32} (hc : Ok X g cc "PairedFieldModel" ret hx d) (hd : decode cc pc = .ok (.invokevirtual 77, 3)) (hcon : Con X.2.1 g yM_colourOf bM_colourOf 5 ((some .int)) [] d' k n (.ref (g.1 48) :: [.int a0, .int a1]) w P) (hdd : d' + 1 ≤ d) (hst : (st.map fun v => v.category).sum ≤ 8) (hcells : kc + k ≤ X.2.2.2.1.cells) (hslots : ks + n ≤ X.2.2.2.1.slots)
    (hret : ∀ (v : Option Value) (w' : Wd), P (.inl v) w' → Go X g (kc + k) (ks + n) Q w' (pc + 3) lp (v.toList ++ st)) (hthr : ∀ (cn : String) (w' : Wd), P (.inr cn) w' → GoX X g (kc + k) (ks + n) Q w' pc lp cn) : Go X g kc ks Q w pc lp (.int a1 :: .int a0 :: .ref (g.1 48) :: st) :=
  r_callv (av := [.int a0, .int a1]) (nL' := 5) (q := 48) (ci := 3) (C := R_M) (Tc := T_M) (N := 17) hc hd hcon (t4_mem 3 rfl rfl) (t4_mem 5 rfl rfl) (t0_mem 40 rfl rfl) (t4_mem 6 rfl rfl) (by decide) (by decide +kernel) (show (parseMethodDescriptor yM_colourOf.desc).map (fun d => d.parameters.length) = some 2 by decide +kernel) (by decide) (ent_M g (w 48)) rfl hdd (by decide) (fun v hv => by simp only [List.mem_cons, List.not_mem_nil, or_false] at hv; rcases hv with rfl | rfl <;> rfl) (Nat.le_of_ble_eq_true rfl) hst hcells hslots hret hthr
theorem kM_77r {d' : Nat} {P : Option Value → Wd → Prop} {a0 : Int32} {a1 : Int32} (hc : Ok X g cc "PairedFieldModel" ret hx d) (hd : decode cc pc = .ok (.invokevirtual 77, 3)) (hcon : Con X.2.1 g yM_colourOf bM_colourOf 5 ((some .int)) [] d' 0 0 (.ref (g.1 48) :: [.int a0, .int a1]) w (Rp P)) (hdd : d' + 1 ≤ d) (hst : (st.map fun v => v.category).sum ≤ 8) (hret : ∀ (v : Option Value) (w' : Wd), P v w' → Go X g 0 0 Q w' (pc + 3) lp (v.toList ++ st)) : Go X g 0 0 Q w pc lp (.int a1 :: .int a0 :: .ref (g.1 48) :: st) :=
  kM_77 hc hd hcon hdd hst (Nat.zero_le _) (Nat.zero_le _) (fun v w' h => hret v w' (Rp_l h)) (fun cn w' h => absurd h Rp_r)
theorem kM_77t {d' : Nat} {cn : String} {P : Wd → Prop} {P2 : Rt → Wd → Prop} {a0 : Int32} {a1 : Int32} (hc : Ok X g cc "PairedFieldModel" ret [] d) (hd : decode cc pc = .ok (.invokevirtual 77, 3)) (hcon : Con X.2.1 g yM_colourOf bM_colourOf 5 ((some .int)) [] d' 1 6 (.ref (g.1 48) :: [.int a0, .int a1]) w (Tp cn P)) (hdd : d' + 1 ≤ d) (hst : (st.map fun v => v.category).sum ≤ 8) (h1 : 1 ≤ X.2.2.2.1.cells) (h6 : 6 ≤ X.2.2.2.1.slots) (hP : ∀ w' : Wd, P w' → P2 (.inr cn) w') : Go X g 0 0 (Fen X g 1 6 P2) w pc lp (.int a1 :: .int a0 :: .ref (g.1 48) :: st) :=
  kM_77 hc hd hcon hdd hst (by omega) (by omega) (fun v w' h => absurd h Tp_l) (fun cn2 w' h => by obtain ⟨rfl, h⟩ := h; exact x_out hc (hP w' h))
/-- PairedFieldModel: a call of PairedFieldModel.clashes -/
theorem kM_84 {d' k n : Nat} {P : Rt → Wd → Prop} {a0 : Int32} {a1 : Int32} (hc : Ok X g cc "PairedFieldModel" ret hx d) (hd : decode cc pc = .ok (.invokevirtual 84, 3)) (hcon : Con X.2.1 g yM_clashes bM_clashes 5 ((some .int)) [] d' k n (.ref (g.1 48) :: [.int a0, .int a1]) w P) (hdd : d' + 1 ≤ d) (hst : (st.map fun v => v.category).sum ≤ 8) (hcells : kc + k ≤ X.2.2.2.1.cells) (hslots : ks + n ≤ X.2.2.2.1.slots)
    (hret : ∀ (v : Option Value) (w' : Wd), P (.inl v) w' → Go X g (kc + k) (ks + n) Q w' (pc + 3) lp (v.toList ++ st)) (hthr : ∀ (cn : String) (w' : Wd), P (.inr cn) w' → GoX X g (kc + k) (ks + n) Q w' pc lp cn) : Go X g kc ks Q w pc lp (.int a1 :: .int a0 :: .ref (g.1 48) :: st) :=
  r_callv (av := [.int a0, .int a1]) (nL' := 5) (q := 48) (ci := 3) (C := R_M) (Tc := T_M) (N := 17) hc hd hcon (t4_mem 7 rfl rfl) (t4_mem 9 rfl rfl) (t0_mem 41 rfl rfl) (t4_mem 10 rfl rfl) (by decide) (by decide +kernel) (show (parseMethodDescriptor yM_clashes.desc).map (fun d => d.parameters.length) = some 2 by decide +kernel) (by decide) (ent_M g (w 48)) rfl hdd (by decide) (fun v hv => by simp only [List.mem_cons, List.not_mem_nil, or_false] at hv; rcases hv with rfl | rfl <;> rfl) (Nat.le_of_ble_eq_true rfl) hst hcells hslots hret hthr
theorem kM_84r {d' : Nat} {P : Option Value → Wd → Prop} {a0 : Int32} {a1 : Int32} (hc : Ok X g cc "PairedFieldModel" ret hx d) (hd : decode cc pc = .ok (.invokevirtual 84, 3)) (hcon : Con X.2.1 g yM_clashes bM_clashes 5 ((some .int)) [] d' 0 0 (.ref (g.1 48) :: [.int a0, .int a1]) w (Rp P)) (hdd : d' + 1 ≤ d) (hst : (st.map fun v => v.category).sum ≤ 8) (hret : ∀ (v : Option Value) (w' : Wd), P v w' → Go X g 0 0 Q w' (pc + 3) lp (v.toList ++ st)) : Go X g 0 0 Q w pc lp (.int a1 :: .int a0 :: .ref (g.1 48) :: st) :=
  kM_84 hc hd hcon hdd hst (Nat.zero_le _) (Nat.zero_le _) (fun v w' h => hret v w' (Rp_l h)) (fun cn w' h => absurd h Rp_r)
theorem kM_84t {d' : Nat} {cn : String} {P : Wd → Prop} {P2 : Rt → Wd → Prop} {a0 : Int32} {a1 : Int32} (hc : Ok X g cc "PairedFieldModel" ret [] d) (hd : decode cc pc = .ok (.invokevirtual 84, 3)) (hcon : Con X.2.1 g yM_clashes bM_clashes 5 ((some .int)) [] d' 1 6 (.ref (g.1 48) :: [.int a0, .int a1]) w (Tp cn P)) (hdd : d' + 1 ≤ d) (hst : (st.map fun v => v.category).sum ≤ 8) (h1 : 1 ≤ X.2.2.2.1.cells) (h6 : 6 ≤ X.2.2.2.1.slots) (hP : ∀ w' : Wd, P w' → P2 (.inr cn) w') : Go X g 0 0 (Fen X g 1 6 P2) w pc lp (.int a1 :: .int a0 :: .ref (g.1 48) :: st) :=
  kM_84 hc hd hcon hdd hst (by omega) (by omega) (fun v w' h => absurd h Tp_l) (fun cn2 w' h => by obtain ⟨rfl, h⟩ := h; exact x_out hc (hP w' h))
/-- PairedFieldModel: a call of PairedFieldModel.whole -/
theorem kM_116 {d' k n : Nat} {P : Rt → Wd → Prop} (hc : Ok X g cc "PairedFieldModel" ret hx d) (hd : decode cc pc = .ok (.invokevirtual 116, 3)) (hcon : Con X.2.1 g yM_whole bM_whole 1 ((some .int)) [] d' k n (.ref (g.1 48) :: []) w P) (hdd : d' + 1 ≤ d) (hst : (st.map fun v => v.category).sum ≤ 8) (hcells : kc + k ≤ X.2.2.2.1.cells) (hslots : ks + n ≤ X.2.2.2.1.slots)
    (hret : ∀ (v : Option Value) (w' : Wd), P (.inl v) w' → Go X g (kc + k) (ks + n) Q w' (pc + 3) lp (v.toList ++ st)) (hthr : ∀ (cn : String) (w' : Wd), P (.inr cn) w' → GoX X g (kc + k) (ks + n) Q w' pc lp cn) : Go X g kc ks Q w pc lp (.ref (g.1 48) :: st) :=
  r_callv (av := []) (nL' := 1) (q := 48) (ci := 3) (C := R_M) (Tc := T_M) (N := 17) hc hd hcon (t4_mem 12 rfl rfl) (t4_mem 14 rfl rfl) (t0_mem 42 rfl rfl) (t4_mem 15 rfl rfl) (by decide) (by decide +kernel) (show (parseMethodDescriptor yM_whole.desc).map (fun d => d.parameters.length) = some 0 by decide +kernel) (by decide) (ent_M g (w 48)) rfl hdd (by decide) (fun v hv => by cases hv) (Nat.le_of_ble_eq_true rfl) hst hcells hslots hret hthr
theorem kM_116r {d' : Nat} {P : Option Value → Wd → Prop} (hc : Ok X g cc "PairedFieldModel" ret hx d) (hd : decode cc pc = .ok (.invokevirtual 116, 3)) (hcon : Con X.2.1 g yM_whole bM_whole 1 ((some .int)) [] d' 0 0 (.ref (g.1 48) :: []) w (Rp P)) (hdd : d' + 1 ≤ d) (hst : (st.map fun v => v.category).sum ≤ 8) (hret : ∀ (v : Option Value) (w' : Wd), P v w' → Go X g 0 0 Q w' (pc + 3) lp (v.toList ++ st)) : Go X g 0 0 Q w pc lp (.ref (g.1 48) :: st) :=
  kM_116 hc hd hcon hdd hst (Nat.zero_le _) (Nat.zero_le _) (fun v w' h => hret v w' (Rp_l h)) (fun cn w' h => absurd h Rp_r)
theorem kM_116t {d' : Nat} {cn : String} {P : Wd → Prop} {P2 : Rt → Wd → Prop} (hc : Ok X g cc "PairedFieldModel" ret [] d) (hd : decode cc pc = .ok (.invokevirtual 116, 3)) (hcon : Con X.2.1 g yM_whole bM_whole 1 ((some .int)) [] d' 1 6 (.ref (g.1 48) :: []) w (Tp cn P)) (hdd : d' + 1 ≤ d) (hst : (st.map fun v => v.category).sum ≤ 8) (h1 : 1 ≤ X.2.2.2.1.cells) (h6 : 6 ≤ X.2.2.2.1.slots) (hP : ∀ w' : Wd, P w' → P2 (.inr cn) w') : Go X g 0 0 (Fen X g 1 6 P2) w pc lp (.ref (g.1 48) :: st) :=
  kM_116 hc hd hcon hdd hst (by omega) (by omega) (fun v w' h => absurd h Tp_l) (fun cn2 w' h => by obtain ⟨rfl, h⟩ := h; exact x_out hc (hP w' h))
/-- PairedFieldModel: a call of PairedFieldModel.openRound -/
theorem kM_123 {d' k n : Nat} {P : Rt → Wd → Prop} (hc : Ok X g cc "PairedFieldModel" ret hx d) (hd : decode cc pc = .ok (.invokevirtual 123, 3)) (hcon : Con X.2.1 g yM_openRound bM_openRound 8 ((some .int)) [] d' k n (.ref (g.1 48) :: []) w P) (hdd : d' + 1 ≤ d) (hst : (st.map fun v => v.category).sum ≤ 8) (hcells : kc + k ≤ X.2.2.2.1.cells) (hslots : ks + n ≤ X.2.2.2.1.slots)
    (hret : ∀ (v : Option Value) (w' : Wd), P (.inl v) w' → Go X g (kc + k) (ks + n) Q w' (pc + 3) lp (v.toList ++ st)) (hthr : ∀ (cn : String) (w' : Wd), P (.inr cn) w' → GoX X g (kc + k) (ks + n) Q w' pc lp cn) : Go X g kc ks Q w pc lp (.ref (g.1 48) :: st) :=
  r_callv (av := []) (nL' := 8) (q := 48) (ci := 3) (C := R_M) (Tc := T_M) (N := 17) hc hd hcon (t4_mem 16 rfl rfl) (t4_mem 18 rfl rfl) (t0_mem 43 rfl rfl) (t4_mem 19 rfl rfl) (by decide) (by decide +kernel) (show (parseMethodDescriptor yM_openRound.desc).map (fun d => d.parameters.length) = some 0 by decide +kernel) (by decide) (ent_M g (w 48)) rfl hdd (by decide) (fun v hv => by cases hv) (Nat.le_of_ble_eq_true rfl) hst hcells hslots hret hthr
theorem kM_123r {d' : Nat} {P : Option Value → Wd → Prop} (hc : Ok X g cc "PairedFieldModel" ret hx d) (hd : decode cc pc = .ok (.invokevirtual 123, 3)) (hcon : Con X.2.1 g yM_openRound bM_openRound 8 ((some .int)) [] d' 0 0 (.ref (g.1 48) :: []) w (Rp P)) (hdd : d' + 1 ≤ d) (hst : (st.map fun v => v.category).sum ≤ 8) (hret : ∀ (v : Option Value) (w' : Wd), P v w' → Go X g 0 0 Q w' (pc + 3) lp (v.toList ++ st)) : Go X g 0 0 Q w pc lp (.ref (g.1 48) :: st) :=
  kM_123 hc hd hcon hdd hst (Nat.zero_le _) (Nat.zero_le _) (fun v w' h => hret v w' (Rp_l h)) (fun cn w' h => absurd h Rp_r)
theorem kM_123t {d' : Nat} {cn : String} {P : Wd → Prop} {P2 : Rt → Wd → Prop} (hc : Ok X g cc "PairedFieldModel" ret [] d) (hd : decode cc pc = .ok (.invokevirtual 123, 3)) (hcon : Con X.2.1 g yM_openRound bM_openRound 8 ((some .int)) [] d' 1 6 (.ref (g.1 48) :: []) w (Tp cn P)) (hdd : d' + 1 ≤ d) (hst : (st.map fun v => v.category).sum ≤ 8) (h1 : 1 ≤ X.2.2.2.1.cells) (h6 : 6 ≤ X.2.2.2.1.slots) (hP : ∀ w' : Wd, P w' → P2 (.inr cn) w') : Go X g 0 0 (Fen X g 1 6 P2) w pc lp (.ref (g.1 48) :: st) :=
  kM_123 hc hd hcon hdd hst (by omega) (by omega) (fun v w' h => absurd h Tp_l) (fun cn2 w' h => by obtain ⟨rfl, h⟩ := h; exact x_out hc (hP w' h))
/-- PairedFieldLaw: a call of PairedFieldModel.cost -/
theorem kL_100 {d' k n : Nat} {P : Rt → Wd → Prop} (hc : Ok X g cc "PairedFieldLaw" ret hx d) (hd : decode cc pc = .ok (.invokevirtual 100, 3)) (hcon : Con X.2.1 g yM_cost bM_cost 2 ((some .int)) [] d' k n (.ref (g.1 48) :: []) w P) (hdd : d' + 1 ≤ d) (hst : (st.map fun v => v.category).sum ≤ 8) (hcells : kc + k ≤ X.2.2.2.1.cells) (hslots : ks + n ≤ X.2.2.2.1.slots)
    (hret : ∀ (v : Option Value) (w' : Wd), P (.inl v) w' → Go X g (kc + k) (ks + n) Q w' (pc + 3) lp (v.toList ++ st)) (hthr : ∀ (cn : String) (w' : Wd), P (.inr cn) w' → GoX X g (kc + k) (ks + n) Q w' pc lp cn) : Go X g kc ks Q w pc lp (.ref (g.1 48) :: st) :=
  r_callv (av := []) (nL' := 2) (q := 48) (ci := 3) (C := R_M) (Tc := T_M) (N := 17) hc hd hcon (t4_mem 20 rfl rfl) (t4_mem 21 rfl rfl) (t4_mem 22 rfl rfl) (t4_mem 23 rfl rfl) (by decide) (by decide +kernel) (show (parseMethodDescriptor yM_cost.desc).map (fun d => d.parameters.length) = some 0 by decide +kernel) (by decide) (ent_M g (w 48)) rfl hdd (by decide) (fun v hv => by cases hv) (Nat.le_of_ble_eq_true rfl) hst hcells hslots hret hthr
theorem kL_100r {d' : Nat} {P : Option Value → Wd → Prop} (hc : Ok X g cc "PairedFieldLaw" ret hx d) (hd : decode cc pc = .ok (.invokevirtual 100, 3)) (hcon : Con X.2.1 g yM_cost bM_cost 2 ((some .int)) [] d' 0 0 (.ref (g.1 48) :: []) w (Rp P)) (hdd : d' + 1 ≤ d) (hst : (st.map fun v => v.category).sum ≤ 8) (hret : ∀ (v : Option Value) (w' : Wd), P v w' → Go X g 0 0 Q w' (pc + 3) lp (v.toList ++ st)) : Go X g 0 0 Q w pc lp (.ref (g.1 48) :: st) :=
  kL_100 hc hd hcon hdd hst (Nat.zero_le _) (Nat.zero_le _) (fun v w' h => hret v w' (Rp_l h)) (fun cn w' h => absurd h Rp_r)
theorem kL_100t {d' : Nat} {cn : String} {P : Wd → Prop} {P2 : Rt → Wd → Prop} (hc : Ok X g cc "PairedFieldLaw" ret [] d) (hd : decode cc pc = .ok (.invokevirtual 100, 3)) (hcon : Con X.2.1 g yM_cost bM_cost 2 ((some .int)) [] d' 1 6 (.ref (g.1 48) :: []) w (Tp cn P)) (hdd : d' + 1 ≤ d) (hst : (st.map fun v => v.category).sum ≤ 8) (h1 : 1 ≤ X.2.2.2.1.cells) (h6 : 6 ≤ X.2.2.2.1.slots) (hP : ∀ w' : Wd, P w' → P2 (.inr cn) w') : Go X g 0 0 (Fen X g 1 6 P2) w pc lp (.ref (g.1 48) :: st) :=
  kL_100 hc hd hcon hdd hst (by omega) (by omega) (fun v w' h => absurd h Tp_l) (fun cn2 w' h => by obtain ⟨rfl, h⟩ := h; exact x_out hc (hP w' h))
/-- PairedFieldLaw: a call of PairedFieldModel.ways -/
theorem kL_104 {d' k n : Nat} {P : Rt → Wd → Prop} (hc : Ok X g cc "PairedFieldLaw" ret hx d) (hd : decode cc pc = .ok (.invokevirtual 104, 3)) (hcon : Con X.2.1 g yM_ways bM_ways 1 ((some .int)) [] d' k n (.ref (g.1 48) :: []) w P) (hdd : d' + 1 ≤ d) (hst : (st.map fun v => v.category).sum ≤ 8) (hcells : kc + k ≤ X.2.2.2.1.cells) (hslots : ks + n ≤ X.2.2.2.1.slots)
    (hret : ∀ (v : Option Value) (w' : Wd), P (.inl v) w' → Go X g (kc + k) (ks + n) Q w' (pc + 3) lp (v.toList ++ st)) (hthr : ∀ (cn : String) (w' : Wd), P (.inr cn) w' → GoX X g (kc + k) (ks + n) Q w' pc lp cn) : Go X g kc ks Q w pc lp (.ref (g.1 48) :: st) :=
  r_callv (av := []) (nL' := 1) (q := 48) (ci := 3) (C := R_M) (Tc := T_M) (N := 17) hc hd hcon (t4_mem 24 rfl rfl) (t4_mem 25 rfl rfl) (t4_mem 26 rfl rfl) (t4_mem 27 rfl rfl) (by decide) (by decide +kernel) (show (parseMethodDescriptor yM_ways.desc).map (fun d => d.parameters.length) = some 0 by decide +kernel) (by decide) (ent_M g (w 48)) rfl hdd (by decide) (fun v hv => by cases hv) (Nat.le_of_ble_eq_true rfl) hst hcells hslots hret hthr
theorem kL_104r {d' : Nat} {P : Option Value → Wd → Prop} (hc : Ok X g cc "PairedFieldLaw" ret hx d) (hd : decode cc pc = .ok (.invokevirtual 104, 3)) (hcon : Con X.2.1 g yM_ways bM_ways 1 ((some .int)) [] d' 0 0 (.ref (g.1 48) :: []) w (Rp P)) (hdd : d' + 1 ≤ d) (hst : (st.map fun v => v.category).sum ≤ 8) (hret : ∀ (v : Option Value) (w' : Wd), P v w' → Go X g 0 0 Q w' (pc + 3) lp (v.toList ++ st)) : Go X g 0 0 Q w pc lp (.ref (g.1 48) :: st) :=
  kL_104 hc hd hcon hdd hst (Nat.zero_le _) (Nat.zero_le _) (fun v w' h => hret v w' (Rp_l h)) (fun cn w' h => absurd h Rp_r)
theorem kL_104t {d' : Nat} {cn : String} {P : Wd → Prop} {P2 : Rt → Wd → Prop} (hc : Ok X g cc "PairedFieldLaw" ret [] d) (hd : decode cc pc = .ok (.invokevirtual 104, 3)) (hcon : Con X.2.1 g yM_ways bM_ways 1 ((some .int)) [] d' 1 6 (.ref (g.1 48) :: []) w (Tp cn P)) (hdd : d' + 1 ≤ d) (hst : (st.map fun v => v.category).sum ≤ 8) (h1 : 1 ≤ X.2.2.2.1.cells) (h6 : 6 ≤ X.2.2.2.1.slots) (hP : ∀ w' : Wd, P w' → P2 (.inr cn) w') : Go X g 0 0 (Fen X g 1 6 P2) w pc lp (.ref (g.1 48) :: st) :=
  kL_104 hc hd hcon hdd hst (by omega) (by omega) (fun v w' h => absurd h Tp_l) (fun cn2 w' h => by obtain ⟨rfl, h⟩ := h; exact x_out hc (hP w' h))
/-- PairedFieldLaw: a call of PairedFieldModel.opponent -/
theorem kL_108 {d' k n : Nat} {P : Rt → Wd → Prop} {a0 : Int32} (hc : Ok X g cc "PairedFieldLaw" ret hx d) (hd : decode cc pc = .ok (.invokevirtual 108, 3)) (hcon : Con X.2.1 g yM_opponent bM_opponent 2 ((some .int)) [] d' k n (.ref (g.1 48) :: [.int a0]) w P) (hdd : d' + 1 ≤ d) (hst : (st.map fun v => v.category).sum ≤ 8) (hcells : kc + k ≤ X.2.2.2.1.cells) (hslots : ks + n ≤ X.2.2.2.1.slots)
    (hret : ∀ (v : Option Value) (w' : Wd), P (.inl v) w' → Go X g (kc + k) (ks + n) Q w' (pc + 3) lp (v.toList ++ st)) (hthr : ∀ (cn : String) (w' : Wd), P (.inr cn) w' → GoX X g (kc + k) (ks + n) Q w' pc lp cn) : Go X g kc ks Q w pc lp (.int a0 :: .ref (g.1 48) :: st) :=
  r_callv (av := [.int a0]) (nL' := 2) (q := 48) (ci := 3) (C := R_M) (Tc := T_M) (N := 17) hc hd hcon (t4_mem 28 rfl rfl) (t4_mem 29 rfl rfl) (t4_mem 30 rfl rfl) (t4_mem 31 rfl rfl) (by decide) (by decide +kernel) (show (parseMethodDescriptor yM_opponent.desc).map (fun d => d.parameters.length) = some 1 by decide +kernel) (by decide) (ent_M g (w 48)) rfl hdd (by decide) (fun v hv => by simp only [List.mem_cons, List.not_mem_nil, or_false] at hv; rcases hv with rfl <;> rfl) (Nat.le_of_ble_eq_true rfl) hst hcells hslots hret hthr
theorem kL_108r {d' : Nat} {P : Option Value → Wd → Prop} {a0 : Int32} (hc : Ok X g cc "PairedFieldLaw" ret hx d) (hd : decode cc pc = .ok (.invokevirtual 108, 3)) (hcon : Con X.2.1 g yM_opponent bM_opponent 2 ((some .int)) [] d' 0 0 (.ref (g.1 48) :: [.int a0]) w (Rp P)) (hdd : d' + 1 ≤ d) (hst : (st.map fun v => v.category).sum ≤ 8) (hret : ∀ (v : Option Value) (w' : Wd), P v w' → Go X g 0 0 Q w' (pc + 3) lp (v.toList ++ st)) : Go X g 0 0 Q w pc lp (.int a0 :: .ref (g.1 48) :: st) :=
  kL_108 hc hd hcon hdd hst (Nat.zero_le _) (Nat.zero_le _) (fun v w' h => hret v w' (Rp_l h)) (fun cn w' h => absurd h Rp_r)
theorem kL_108t {d' : Nat} {cn : String} {P : Wd → Prop} {P2 : Rt → Wd → Prop} {a0 : Int32} (hc : Ok X g cc "PairedFieldLaw" ret [] d) (hd : decode cc pc = .ok (.invokevirtual 108, 3)) (hcon : Con X.2.1 g yM_opponent bM_opponent 2 ((some .int)) [] d' 1 6 (.ref (g.1 48) :: [.int a0]) w (Tp cn P)) (hdd : d' + 1 ≤ d) (hst : (st.map fun v => v.category).sum ≤ 8) (h1 : 1 ≤ X.2.2.2.1.cells) (h6 : 6 ≤ X.2.2.2.1.slots) (hP : ∀ w' : Wd, P w' → P2 (.inr cn) w') : Go X g 0 0 (Fen X g 1 6 P2) w pc lp (.int a0 :: .ref (g.1 48) :: st) :=
  kL_108 hc hd hcon hdd hst (by omega) (by omega) (fun v w' h => absurd h Tp_l) (fun cn2 w' h => by obtain ⟨rfl, h⟩ := h; exact x_out hc (hP w' h))
/-- PairedFieldLaw: a call of PairedFieldModel.isWhite -/
theorem kL_111 {d' k n : Nat} {P : Rt → Wd → Prop} {a0 : Int32} (hc : Ok X g cc "PairedFieldLaw" ret hx d) (hd : decode cc pc = .ok (.invokevirtual 111, 3)) (hcon : Con X.2.1 g yM_isWhite bM_isWhite 2 ((some .boolean)) [] d' k n (.ref (g.1 48) :: [.int a0]) w P) (hdd : d' + 1 ≤ d) (hst : (st.map fun v => v.category).sum ≤ 8) (hcells : kc + k ≤ X.2.2.2.1.cells) (hslots : ks + n ≤ X.2.2.2.1.slots)
    (hret : ∀ (v : Option Value) (w' : Wd), P (.inl v) w' → Go X g (kc + k) (ks + n) Q w' (pc + 3) lp (v.toList ++ st)) (hthr : ∀ (cn : String) (w' : Wd), P (.inr cn) w' → GoX X g (kc + k) (ks + n) Q w' pc lp cn) : Go X g kc ks Q w pc lp (.int a0 :: .ref (g.1 48) :: st) :=
  r_callv (av := [.int a0]) (nL' := 2) (q := 48) (ci := 3) (C := R_M) (Tc := T_M) (N := 17) hc hd hcon (t4_mem 32 rfl rfl) (t4_mem 33 rfl rfl) (t4_mem 34 rfl rfl) (t4_mem 35 rfl rfl) (by decide) (by decide +kernel) (show (parseMethodDescriptor yM_isWhite.desc).map (fun d => d.parameters.length) = some 1 by decide +kernel) (by decide) (ent_M g (w 48)) rfl hdd (by decide) (fun v hv => by simp only [List.mem_cons, List.not_mem_nil, or_false] at hv; rcases hv with rfl <;> rfl) (Nat.le_of_ble_eq_true rfl) hst hcells hslots hret hthr
theorem kL_111r {d' : Nat} {P : Option Value → Wd → Prop} {a0 : Int32} (hc : Ok X g cc "PairedFieldLaw" ret hx d) (hd : decode cc pc = .ok (.invokevirtual 111, 3)) (hcon : Con X.2.1 g yM_isWhite bM_isWhite 2 ((some .boolean)) [] d' 0 0 (.ref (g.1 48) :: [.int a0]) w (Rp P)) (hdd : d' + 1 ≤ d) (hst : (st.map fun v => v.category).sum ≤ 8) (hret : ∀ (v : Option Value) (w' : Wd), P v w' → Go X g 0 0 Q w' (pc + 3) lp (v.toList ++ st)) : Go X g 0 0 Q w pc lp (.int a0 :: .ref (g.1 48) :: st) :=
  kL_111 hc hd hcon hdd hst (Nat.zero_le _) (Nat.zero_le _) (fun v w' h => hret v w' (Rp_l h)) (fun cn w' h => absurd h Rp_r)
theorem kL_111t {d' : Nat} {cn : String} {P : Wd → Prop} {P2 : Rt → Wd → Prop} {a0 : Int32} (hc : Ok X g cc "PairedFieldLaw" ret [] d) (hd : decode cc pc = .ok (.invokevirtual 111, 3)) (hcon : Con X.2.1 g yM_isWhite bM_isWhite 2 ((some .boolean)) [] d' 1 6 (.ref (g.1 48) :: [.int a0]) w (Tp cn P)) (hdd : d' + 1 ≤ d) (hst : (st.map fun v => v.category).sum ≤ 8) (h1 : 1 ≤ X.2.2.2.1.cells) (h6 : 6 ≤ X.2.2.2.1.slots) (hP : ∀ w' : Wd, P w' → P2 (.inr cn) w') : Go X g 0 0 (Fen X g 1 6 P2) w pc lp (.int a0 :: .ref (g.1 48) :: st) :=
  kL_111 hc hd hcon hdd hst (by omega) (by omega) (fun v w' h => absurd h Tp_l) (fun cn2 w' h => by obtain ⟨rfl, h⟩ := h; exact x_out hc (hP w' h))
/-- PairedFieldLaw: a call of PairedFieldModel.report -/
theorem kL_115 {d' k n : Nat} {P : Rt → Wd → Prop} {a0 : Int32} {a1 : Int32} (hc : Ok X g cc "PairedFieldLaw" ret hx d) (hd : decode cc pc = .ok (.invokevirtual 115, 3)) (hcon : Con X.2.1 g yM_report bM_report 4 ((none : Option Jvm.ClassFile.FieldType)) [] d' k n (.ref (g.1 48) :: [.int a0, .int a1]) w P) (hdd : d' + 1 ≤ d) (hst : (st.map fun v => v.category).sum ≤ 8) (hcells : kc + k ≤ X.2.2.2.1.cells) (hslots : ks + n ≤ X.2.2.2.1.slots)
    (hret : ∀ (v : Option Value) (w' : Wd), P (.inl v) w' → Go X g (kc + k) (ks + n) Q w' (pc + 3) lp (v.toList ++ st)) (hthr : ∀ (cn : String) (w' : Wd), P (.inr cn) w' → GoX X g (kc + k) (ks + n) Q w' pc lp cn) : Go X g kc ks Q w pc lp (.int a1 :: .int a0 :: .ref (g.1 48) :: st) :=
  r_callv (av := [.int a0, .int a1]) (nL' := 4) (q := 48) (ci := 3) (C := R_M) (Tc := T_M) (N := 17) hc hd hcon (t4_mem 36 rfl rfl) (t4_mem 37 rfl rfl) (t4_mem 38 rfl rfl) (t4_mem 39 rfl rfl) (by decide) (by decide +kernel) (show (parseMethodDescriptor yM_report.desc).map (fun d => d.parameters.length) = some 2 by decide +kernel) (by decide) (ent_M g (w 48)) rfl hdd (by decide) (fun v hv => by simp only [List.mem_cons, List.not_mem_nil, or_false] at hv; rcases hv with rfl | rfl <;> rfl) (Nat.le_of_ble_eq_true rfl) hst hcells hslots hret hthr
theorem kL_115r {d' : Nat} {P : Option Value → Wd → Prop} {a0 : Int32} {a1 : Int32} (hc : Ok X g cc "PairedFieldLaw" ret hx d) (hd : decode cc pc = .ok (.invokevirtual 115, 3)) (hcon : Con X.2.1 g yM_report bM_report 4 ((none : Option Jvm.ClassFile.FieldType)) [] d' 0 0 (.ref (g.1 48) :: [.int a0, .int a1]) w (Rp P)) (hdd : d' + 1 ≤ d) (hst : (st.map fun v => v.category).sum ≤ 8) (hret : ∀ (v : Option Value) (w' : Wd), P v w' → Go X g 0 0 Q w' (pc + 3) lp (v.toList ++ st)) : Go X g 0 0 Q w pc lp (.int a1 :: .int a0 :: .ref (g.1 48) :: st) :=
  kL_115 hc hd hcon hdd hst (Nat.zero_le _) (Nat.zero_le _) (fun v w' h => hret v w' (Rp_l h)) (fun cn w' h => absurd h Rp_r)
theorem kL_115t {d' : Nat} {cn : String} {P : Wd → Prop} {P2 : Rt → Wd → Prop} {a0 : Int32} {a1 : Int32} (hc : Ok X g cc "PairedFieldLaw" ret [] d) (hd : decode cc pc = .ok (.invokevirtual 115, 3)) (hcon : Con X.2.1 g yM_report bM_report 4 ((none : Option Jvm.ClassFile.FieldType)) [] d' 1 6 (.ref (g.1 48) :: [.int a0, .int a1]) w (Tp cn P)) (hdd : d' + 1 ≤ d) (hst : (st.map fun v => v.category).sum ≤ 8) (h1 : 1 ≤ X.2.2.2.1.cells) (h6 : 6 ≤ X.2.2.2.1.slots) (hP : ∀ w' : Wd, P w' → P2 (.inr cn) w') : Go X g 0 0 (Fen X g 1 6 P2) w pc lp (.int a1 :: .int a0 :: .ref (g.1 48) :: st) :=
  kL_115 hc hd hcon hdd hst (by omega) (by omega) (fun v w' h => absurd h Tp_l) (fun cn2 w' h => by obtain ⟨rfl, h⟩ := h; exact x_out hc (hP w' h))
/-- PairedFieldLaw: a call of PairedFieldModel.missing -/
theorem kL_118 {d' k n : Nat} {P : Rt → Wd → Prop} (hc : Ok X g cc "PairedFieldLaw" ret hx d) (hd : decode cc pc = .ok (.invokevirtual 118, 3)) (hcon : Con X.2.1 g yM_missing bM_missing 1 ((some .int)) [] d' k n (.ref (g.1 48) :: []) w P) (hdd : d' + 1 ≤ d) (hst : (st.map fun v => v.category).sum ≤ 8) (hcells : kc + k ≤ X.2.2.2.1.cells) (hslots : ks + n ≤ X.2.2.2.1.slots)
    (hret : ∀ (v : Option Value) (w' : Wd), P (.inl v) w' → Go X g (kc + k) (ks + n) Q w' (pc + 3) lp (v.toList ++ st)) (hthr : ∀ (cn : String) (w' : Wd), P (.inr cn) w' → GoX X g (kc + k) (ks + n) Q w' pc lp cn) : Go X g kc ks Q w pc lp (.ref (g.1 48) :: st) :=
  r_callv (av := []) (nL' := 1) (q := 48) (ci := 3) (C := R_M) (Tc := T_M) (N := 17) hc hd hcon (t4_mem 40 rfl rfl) (t4_mem 41 rfl rfl) (t4_mem 42 rfl rfl) (t4_mem 43 rfl rfl) (by decide) (by decide +kernel) (show (parseMethodDescriptor yM_missing.desc).map (fun d => d.parameters.length) = some 0 by decide +kernel) (by decide) (ent_M g (w 48)) rfl hdd (by decide) (fun v hv => by cases hv) (Nat.le_of_ble_eq_true rfl) hst hcells hslots hret hthr
theorem kL_118r {d' : Nat} {P : Option Value → Wd → Prop} (hc : Ok X g cc "PairedFieldLaw" ret hx d) (hd : decode cc pc = .ok (.invokevirtual 118, 3)) (hcon : Con X.2.1 g yM_missing bM_missing 1 ((some .int)) [] d' 0 0 (.ref (g.1 48) :: []) w (Rp P)) (hdd : d' + 1 ≤ d) (hst : (st.map fun v => v.category).sum ≤ 8) (hret : ∀ (v : Option Value) (w' : Wd), P v w' → Go X g 0 0 Q w' (pc + 3) lp (v.toList ++ st)) : Go X g 0 0 Q w pc lp (.ref (g.1 48) :: st) :=
  kL_118 hc hd hcon hdd hst (Nat.zero_le _) (Nat.zero_le _) (fun v w' h => hret v w' (Rp_l h)) (fun cn w' h => absurd h Rp_r)
theorem kL_118t {d' : Nat} {cn : String} {P : Wd → Prop} {P2 : Rt → Wd → Prop} (hc : Ok X g cc "PairedFieldLaw" ret [] d) (hd : decode cc pc = .ok (.invokevirtual 118, 3)) (hcon : Con X.2.1 g yM_missing bM_missing 1 ((some .int)) [] d' 1 6 (.ref (g.1 48) :: []) w (Tp cn P)) (hdd : d' + 1 ≤ d) (hst : (st.map fun v => v.category).sum ≤ 8) (h1 : 1 ≤ X.2.2.2.1.cells) (h6 : 6 ≤ X.2.2.2.1.slots) (hP : ∀ w' : Wd, P w' → P2 (.inr cn) w') : Go X g 0 0 (Fen X g 1 6 P2) w pc lp (.ref (g.1 48) :: st) :=
  kL_118 hc hd hcon hdd hst (by omega) (by omega) (fun v w' h => absurd h Tp_l) (fun cn2 w' h => by obtain ⟨rfl, h⟩ := h; exact x_out hc (hP w' h))
/-- PairedFieldModel: a call of PairedFieldModel.untold -/
theorem kM_126 {d' k n : Nat} {P : Rt → Wd → Prop} (hc : Ok X g cc "PairedFieldModel" ret hx d) (hd : decode cc pc = .ok (.invokevirtual 126, 3)) (hcon : Con X.2.1 g yM_untold bM_untold 3 ((some .int)) [] d' k n (.ref (g.1 48) :: []) w P) (hdd : d' + 1 ≤ d) (hst : (st.map fun v => v.category).sum ≤ 8) (hcells : kc + k ≤ X.2.2.2.1.cells) (hslots : ks + n ≤ X.2.2.2.1.slots)
    (hret : ∀ (v : Option Value) (w' : Wd), P (.inl v) w' → Go X g (kc + k) (ks + n) Q w' (pc + 3) lp (v.toList ++ st)) (hthr : ∀ (cn : String) (w' : Wd), P (.inr cn) w' → GoX X g (kc + k) (ks + n) Q w' pc lp cn) : Go X g kc ks Q w pc lp (.ref (g.1 48) :: st) :=
  r_callv (av := []) (nL' := 3) (q := 48) (ci := 3) (C := R_M) (Tc := T_M) (N := 17) hc hd hcon (t4_mem 44 rfl rfl) (t4_mem 46 rfl rfl) (t0_mem 44 rfl rfl) (t4_mem 47 rfl rfl) (by decide) (by decide +kernel) (show (parseMethodDescriptor yM_untold.desc).map (fun d => d.parameters.length) = some 0 by decide +kernel) (by decide) (ent_M g (w 48)) rfl hdd (by decide) (fun v hv => by cases hv) (Nat.le_of_ble_eq_true rfl) hst hcells hslots hret hthr
theorem kM_126r {d' : Nat} {P : Option Value → Wd → Prop} (hc : Ok X g cc "PairedFieldModel" ret hx d) (hd : decode cc pc = .ok (.invokevirtual 126, 3)) (hcon : Con X.2.1 g yM_untold bM_untold 3 ((some .int)) [] d' 0 0 (.ref (g.1 48) :: []) w (Rp P)) (hdd : d' + 1 ≤ d) (hst : (st.map fun v => v.category).sum ≤ 8) (hret : ∀ (v : Option Value) (w' : Wd), P v w' → Go X g 0 0 Q w' (pc + 3) lp (v.toList ++ st)) : Go X g 0 0 Q w pc lp (.ref (g.1 48) :: st) :=
  kM_126 hc hd hcon hdd hst (Nat.zero_le _) (Nat.zero_le _) (fun v w' h => hret v w' (Rp_l h)) (fun cn w' h => absurd h Rp_r)
theorem kM_126t {d' : Nat} {cn : String} {P : Wd → Prop} {P2 : Rt → Wd → Prop} (hc : Ok X g cc "PairedFieldModel" ret [] d) (hd : decode cc pc = .ok (.invokevirtual 126, 3)) (hcon : Con X.2.1 g yM_untold bM_untold 3 ((some .int)) [] d' 1 6 (.ref (g.1 48) :: []) w (Tp cn P)) (hdd : d' + 1 ≤ d) (hst : (st.map fun v => v.category).sum ≤ 8) (h1 : 1 ≤ X.2.2.2.1.cells) (h6 : 6 ≤ X.2.2.2.1.slots) (hP : ∀ w' : Wd, P w' → P2 (.inr cn) w') : Go X g 0 0 (Fen X g 1 6 P2) w pc lp (.ref (g.1 48) :: st) :=
  kM_126 hc hd hcon hdd hst (by omega) (by omega) (fun v w' h => absurd h Tp_l) (fun cn2 w' h => by obtain ⟨rfl, h⟩ := h; exact x_out hc (hP w' h))
/-- PairedFieldLaw: a call of PairedFieldModel.close -/
theorem kL_121 {d' k n : Nat} {P : Rt → Wd → Prop} (hc : Ok X g cc "PairedFieldLaw" ret hx d) (hd : decode cc pc = .ok (.invokevirtual 121, 3)) (hcon : Con X.2.1 g yM_close bM_close 1 ((some .int)) [] d' k n (.ref (g.1 48) :: []) w P) (hdd : d' + 1 ≤ d) (hst : (st.map fun v => v.category).sum ≤ 8) (hcells : kc + k ≤ X.2.2.2.1.cells) (hslots : ks + n ≤ X.2.2.2.1.slots)
    (hret : ∀ (v : Option Value) (w' : Wd), P (.inl v) w' → Go X g (kc + k) (ks + n) Q w' (pc + 3) lp (v.toList ++ st)) (hthr : ∀ (cn : String) (w' : Wd), P (.inr cn) w' → GoX X g (kc + k) (ks + n) Q w' pc lp cn) : Go X g kc ks Q w pc lp (.ref (g.1 48) :: st) :=
  r_callv (av := []) (nL' := 1) (q := 48) (ci := 3) (C := R_M) (Tc := T_M) (N := 17) hc hd hcon (t4_mem 48 rfl rfl) (t4_mem 49 rfl rfl) (t4_mem 50 rfl rfl) (t4_mem 51 rfl rfl) (by decide) (by decide +kernel) (show (parseMethodDescriptor yM_close.desc).map (fun d => d.parameters.length) = some 0 by decide +kernel) (by decide) (ent_M g (w 48)) rfl hdd (by decide) (fun v hv => by cases hv) (Nat.le_of_ble_eq_true rfl) hst hcells hslots hret hthr
theorem kL_121r {d' : Nat} {P : Option Value → Wd → Prop} (hc : Ok X g cc "PairedFieldLaw" ret hx d) (hd : decode cc pc = .ok (.invokevirtual 121, 3)) (hcon : Con X.2.1 g yM_close bM_close 1 ((some .int)) [] d' 0 0 (.ref (g.1 48) :: []) w (Rp P)) (hdd : d' + 1 ≤ d) (hst : (st.map fun v => v.category).sum ≤ 8) (hret : ∀ (v : Option Value) (w' : Wd), P v w' → Go X g 0 0 Q w' (pc + 3) lp (v.toList ++ st)) : Go X g 0 0 Q w pc lp (.ref (g.1 48) :: st) :=
  kL_121 hc hd hcon hdd hst (Nat.zero_le _) (Nat.zero_le _) (fun v w' h => hret v w' (Rp_l h)) (fun cn w' h => absurd h Rp_r)
theorem kL_121t {d' : Nat} {cn : String} {P : Wd → Prop} {P2 : Rt → Wd → Prop} (hc : Ok X g cc "PairedFieldLaw" ret [] d) (hd : decode cc pc = .ok (.invokevirtual 121, 3)) (hcon : Con X.2.1 g yM_close bM_close 1 ((some .int)) [] d' 1 6 (.ref (g.1 48) :: []) w (Tp cn P)) (hdd : d' + 1 ≤ d) (hst : (st.map fun v => v.category).sum ≤ 8) (h1 : 1 ≤ X.2.2.2.1.cells) (h6 : 6 ≤ X.2.2.2.1.slots) (hP : ∀ w' : Wd, P w' → P2 (.inr cn) w') : Go X g 0 0 (Fen X g 1 6 P2) w pc lp (.ref (g.1 48) :: st) :=
  kL_121 hc hd hcon hdd hst (by omega) (by omega) (fun v w' h => absurd h Tp_l) (fun cn2 w' h => by obtain ⟨rfl, h⟩ := h; exact x_out hc (hP w' h))
/-- PairedFieldLaw: a call of PairedFieldModel.back -/
theorem kL_124 {d' k n : Nat} {P : Rt → Wd → Prop} (hc : Ok X g cc "PairedFieldLaw" ret hx d) (hd : decode cc pc = .ok (.invokevirtual 124, 3)) (hcon : Con X.2.1 g yM_back bM_back 1 ((some .int)) [] d' k n (.ref (g.1 48) :: []) w P) (hdd : d' + 1 ≤ d) (hst : (st.map fun v => v.category).sum ≤ 8) (hcells : kc + k ≤ X.2.2.2.1.cells) (hslots : ks + n ≤ X.2.2.2.1.slots)
    (hret : ∀ (v : Option Value) (w' : Wd), P (.inl v) w' → Go X g (kc + k) (ks + n) Q w' (pc + 3) lp (v.toList ++ st)) (hthr : ∀ (cn : String) (w' : Wd), P (.inr cn) w' → GoX X g (kc + k) (ks + n) Q w' pc lp cn) : Go X g kc ks Q w pc lp (.ref (g.1 48) :: st) :=
  r_callv (av := []) (nL' := 1) (q := 48) (ci := 3) (C := R_M) (Tc := T_M) (N := 17) hc hd hcon (t4_mem 52 rfl rfl) (t4_mem 53 rfl rfl) (t4_mem 54 rfl rfl) (t4_mem 55 rfl rfl) (by decide) (by decide +kernel) (show (parseMethodDescriptor yM_back.desc).map (fun d => d.parameters.length) = some 0 by decide +kernel) (by decide) (ent_M g (w 48)) rfl hdd (by decide) (fun v hv => by cases hv) (Nat.le_of_ble_eq_true rfl) hst hcells hslots hret hthr
theorem kL_124r {d' : Nat} {P : Option Value → Wd → Prop} (hc : Ok X g cc "PairedFieldLaw" ret hx d) (hd : decode cc pc = .ok (.invokevirtual 124, 3)) (hcon : Con X.2.1 g yM_back bM_back 1 ((some .int)) [] d' 0 0 (.ref (g.1 48) :: []) w (Rp P)) (hdd : d' + 1 ≤ d) (hst : (st.map fun v => v.category).sum ≤ 8) (hret : ∀ (v : Option Value) (w' : Wd), P v w' → Go X g 0 0 Q w' (pc + 3) lp (v.toList ++ st)) : Go X g 0 0 Q w pc lp (.ref (g.1 48) :: st) :=
  kL_124 hc hd hcon hdd hst (Nat.zero_le _) (Nat.zero_le _) (fun v w' h => hret v w' (Rp_l h)) (fun cn w' h => absurd h Rp_r)
theorem kL_124t {d' : Nat} {cn : String} {P : Wd → Prop} {P2 : Rt → Wd → Prop} (hc : Ok X g cc "PairedFieldLaw" ret [] d) (hd : decode cc pc = .ok (.invokevirtual 124, 3)) (hcon : Con X.2.1 g yM_back bM_back 1 ((some .int)) [] d' 1 6 (.ref (g.1 48) :: []) w (Tp cn P)) (hdd : d' + 1 ≤ d) (hst : (st.map fun v => v.category).sum ≤ 8) (h1 : 1 ≤ X.2.2.2.1.cells) (h6 : 6 ≤ X.2.2.2.1.slots) (hP : ∀ w' : Wd, P w' → P2 (.inr cn) w') : Go X g 0 0 (Fen X g 1 6 P2) w pc lp (.ref (g.1 48) :: st) :=
  kL_124 hc hd hcon hdd hst (by omega) (by omega) (fun v w' h => absurd h Tp_l) (fun cn2 w' h => by obtain ⟨rfl, h⟩ := h; exact x_out hc (hP w' h))
/-- PairedFieldLaw: a call of PairedFieldModel.play -/
theorem kL_127 {d' k n : Nat} {P : Rt → Wd → Prop} {a0 : Int32} (hc : Ok X g cc "PairedFieldLaw" ret hx d) (hd : decode cc pc = .ok (.invokevirtual 127, 3)) (hcon : Con X.2.1 g yM_play bM_play 7 ((some .int)) [] d' k n (.ref (g.1 48) :: [.int a0]) w P) (hdd : d' + 1 ≤ d) (hst : (st.map fun v => v.category).sum ≤ 8) (hcells : kc + k ≤ X.2.2.2.1.cells) (hslots : ks + n ≤ X.2.2.2.1.slots)
    (hret : ∀ (v : Option Value) (w' : Wd), P (.inl v) w' → Go X g (kc + k) (ks + n) Q w' (pc + 3) lp (v.toList ++ st)) (hthr : ∀ (cn : String) (w' : Wd), P (.inr cn) w' → GoX X g (kc + k) (ks + n) Q w' pc lp cn) : Go X g kc ks Q w pc lp (.int a0 :: .ref (g.1 48) :: st) :=
  r_callv (av := [.int a0]) (nL' := 7) (q := 48) (ci := 3) (C := R_M) (Tc := T_M) (N := 17) hc hd hcon (t4_mem 56 rfl rfl) (t4_mem 57 rfl rfl) (t4_mem 58 rfl rfl) (t4_mem 59 rfl rfl) (by decide) (by decide +kernel) (show (parseMethodDescriptor yM_play.desc).map (fun d => d.parameters.length) = some 1 by decide +kernel) (by decide) (ent_M g (w 48)) rfl hdd (by decide) (fun v hv => by simp only [List.mem_cons, List.not_mem_nil, or_false] at hv; rcases hv with rfl <;> rfl) (Nat.le_of_ble_eq_true rfl) hst hcells hslots hret hthr
theorem kL_127r {d' : Nat} {P : Option Value → Wd → Prop} {a0 : Int32} (hc : Ok X g cc "PairedFieldLaw" ret hx d) (hd : decode cc pc = .ok (.invokevirtual 127, 3)) (hcon : Con X.2.1 g yM_play bM_play 7 ((some .int)) [] d' 0 0 (.ref (g.1 48) :: [.int a0]) w (Rp P)) (hdd : d' + 1 ≤ d) (hst : (st.map fun v => v.category).sum ≤ 8) (hret : ∀ (v : Option Value) (w' : Wd), P v w' → Go X g 0 0 Q w' (pc + 3) lp (v.toList ++ st)) : Go X g 0 0 Q w pc lp (.int a0 :: .ref (g.1 48) :: st) :=
  kL_127 hc hd hcon hdd hst (Nat.zero_le _) (Nat.zero_le _) (fun v w' h => hret v w' (Rp_l h)) (fun cn w' h => absurd h Rp_r)
theorem kL_127t {d' : Nat} {cn : String} {P : Wd → Prop} {P2 : Rt → Wd → Prop} {a0 : Int32} (hc : Ok X g cc "PairedFieldLaw" ret [] d) (hd : decode cc pc = .ok (.invokevirtual 127, 3)) (hcon : Con X.2.1 g yM_play bM_play 7 ((some .int)) [] d' 1 6 (.ref (g.1 48) :: [.int a0]) w (Tp cn P)) (hdd : d' + 1 ≤ d) (hst : (st.map fun v => v.category).sum ≤ 8) (h1 : 1 ≤ X.2.2.2.1.cells) (h6 : 6 ≤ X.2.2.2.1.slots) (hP : ∀ w' : Wd, P w' → P2 (.inr cn) w') : Go X g 0 0 (Fen X g 1 6 P2) w pc lp (.int a0 :: .ref (g.1 48) :: st) :=
  kL_127 hc hd hcon hdd hst (by omega) (by omega) (fun v w' h => absurd h Tp_l) (fun cn2 w' h => by obtain ⟨rfl, h⟩ := h; exact x_out hc (hP w' h))
/-- PairedFieldLaw: a call of PairedFieldModel.players -/
theorem kL_131 {d' k n : Nat} {P : Rt → Wd → Prop} (hc : Ok X g cc "PairedFieldLaw" ret hx d) (hd : decode cc pc = .ok (.invokevirtual 131, 3)) (hcon : Con X.2.1 g yM_players bM_players 1 ((some .int)) [] d' k n (.ref (g.1 48) :: []) w P) (hdd : d' + 1 ≤ d) (hst : (st.map fun v => v.category).sum ≤ 8) (hcells : kc + k ≤ X.2.2.2.1.cells) (hslots : ks + n ≤ X.2.2.2.1.slots)
    (hret : ∀ (v : Option Value) (w' : Wd), P (.inl v) w' → Go X g (kc + k) (ks + n) Q w' (pc + 3) lp (v.toList ++ st)) (hthr : ∀ (cn : String) (w' : Wd), P (.inr cn) w' → GoX X g (kc + k) (ks + n) Q w' pc lp cn) : Go X g kc ks Q w pc lp (.ref (g.1 48) :: st) :=
  r_callv (av := []) (nL' := 1) (q := 48) (ci := 3) (C := R_M) (Tc := T_M) (N := 17) hc hd hcon (t4_mem 60 rfl rfl) (t4_mem 61 rfl rfl) (t4_mem 62 rfl rfl) (t4_mem 63 rfl rfl) (by decide) (by decide +kernel) (show (parseMethodDescriptor yM_players.desc).map (fun d => d.parameters.length) = some 0 by decide +kernel) (by decide) (ent_M g (w 48)) rfl hdd (by decide) (fun v hv => by cases hv) (Nat.le_of_ble_eq_true rfl) hst hcells hslots hret hthr
theorem kL_131r {d' : Nat} {P : Option Value → Wd → Prop} (hc : Ok X g cc "PairedFieldLaw" ret hx d) (hd : decode cc pc = .ok (.invokevirtual 131, 3)) (hcon : Con X.2.1 g yM_players bM_players 1 ((some .int)) [] d' 0 0 (.ref (g.1 48) :: []) w (Rp P)) (hdd : d' + 1 ≤ d) (hst : (st.map fun v => v.category).sum ≤ 8) (hret : ∀ (v : Option Value) (w' : Wd), P v w' → Go X g 0 0 Q w' (pc + 3) lp (v.toList ++ st)) : Go X g 0 0 Q w pc lp (.ref (g.1 48) :: st) :=
  kL_131 hc hd hcon hdd hst (Nat.zero_le _) (Nat.zero_le _) (fun v w' h => hret v w' (Rp_l h)) (fun cn w' h => absurd h Rp_r)
theorem kL_131t {d' : Nat} {cn : String} {P : Wd → Prop} {P2 : Rt → Wd → Prop} (hc : Ok X g cc "PairedFieldLaw" ret [] d) (hd : decode cc pc = .ok (.invokevirtual 131, 3)) (hcon : Con X.2.1 g yM_players bM_players 1 ((some .int)) [] d' 1 6 (.ref (g.1 48) :: []) w (Tp cn P)) (hdd : d' + 1 ≤ d) (hst : (st.map fun v => v.category).sum ≤ 8) (h1 : 1 ≤ X.2.2.2.1.cells) (h6 : 6 ≤ X.2.2.2.1.slots) (hP : ∀ w' : Wd, P w' → P2 (.inr cn) w') : Go X g 0 0 (Fen X g 1 6 P2) w pc lp (.ref (g.1 48) :: st) :=
  kL_131 hc hd hcon hdd hst (by omega) (by omega) (fun v w' h => absurd h Tp_l) (fun cn2 w' h => by obtain ⟨rfl, h⟩ := h; exact x_out hc (hP w' h))
/-- PairedFieldLaw: a call of PairedFieldModel.rounds -/
theorem kL_135 {d' k n : Nat} {P : Rt → Wd → Prop} (hc : Ok X g cc "PairedFieldLaw" ret hx d) (hd : decode cc pc = .ok (.invokevirtual 135, 3)) (hcon : Con X.2.1 g yM_rounds bM_rounds 1 ((some .int)) [] d' k n (.ref (g.1 48) :: []) w P) (hdd : d' + 1 ≤ d) (hst : (st.map fun v => v.category).sum ≤ 8) (hcells : kc + k ≤ X.2.2.2.1.cells) (hslots : ks + n ≤ X.2.2.2.1.slots)
    (hret : ∀ (v : Option Value) (w' : Wd), P (.inl v) w' → Go X g (kc + k) (ks + n) Q w' (pc + 3) lp (v.toList ++ st)) (hthr : ∀ (cn : String) (w' : Wd), P (.inr cn) w' → GoX X g (kc + k) (ks + n) Q w' pc lp cn) : Go X g kc ks Q w pc lp (.ref (g.1 48) :: st) :=
  r_callv (av := []) (nL' := 1) (q := 48) (ci := 3) (C := R_M) (Tc := T_M) (N := 17) hc hd hcon (t4_mem 64 rfl rfl) (t4_mem 65 rfl rfl) (t4_mem 66 rfl rfl) (t4_mem 67 rfl rfl) (by decide) (by decide +kernel) (show (parseMethodDescriptor yM_rounds.desc).map (fun d => d.parameters.length) = some 0 by decide +kernel) (by decide) (ent_M g (w 48)) rfl hdd (by decide) (fun v hv => by cases hv) (Nat.le_of_ble_eq_true rfl) hst hcells hslots hret hthr
theorem kL_135r {d' : Nat} {P : Option Value → Wd → Prop} (hc : Ok X g cc "PairedFieldLaw" ret hx d) (hd : decode cc pc = .ok (.invokevirtual 135, 3)) (hcon : Con X.2.1 g yM_rounds bM_rounds 1 ((some .int)) [] d' 0 0 (.ref (g.1 48) :: []) w (Rp P)) (hdd : d' + 1 ≤ d) (hst : (st.map fun v => v.category).sum ≤ 8) (hret : ∀ (v : Option Value) (w' : Wd), P v w' → Go X g 0 0 Q w' (pc + 3) lp (v.toList ++ st)) : Go X g 0 0 Q w pc lp (.ref (g.1 48) :: st) :=
  kL_135 hc hd hcon hdd hst (Nat.zero_le _) (Nat.zero_le _) (fun v w' h => hret v w' (Rp_l h)) (fun cn w' h => absurd h Rp_r)
theorem kL_135t {d' : Nat} {cn : String} {P : Wd → Prop} {P2 : Rt → Wd → Prop} (hc : Ok X g cc "PairedFieldLaw" ret [] d) (hd : decode cc pc = .ok (.invokevirtual 135, 3)) (hcon : Con X.2.1 g yM_rounds bM_rounds 1 ((some .int)) [] d' 1 6 (.ref (g.1 48) :: []) w (Tp cn P)) (hdd : d' + 1 ≤ d) (hst : (st.map fun v => v.category).sum ≤ 8) (h1 : 1 ≤ X.2.2.2.1.cells) (h6 : 6 ≤ X.2.2.2.1.slots) (hP : ∀ w' : Wd, P w' → P2 (.inr cn) w') : Go X g 0 0 (Fen X g 1 6 P2) w pc lp (.ref (g.1 48) :: st) :=
  kL_135 hc hd hcon hdd hst (by omega) (by omega) (fun v w' h => absurd h Tp_l) (fun cn2 w' h => by obtain ⟨rfl, h⟩ := h; exact x_out hc (hP w' h))
/-- PairedFieldLaw: a call of PairedFieldModel.isIn -/
theorem kL_139 {d' k n : Nat} {P : Rt → Wd → Prop} {a0 : Int32} (hc : Ok X g cc "PairedFieldLaw" ret hx d) (hd : decode cc pc = .ok (.invokevirtual 139, 3)) (hcon : Con X.2.1 g yM_isIn bM_isIn 2 ((some .boolean)) [] d' k n (.ref (g.1 48) :: [.int a0]) w P) (hdd : d' + 1 ≤ d) (hst : (st.map fun v => v.category).sum ≤ 8) (hcells : kc + k ≤ X.2.2.2.1.cells) (hslots : ks + n ≤ X.2.2.2.1.slots)
    (hret : ∀ (v : Option Value) (w' : Wd), P (.inl v) w' → Go X g (kc + k) (ks + n) Q w' (pc + 3) lp (v.toList ++ st)) (hthr : ∀ (cn : String) (w' : Wd), P (.inr cn) w' → GoX X g (kc + k) (ks + n) Q w' pc lp cn) : Go X g kc ks Q w pc lp (.int a0 :: .ref (g.1 48) :: st) :=
  r_callv (av := [.int a0]) (nL' := 2) (q := 48) (ci := 3) (C := R_M) (Tc := T_M) (N := 17) hc hd hcon (t4_mem 68 rfl rfl) (t4_mem 69 rfl rfl) (t4_mem 70 rfl rfl) (t4_mem 71 rfl rfl) (by decide) (by decide +kernel) (show (parseMethodDescriptor yM_isIn.desc).map (fun d => d.parameters.length) = some 1 by decide +kernel) (by decide) (ent_M g (w 48)) rfl hdd (by decide) (fun v hv => by simp only [List.mem_cons, List.not_mem_nil, or_false] at hv; rcases hv with rfl <;> rfl) (Nat.le_of_ble_eq_true rfl) hst hcells hslots hret hthr
theorem kL_139r {d' : Nat} {P : Option Value → Wd → Prop} {a0 : Int32} (hc : Ok X g cc "PairedFieldLaw" ret hx d) (hd : decode cc pc = .ok (.invokevirtual 139, 3)) (hcon : Con X.2.1 g yM_isIn bM_isIn 2 ((some .boolean)) [] d' 0 0 (.ref (g.1 48) :: [.int a0]) w (Rp P)) (hdd : d' + 1 ≤ d) (hst : (st.map fun v => v.category).sum ≤ 8) (hret : ∀ (v : Option Value) (w' : Wd), P v w' → Go X g 0 0 Q w' (pc + 3) lp (v.toList ++ st)) : Go X g 0 0 Q w pc lp (.int a0 :: .ref (g.1 48) :: st) :=
  kL_139 hc hd hcon hdd hst (Nat.zero_le _) (Nat.zero_le _) (fun v w' h => hret v w' (Rp_l h)) (fun cn w' h => absurd h Rp_r)
theorem kL_139t {d' : Nat} {cn : String} {P : Wd → Prop} {P2 : Rt → Wd → Prop} {a0 : Int32} (hc : Ok X g cc "PairedFieldLaw" ret [] d) (hd : decode cc pc = .ok (.invokevirtual 139, 3)) (hcon : Con X.2.1 g yM_isIn bM_isIn 2 ((some .boolean)) [] d' 1 6 (.ref (g.1 48) :: [.int a0]) w (Tp cn P)) (hdd : d' + 1 ≤ d) (hst : (st.map fun v => v.category).sum ≤ 8) (h1 : 1 ≤ X.2.2.2.1.cells) (h6 : 6 ≤ X.2.2.2.1.slots) (hP : ∀ w' : Wd, P w' → P2 (.inr cn) w') : Go X g 0 0 (Fen X g 1 6 P2) w pc lp (.int a0 :: .ref (g.1 48) :: st) :=
  kL_139 hc hd hcon hdd hst (by omega) (by omega) (fun v w' h => absurd h Tp_l) (fun cn2 w' h => by obtain ⟨rfl, h⟩ := h; exact x_out hc (hP w' h))
/-- PairedFieldLaw: a call of PairedFieldModel.tell -/
theorem kL_143 {d' k n : Nat} {P : Rt → Wd → Prop} {a0 : Int32} {a1 : Int32} (hc : Ok X g cc "PairedFieldLaw" ret hx d) (hd : decode cc pc = .ok (.invokevirtual 143, 3)) (hcon : Con X.2.1 g yM_tell bM_tell 3 ((some .int)) [] d' k n (.ref (g.1 48) :: [.int a0, .int a1]) w P) (hdd : d' + 1 ≤ d) (hst : (st.map fun v => v.category).sum ≤ 8) (hcells : kc + k ≤ X.2.2.2.1.cells) (hslots : ks + n ≤ X.2.2.2.1.slots)
    (hret : ∀ (v : Option Value) (w' : Wd), P (.inl v) w' → Go X g (kc + k) (ks + n) Q w' (pc + 3) lp (v.toList ++ st)) (hthr : ∀ (cn : String) (w' : Wd), P (.inr cn) w' → GoX X g (kc + k) (ks + n) Q w' pc lp cn) : Go X g kc ks Q w pc lp (.int a1 :: .int a0 :: .ref (g.1 48) :: st) :=
  r_callv (av := [.int a0, .int a1]) (nL' := 3) (q := 48) (ci := 3) (C := R_M) (Tc := T_M) (N := 17) hc hd hcon (t4_mem 72 rfl rfl) (t4_mem 73 rfl rfl) (t4_mem 74 rfl rfl) (t4_mem 75 rfl rfl) (by decide) (by decide +kernel) (show (parseMethodDescriptor yM_tell.desc).map (fun d => d.parameters.length) = some 2 by decide +kernel) (by decide) (ent_M g (w 48)) rfl hdd (by decide) (fun v hv => by simp only [List.mem_cons, List.not_mem_nil, or_false] at hv; rcases hv with rfl | rfl <;> rfl) (Nat.le_of_ble_eq_true rfl) hst hcells hslots hret hthr
theorem kL_143r {d' : Nat} {P : Option Value → Wd → Prop} {a0 : Int32} {a1 : Int32} (hc : Ok X g cc "PairedFieldLaw" ret hx d) (hd : decode cc pc = .ok (.invokevirtual 143, 3)) (hcon : Con X.2.1 g yM_tell bM_tell 3 ((some .int)) [] d' 0 0 (.ref (g.1 48) :: [.int a0, .int a1]) w (Rp P)) (hdd : d' + 1 ≤ d) (hst : (st.map fun v => v.category).sum ≤ 8) (hret : ∀ (v : Option Value) (w' : Wd), P v w' → Go X g 0 0 Q w' (pc + 3) lp (v.toList ++ st)) : Go X g 0 0 Q w pc lp (.int a1 :: .int a0 :: .ref (g.1 48) :: st) :=
  kL_143 hc hd hcon hdd hst (Nat.zero_le _) (Nat.zero_le _) (fun v w' h => hret v w' (Rp_l h)) (fun cn w' h => absurd h Rp_r)
theorem kL_143t {d' : Nat} {cn : String} {P : Wd → Prop} {P2 : Rt → Wd → Prop} {a0 : Int32} {a1 : Int32} (hc : Ok X g cc "PairedFieldLaw" ret [] d) (hd : decode cc pc = .ok (.invokevirtual 143, 3)) (hcon : Con X.2.1 g yM_tell bM_tell 3 ((some .int)) [] d' 1 6 (.ref (g.1 48) :: [.int a0, .int a1]) w (Tp cn P)) (hdd : d' + 1 ≤ d) (hst : (st.map fun v => v.category).sum ≤ 8) (h1 : 1 ≤ X.2.2.2.1.cells) (h6 : 6 ≤ X.2.2.2.1.slots) (hP : ∀ w' : Wd, P w' → P2 (.inr cn) w') : Go X g 0 0 (Fen X g 1 6 P2) w pc lp (.int a1 :: .int a0 :: .ref (g.1 48) :: st) :=
  kL_143 hc hd hcon hdd hst (by omega) (by omega) (fun v w' h => absurd h Tp_l) (fun cn2 w' h => by obtain ⟨rfl, h⟩ := h; exact x_out hc (hP w' h))
/-- PairedFieldModel: a call of PairedFieldModel.buchholzOf -/
theorem kM_129 {d' k n : Nat} {P : Rt → Wd → Prop} {a0 : Int32} (hc : Ok X g cc "PairedFieldModel" ret hx d) (hd : decode cc pc = .ok (.invokevirtual 129, 3)) (hcon : Con X.2.1 g yM_buchholzOf bM_buchholzOf 4 ((some .int)) [] d' k n (.ref (g.1 48) :: [.int a0]) w P) (hdd : d' + 1 ≤ d) (hst : (st.map fun v => v.category).sum ≤ 8) (hcells : kc + k ≤ X.2.2.2.1.cells) (hslots : ks + n ≤ X.2.2.2.1.slots)
    (hret : ∀ (v : Option Value) (w' : Wd), P (.inl v) w' → Go X g (kc + k) (ks + n) Q w' (pc + 3) lp (v.toList ++ st)) (hthr : ∀ (cn : String) (w' : Wd), P (.inr cn) w' → GoX X g (kc + k) (ks + n) Q w' pc lp cn) : Go X g kc ks Q w pc lp (.int a0 :: .ref (g.1 48) :: st) :=
  r_callv (av := [.int a0]) (nL' := 4) (q := 48) (ci := 3) (C := R_M) (Tc := T_M) (N := 17) hc hd hcon (t4_mem 76 rfl rfl) (t4_mem 78 rfl rfl) (t0_mem 45 rfl rfl) (t4_mem 79 rfl rfl) (by decide) (by decide +kernel) (show (parseMethodDescriptor yM_buchholzOf.desc).map (fun d => d.parameters.length) = some 1 by decide +kernel) (by decide) (ent_M g (w 48)) rfl hdd (by decide) (fun v hv => by simp only [List.mem_cons, List.not_mem_nil, or_false] at hv; rcases hv with rfl <;> rfl) (Nat.le_of_ble_eq_true rfl) hst hcells hslots hret hthr
theorem kM_129r {d' : Nat} {P : Option Value → Wd → Prop} {a0 : Int32} (hc : Ok X g cc "PairedFieldModel" ret hx d) (hd : decode cc pc = .ok (.invokevirtual 129, 3)) (hcon : Con X.2.1 g yM_buchholzOf bM_buchholzOf 4 ((some .int)) [] d' 0 0 (.ref (g.1 48) :: [.int a0]) w (Rp P)) (hdd : d' + 1 ≤ d) (hst : (st.map fun v => v.category).sum ≤ 8) (hret : ∀ (v : Option Value) (w' : Wd), P v w' → Go X g 0 0 Q w' (pc + 3) lp (v.toList ++ st)) : Go X g 0 0 Q w pc lp (.int a0 :: .ref (g.1 48) :: st) :=
  kM_129 hc hd hcon hdd hst (Nat.zero_le _) (Nat.zero_le _) (fun v w' h => hret v w' (Rp_l h)) (fun cn w' h => absurd h Rp_r)
theorem kM_129t {d' : Nat} {cn : String} {P : Wd → Prop} {P2 : Rt → Wd → Prop} {a0 : Int32} (hc : Ok X g cc "PairedFieldModel" ret [] d) (hd : decode cc pc = .ok (.invokevirtual 129, 3)) (hcon : Con X.2.1 g yM_buchholzOf bM_buchholzOf 4 ((some .int)) [] d' 1 6 (.ref (g.1 48) :: [.int a0]) w (Tp cn P)) (hdd : d' + 1 ≤ d) (hst : (st.map fun v => v.category).sum ≤ 8) (h1 : 1 ≤ X.2.2.2.1.cells) (h6 : 6 ≤ X.2.2.2.1.slots) (hP : ∀ w' : Wd, P w' → P2 (.inr cn) w') : Go X g 0 0 (Fen X g 1 6 P2) w pc lp (.int a0 :: .ref (g.1 48) :: st) :=
  kM_129 hc hd hcon hdd hst (by omega) (by omega) (fun v w' h => absurd h Tp_l) (fun cn2 w' h => by obtain ⟨rfl, h⟩ := h; exact x_out hc (hP w' h))
/-- PairedFieldModel: a call of PairedFieldModel.bergerOf -/
theorem kM_132 {d' k n : Nat} {P : Rt → Wd → Prop} {a0 : Int32} (hc : Ok X g cc "PairedFieldModel" ret hx d) (hd : decode cc pc = .ok (.invokevirtual 132, 3)) (hcon : Con X.2.1 g yM_bergerOf bM_bergerOf 4 ((some .int)) [] d' k n (.ref (g.1 48) :: [.int a0]) w P) (hdd : d' + 1 ≤ d) (hst : (st.map fun v => v.category).sum ≤ 8) (hcells : kc + k ≤ X.2.2.2.1.cells) (hslots : ks + n ≤ X.2.2.2.1.slots)
    (hret : ∀ (v : Option Value) (w' : Wd), P (.inl v) w' → Go X g (kc + k) (ks + n) Q w' (pc + 3) lp (v.toList ++ st)) (hthr : ∀ (cn : String) (w' : Wd), P (.inr cn) w' → GoX X g (kc + k) (ks + n) Q w' pc lp cn) : Go X g kc ks Q w pc lp (.int a0 :: .ref (g.1 48) :: st) :=
  r_callv (av := [.int a0]) (nL' := 4) (q := 48) (ci := 3) (C := R_M) (Tc := T_M) (N := 17) hc hd hcon (t4_mem 80 rfl rfl) (t4_mem 82 rfl rfl) (t0_mem 46 rfl rfl) (t4_mem 83 rfl rfl) (by decide) (by decide +kernel) (show (parseMethodDescriptor yM_bergerOf.desc).map (fun d => d.parameters.length) = some 1 by decide +kernel) (by decide) (ent_M g (w 48)) rfl hdd (by decide) (fun v hv => by simp only [List.mem_cons, List.not_mem_nil, or_false] at hv; rcases hv with rfl <;> rfl) (Nat.le_of_ble_eq_true rfl) hst hcells hslots hret hthr
theorem kM_132r {d' : Nat} {P : Option Value → Wd → Prop} {a0 : Int32} (hc : Ok X g cc "PairedFieldModel" ret hx d) (hd : decode cc pc = .ok (.invokevirtual 132, 3)) (hcon : Con X.2.1 g yM_bergerOf bM_bergerOf 4 ((some .int)) [] d' 0 0 (.ref (g.1 48) :: [.int a0]) w (Rp P)) (hdd : d' + 1 ≤ d) (hst : (st.map fun v => v.category).sum ≤ 8) (hret : ∀ (v : Option Value) (w' : Wd), P v w' → Go X g 0 0 Q w' (pc + 3) lp (v.toList ++ st)) : Go X g 0 0 Q w pc lp (.int a0 :: .ref (g.1 48) :: st) :=
  kM_132 hc hd hcon hdd hst (Nat.zero_le _) (Nat.zero_le _) (fun v w' h => hret v w' (Rp_l h)) (fun cn w' h => absurd h Rp_r)
theorem kM_132t {d' : Nat} {cn : String} {P : Wd → Prop} {P2 : Rt → Wd → Prop} {a0 : Int32} (hc : Ok X g cc "PairedFieldModel" ret [] d) (hd : decode cc pc = .ok (.invokevirtual 132, 3)) (hcon : Con X.2.1 g yM_bergerOf bM_bergerOf 4 ((some .int)) [] d' 1 6 (.ref (g.1 48) :: [.int a0]) w (Tp cn P)) (hdd : d' + 1 ≤ d) (hst : (st.map fun v => v.category).sum ≤ 8) (h1 : 1 ≤ X.2.2.2.1.cells) (h6 : 6 ≤ X.2.2.2.1.slots) (hP : ∀ w' : Wd, P w' → P2 (.inr cn) w') : Go X g 0 0 (Fen X g 1 6 P2) w pc lp (.int a0 :: .ref (g.1 48) :: st) :=
  kM_132 hc hd hcon hdd hst (by omega) (by omega) (fun v w' h => absurd h Tp_l) (fun cn2 w' h => by obtain ⟨rfl, h⟩ := h; exact x_out hc (hP w' h))
/-- PairedFieldModel: a call of PairedFieldModel.wonOf -/
theorem kM_135 {d' k n : Nat} {P : Rt → Wd → Prop} {a0 : Int32} (hc : Ok X g cc "PairedFieldModel" ret hx d) (hd : decode cc pc = .ok (.invokevirtual 135, 3)) (hcon : Con X.2.1 g yM_wonOf bM_wonOf 4 ((some .int)) [] d' k n (.ref (g.1 48) :: [.int a0]) w P) (hdd : d' + 1 ≤ d) (hst : (st.map fun v => v.category).sum ≤ 8) (hcells : kc + k ≤ X.2.2.2.1.cells) (hslots : ks + n ≤ X.2.2.2.1.slots)
    (hret : ∀ (v : Option Value) (w' : Wd), P (.inl v) w' → Go X g (kc + k) (ks + n) Q w' (pc + 3) lp (v.toList ++ st)) (hthr : ∀ (cn : String) (w' : Wd), P (.inr cn) w' → GoX X g (kc + k) (ks + n) Q w' pc lp cn) : Go X g kc ks Q w pc lp (.int a0 :: .ref (g.1 48) :: st) :=
  r_callv (av := [.int a0]) (nL' := 4) (q := 48) (ci := 3) (C := R_M) (Tc := T_M) (N := 17) hc hd hcon (t4_mem 84 rfl rfl) (t4_mem 86 rfl rfl) (t0_mem 47 rfl rfl) (t4_mem 87 rfl rfl) (by decide) (by decide +kernel) (show (parseMethodDescriptor yM_wonOf.desc).map (fun d => d.parameters.length) = some 1 by decide +kernel) (by decide) (ent_M g (w 48)) rfl hdd (by decide) (fun v hv => by simp only [List.mem_cons, List.not_mem_nil, or_false] at hv; rcases hv with rfl <;> rfl) (Nat.le_of_ble_eq_true rfl) hst hcells hslots hret hthr
theorem kM_135r {d' : Nat} {P : Option Value → Wd → Prop} {a0 : Int32} (hc : Ok X g cc "PairedFieldModel" ret hx d) (hd : decode cc pc = .ok (.invokevirtual 135, 3)) (hcon : Con X.2.1 g yM_wonOf bM_wonOf 4 ((some .int)) [] d' 0 0 (.ref (g.1 48) :: [.int a0]) w (Rp P)) (hdd : d' + 1 ≤ d) (hst : (st.map fun v => v.category).sum ≤ 8) (hret : ∀ (v : Option Value) (w' : Wd), P v w' → Go X g 0 0 Q w' (pc + 3) lp (v.toList ++ st)) : Go X g 0 0 Q w pc lp (.int a0 :: .ref (g.1 48) :: st) :=
  kM_135 hc hd hcon hdd hst (Nat.zero_le _) (Nat.zero_le _) (fun v w' h => hret v w' (Rp_l h)) (fun cn w' h => absurd h Rp_r)
theorem kM_135t {d' : Nat} {cn : String} {P : Wd → Prop} {P2 : Rt → Wd → Prop} {a0 : Int32} (hc : Ok X g cc "PairedFieldModel" ret [] d) (hd : decode cc pc = .ok (.invokevirtual 135, 3)) (hcon : Con X.2.1 g yM_wonOf bM_wonOf 4 ((some .int)) [] d' 1 6 (.ref (g.1 48) :: [.int a0]) w (Tp cn P)) (hdd : d' + 1 ≤ d) (hst : (st.map fun v => v.category).sum ≤ 8) (h1 : 1 ≤ X.2.2.2.1.cells) (h6 : 6 ≤ X.2.2.2.1.slots) (hP : ∀ w' : Wd, P w' → P2 (.inr cn) w') : Go X g 0 0 (Fen X g 1 6 P2) w pc lp (.int a0 :: .ref (g.1 48) :: st) :=
  kM_135 hc hd hcon hdd hst (by omega) (by omega) (fun v w' h => absurd h Tp_l) (fun cn2 w' h => by obtain ⟨rfl, h⟩ := h; exact x_out hc (hP w' h))
/-- PairedFieldModel: a call of PairedFieldModel.gamesOf -/
theorem kM_138 {d' k n : Nat} {P : Rt → Wd → Prop} {a0 : Int32} (hc : Ok X g cc "PairedFieldModel" ret hx d) (hd : decode cc pc = .ok (.invokevirtual 138, 3)) (hcon : Con X.2.1 g yM_gamesOf bM_gamesOf 4 ((some .int)) [] d' k n (.ref (g.1 48) :: [.int a0]) w P) (hdd : d' + 1 ≤ d) (hst : (st.map fun v => v.category).sum ≤ 8) (hcells : kc + k ≤ X.2.2.2.1.cells) (hslots : ks + n ≤ X.2.2.2.1.slots)
    (hret : ∀ (v : Option Value) (w' : Wd), P (.inl v) w' → Go X g (kc + k) (ks + n) Q w' (pc + 3) lp (v.toList ++ st)) (hthr : ∀ (cn : String) (w' : Wd), P (.inr cn) w' → GoX X g (kc + k) (ks + n) Q w' pc lp cn) : Go X g kc ks Q w pc lp (.int a0 :: .ref (g.1 48) :: st) :=
  r_callv (av := [.int a0]) (nL' := 4) (q := 48) (ci := 3) (C := R_M) (Tc := T_M) (N := 17) hc hd hcon (t4_mem 88 rfl rfl) (t4_mem 90 rfl rfl) (t0_mem 48 rfl rfl) (t4_mem 91 rfl rfl) (by decide) (by decide +kernel) (show (parseMethodDescriptor yM_gamesOf.desc).map (fun d => d.parameters.length) = some 1 by decide +kernel) (by decide) (ent_M g (w 48)) rfl hdd (by decide) (fun v hv => by simp only [List.mem_cons, List.not_mem_nil, or_false] at hv; rcases hv with rfl <;> rfl) (Nat.le_of_ble_eq_true rfl) hst hcells hslots hret hthr
theorem kM_138r {d' : Nat} {P : Option Value → Wd → Prop} {a0 : Int32} (hc : Ok X g cc "PairedFieldModel" ret hx d) (hd : decode cc pc = .ok (.invokevirtual 138, 3)) (hcon : Con X.2.1 g yM_gamesOf bM_gamesOf 4 ((some .int)) [] d' 0 0 (.ref (g.1 48) :: [.int a0]) w (Rp P)) (hdd : d' + 1 ≤ d) (hst : (st.map fun v => v.category).sum ≤ 8) (hret : ∀ (v : Option Value) (w' : Wd), P v w' → Go X g 0 0 Q w' (pc + 3) lp (v.toList ++ st)) : Go X g 0 0 Q w pc lp (.int a0 :: .ref (g.1 48) :: st) :=
  kM_138 hc hd hcon hdd hst (Nat.zero_le _) (Nat.zero_le _) (fun v w' h => hret v w' (Rp_l h)) (fun cn w' h => absurd h Rp_r)
theorem kM_138t {d' : Nat} {cn : String} {P : Wd → Prop} {P2 : Rt → Wd → Prop} {a0 : Int32} (hc : Ok X g cc "PairedFieldModel" ret [] d) (hd : decode cc pc = .ok (.invokevirtual 138, 3)) (hcon : Con X.2.1 g yM_gamesOf bM_gamesOf 4 ((some .int)) [] d' 1 6 (.ref (g.1 48) :: [.int a0]) w (Tp cn P)) (hdd : d' + 1 ≤ d) (hst : (st.map fun v => v.category).sum ≤ 8) (h1 : 1 ≤ X.2.2.2.1.cells) (h6 : 6 ≤ X.2.2.2.1.slots) (hP : ∀ w' : Wd, P w' → P2 (.inr cn) w') : Go X g 0 0 (Fen X g 1 6 P2) w pc lp (.int a0 :: .ref (g.1 48) :: st) :=
  kM_138 hc hd hcon hdd hst (by omega) (by omega) (fun v w' h => absurd h Tp_l) (fun cn2 w' h => by obtain ⟨rfl, h⟩ := h; exact x_out hc (hP w' h))
/-- PairedFieldLaw: a call of PairedFieldModel.had -/
theorem kL_146 {d' k n : Nat} {P : Rt → Wd → Prop} {a0 : Int32} {a1 : Int32} (hc : Ok X g cc "PairedFieldLaw" ret hx d) (hd : decode cc pc = .ok (.invokevirtual 146, 3)) (hcon : Con X.2.1 g yM_had bM_had 5 ((some .int)) [] d' k n (.ref (g.1 48) :: [.int a0, .int a1]) w P) (hdd : d' + 1 ≤ d) (hst : (st.map fun v => v.category).sum ≤ 8) (hcells : kc + k ≤ X.2.2.2.1.cells) (hslots : ks + n ≤ X.2.2.2.1.slots)
    (hret : ∀ (v : Option Value) (w' : Wd), P (.inl v) w' → Go X g (kc + k) (ks + n) Q w' (pc + 3) lp (v.toList ++ st)) (hthr : ∀ (cn : String) (w' : Wd), P (.inr cn) w' → GoX X g (kc + k) (ks + n) Q w' pc lp cn) : Go X g kc ks Q w pc lp (.int a1 :: .int a0 :: .ref (g.1 48) :: st) :=
  r_callv (av := [.int a0, .int a1]) (nL' := 5) (q := 48) (ci := 3) (C := R_M) (Tc := T_M) (N := 17) hc hd hcon (t4_mem 92 rfl rfl) (t4_mem 93 rfl rfl) (t4_mem 94 rfl rfl) (t4_mem 95 rfl rfl) (by decide) (by decide +kernel) (show (parseMethodDescriptor yM_had.desc).map (fun d => d.parameters.length) = some 2 by decide +kernel) (by decide) (ent_M g (w 48)) rfl hdd (by decide) (fun v hv => by simp only [List.mem_cons, List.not_mem_nil, or_false] at hv; rcases hv with rfl | rfl <;> rfl) (Nat.le_of_ble_eq_true rfl) hst hcells hslots hret hthr
theorem kL_146r {d' : Nat} {P : Option Value → Wd → Prop} {a0 : Int32} {a1 : Int32} (hc : Ok X g cc "PairedFieldLaw" ret hx d) (hd : decode cc pc = .ok (.invokevirtual 146, 3)) (hcon : Con X.2.1 g yM_had bM_had 5 ((some .int)) [] d' 0 0 (.ref (g.1 48) :: [.int a0, .int a1]) w (Rp P)) (hdd : d' + 1 ≤ d) (hst : (st.map fun v => v.category).sum ≤ 8) (hret : ∀ (v : Option Value) (w' : Wd), P v w' → Go X g 0 0 Q w' (pc + 3) lp (v.toList ++ st)) : Go X g 0 0 Q w pc lp (.int a1 :: .int a0 :: .ref (g.1 48) :: st) :=
  kL_146 hc hd hcon hdd hst (Nat.zero_le _) (Nat.zero_le _) (fun v w' h => hret v w' (Rp_l h)) (fun cn w' h => absurd h Rp_r)
theorem kL_146t {d' : Nat} {cn : String} {P : Wd → Prop} {P2 : Rt → Wd → Prop} {a0 : Int32} {a1 : Int32} (hc : Ok X g cc "PairedFieldLaw" ret [] d) (hd : decode cc pc = .ok (.invokevirtual 146, 3)) (hcon : Con X.2.1 g yM_had bM_had 5 ((some .int)) [] d' 1 6 (.ref (g.1 48) :: [.int a0, .int a1]) w (Tp cn P)) (hdd : d' + 1 ≤ d) (hst : (st.map fun v => v.category).sum ≤ 8) (h1 : 1 ≤ X.2.2.2.1.cells) (h6 : 6 ≤ X.2.2.2.1.slots) (hP : ∀ w' : Wd, P w' → P2 (.inr cn) w') : Go X g 0 0 (Fen X g 1 6 P2) w pc lp (.int a1 :: .int a0 :: .ref (g.1 48) :: st) :=
  kL_146 hc hd hcon hdd hst (by omega) (by omega) (fun v w' h => absurd h Tp_l) (fun cn2 w' h => by obtain ⟨rfl, h⟩ := h; exact x_out hc (hP w' h))
/-- PairedFieldLaw: a call of PairedFieldModel.table -/
theorem kL_149 {d' k n : Nat} {P : Rt → Wd → Prop} {a0 : Int32} (hc : Ok X g cc "PairedFieldLaw" ret hx d) (hd : decode cc pc = .ok (.invokevirtual 149, 3)) (hcon : Con X.2.1 g yM_table bM_table 5 ((some .int)) [] d' k n (.ref (g.1 48) :: [.int a0]) w P) (hdd : d' + 1 ≤ d) (hst : (st.map fun v => v.category).sum ≤ 8) (hcells : kc + k ≤ X.2.2.2.1.cells) (hslots : ks + n ≤ X.2.2.2.1.slots)
    (hret : ∀ (v : Option Value) (w' : Wd), P (.inl v) w' → Go X g (kc + k) (ks + n) Q w' (pc + 3) lp (v.toList ++ st)) (hthr : ∀ (cn : String) (w' : Wd), P (.inr cn) w' → GoX X g (kc + k) (ks + n) Q w' pc lp cn) : Go X g kc ks Q w pc lp (.int a0 :: .ref (g.1 48) :: st) :=
  r_callv (av := [.int a0]) (nL' := 5) (q := 48) (ci := 3) (C := R_M) (Tc := T_M) (N := 17) hc hd hcon (t4_mem 96 rfl rfl) (t4_mem 97 rfl rfl) (t4_mem 98 rfl rfl) (t4_mem 99 rfl rfl) (by decide) (by decide +kernel) (show (parseMethodDescriptor yM_table.desc).map (fun d => d.parameters.length) = some 1 by decide +kernel) (by decide) (ent_M g (w 48)) rfl hdd (by decide) (fun v hv => by simp only [List.mem_cons, List.not_mem_nil, or_false] at hv; rcases hv with rfl <;> rfl) (Nat.le_of_ble_eq_true rfl) hst hcells hslots hret hthr
theorem kL_149r {d' : Nat} {P : Option Value → Wd → Prop} {a0 : Int32} (hc : Ok X g cc "PairedFieldLaw" ret hx d) (hd : decode cc pc = .ok (.invokevirtual 149, 3)) (hcon : Con X.2.1 g yM_table bM_table 5 ((some .int)) [] d' 0 0 (.ref (g.1 48) :: [.int a0]) w (Rp P)) (hdd : d' + 1 ≤ d) (hst : (st.map fun v => v.category).sum ≤ 8) (hret : ∀ (v : Option Value) (w' : Wd), P v w' → Go X g 0 0 Q w' (pc + 3) lp (v.toList ++ st)) : Go X g 0 0 Q w pc lp (.int a0 :: .ref (g.1 48) :: st) :=
  kL_149 hc hd hcon hdd hst (Nat.zero_le _) (Nat.zero_le _) (fun v w' h => hret v w' (Rp_l h)) (fun cn w' h => absurd h Rp_r)
theorem kL_149t {d' : Nat} {cn : String} {P : Wd → Prop} {P2 : Rt → Wd → Prop} {a0 : Int32} (hc : Ok X g cc "PairedFieldLaw" ret [] d) (hd : decode cc pc = .ok (.invokevirtual 149, 3)) (hcon : Con X.2.1 g yM_table bM_table 5 ((some .int)) [] d' 1 6 (.ref (g.1 48) :: [.int a0]) w (Tp cn P)) (hdd : d' + 1 ≤ d) (hst : (st.map fun v => v.category).sum ≤ 8) (h1 : 1 ≤ X.2.2.2.1.cells) (h6 : 6 ≤ X.2.2.2.1.slots) (hP : ∀ w' : Wd, P w' → P2 (.inr cn) w') : Go X g 0 0 (Fen X g 1 6 P2) w pc lp (.int a0 :: .ref (g.1 48) :: st) :=
  kL_149 hc hd hcon hdd hst (by omega) (by omega) (fun v w' h => absurd h Tp_l) (fun cn2 w' h => by obtain ⟨rfl, h⟩ := h; exact x_out hc (hP w' h))
/-- PairedFieldModel: a call of PairedFieldModel.isBefore -/
theorem kM_141 {d' k n : Nat} {P : Rt → Wd → Prop} {a0 : Int32} {a1 : Int32} (hc : Ok X g cc "PairedFieldModel" ret hx d) (hd : decode cc pc = .ok (.invokevirtual 141, 3)) (hcon : Con X.2.1 g yM_isBefore bM_isBefore 7 ((some .boolean)) [] d' k n (.ref (g.1 48) :: [.int a0, .int a1]) w P) (hdd : d' + 1 ≤ d) (hst : (st.map fun v => v.category).sum ≤ 8) (hcells : kc + k ≤ X.2.2.2.1.cells) (hslots : ks + n ≤ X.2.2.2.1.slots)
    (hret : ∀ (v : Option Value) (w' : Wd), P (.inl v) w' → Go X g (kc + k) (ks + n) Q w' (pc + 3) lp (v.toList ++ st)) (hthr : ∀ (cn : String) (w' : Wd), P (.inr cn) w' → GoX X g (kc + k) (ks + n) Q w' pc lp cn) : Go X g kc ks Q w pc lp (.int a1 :: .int a0 :: .ref (g.1 48) :: st) :=
  r_callv (av := [.int a0, .int a1]) (nL' := 7) (q := 48) (ci := 3) (C := R_M) (Tc := T_M) (N := 17) hc hd hcon (t4_mem 100 rfl rfl) (t4_mem 102 rfl rfl) (t0_mem 49 rfl rfl) (t4_mem 103 rfl rfl) (by decide) (by decide +kernel) (show (parseMethodDescriptor yM_isBefore.desc).map (fun d => d.parameters.length) = some 2 by decide +kernel) (by decide) (ent_M g (w 48)) rfl hdd (by decide) (fun v hv => by simp only [List.mem_cons, List.not_mem_nil, or_false] at hv; rcases hv with rfl | rfl <;> rfl) (Nat.le_of_ble_eq_true rfl) hst hcells hslots hret hthr
theorem kM_141r {d' : Nat} {P : Option Value → Wd → Prop} {a0 : Int32} {a1 : Int32} (hc : Ok X g cc "PairedFieldModel" ret hx d) (hd : decode cc pc = .ok (.invokevirtual 141, 3)) (hcon : Con X.2.1 g yM_isBefore bM_isBefore 7 ((some .boolean)) [] d' 0 0 (.ref (g.1 48) :: [.int a0, .int a1]) w (Rp P)) (hdd : d' + 1 ≤ d) (hst : (st.map fun v => v.category).sum ≤ 8) (hret : ∀ (v : Option Value) (w' : Wd), P v w' → Go X g 0 0 Q w' (pc + 3) lp (v.toList ++ st)) : Go X g 0 0 Q w pc lp (.int a1 :: .int a0 :: .ref (g.1 48) :: st) :=
  kM_141 hc hd hcon hdd hst (Nat.zero_le _) (Nat.zero_le _) (fun v w' h => hret v w' (Rp_l h)) (fun cn w' h => absurd h Rp_r)
theorem kM_141t {d' : Nat} {cn : String} {P : Wd → Prop} {P2 : Rt → Wd → Prop} {a0 : Int32} {a1 : Int32} (hc : Ok X g cc "PairedFieldModel" ret [] d) (hd : decode cc pc = .ok (.invokevirtual 141, 3)) (hcon : Con X.2.1 g yM_isBefore bM_isBefore 7 ((some .boolean)) [] d' 1 6 (.ref (g.1 48) :: [.int a0, .int a1]) w (Tp cn P)) (hdd : d' + 1 ≤ d) (hst : (st.map fun v => v.category).sum ≤ 8) (h1 : 1 ≤ X.2.2.2.1.cells) (h6 : 6 ≤ X.2.2.2.1.slots) (hP : ∀ w' : Wd, P w' → P2 (.inr cn) w') : Go X g 0 0 (Fen X g 1 6 P2) w pc lp (.int a1 :: .int a0 :: .ref (g.1 48) :: st) :=
  kM_141 hc hd hcon hdd hst (by omega) (by omega) (fun v w' h => absurd h Tp_l) (fun cn2 w' h => by obtain ⟨rfl, h⟩ := h; exact x_out hc (hP w' h))
end LNK
end
section
/-! rows for arrays with an index that is the number of a Nat -/
section GMORE
variable {X : Cxt} {g : GG} {cc : ByteArray} {own : String} {ret : Option FieldType} {hx : List (Nat × Nat × Nat × Nat)} {d kc ks : Nat} {Q : State → Prop} {w : Wd} {pc : Nat} {lp : List (Option Value)} {st : List Value}
theorem r_ialdN {q : Nat} {i : Int32} {j : Nat} (hc : Ok X g cc own ret hx d) (hd : decode cc pc = .ok (.iaload, 1)) (hi : i = nI j) (hj : j < lenI q) (k : Go X g kc ks Q w (pc + 1) lp (.int (w q j) :: st)) : Go X g kc ks Q w pc lp (.int i :: .ref (g.1 q) :: st) := by
  have hl := lenI_le q
  subst hi
  refine r_iald hc hd (vp_in_nI hj (by omega)) ?_
  rw [nI_clamp (by omega)]
  exact k
theorem r_iastN {q : Nat} {i x : Int32} {j : Nat} (hc : Ok X g cc own ret hx d) (hd : decode cc pc = .ok (.iastore, 1)) (hi : i = nI j) (hj : j < lenI q) (k : Go X g kc ks Q (wu w q j x) (pc + 1) lp st) : Go X g kc ks Q w pc lp (.int x :: .int i :: .ref (g.1 q) :: st) := by
  have hl := lenI_le q
  subst hi
  refine r_iast hc hd (vp_in_nI hj (by omega)) ?_
  rw [nI_clamp (by omega)]
  exact k
theorem r_zaldN {q : Nat} {i : Int32} {j : Nat} (hc : Ok X g cc own ret hx d) (hd : decode cc pc = .ok (.baload, 1)) (hi : i = nI j) (hj : j < lenZ q) (k : Go X g kc ks Q w (pc + 1) lp (.int (w q j) :: st)) : Go X g kc ks Q w pc lp (.int i :: .ref (g.1 q) :: st) := by
  have hl := lenZ_le q
  subst hi
  refine r_zald hc hd (vp_in_nI hj (by omega)) ?_
  rw [nI_clamp (by omega)]
  exact k
theorem r_zastN {q : Nat} {i x : Int32} {j : Nat} (hc : Ok X g cc own ret hx d) (hd : decode cc pc = .ok (.bastore, 1)) (hi : i = nI j) (hj : j < lenZ q) (hb : x = 0 ∨ x = 1) (k : Go X g kc ks Q (wu w q j x) (pc + 1) lp st) : Go X g kc ks Q w pc lp (.int x :: .int i :: .ref (g.1 q) :: st) := by
  have hl := lenZ_le q
  subst hi
  refine r_zast hc hd (vp_in_nI hj (by omega)) (by rcases hb with rfl | rfl <;> rfl) ?_
  rw [nI_clamp (by omega)]
  exact k
theorem lenA_le (q : Nat) : lenA q ≤ 16 := by
  unfold lenA
  repeat (split; omega)
  omega
theorem r_aaldN {q : Nat} {i : Int32} {j : Nat} (hc : Ok X g cc own ret hx d) (hd : decode cc pc = .ok (.aaload, 1)) (hi : i = nI j) (hj : j < lenA q) (k : Go X g kc ks Q w (pc + 1) lp (.ref (g.1 (q + 1 + j)) :: st)) : Go X g kc ks Q w pc lp (.int i :: .ref (g.1 q) :: st) := by
  have hl := lenA_le q
  subst hi
  refine r_aald hc hd (vp_in_nI hj (by omega)) ?_
  rw [nI_clamp (by omega)]
  exact k
end GMORE
/-- an exact answer, the world as given -/
def An (v : Option Value) (w' : Wd) : Option Value → Wd → Prop := fun r z => r = v ∧ w' = z
/-- a truth value as the machine has it -/
def bI (b : Bool) : Int32 := if b then 1 else 0
theorem bI_01 (b : Bool) : bI b = 0 ∨ bI b = 1 := by cases b <;> simp [bI]
theorem bI_nar (b : Bool) : narrow .boolean (.int (bI b)) = .int (bI b) := by cases b <;> rfl
theorem r_if_eq_t {X : Cxt} {g : GG} {cc : ByteArray} {own : String} {ret : Option FieldType} {hx : List (Nat × Nat × Nat × Nat)} {d kc ks : Nat} {Q : State → Prop} {w : Wd} {pc : Nat} {lp : List (Option Value)} {st : List Value} {x : Int32} {off : Int} {tgt : Nat} (hc : Ok X g cc own ret hx d) (hd : decode cc pc = .ok (.ifCond .eq off, 3)) (ht : (pc : Int) + off = (tgt : Int)) (h : x = 0) (k : Go X g kc ks Q w tgt lp st) : Go X g kc ks Q w pc lp (.int x :: st) := r_if_eq hc hd ht (fun _ => k) (fun q => absurd h q)
theorem r_if_eq_f {X : Cxt} {g : GG} {cc : ByteArray} {own : String} {ret : Option FieldType} {hx : List (Nat × Nat × Nat × Nat)} {d kc ks : Nat} {Q : State → Prop} {w : Wd} {pc : Nat} {lp : List (Option Value)} {st : List Value} {x : Int32} {off : Int} {tgt : Nat} (hc : Ok X g cc own ret hx d) (hd : decode cc pc = .ok (.ifCond .eq off, 3)) (ht : (pc : Int) + off = (tgt : Int)) (h : ¬ x = 0) (k : Go X g kc ks Q w (pc + 3) lp st) : Go X g kc ks Q w pc lp (.int x :: st) := r_if_eq hc hd ht (fun q => absurd q h) (fun _ => k)
theorem r_if_ne_t {X : Cxt} {g : GG} {cc : ByteArray} {own : String} {ret : Option FieldType} {hx : List (Nat × Nat × Nat × Nat)} {d kc ks : Nat} {Q : State → Prop} {w : Wd} {pc : Nat} {lp : List (Option Value)} {st : List Value} {x : Int32} {off : Int} {tgt : Nat} (hc : Ok X g cc own ret hx d) (hd : decode cc pc = .ok (.ifCond .ne off, 3)) (ht : (pc : Int) + off = (tgt : Int)) (h : ¬ x = 0) (k : Go X g kc ks Q w tgt lp st) : Go X g kc ks Q w pc lp (.int x :: st) := r_if_ne hc hd ht (fun _ => k) (fun q => absurd q h)
theorem r_if_ne_f {X : Cxt} {g : GG} {cc : ByteArray} {own : String} {ret : Option FieldType} {hx : List (Nat × Nat × Nat × Nat)} {d kc ks : Nat} {Q : State → Prop} {w : Wd} {pc : Nat} {lp : List (Option Value)} {st : List Value} {x : Int32} {off : Int} {tgt : Nat} (hc : Ok X g cc own ret hx d) (hd : decode cc pc = .ok (.ifCond .ne off, 3)) (ht : (pc : Int) + off = (tgt : Int)) (h : x = 0) (k : Go X g kc ks Q w (pc + 3) lp st) : Go X g kc ks Q w pc lp (.int x :: st) := r_if_ne hc hd ht (fun q => absurd h q) (fun _ => k)
theorem r_if_lt_t {X : Cxt} {g : GG} {cc : ByteArray} {own : String} {ret : Option FieldType} {hx : List (Nat × Nat × Nat × Nat)} {d kc ks : Nat} {Q : State → Prop} {w : Wd} {pc : Nat} {lp : List (Option Value)} {st : List Value} {x : Int32} {off : Int} {tgt : Nat} (hc : Ok X g cc own ret hx d) (hd : decode cc pc = .ok (.ifCond .lt off, 3)) (ht : (pc : Int) + off = (tgt : Int)) (h : x < 0) (k : Go X g kc ks Q w tgt lp st) : Go X g kc ks Q w pc lp (.int x :: st) := r_if_lt hc hd ht (fun _ => k) (fun q => absurd h q)
theorem r_if_lt_f {X : Cxt} {g : GG} {cc : ByteArray} {own : String} {ret : Option FieldType} {hx : List (Nat × Nat × Nat × Nat)} {d kc ks : Nat} {Q : State → Prop} {w : Wd} {pc : Nat} {lp : List (Option Value)} {st : List Value} {x : Int32} {off : Int} {tgt : Nat} (hc : Ok X g cc own ret hx d) (hd : decode cc pc = .ok (.ifCond .lt off, 3)) (ht : (pc : Int) + off = (tgt : Int)) (h : ¬ x < 0) (k : Go X g kc ks Q w (pc + 3) lp st) : Go X g kc ks Q w pc lp (.int x :: st) := r_if_lt hc hd ht (fun q => absurd q h) (fun _ => k)
theorem r_if_ge_t {X : Cxt} {g : GG} {cc : ByteArray} {own : String} {ret : Option FieldType} {hx : List (Nat × Nat × Nat × Nat)} {d kc ks : Nat} {Q : State → Prop} {w : Wd} {pc : Nat} {lp : List (Option Value)} {st : List Value} {x : Int32} {off : Int} {tgt : Nat} (hc : Ok X g cc own ret hx d) (hd : decode cc pc = .ok (.ifCond .ge off, 3)) (ht : (pc : Int) + off = (tgt : Int)) (h : 0 ≤ x) (k : Go X g kc ks Q w tgt lp st) : Go X g kc ks Q w pc lp (.int x :: st) := r_if_ge hc hd ht (fun _ => k) (fun q => absurd h q)
theorem r_if_ge_f {X : Cxt} {g : GG} {cc : ByteArray} {own : String} {ret : Option FieldType} {hx : List (Nat × Nat × Nat × Nat)} {d kc ks : Nat} {Q : State → Prop} {w : Wd} {pc : Nat} {lp : List (Option Value)} {st : List Value} {x : Int32} {off : Int} {tgt : Nat} (hc : Ok X g cc own ret hx d) (hd : decode cc pc = .ok (.ifCond .ge off, 3)) (ht : (pc : Int) + off = (tgt : Int)) (h : ¬ 0 ≤ x) (k : Go X g kc ks Q w (pc + 3) lp st) : Go X g kc ks Q w pc lp (.int x :: st) := r_if_ge hc hd ht (fun q => absurd q h) (fun _ => k)
theorem r_if_gt_t {X : Cxt} {g : GG} {cc : ByteArray} {own : String} {ret : Option FieldType} {hx : List (Nat × Nat × Nat × Nat)} {d kc ks : Nat} {Q : State → Prop} {w : Wd} {pc : Nat} {lp : List (Option Value)} {st : List Value} {x : Int32} {off : Int} {tgt : Nat} (hc : Ok X g cc own ret hx d) (hd : decode cc pc = .ok (.ifCond .gt off, 3)) (ht : (pc : Int) + off = (tgt : Int)) (h : 0 < x) (k : Go X g kc ks Q w tgt lp st) : Go X g kc ks Q w pc lp (.int x :: st) := r_if_gt hc hd ht (fun _ => k) (fun q => absurd h q)
theorem r_if_gt_f {X : Cxt} {g : GG} {cc : ByteArray} {own : String} {ret : Option FieldType} {hx : List (Nat × Nat × Nat × Nat)} {d kc ks : Nat} {Q : State → Prop} {w : Wd} {pc : Nat} {lp : List (Option Value)} {st : List Value} {x : Int32} {off : Int} {tgt : Nat} (hc : Ok X g cc own ret hx d) (hd : decode cc pc = .ok (.ifCond .gt off, 3)) (ht : (pc : Int) + off = (tgt : Int)) (h : ¬ 0 < x) (k : Go X g kc ks Q w (pc + 3) lp st) : Go X g kc ks Q w pc lp (.int x :: st) := r_if_gt hc hd ht (fun q => absurd q h) (fun _ => k)
theorem r_if_le_t {X : Cxt} {g : GG} {cc : ByteArray} {own : String} {ret : Option FieldType} {hx : List (Nat × Nat × Nat × Nat)} {d kc ks : Nat} {Q : State → Prop} {w : Wd} {pc : Nat} {lp : List (Option Value)} {st : List Value} {x : Int32} {off : Int} {tgt : Nat} (hc : Ok X g cc own ret hx d) (hd : decode cc pc = .ok (.ifCond .le off, 3)) (ht : (pc : Int) + off = (tgt : Int)) (h : x ≤ 0) (k : Go X g kc ks Q w tgt lp st) : Go X g kc ks Q w pc lp (.int x :: st) := r_if_le hc hd ht (fun _ => k) (fun q => absurd h q)
theorem r_if_le_f {X : Cxt} {g : GG} {cc : ByteArray} {own : String} {ret : Option FieldType} {hx : List (Nat × Nat × Nat × Nat)} {d kc ks : Nat} {Q : State → Prop} {w : Wd} {pc : Nat} {lp : List (Option Value)} {st : List Value} {x : Int32} {off : Int} {tgt : Nat} (hc : Ok X g cc own ret hx d) (hd : decode cc pc = .ok (.ifCond .le off, 3)) (ht : (pc : Int) + off = (tgt : Int)) (h : ¬ x ≤ 0) (k : Go X g kc ks Q w (pc + 3) lp st) : Go X g kc ks Q w pc lp (.int x :: st) := r_if_le hc hd ht (fun q => absurd q h) (fun _ => k)
theorem r_ic_eq_t {X : Cxt} {g : GG} {cc : ByteArray} {own : String} {ret : Option FieldType} {hx : List (Nat × Nat × Nat × Nat)} {d kc ks : Nat} {Q : State → Prop} {w : Wd} {pc : Nat} {lp : List (Option Value)} {st : List Value} {x y : Int32} {off : Int} {tgt : Nat} (hc : Ok X g cc own ret hx d) (hd : decode cc pc = .ok (.if_icmp .eq off, 3)) (ht : (pc : Int) + off = (tgt : Int)) (h : x = y) (k : Go X g kc ks Q w tgt lp st) : Go X g kc ks Q w pc lp (.int y :: .int x :: st) := r_ic_eq hc hd ht (fun _ => k) (fun q => absurd h q)
theorem r_ic_eq_f {X : Cxt} {g : GG} {cc : ByteArray} {own : String} {ret : Option FieldType} {hx : List (Nat × Nat × Nat × Nat)} {d kc ks : Nat} {Q : State → Prop} {w : Wd} {pc : Nat} {lp : List (Option Value)} {st : List Value} {x y : Int32} {off : Int} {tgt : Nat} (hc : Ok X g cc own ret hx d) (hd : decode cc pc = .ok (.if_icmp .eq off, 3)) (ht : (pc : Int) + off = (tgt : Int)) (h : ¬ x = y) (k : Go X g kc ks Q w (pc + 3) lp st) : Go X g kc ks Q w pc lp (.int y :: .int x :: st) := r_ic_eq hc hd ht (fun q => absurd q h) (fun _ => k)
theorem r_ic_ne_t {X : Cxt} {g : GG} {cc : ByteArray} {own : String} {ret : Option FieldType} {hx : List (Nat × Nat × Nat × Nat)} {d kc ks : Nat} {Q : State → Prop} {w : Wd} {pc : Nat} {lp : List (Option Value)} {st : List Value} {x y : Int32} {off : Int} {tgt : Nat} (hc : Ok X g cc own ret hx d) (hd : decode cc pc = .ok (.if_icmp .ne off, 3)) (ht : (pc : Int) + off = (tgt : Int)) (h : ¬ x = y) (k : Go X g kc ks Q w tgt lp st) : Go X g kc ks Q w pc lp (.int y :: .int x :: st) := r_ic_ne hc hd ht (fun _ => k) (fun q => absurd q h)
theorem r_ic_ne_f {X : Cxt} {g : GG} {cc : ByteArray} {own : String} {ret : Option FieldType} {hx : List (Nat × Nat × Nat × Nat)} {d kc ks : Nat} {Q : State → Prop} {w : Wd} {pc : Nat} {lp : List (Option Value)} {st : List Value} {x y : Int32} {off : Int} {tgt : Nat} (hc : Ok X g cc own ret hx d) (hd : decode cc pc = .ok (.if_icmp .ne off, 3)) (ht : (pc : Int) + off = (tgt : Int)) (h : x = y) (k : Go X g kc ks Q w (pc + 3) lp st) : Go X g kc ks Q w pc lp (.int y :: .int x :: st) := r_ic_ne hc hd ht (fun q => absurd h q) (fun _ => k)
theorem r_ic_lt_t {X : Cxt} {g : GG} {cc : ByteArray} {own : String} {ret : Option FieldType} {hx : List (Nat × Nat × Nat × Nat)} {d kc ks : Nat} {Q : State → Prop} {w : Wd} {pc : Nat} {lp : List (Option Value)} {st : List Value} {x y : Int32} {off : Int} {tgt : Nat} (hc : Ok X g cc own ret hx d) (hd : decode cc pc = .ok (.if_icmp .lt off, 3)) (ht : (pc : Int) + off = (tgt : Int)) (h : x < y) (k : Go X g kc ks Q w tgt lp st) : Go X g kc ks Q w pc lp (.int y :: .int x :: st) := r_ic_lt hc hd ht (fun _ => k) (fun q => absurd h q)
theorem r_ic_lt_f {X : Cxt} {g : GG} {cc : ByteArray} {own : String} {ret : Option FieldType} {hx : List (Nat × Nat × Nat × Nat)} {d kc ks : Nat} {Q : State → Prop} {w : Wd} {pc : Nat} {lp : List (Option Value)} {st : List Value} {x y : Int32} {off : Int} {tgt : Nat} (hc : Ok X g cc own ret hx d) (hd : decode cc pc = .ok (.if_icmp .lt off, 3)) (ht : (pc : Int) + off = (tgt : Int)) (h : ¬ x < y) (k : Go X g kc ks Q w (pc + 3) lp st) : Go X g kc ks Q w pc lp (.int y :: .int x :: st) := r_ic_lt hc hd ht (fun q => absurd q h) (fun _ => k)
theorem r_ic_ge_t {X : Cxt} {g : GG} {cc : ByteArray} {own : String} {ret : Option FieldType} {hx : List (Nat × Nat × Nat × Nat)} {d kc ks : Nat} {Q : State → Prop} {w : Wd} {pc : Nat} {lp : List (Option Value)} {st : List Value} {x y : Int32} {off : Int} {tgt : Nat} (hc : Ok X g cc own ret hx d) (hd : decode cc pc = .ok (.if_icmp .ge off, 3)) (ht : (pc : Int) + off = (tgt : Int)) (h : y ≤ x) (k : Go X g kc ks Q w tgt lp st) : Go X g kc ks Q w pc lp (.int y :: .int x :: st) := r_ic_ge hc hd ht (fun _ => k) (fun q => absurd h q)
theorem r_ic_ge_f {X : Cxt} {g : GG} {cc : ByteArray} {own : String} {ret : Option FieldType} {hx : List (Nat × Nat × Nat × Nat)} {d kc ks : Nat} {Q : State → Prop} {w : Wd} {pc : Nat} {lp : List (Option Value)} {st : List Value} {x y : Int32} {off : Int} {tgt : Nat} (hc : Ok X g cc own ret hx d) (hd : decode cc pc = .ok (.if_icmp .ge off, 3)) (ht : (pc : Int) + off = (tgt : Int)) (h : ¬ y ≤ x) (k : Go X g kc ks Q w (pc + 3) lp st) : Go X g kc ks Q w pc lp (.int y :: .int x :: st) := r_ic_ge hc hd ht (fun q => absurd q h) (fun _ => k)
theorem r_ic_gt_t {X : Cxt} {g : GG} {cc : ByteArray} {own : String} {ret : Option FieldType} {hx : List (Nat × Nat × Nat × Nat)} {d kc ks : Nat} {Q : State → Prop} {w : Wd} {pc : Nat} {lp : List (Option Value)} {st : List Value} {x y : Int32} {off : Int} {tgt : Nat} (hc : Ok X g cc own ret hx d) (hd : decode cc pc = .ok (.if_icmp .gt off, 3)) (ht : (pc : Int) + off = (tgt : Int)) (h : y < x) (k : Go X g kc ks Q w tgt lp st) : Go X g kc ks Q w pc lp (.int y :: .int x :: st) := r_ic_gt hc hd ht (fun _ => k) (fun q => absurd h q)
theorem r_ic_gt_f {X : Cxt} {g : GG} {cc : ByteArray} {own : String} {ret : Option FieldType} {hx : List (Nat × Nat × Nat × Nat)} {d kc ks : Nat} {Q : State → Prop} {w : Wd} {pc : Nat} {lp : List (Option Value)} {st : List Value} {x y : Int32} {off : Int} {tgt : Nat} (hc : Ok X g cc own ret hx d) (hd : decode cc pc = .ok (.if_icmp .gt off, 3)) (ht : (pc : Int) + off = (tgt : Int)) (h : ¬ y < x) (k : Go X g kc ks Q w (pc + 3) lp st) : Go X g kc ks Q w pc lp (.int y :: .int x :: st) := r_ic_gt hc hd ht (fun q => absurd q h) (fun _ => k)
theorem r_ic_le_t {X : Cxt} {g : GG} {cc : ByteArray} {own : String} {ret : Option FieldType} {hx : List (Nat × Nat × Nat × Nat)} {d kc ks : Nat} {Q : State → Prop} {w : Wd} {pc : Nat} {lp : List (Option Value)} {st : List Value} {x y : Int32} {off : Int} {tgt : Nat} (hc : Ok X g cc own ret hx d) (hd : decode cc pc = .ok (.if_icmp .le off, 3)) (ht : (pc : Int) + off = (tgt : Int)) (h : x ≤ y) (k : Go X g kc ks Q w tgt lp st) : Go X g kc ks Q w pc lp (.int y :: .int x :: st) := r_ic_le hc hd ht (fun _ => k) (fun q => absurd h q)
theorem r_ic_le_f {X : Cxt} {g : GG} {cc : ByteArray} {own : String} {ret : Option FieldType} {hx : List (Nat × Nat × Nat × Nat)} {d kc ks : Nat} {Q : State → Prop} {w : Wd} {pc : Nat} {lp : List (Option Value)} {st : List Value} {x y : Int32} {off : Int} {tgt : Nat} (hc : Ok X g cc own ret hx d) (hd : decode cc pc = .ok (.if_icmp .le off, 3)) (ht : (pc : Int) + off = (tgt : Int)) (h : ¬ x ≤ y) (k : Go X g kc ks Q w (pc + 3) lp st) : Go X g kc ks Q w pc lp (.int y :: .int x :: st) := r_ic_le hc hd ht (fun q => absurd q h) (fun _ => k)
theorem Go.drop {X : Cxt} {g : GG} {kc ks : Nat} {Q : State → Prop} {w : Wd} {pc : Nat} {lp : List (Option Value)} {st : List Value} (i : Nat) (k : Go X g kc ks Q w pc (lp.set i none) st) : Go X g kc ks Q w pc lp st := by
  refine Go.weak (lp' := lp.set i none) (by rw [List.length_set]; exact Nat.le_refl _) (fun j v h => ?_) k
  by_cases hj : j = i
  · subst hj
    have hl : j < (lp.set j none).length := (List.getElem?_eq_some_iff.mp h).1
    rw [List.length_set] at hl
    rw [List.getElem?_set_self hl] at h
    cases h
  · rw [List.getElem?_set_ne (Ne.symm hj)] at h
    exact h
/-- a loop that counts up -/
theorem lp_up {n : Nat} {P : Nat → Prop} (h : ∀ r, r ≤ n → (r < n → P (r + 1)) → P r) (r : Nat) (hr : r ≤ n) : P r := by
  have key : ∀ j r, r + j = n → P r := by
    intro j
    induction j with
    | zero => intro r hr; exact h r (by omega) (fun q => by omega)
    | succ j ih => intro r hr; exact h r (by omega) (fun _ => ih (r + 1) (by omega))
  exact key (n - r) r (by omega)
/-- a loop that counts down -/
theorem lp_dn {P : Nat → Prop} (h : ∀ r, (∀ q, r = q + 1 → P q) → P r) (r : Nat) : P r := by
  induction r with
  | zero => exact h 0 (fun q hq => by omega)
  | succ r ih => exact h (r + 1) (fun q hq => by have : q = r := by omega
                                                 rw [this]; exact ih)
theorem ix12 (r p : Nat) : nI 12 * nI r + nI p = nI (12 * r + p) := by rw [pk_mul, nI_add]
theorem nle_of {a b : Nat} (h : ¬ nI a ≤ nI b) (ha : a < 2 ^ 31) (hb : b < 2 ^ 31) : b < a := by
  rw [nI_leI ha hb] at h
  omega
theorem nle_to {a b : Nat} (h : nI a ≤ nI b) (ha : a < 2 ^ 31) (hb : b < 2 ^ 31) : a ≤ b := by
  rw [nI_leI ha hb] at h
  omega
end
section
/-! The field's numbers, without a machine. A cell: nothing; a bye; a game (opponent, white?, result; 3: not told yet). -/
abbrev Ce : Type := Option (Option (Nat × Bool × Nat))
def ce_code : Ce → Int32
  | none => -1
  | some none => 76
  | some (some (o, b, k)) => nI (o + (if b then 16 else 0) + 32 * k)
def ce_pts : Ce → Nat
  | none => 0
  | some none => 2
  | some (some (_, _, k)) => k
def ce_col (b : Bool) : Int := if b then 1 else -1
/-- score over the first rounds -/
def f_sc (G : Nat → Nat → Ce) : Nat → Nat → Nat
  | 0, _ => 0
  | r + 1, p => f_sc G r p + ce_pts (G r p)
def f_ba (G : Nat → Nat → Ce) : Nat → Nat → Int
  | 0, _ => 0
  | r + 1, p => match G r p with
    | some (some (_, b, _)) => f_ba G r p + ce_col b
    | _ => f_ba G r p
/-- colour of the latest game -/
def f_la (G : Nat → Nat → Ce) : Nat → Nat → Int
  | 0, _ => 0
  | r + 1, p => match G r p with
    | some (some (_, b, _)) => ce_col b
    | _ => f_la G r p
/-- colour of the one before it -/
def f_lb (G : Nat → Nat → Ce) : Nat → Nat → Int
  | 0, _ => 0
  | r + 1, p => match G r p with
    | some (some _) => f_la G r p
    | _ => f_lb G r p
def f_by (G : Nat → Nat → Ce) : Nat → Nat → Nat
  | 0, _ => 0
  | r + 1, p => match G r p with
    | some none => f_by G r p + 1
    | _ => f_by G r p
def f_wi (G : Nat → Nat → Ce) : Nat → Nat → Nat
  | 0, _ => 0
  | r + 1, p => match G r p with
    | some (some (_, _, k)) => if k = 2 then f_wi G r p + 1 else f_wi G r p
    | _ => f_wi G r p
def f_gm (G : Nat → Nat → Ce) : Nat → Nat → Nat
  | 0, _ => 0
  | r + 1, p => match G r p with
    | some (some _) => f_gm G r p + 1
    | _ => f_gm G r p
/-- the sum of the opponents' scores (s), over the first rounds -/
def f_bu (G : Nat → Nat → Ce) (s : Nat → Nat) : Nat → Nat → Nat
  | 0, _ => 0
  | r + 1, p => match G r p with
    | some (some (o, _, _)) => f_bu G s r p + s o
    | _ => f_bu G s r p
def f_be (G : Nat → Nat → Ce) (s : Nat → Nat) : Nat → Nat → Nat
  | 0, _ => 0
  | r + 1, p => match G r p with
    | some (some (o, _, k)) => f_be G s r p + k * s o
    | _ => f_be G s r p
/-- have they played -/
def f_mt (G : Nat → Nat → Ce) : Nat → Nat → Nat → Bool
  | 0, _, _ => false
  | r + 1, p, q => match G r p with
    | some (some (o, _, _)) => f_mt G r p q || o == q
    | _ => f_mt G r p q
/-- the closed rounds hold what a round can hold -/
def CeOk (n : Nat) (c : Ce) : Prop := match c with
  | some (some (o, _, k)) => o < n ∧ k ≤ 2
  | _ => True
theorem f_sc_le {G : Nat → Nat → Ce} {n : Nat} : ∀ (r p : Nat), (∀ i, i < r → CeOk n (G i p)) → f_sc G r p ≤ 2 * r
  | 0, _, _ => Nat.le_refl _
  | r + 1, p, h => by
    have ih := f_sc_le r p (fun i hi => h i (by omega))
    have h1 := h r (by omega)
    have : ce_pts (G r p) ≤ 2 := by
      unfold CeOk at h1
      unfold ce_pts
      split <;> simp_all
    simp only [f_sc]
    omega
/-! the order -/
def bk (s : Nat → Nat) (el : Nat → Bool) (n : Nat) : Nat → List Nat
  | 0 => []
  | k + 1 => (List.range n).filter (fun p => el p && s p == k) ++ bk s el n k
theorem bk_mem {s : Nat → Nat} {el : Nat → Bool} {n q : Nat} : ∀ {K : Nat}, q ∈ bk s el n K ↔ q < n ∧ el q = true ∧ s q < K
  | 0 => by simp [bk]
  | K + 1 => by
    simp only [bk, List.mem_append, List.mem_filter, List.mem_range, Bool.and_eq_true, beq_iff_eq, bk_mem (K := K)]
    constructor
    · rintro (⟨h1, h2, h3⟩ | ⟨h1, h2, h3⟩)
      · exact ⟨h1, h2, by omega⟩
      · exact ⟨h1, h2, by omega⟩
    · rintro ⟨h1, h2, h3⟩
      by_cases h : s q = K
      · exact Or.inl ⟨h1, h2, h⟩
      · exact Or.inr ⟨h1, h2, by omega⟩
theorem bk_skip {s : Nat → Nat} {el : Nat → Bool} {p : Nat} : ∀ {K : Nat}, (el p = false ∨ K ≤ s p) → bk s el (p + 1) K = bk s el p K
  | 0, _ => rfl
  | K + 1, h => by
    have h1 : (el p && s p == K) = false := by
      rcases h with h | h
      · simp [h]
      · have : ¬ s p = K := by omega
        simp [this]
    have ih : bk s el (p + 1) K = bk s el p K := bk_skip (h.imp id (by omega))
    simp only [bk, List.range_succ, List.filter_append, ih]
    simp [h1]
theorem bk_ins {s : Nat → Nat} {el : Nat → Bool} {p : Nat} (he : el p = true) : ∀ {K : Nat}, s p < K → ∃ A B : List Nat, bk s el p K = A ++ B ∧ bk s el (p + 1) K = A ++ p :: B ∧ (∀ q ∈ A, s p ≤ s q) ∧ ∀ q ∈ B, s q < s p
  | 0, h => absurd h (Nat.not_lt_zero _)
  | K + 1, h => by
    by_cases hk : s p = K
    · refine ⟨(List.range p).filter (fun p => el p && s p == K), bk s el p K, rfl, ?_, fun q hq => ?_, fun q hq => ?_⟩
      · simp only [bk, List.range_succ, List.filter_append, bk_skip (s := s) (el := el) (p := p) (K := K) (Or.inr (by omega))]
        simp [he, hk]
      · simp only [List.mem_filter, Bool.and_eq_true, beq_iff_eq] at hq
        omega
      · have := (bk_mem.mp hq).2.2
        omega
    · obtain ⟨A, B, h1, h2, h3, h4⟩ := bk_ins (s := s) he (K := K) (by omega)
      refine ⟨(List.range p).filter (fun p => el p && s p == K) ++ A, B, by simp [bk, h1], ?_, fun q hq => ?_, h4⟩
      · have hf : (el p && s p == K) = false := by simp [hk]
        simp only [bk, List.range_succ, List.filter_append, h2]
        simp [hf]
      · rcases List.mem_append.mp hq with hq | hq
        · simp only [List.mem_filter, Bool.and_eq_true, beq_iff_eq] at hq
          omega
        · exact h3 q hq
theorem bk_nodup {s : Nat → Nat} {el : Nat → Bool} {n : Nat} : ∀ {K : Nat}, (bk s el n K).Nodup
  | 0 => List.nodup_nil
  | K + 1 => by
    simp only [bk]
    rw [List.nodup_append]
    refine ⟨List.Pairwise.filter _ List.nodup_range, bk_nodup, ?_⟩
    intro a ha b hb hab
    subst hab
    simp only [List.mem_filter, Bool.and_eq_true, beq_iff_eq] at ha
    have := (bk_mem.mp hb).2.2
    omega
end
section
/-! sets of seats, as numbers below 4096 -/
def clr (S j : Nat) : Nat := S &&& (4294967295 - 2 ^ j)
theorem clr_bit (S : Nat) {j i : Nat} (hj : j < 32) (hi : i < 32) : (clr S j).testBit i = (S.testBit i && !decide (j = i)) := by
  have h : (4294967295 - 2 ^ j : Nat) = 2 ^ 32 - (2 ^ j + 1) := by omega
  unfold clr
  rw [Nat.testBit_and, h, Nat.testBit_two_pow_sub_succ (Nat.pow_lt_pow_right (by decide) hj), Nat.testBit_two_pow]
  simp [hi]
theorem clr_le (S j : Nat) : clr S j ≤ S := Nat.and_le_left
theorem clr_lt {S j : Nat} (hj : j < 32) (h : S.testBit j = true) : clr S j < S := by
  rcases Nat.lt_or_eq_of_le (clr_le S j) with h1 | h1
  · exact h1
  · have h2 := clr_bit S hj hj
    rw [h1, h] at h2
    simp at h2
/-- the lowest of a set -/
def lowb (S : Nat) : Nat := ((List.range 32).find? (fun i => S.testBit i)).getD 32
theorem lowb_spec {S : Nat} (h0 : 0 < S) (h : S < 4096) : S.testBit (lowb S) = true ∧ lowb S < 12 ∧ ∀ i, i < lowb S → S.testBit i = false := by
  have hex : ∃ i, i < 12 ∧ S.testBit i = true := by
    obtain ⟨i, hi⟩ := Nat.exists_testBit_of_ne_zero (Nat.pos_iff_ne_zero.mp h0)
    refine ⟨i, ?_, hi⟩
    rcases Nat.lt_or_ge i 12 with q | q
    · exact q
    · have := Nat.testBit_lt_two_pow (x := S) (i := i) (Nat.lt_of_lt_of_le h (Nat.pow_le_pow_right (by decide) q : 2 ^ 12 ≤ 2 ^ i))
      rw [this] at hi
      cases hi
  obtain ⟨i, hi, hb⟩ := hex
  unfold lowb
  cases hf : (List.range 32).find? (fun i => S.testBit i) with
  | none =>
    have := List.find?_eq_none.mp hf i (List.mem_range.mpr (by omega))
    exact absurd hb this
  | some j =>
    have h1 := List.find?_some hf
    have h2 : ∀ i, i < j → S.testBit i = false := by
      intro k hk
      have h3 := (List.find?_range_eq_some.mp hf).2.2 k hk
      simpa using h3
    refine ⟨h1, ?_, h2⟩
    show j < 12
    rcases Nat.lt_or_ge i j with q | q
    · have := h2 i q
      rw [this] at hb
      cases hb
    · omega
/-! the cheapest pairings of a set, partner by partner: cost (dpE: none), partner of the lowest, how many -/
def dpE : Nat := 100000000
def dp (cst : Nat → Nat → Option Nat) (B Y : Nat → Nat) (S f : Nat) : Nat → Nat × Option Nat × Nat
  | 0 => (dpE, none, 0)
  | j + 1 => match (if f < j ∧ S.testBit j = true then cst f j else none) with
    | none => dp cst B Y S f j
    | some c => if c + B (clr (clr S f) j) < (dp cst B Y S f j).1 then (c + B (clr (clr S f) j), some j, (dp cst B Y S f j).2.2 + Y (clr (clr S f) j))
      else ((dp cst B Y S f j).1, (dp cst B Y S f j).2.1, (dp cst B Y S f j).2.2 + Y (clr (clr S f) j))
theorem dp_congr {cst : Nat → Nat → Option Nat} {B Y B' Y' : Nat → Nat} {S f : Nat} (hf : S.testBit f = true) (hf2 : f < 32) (h : ∀ T, T < S → B T = B' T ∧ Y T = Y' T) : ∀ t, dp cst B Y S f t = dp cst B' Y' S f t
  | 0 => rfl
  | j + 1 => by
    have hlt : clr (clr S f) j < S := Nat.lt_of_le_of_lt (clr_le _ _) (clr_lt hf2 hf)
    simp only [dp, dp_congr hf hf2 h j, (h _ hlt).1, (h _ hlt).2]
def dtab (cst : Nat → Nat → Option Nat) (m : Nat) : Nat → Nat → Nat × Option Nat × Nat
  | 0 => fun _ => (0, none, 1)
  | k + 1 => fun S => if S = k ∧ 0 < k then dp cst (fun T => (dtab cst m k T).1) (fun T => (dtab cst m k T).2.2) k (lowb k) m else dtab cst m k S
def sol (cst : Nat → Nat → Option Nat) (m S : Nat) : Nat × Option Nat × Nat := dtab cst m (S + 1) S
theorem dtab_sol (cst : Nat → Nat → Option Nat) (m : Nat) : ∀ (k S : Nat), S < k → dtab cst m k S = sol cst m S
  | 0, S, h => absurd h (Nat.not_lt_zero _)
  | k + 1, S, h => by
    by_cases hk : S = k
    · subst hk; rfl
    · have h1 : ¬ (S = k ∧ 0 < k) := fun q => hk q.1
      show (if S = k ∧ 0 < k then _ else dtab cst m k S) = _
      rw [if_neg h1]
      exact dtab_sol cst m k S (by omega)
theorem sol_0 (cst : Nat → Nat → Option Nat) (m : Nat) : sol cst m 0 = (0, none, 1) := by
  simp [sol, dtab]
theorem sol_eq (cst : Nat → Nat → Option Nat) (m : Nat) {S : Nat} (h0 : 0 < S) (h : S < 4096) : sol cst m S = dp cst (fun T => (sol cst m T).1) (fun T => (sol cst m T).2.2) S (lowb S) m := by
  obtain ⟨h1, h2, -⟩ := lowb_spec h0 h
  show (if S = S ∧ 0 < S then _ else dtab cst m S S) = _
  rw [if_pos ⟨rfl, h0⟩]
  refine dp_congr h1 (by omega) (fun T hT => ?_) m
  show (dtab cst m S T).1 = _ ∧ (dtab cst m S T).2.2 = _
  rw [dtab_sol cst m S T hT]
  exact ⟨rfl, rfl⟩
/-- what one set's figures say -/
def DpOk (r : Nat × Option Nat × Nat) (b : Nat) : Prop := (r.1 = dpE ∧ r.2.1 = none ∧ r.2.2 = 0) ∨ (r.1 ≤ b ∧ 0 < r.2.2 ∧ ∃ j, r.2.1 = some j)
end
section
/-! PairedField.Cell -/
def isG (c : Int32) : Bool := !decide (c = -1) && !decide (c = nI 76)
def isUn (c : Int32) : Bool := isG c && decide (c >>> (nI 5 &&& 31) = nI 3)
def wRes (c r : Int32) : Int32 := (c &&& nI 31) + (r <<< (nI 5 &&& 31))
def colr (c : Int32) : Int32 := if c &&& nI 16 = 0 then -1 else nI 1
def unto (o col : Int32) : Int32 := wRes (o + (if col = nI 1 then nI 16 else nI 0)) (nI 3)
theorem cC_withResult (l : Launch) (g : GG) (d : Nat) (w : Wd) (c r : Int32) : Con l g yC_withResult bC_withResult 2 ((some .int)) [] d 0 0 [.int c, .int r] w (Rp (An (some (.int (wRes c r))) w)) := by
  intro X hl ha hm hk hn hc
  subst hl
  refine r_iload_n hc dC_withResult_0 rfl ?_
  refine r_bipush hc dC_withResult_1 (nI 31) (by decide) ?_
  refine r_iand hc dC_withResult_3 ?_
  refine r_iload_n hc dC_withResult_4 rfl ?_
  refine r_iconst hc dC_withResult_5 (nI 5) (by decide) ?_
  refine r_ishl hc dC_withResult_6 ?_
  refine r_iadd hc dC_withResult_7 ?_
  exact r_iret hc dC_withResult_8 ⟨rfl, rfl⟩
theorem cC_opponentIn (l : Launch) (g : GG) (d : Nat) (w : Wd) (c : Int32) : Con l g yC_opponentIn bC_opponentIn 1 ((some .int)) [] d 0 0 [.int c] w (Rp (An (some (.int (c &&& nI 15))) w)) := by
  intro X hl ha hm hk hn hc
  subst hl
  refine r_iload_n hc dC_opponentIn_0 rfl ?_
  refine r_bipush hc dC_opponentIn_1 (nI 15) (by decide) ?_
  refine r_iand hc dC_opponentIn_3 ?_
  exact r_iret hc dC_opponentIn_4 ⟨rfl, rfl⟩
theorem cC_resultIn (l : Launch) (g : GG) (d : Nat) (w : Wd) (c : Int32) : Con l g yC_resultIn bC_resultIn 1 ((some .int)) [] d 0 0 [.int c] w (Rp (An (some (.int (c >>> (nI 5 &&& 31)))) w)) := by
  intro X hl ha hm hk hn hc
  subst hl
  refine r_iload_n hc dC_resultIn_0 rfl ?_
  refine r_iconst hc dC_resultIn_1 (nI 5) (by decide) ?_
  refine r_ishr hc dC_resultIn_2 ?_
  exact r_iret hc dC_resultIn_3 ⟨rfl, rfl⟩
theorem cC_colourIn (l : Launch) (g : GG) (d : Nat) (w : Wd) (c : Int32) : Con l g yC_colourIn bC_colourIn 1 ((some .int)) [] d 0 0 [.int c] w (Rp (An (some (.int (colr c))) w)) := by
  intro X hl ha hm hk hn hc
  subst hl
  refine r_iload_n hc dC_colourIn_0 rfl ?_
  refine r_bipush hc dC_colourIn_1 (nI 16) (by decide) ?_
  refine r_iand hc dC_colourIn_3 ?_
  refine r_if_eq hc dC_colourIn_4 (tgt := 11) (by decide) (fun h => ?_) (fun h => ?_)
  · refine r_iconst hc dC_colourIn_11 (-1) (by decide) ?_
    exact r_iret hc dC_colourIn_12 ⟨by simp [colr, h], rfl⟩
  · refine r_iconst hc dC_colourIn_7 (nI 1) (by decide) ?_
    refine r_goto hc dC_colourIn_8 (tgt := 12) (by decide) ?_
    exact r_iret hc dC_colourIn_12 ⟨by simp [colr, h], rfl⟩
theorem cC_isGame (l : Launch) (g : GG) (d : Nat) (w : Wd) (c : Int32) : Con l g yC_isGame bC_isGame 1 ((some .boolean)) [] d 0 0 [.int c] w (Rp (An (some (.int (bI (isG c)))) w)) := by
  intro X hl ha hm hk hn hc
  subst hl
  refine r_iload_n hc dC_isGame_0 rfl ?_
  refine r_iconst hc dC_isGame_1 (-1) (by decide) ?_
  refine r_ic_eq hc dC_isGame_2 (tgt := 15) (by decide) (fun h => ?_) (fun h => ?_)
  · refine r_iconst hc dC_isGame_15 (nI 0) (by decide) ?_
    exact r_zret hc dC_isGame_16 rfl ⟨by rw [show isG c = false by simp [isG, h]]; rfl, rfl⟩
  · refine r_iload_n hc dC_isGame_5 rfl ?_
    refine r_bipush hc dC_isGame_6 (nI 76) (by decide) ?_
    refine r_ic_eq hc dC_isGame_8 (tgt := 15) (by decide) (fun h2 => ?_) (fun h2 => ?_)
    · refine r_iconst hc dC_isGame_15 (nI 0) (by decide) ?_
      exact r_zret hc dC_isGame_16 rfl ⟨by rw [show isG c = false by simp [isG, h2]]; rfl, rfl⟩
    · refine r_iconst hc dC_isGame_11 (nI 1) (by decide) ?_
      refine r_goto hc dC_isGame_12 (tgt := 16) (by decide) ?_
      exact r_zret hc dC_isGame_16 rfl ⟨by rw [show isG c = true by simp [isG, h, h2]]; rfl, rfl⟩
theorem cC_isUntold (l : Launch) (g : GG) (d : Nat) (w : Wd) (c : Int32) : Con l g yC_isUntold bC_isUntold 1 ((some .boolean)) [] (d + 1) 0 0 [.int c] w (Rp (An (some (.int (bI (isUn c)))) w)) := by
  intro X hl ha hm hk hn hc
  subst hl
  refine r_iload_n hc dC_isUntold_0 rfl ?_
  refine kC_15r hc dC_isUntold_1 (cC_isGame _ g d w c) (Nat.le_refl _) (Nat.le_of_ble_eq_true rfl) ?_
  rintro _ _ ⟨rfl, rfl⟩
  refine r_if_eq hc dC_isUntold_4 (tgt := 19) (by decide) (fun h => ?_) (fun h => ?_)
  · refine r_iconst hc dC_isUntold_19 (nI 0) (by decide) ?_
    have h1 : isG c = false := by cases hh : isG c <;> simp_all [bI]
    exact r_zret hc dC_isUntold_20 rfl ⟨by rw [show isUn c = false by simp [isUn, h1]]; rfl, rfl⟩
  · have h1 : isG c = true := by cases hh : isG c <;> simp_all [bI]
    refine r_iload_n hc dC_isUntold_7 rfl ?_
    refine kC_19r hc dC_isUntold_8 (cC_resultIn _ g d w c) (Nat.le_refl _) (Nat.le_of_ble_eq_true rfl) ?_
    rintro _ _ ⟨rfl, rfl⟩
    refine r_iconst hc dC_isUntold_11 (nI 3) (by decide) ?_
    refine r_ic_ne hc dC_isUntold_12 (tgt := 19) (by decide) (fun h2 => ?_) (fun h2 => ?_)
    · refine r_iconst hc dC_isUntold_19 (nI 0) (by decide) ?_
      exact r_zret hc dC_isUntold_20 rfl ⟨by rw [show isUn c = false by simp [isUn, h2]]; rfl, rfl⟩
    · refine r_iconst hc dC_isUntold_15 (nI 1) (by decide) ?_
      refine r_goto hc dC_isUntold_16 (tgt := 20) (by decide) ?_
      exact r_zret hc dC_isUntold_20 rfl ⟨by rw [show isUn c = true by simp [isUn, h1, h2]]; rfl, rfl⟩
theorem cC_untoldGame (l : Launch) (g : GG) (d : Nat) (w : Wd) (o col : Int32) : Con l g yC_untoldGame bC_untoldGame 2 ((some .int)) [] (d + 1) 0 0 [.int o, .int col] w (Rp (An (some (.int (unto o col))) w)) := by
  intro X hl ha hm hk hn hc
  subst hl
  refine r_iload_n hc dC_untoldGame_0 rfl ?_
  refine r_iload_n hc dC_untoldGame_1 rfl ?_
  refine r_iconst hc dC_untoldGame_2 (nI 1) (by decide) ?_
  refine r_ic_ne hc dC_untoldGame_3 (tgt := 11) (by decide) (fun h => ?_) (fun h => ?_)
  · refine r_iconst hc dC_untoldGame_11 (nI 0) (by decide) ?_
    refine r_iadd hc dC_untoldGame_12 ?_
    refine r_iconst hc dC_untoldGame_13 (nI 3) (by decide) ?_
    refine kC_11r hc dC_untoldGame_14 (cC_withResult _ g d w _ _) (Nat.le_refl _) (Nat.le_of_ble_eq_true rfl) ?_
    rintro _ _ ⟨rfl, rfl⟩
    exact r_iret hc dC_untoldGame_17 ⟨by simp [unto, h], rfl⟩
  · refine r_bipush hc dC_untoldGame_6 (nI 16) (by decide) ?_
    refine r_goto hc dC_untoldGame_8 (tgt := 12) (by decide) ?_
    refine r_iadd hc dC_untoldGame_12 ?_
    refine r_iconst hc dC_untoldGame_13 (nI 3) (by decide) ?_
    refine kC_11r hc dC_untoldGame_14 (cC_withResult _ g d w _ _) (Nat.le_refl _) (Nat.le_of_ble_eq_true rfl) ?_
    rintro _ _ ⟨rfl, rfl⟩
    exact r_iret hc dC_untoldGame_17 ⟨by simp [unto, h], rfl⟩
end
section
/-! PairedFieldModel: the figures -/
def McOk (c : Ce) (o h k : Int32) : Prop := match c with
  | none => o = -1
  | some none => o = nI 12
  | some (some (q, b, r)) => q < 12 ∧ o = nI q ∧ h = bI b ∧ r ≤ 3 ∧ k = (if r = 3 then -1 else nI r)
/-- the reference's rows hold the first n rounds of G -/
def MRep (w : Wd) (G : Nat → Nat → Ce) (n : Nat) : Prop := ∀ r, r < n → ∀ p, p < 12 → McOk (G r p) (w 51 (12 * r + p)) (w 52 (12 * r + p)) (w 53 (12 * r + p))
/-- every game of the first n rounds is told -/
def GTold (G : Nat → Nat → Ce) (n : Nat) : Prop := ∀ r, r < n → ∀ p, p < 12 → ∀ q b k, G r p = some (some (q, b, k)) → k ≤ 2
def ce_g : Ce → Bool
  | some (some _) => true
  | _ => false
theorem cM_hadGame (l : Launch) (g : GG) (d : Nat) (w : Wd) (G : Nat → Nat → Ce) (n r p : Nat) (hR : MRep w G n) (hn : n ≤ 17) (hr : r < n) (hp : p < 12) : Con l g yM_hadGame bM_hadGame 4 ((some .boolean)) [] d 0 0 [.ref (g.1 48), .int (nI r), .int (nI p)] w (Rp (An (some (.int (bI (ce_g (G r p))))) w)) := by
  intro X hl ha hm hk hn' hc
  subst hl
  refine r_aload_n hc dM_hadGame_0 rfl ?_
  refine gM_16 hc dM_hadGame_1 ?_
  refine r_bipush hc dM_hadGame_4 (nI 12) (by decide) ?_
  refine r_iload_n hc dM_hadGame_6 rfl ?_
  refine r_imul hc dM_hadGame_7 ?_
  refine r_iload_n hc dM_hadGame_8 rfl ?_
  refine r_iadd hc dM_hadGame_9 ?_
  rw [ix12]
  refine r_ialdN hc dM_hadGame_10 rfl (by first | omega | (show _ < 12; omega) | (show _ < 204; omega) | (show _ < 144; omega) | (show _ < 2048; omega) | (show _ < 4096; omega) | (show _ < 16; omega)) ?_
  have hM := hR r hr p hp
  rcases hg : G r p with _ | _ | ⟨q, b, k⟩ <;> rw [hg] at hM <;> simp only [McOk] at hM
  · rw [hM]
    refine r_istore_n hc dM_hadGame_11 (Nat.le_of_ble_eq_true rfl) ?_
    refine r_iload_n hc dM_hadGame_12 rfl ?_
    refine r_if_lt_t hc dM_hadGame_13 (tgt := 26) (by decide) (by decide) ?_
    refine r_iconst hc dM_hadGame_26 (nI 0) (by decide) ?_
    exact r_zret hc dM_hadGame_27 rfl ⟨rfl, rfl⟩
  · rw [hM]
    refine r_istore_n hc dM_hadGame_11 (Nat.le_of_ble_eq_true rfl) ?_
    refine r_iload_n hc dM_hadGame_12 rfl ?_
    refine r_if_lt_f hc dM_hadGame_13 (tgt := 26) (by decide) (by decide) ?_
    refine r_iload_n hc dM_hadGame_16 rfl ?_
    refine r_bipush hc dM_hadGame_17 (nI 12) (by decide) ?_
    refine r_ic_ge_t hc dM_hadGame_19 (tgt := 26) (by decide) (by decide) ?_
    refine r_iconst hc dM_hadGame_26 (nI 0) (by decide) ?_
    exact r_zret hc dM_hadGame_27 rfl ⟨rfl, rfl⟩
  · obtain ⟨h1, h2, -⟩ := hM
    rw [h2]
    refine r_istore_n hc dM_hadGame_11 (Nat.le_of_ble_eq_true rfl) ?_
    refine r_iload_n hc dM_hadGame_12 rfl ?_
    refine r_if_lt_f hc dM_hadGame_13 (tgt := 26) (by decide) (nI_pos (by omega)) ?_
    refine r_iload_n hc dM_hadGame_16 rfl ?_
    refine r_bipush hc dM_hadGame_17 (nI 12) (by decide) ?_
    refine r_ic_ge_f hc dM_hadGame_19 (tgt := 26) (by decide) (nI_ge h1 (by decide)) ?_
    refine r_iconst hc dM_hadGame_22 (nI 1) (by decide) ?_
    refine r_goto hc dM_hadGame_23 (tgt := 27) (by decide) ?_
    exact r_zret hc dM_hadGame_27 rfl ⟨rfl, rfl⟩
theorem cM_scoreOf (l : Launch) (g : GG) (d : Nat) (w : Wd) (G : Nat → Nat → Ce) (n p : Nat) (hR : MRep w G n) (hT : GTold G n) (hn : n ≤ 16) (hcl : w 48 4 = nI n) (hp : p < 12) : Con l g yM_scoreOf bM_scoreOf 5 ((some .int)) [] d 0 0 [.ref (g.1 48), .int (nI p)] w (Rp (An (some (.int (nI (f_sc G n p)))) w)) := by
  intro X hl ha hm hk hn' hc
  subst hl
  refine r_iconst hc dM_scoreOf_0 (nI 0) (by decide) ?_
  refine r_istore_n hc dM_scoreOf_1 (Nat.le_of_ble_eq_true rfl) ?_
  refine r_iconst hc dM_scoreOf_2 (nI 0) (by decide) ?_
  refine r_istore_n hc dM_scoreOf_3 (Nat.le_of_ble_eq_true rfl) ?_
  refine lp_up (P := fun r => Go X g 0 0 _ w 4 [some (.ref (g.1 48)), some (.int (nI p)), some (.int (nI (f_sc G r p))), some (.int (nI r)), none] []) (n := n) ?_ 0 (Nat.zero_le _)
  intro r hr ih
  refine r_iload_n hc dM_scoreOf_4 rfl ?_
  refine r_aload_n hc dM_scoreOf_5 rfl ?_
  refine gM_63 hc dM_scoreOf_6 ?_
  rw [hcl]
  refine r_ic_ge hc dM_scoreOf_9 (tgt := 67) (by decide) (fun h => ?_) (fun h => ?_)
  · have hr2 : r = n := by have := nle_to h (by omega) (by omega); omega
    subst hr2
    refine r_iload_n hc dM_scoreOf_67 rfl ?_
    exact r_iret hc dM_scoreOf_68 ⟨rfl, rfl⟩
  · have hr2 : r < n := nle_of h (by omega) (by omega)
    have ih := ih hr2
    refine r_aload_n hc dM_scoreOf_12 rfl ?_
    refine gM_16 hc dM_scoreOf_13 ?_
    refine r_bipush hc dM_scoreOf_16 (nI 12) (by decide) ?_
    refine r_iload_n hc dM_scoreOf_18 rfl ?_
    refine r_imul hc dM_scoreOf_19 ?_
    refine r_iload_n hc dM_scoreOf_20 rfl ?_
    refine r_iadd hc dM_scoreOf_21 ?_
    rw [ix12]
    refine r_ialdN hc dM_scoreOf_22 rfl (by first | omega | (show _ < 12; omega) | (show _ < 204; omega) | (show _ < 144; omega) | (show _ < 2048; omega) | (show _ < 4096; omega) | (show _ < 16; omega)) ?_
    have hM := hR r hr2 p hp
    have hTr := hT r hr2 p hp
    rcases hg : G r p with _ | _ | ⟨q, b, k⟩ <;> rw [hg] at hM <;> simp only [McOk] at hM
    · rw [hM]
      refine r_istore hc dM_scoreOf_23 (Nat.le_of_ble_eq_true rfl) ?_
      refine r_iload hc dM_scoreOf_25 rfl ?_
      refine r_bipush hc dM_scoreOf_27 (nI 12) (by decide) ?_
      refine r_ic_ne_t hc dM_scoreOf_29 (tgt := 38) (by decide) (by decide) ?_
      refine r_iload hc dM_scoreOf_38 rfl ?_
      refine r_if_lt_t hc dM_scoreOf_40 (tgt := 59) (by decide) (by decide) ?_
      refine r_iload_n hc dM_scoreOf_59 rfl ?_
      refine r_istore_n hc dM_scoreOf_60 (Nat.le_of_ble_eq_true rfl) ?_
      refine r_iinc hc dM_scoreOf_61 rfl ?_
      refine r_goto hc dM_scoreOf_64 (tgt := 4) (by decide) ?_
      refine Go.drop 4 ?_
      simp only [f_sc, hg, ce_pts, Nat.add_zero, ← nI_add] at ih
      exact ih
    · rw [hM]
      refine r_istore hc dM_scoreOf_23 (Nat.le_of_ble_eq_true rfl) ?_
      refine r_iload hc dM_scoreOf_25 rfl ?_
      refine r_bipush hc dM_scoreOf_27 (nI 12) (by decide) ?_
      refine r_ic_ne_f hc dM_scoreOf_29 (tgt := 38) (by decide) rfl ?_
      refine r_iload_n hc dM_scoreOf_32 rfl ?_
      refine r_iconst hc dM_scoreOf_33 (nI 2) (by decide) ?_
      refine r_iadd hc dM_scoreOf_34 ?_
      refine r_goto hc dM_scoreOf_35 (tgt := 60) (by decide) ?_
      refine r_istore_n hc dM_scoreOf_60 (Nat.le_of_ble_eq_true rfl) ?_
      refine r_iinc hc dM_scoreOf_61 rfl ?_
      refine r_goto hc dM_scoreOf_64 (tgt := 4) (by decide) ?_
      refine Go.drop 4 ?_
      simp only [f_sc, hg, ce_pts, ← nI_add] at ih
      exact ih
    · obtain ⟨h1, h2, -, h4, h5⟩ := hM
      have hk2 : k ≤ 2 := hTr q b k hg
      rw [if_neg (by omega)] at h5
      rw [h2]
      refine r_istore hc dM_scoreOf_23 (Nat.le_of_ble_eq_true rfl) ?_
      refine r_iload hc dM_scoreOf_25 rfl ?_
      refine r_bipush hc dM_scoreOf_27 (nI 12) (by decide) ?_
      refine r_ic_ne_t hc dM_scoreOf_29 (tgt := 38) (by decide) (fun z => by rw [nI_eq (by omega) (by decide)] at z; omega) ?_
      refine r_iload hc dM_scoreOf_38 rfl ?_
      refine r_if_lt_f hc dM_scoreOf_40 (tgt := 59) (by decide) (nI_pos (by omega)) ?_
      refine r_iload_n hc dM_scoreOf_43 rfl ?_
      refine r_aload_n hc dM_scoreOf_44 rfl ?_
      refine gM_23 hc dM_scoreOf_45 ?_
      refine r_bipush hc dM_scoreOf_48 (nI 12) (by decide) ?_
      refine r_iload_n hc dM_scoreOf_50 rfl ?_
      refine r_imul hc dM_scoreOf_51 ?_
      refine r_iload_n hc dM_scoreOf_52 rfl ?_
      refine r_iadd hc dM_scoreOf_53 ?_
      rw [ix12]
      refine r_ialdN hc dM_scoreOf_54 rfl (by first | omega | (show _ < 12; omega) | (show _ < 204; omega) | (show _ < 144; omega) | (show _ < 2048; omega) | (show _ < 4096; omega) | (show _ < 16; omega)) ?_
      rw [h5]
      refine r_iadd hc dM_scoreOf_55 ?_
      refine r_goto hc dM_scoreOf_56 (tgt := 60) (by decide) ?_
      refine r_istore_n hc dM_scoreOf_60 (Nat.le_of_ble_eq_true rfl) ?_
      refine r_iinc hc dM_scoreOf_61 rfl ?_
      refine r_goto hc dM_scoreOf_64 (tgt := 4) (by decide) ?_
      refine Go.drop 4 ?_
      simp only [f_sc, hg, ce_pts, ← nI_add] at ih
      exact ih
theorem cM_balanceOf (l : Launch) (g : GG) (d : Nat) (w : Wd) (G : Nat → Nat → Ce) (n p : Nat) (hR : MRep w G n) (hn : n ≤ 16) (hcl : w 48 4 = nI n) (hp : p < 12) : Con l g yM_balanceOf bM_balanceOf 4 ((some .int)) [] (d + 1) 0 0 [.ref (g.1 48), .int (nI p)] w (Rp (An (some (.int (Int32.ofInt (f_ba G n p)))) w)) := by
  intro X hl ha hm hk hn' hc
  subst hl
  refine r_iconst hc dM_balanceOf_0 (nI 0) (by decide) ?_
  refine r_istore_n hc dM_balanceOf_1 (Nat.le_of_ble_eq_true rfl) ?_
  refine r_iconst hc dM_balanceOf_2 (nI 0) (by decide) ?_
  refine r_istore_n hc dM_balanceOf_3 (Nat.le_of_ble_eq_true rfl) ?_
  refine lp_up (P := fun r => Go X g 0 0 _ w 4 [some (.ref (g.1 48)), some (.int (nI p)), some (.int (Int32.ofInt (f_ba G r p))), some (.int (nI r))] []) (n := n) ?_ 0 (Nat.zero_le _)
  intro r hr ih
  refine r_iload_n hc dM_balanceOf_4 rfl ?_
  refine r_aload_n hc dM_balanceOf_5 rfl ?_
  refine gM_63 hc dM_balanceOf_6 ?_
  rw [hcl]
  refine r_ic_ge hc dM_balanceOf_9 (tgt := 55) (by decide) (fun h => ?_) (fun h => ?_)
  · have hr2 : r = n := by have := nle_to h (by omega) (by omega); omega
    subst hr2
    refine r_iload_n hc dM_balanceOf_55 rfl ?_
    exact r_iret hc dM_balanceOf_56 ⟨rfl, rfl⟩
  · have hr2 : r < n := nle_of h (by omega) (by omega)
    have ih := ih hr2
    refine r_aload_n hc dM_balanceOf_12 rfl ?_
    refine r_iload_n hc dM_balanceOf_13 rfl ?_
    refine r_iload_n hc dM_balanceOf_14 rfl ?_
    refine kM_66r hc dM_balanceOf_15 (cM_hadGame _ g d w G n r p hR (by omega) hr2 hp) (Nat.le_refl _) (Nat.le_of_ble_eq_true rfl) ?_
    rintro _ _ ⟨rfl, rfl⟩
    have hM := hR r hr2 p hp
    rcases hg : G r p with _ | _ | ⟨q, b, k⟩ <;> rw [hg] at hM <;> simp only [McOk] at hM <;> simp only [f_ba, hg] at ih
    · refine r_if_ne_f hc dM_balanceOf_18 (tgt := 25) (by decide) rfl ?_
      refine r_iload_n hc dM_balanceOf_21 rfl ?_
      refine r_goto hc dM_balanceOf_22 (tgt := 48) (by decide) ?_
      refine r_istore_n hc dM_balanceOf_48 (Nat.le_of_ble_eq_true rfl) ?_
      refine r_iinc hc dM_balanceOf_49 rfl ?_
      refine r_goto hc dM_balanceOf_52 (tgt := 4) (by decide) ?_
      simp only [← nI_add] at ih
      exact ih
    · refine r_if_ne_f hc dM_balanceOf_18 (tgt := 25) (by decide) rfl ?_
      refine r_iload_n hc dM_balanceOf_21 rfl ?_
      refine r_goto hc dM_balanceOf_22 (tgt := 48) (by decide) ?_
      refine r_istore_n hc dM_balanceOf_48 (Nat.le_of_ble_eq_true rfl) ?_
      refine r_iinc hc dM_balanceOf_49 rfl ?_
      refine r_goto hc dM_balanceOf_52 (tgt := 4) (by decide) ?_
      simp only [← nI_add] at ih
      exact ih
    · obtain ⟨h1, h2, h3, -⟩ := hM
      refine r_if_ne_t hc dM_balanceOf_18 (tgt := 25) (by decide) (show ¬ bI true = 0 by decide) ?_
      refine r_aload_n hc dM_balanceOf_25 rfl ?_
      refine gM_20 hc dM_balanceOf_26 ?_
      refine r_bipush hc dM_balanceOf_29 (nI 12) (by decide) ?_
      refine r_iload_n hc dM_balanceOf_31 rfl ?_
      refine r_imul hc dM_balanceOf_32 ?_
      refine r_iload_n hc dM_balanceOf_33 rfl ?_
      refine r_iadd hc dM_balanceOf_34 ?_
      rw [ix12]
      refine r_zaldN hc dM_balanceOf_35 rfl (by first | omega | (show _ < 12; omega) | (show _ < 204; omega) | (show _ < 144; omega) | (show _ < 2048; omega) | (show _ < 4096; omega) | (show _ < 16; omega)) ?_
      rw [h3]
      cases b with
      | true =>
        refine r_if_eq_f hc dM_balanceOf_36 (tgt := 45) (by decide) (by decide) ?_
        refine r_iload_n hc dM_balanceOf_39 rfl ?_
        refine r_iconst hc dM_balanceOf_40 (nI 1) (by decide) ?_
        refine r_iadd hc dM_balanceOf_41 ?_
        refine r_goto hc dM_balanceOf_42 (tgt := 48) (by decide) ?_
        refine r_istore_n hc dM_balanceOf_48 (Nat.le_of_ble_eq_true rfl) ?_
        refine r_iinc hc dM_balanceOf_49 rfl ?_
        refine r_goto hc dM_balanceOf_52 (tgt := 4) (by decide) ?_
        simp only [ce_col, if_true, Int32.ofInt_add, ← nI_add] at ih
        exact ih
      | false =>
        refine r_if_eq_t hc dM_balanceOf_36 (tgt := 45) (by decide) rfl ?_
        refine r_iload_n hc dM_balanceOf_45 rfl ?_
        refine r_iconst hc dM_balanceOf_46 (nI 1) (by decide) ?_
        refine r_isub hc dM_balanceOf_47 ?_
        refine r_istore_n hc dM_balanceOf_48 (Nat.le_of_ble_eq_true rfl) ?_
        refine r_iinc hc dM_balanceOf_49 rfl ?_
        refine r_goto hc dM_balanceOf_52 (tgt := 4) (by decide) ?_
        simp only [ce_col, Bool.false_eq_true, if_false, Int32.ofInt_add, ← nI_add] at ih
        rw [Int32.sub_eq_add_neg]
        exact ih
theorem cM_byesOf (l : Launch) (g : GG) (d : Nat) (w : Wd) (G : Nat → Nat → Ce) (n p : Nat) (hR : MRep w G n) (hn : n ≤ 16) (hcl : w 48 4 = nI n) (hp : p < 12) : Con l g yM_byesOf bM_byesOf 4 ((some .int)) [] d 0 0 [.ref (g.1 48), .int (nI p)] w (Rp (An (some (.int (nI (f_by G n p)))) w)) := by
  intro X hl ha hm hk hn' hc
  subst hl
  refine r_iconst hc dM_byesOf_0 (nI 0) (by decide) ?_
  refine r_istore_n hc dM_byesOf_1 (Nat.le_of_ble_eq_true rfl) ?_
  refine r_iconst hc dM_byesOf_2 (nI 0) (by decide) ?_
  refine r_istore_n hc dM_byesOf_3 (Nat.le_of_ble_eq_true rfl) ?_
  refine lp_up (P := fun r => Go X g 0 0 _ w 4 [some (.ref (g.1 48)), some (.int (nI p)), some (.int (nI (f_by G r p))), some (.int (nI r))] []) (n := n) ?_ 0 (Nat.zero_le _)
  intro r hr ih
  refine r_iload_n hc dM_byesOf_4 rfl ?_
  refine r_aload_n hc dM_byesOf_5 rfl ?_
  refine gM_63 hc dM_byesOf_6 ?_
  rw [hcl]
  refine r_ic_ge hc dM_byesOf_9 (tgt := 42) (by decide) (fun h => ?_) (fun h => ?_)
  · have hr2 : r = n := by have := nle_to h (by omega) (by omega); omega
    subst hr2
    refine r_iload_n hc dM_byesOf_42 rfl ?_
    exact r_iret hc dM_byesOf_43 ⟨rfl, rfl⟩
  · have hr2 : r < n := nle_of h (by omega) (by omega)
    have ih := ih hr2
    refine r_aload_n hc dM_byesOf_12 rfl ?_
    refine gM_16 hc dM_byesOf_13 ?_
    refine r_bipush hc dM_byesOf_16 (nI 12) (by decide) ?_
    refine r_iload_n hc dM_byesOf_18 rfl ?_
    refine r_imul hc dM_byesOf_19 ?_
    refine r_iload_n hc dM_byesOf_20 rfl ?_
    refine r_iadd hc dM_byesOf_21 ?_
    rw [ix12]
    refine r_ialdN hc dM_byesOf_22 rfl (by first | omega | (show _ < 12; omega) | (show _ < 204; omega) | (show _ < 144; omega) | (show _ < 2048; omega) | (show _ < 4096; omega) | (show _ < 16; omega)) ?_
    refine r_bipush hc dM_byesOf_23 (nI 12) (by decide) ?_
    have hM := hR r hr2 p hp
    rcases hg : G r p with _ | _ | ⟨q, b, k⟩ <;> rw [hg] at hM <;> simp only [McOk] at hM <;> simp only [f_by, hg, ← nI_add] at ih
    · rw [hM]
      refine r_ic_ne_t hc dM_byesOf_25 (tgt := 34) (by decide) (by decide) ?_
      refine r_iload_n hc dM_byesOf_34 rfl ?_
      refine r_istore_n hc dM_byesOf_35 (Nat.le_of_ble_eq_true rfl) ?_
      refine r_iinc hc dM_byesOf_36 rfl ?_
      refine r_goto hc dM_byesOf_39 (tgt := 4) (by decide) ?_
      exact ih
    · rw [hM]
      refine r_ic_ne_f hc dM_byesOf_25 (tgt := 34) (by decide) rfl ?_
      refine r_iload_n hc dM_byesOf_28 rfl ?_
      refine r_iconst hc dM_byesOf_29 (nI 1) (by decide) ?_
      refine r_iadd hc dM_byesOf_30 ?_
      refine r_goto hc dM_byesOf_31 (tgt := 35) (by decide) ?_
      refine r_istore_n hc dM_byesOf_35 (Nat.le_of_ble_eq_true rfl) ?_
      refine r_iinc hc dM_byesOf_36 rfl ?_
      refine r_goto hc dM_byesOf_39 (tgt := 4) (by decide) ?_
      exact ih
    · obtain ⟨h1, h2, -⟩ := hM
      rw [h2]
      refine r_ic_ne_t hc dM_byesOf_25 (tgt := 34) (by decide) (fun z => by rw [nI_eq (by omega) (by decide)] at z; omega) ?_
      refine r_iload_n hc dM_byesOf_34 rfl ?_
      refine r_istore_n hc dM_byesOf_35 (Nat.le_of_ble_eq_true rfl) ?_
      refine r_iinc hc dM_byesOf_36 rfl ?_
      refine r_goto hc dM_byesOf_39 (tgt := 4) (by decide) ?_
      exact ih
theorem cM_gamesOf (l : Launch) (g : GG) (d : Nat) (w : Wd) (G : Nat → Nat → Ce) (n p : Nat) (hR : MRep w G n) (hn : n ≤ 16) (hcl : w 48 4 = nI n) (hp : p < 12) : Con l g yM_gamesOf bM_gamesOf 4 ((some .int)) [] (d + 1) 0 0 [.ref (g.1 48), .int (nI p)] w (Rp (An (some (.int (nI (f_gm G n p)))) w)) := by
  intro X hl ha hm hk hn' hc
  subst hl
  refine r_iconst hc dM_gamesOf_0 (nI 0) (by decide) ?_
  refine r_istore_n hc dM_gamesOf_1 (Nat.le_of_ble_eq_true rfl) ?_
  refine r_iconst hc dM_gamesOf_2 (nI 0) (by decide) ?_
  refine r_istore_n hc dM_gamesOf_3 (Nat.le_of_ble_eq_true rfl) ?_
  refine lp_up (P := fun r => Go X g 0 0 _ w 4 [some (.ref (g.1 48)), some (.int (nI p)), some (.int (nI (f_gm G r p))), some (.int (nI r))] []) (n := n) ?_ 0 (Nat.zero_le _)
  intro r hr ih
  refine r_iload_n hc dM_gamesOf_4 rfl ?_
  refine r_aload_n hc dM_gamesOf_5 rfl ?_
  refine gM_63 hc dM_gamesOf_6 ?_
  rw [hcl]
  refine r_ic_ge hc dM_gamesOf_9 (tgt := 35) (by decide) (fun h => ?_) (fun h => ?_)
  · have hr2 : r = n := by have := nle_to h (by omega) (by omega); omega
    subst hr2
    refine r_iload_n hc dM_gamesOf_35 rfl ?_
    exact r_iret hc dM_gamesOf_36 ⟨rfl, rfl⟩
  · have hr2 : r < n := nle_of h (by omega) (by omega)
    have ih := ih hr2
    refine r_aload_n hc dM_gamesOf_12 rfl ?_
    refine r_iload_n hc dM_gamesOf_13 rfl ?_
    refine r_iload_n hc dM_gamesOf_14 rfl ?_
    refine kM_66r hc dM_gamesOf_15 (cM_hadGame _ g d w G n r p hR (by omega) hr2 hp) (Nat.le_refl _) (Nat.le_of_ble_eq_true rfl) ?_
    rintro _ _ ⟨rfl, rfl⟩
    rcases hg : G r p with _ | _ | ⟨q, b, k⟩ <;> simp only [f_gm, hg, ← nI_add] at ih
    · refine r_if_eq_t hc dM_gamesOf_18 (tgt := 27) (by decide) rfl ?_
      refine r_iload_n hc dM_gamesOf_27 rfl ?_
      refine r_istore_n hc dM_gamesOf_28 (Nat.le_of_ble_eq_true rfl) ?_
      refine r_iinc hc dM_gamesOf_29 rfl ?_
      refine r_goto hc dM_gamesOf_32 (tgt := 4) (by decide) ?_
      exact ih
    · refine r_if_eq_t hc dM_gamesOf_18 (tgt := 27) (by decide) rfl ?_
      refine r_iload_n hc dM_gamesOf_27 rfl ?_
      refine r_istore_n hc dM_gamesOf_28 (Nat.le_of_ble_eq_true rfl) ?_
      refine r_iinc hc dM_gamesOf_29 rfl ?_
      refine r_goto hc dM_gamesOf_32 (tgt := 4) (by decide) ?_
      exact ih
    · refine r_if_eq_f hc dM_gamesOf_18 (tgt := 27) (by decide) (show ¬ bI true = 0 by decide) ?_
      refine r_iload_n hc dM_gamesOf_21 rfl ?_
      refine r_iconst hc dM_gamesOf_22 (nI 1) (by decide) ?_
      refine r_iadd hc dM_gamesOf_23 ?_
      refine r_goto hc dM_gamesOf_24 (tgt := 28) (by decide) ?_
      refine r_istore_n hc dM_gamesOf_28 (Nat.le_of_ble_eq_true rfl) ?_
      refine r_iinc hc dM_gamesOf_29 rfl ?_
      refine r_goto hc dM_gamesOf_32 (tgt := 4) (by decide) ?_
      exact ih
theorem cM_wonOf (l : Launch) (g : GG) (d : Nat) (w : Wd) (G : Nat → Nat → Ce) (n p : Nat) (hR : MRep w G n) (hT : GTold G n) (hn : n ≤ 16) (hcl : w 48 4 = nI n) (hp : p < 12) : Con l g yM_wonOf bM_wonOf 4 ((some .int)) [] (d + 1) 0 0 [.ref (g.1 48), .int (nI p)] w (Rp (An (some (.int (nI (f_wi G n p)))) w)) := by
  intro X hl ha hm hk hn' hc
  subst hl
  refine r_iconst hc dM_wonOf_0 (nI 0) (by decide) ?_
  refine r_istore_n hc dM_wonOf_1 (Nat.le_of_ble_eq_true rfl) ?_
  refine r_iconst hc dM_wonOf_2 (nI 0) (by decide) ?_
  refine r_istore_n hc dM_wonOf_3 (Nat.le_of_ble_eq_true rfl) ?_
  refine lp_up (P := fun r => Go X g 0 0 _ w 4 [some (.ref (g.1 48)), some (.int (nI p)), some (.int (nI (f_wi G r p))), some (.int (nI r))] []) (n := n) ?_ 0 (Nat.zero_le _)
  intro r hr ih
  refine r_iload_n hc dM_wonOf_4 rfl ?_
  refine r_aload_n hc dM_wonOf_5 rfl ?_
  refine gM_63 hc dM_wonOf_6 ?_
  rw [hcl]
  refine r_ic_ge hc dM_wonOf_9 (tgt := 50) (by decide) (fun h => ?_) (fun h => ?_)
  · have hr2 : r = n := by have := nle_to h (by omega) (by omega); omega
    subst hr2
    refine r_iload_n hc dM_wonOf_50 rfl ?_
    exact r_iret hc dM_wonOf_51 ⟨rfl, rfl⟩
  · have hr2 : r < n := nle_of h (by omega) (by omega)
    have ih := ih hr2
    refine r_aload_n hc dM_wonOf_12 rfl ?_
    refine r_iload_n hc dM_wonOf_13 rfl ?_
    refine r_iload_n hc dM_wonOf_14 rfl ?_
    refine kM_66r hc dM_wonOf_15 (cM_hadGame _ g d w G n r p hR (by omega) hr2 hp) (Nat.le_refl _) (Nat.le_of_ble_eq_true rfl) ?_
    rintro _ _ ⟨rfl, rfl⟩
    have hM := hR r hr2 p hp
    have hTr := hT r hr2 p hp
    rcases hg : G r p with _ | _ | ⟨q, b, k⟩ <;> rw [hg] at hM <;> simp only [McOk] at hM <;> simp only [f_wi, hg] at ih
    · refine r_if_eq_t hc dM_wonOf_18 (tgt := 42) (by decide) rfl ?_
      refine r_iload_n hc dM_wonOf_42 rfl ?_
      refine r_istore_n hc dM_wonOf_43 (Nat.le_of_ble_eq_true rfl) ?_
      refine r_iinc hc dM_wonOf_44 rfl ?_
      refine r_goto hc dM_wonOf_47 (tgt := 4) (by decide) ?_
      simp only [← nI_add] at ih
      exact ih
    · refine r_if_eq_t hc dM_wonOf_18 (tgt := 42) (by decide) rfl ?_
      refine r_iload_n hc dM_wonOf_42 rfl ?_
      refine r_istore_n hc dM_wonOf_43 (Nat.le_of_ble_eq_true rfl) ?_
      refine r_iinc hc dM_wonOf_44 rfl ?_
      refine r_goto hc dM_wonOf_47 (tgt := 4) (by decide) ?_
      simp only [← nI_add] at ih
      exact ih
    · obtain ⟨h1, h2, -, h4, h5⟩ := hM
      have hk2 : k ≤ 2 := hTr q b k hg
      rw [if_neg (by omega)] at h5
      refine r_if_eq_f hc dM_wonOf_18 (tgt := 42) (by decide) (show ¬ bI true = 0 by decide) ?_
      refine r_aload_n hc dM_wonOf_21 rfl ?_
      refine gM_23 hc dM_wonOf_22 ?_
      refine r_bipush hc dM_wonOf_25 (nI 12) (by decide) ?_
      refine r_iload_n hc dM_wonOf_27 rfl ?_
      refine r_imul hc dM_wonOf_28 ?_
      refine r_iload_n hc dM_wonOf_29 rfl ?_
      refine r_iadd hc dM_wonOf_30 ?_
      rw [ix12]
      refine r_ialdN hc dM_wonOf_31 rfl (by first | omega | (show _ < 12; omega) | (show _ < 204; omega) | (show _ < 144; omega) | (show _ < 2048; omega) | (show _ < 4096; omega) | (show _ < 16; omega)) ?_
      refine r_iconst hc dM_wonOf_32 (nI 2) (by decide) ?_
      rw [h5]
      by_cases hk3 : k = 2
      · subst hk3
        refine r_ic_ne_f hc dM_wonOf_33 (tgt := 42) (by decide) rfl ?_
        refine r_iload_n hc dM_wonOf_36 rfl ?_
        refine r_iconst hc dM_wonOf_37 (nI 1) (by decide) ?_
        refine r_iadd hc dM_wonOf_38 ?_
        refine r_goto hc dM_wonOf_39 (tgt := 43) (by decide) ?_
        refine r_istore_n hc dM_wonOf_43 (Nat.le_of_ble_eq_true rfl) ?_
        refine r_iinc hc dM_wonOf_44 rfl ?_
        refine r_goto hc dM_wonOf_47 (tgt := 4) (by decide) ?_
        simp only [if_true, ← nI_add] at ih
        exact ih
      · refine r_ic_ne_t hc dM_wonOf_33 (tgt := 42) (by decide) (fun z => by rw [nI_eq (by omega) (by decide)] at z; omega) ?_
        refine r_iload_n hc dM_wonOf_42 rfl ?_
        refine r_istore_n hc dM_wonOf_43 (Nat.le_of_ble_eq_true rfl) ?_
        refine r_iinc hc dM_wonOf_44 rfl ?_
        refine r_goto hc dM_wonOf_47 (tgt := 4) (by decide) ?_
        simp only [hk3, if_false, ← nI_add] at ih
        exact ih
theorem ii_m1 (x : Int32) : x + Int32.ofInt (-1) = x - nI 1 := by rw [Int32.sub_eq_add_neg]; rfl
theorem cM_colourOf0 (l : Launch) (g : GG) (d : Nat) (w : Wd) (G : Nat → Nat → Ce) (n p : Nat) (hR : MRep w G n) (hn : n ≤ 16) (hcl : w 48 4 = nI n) (hp : p < 12) : Con l g yM_colourOf bM_colourOf 5 ((some .int)) [] (d + 1) 0 0 [.ref (g.1 48), .int (nI p), .int (nI 0)] w (Rp (An (some (.int (Int32.ofInt (f_la G n p)))) w)) := by
  intro X hl ha hm hk hn' hc
  subst hl
  refine r_iload_n hc dM_colourOf_0 rfl ?_
  refine r_istore_n hc dM_colourOf_1 (Nat.le_of_ble_eq_true rfl) ?_
  refine r_aload_n hc dM_colourOf_2 rfl ?_
  refine gM_63 hc dM_colourOf_3 ?_
  rw [hcl]
  refine r_iconst hc dM_colourOf_6 (nI 1) (by decide) ?_
  refine r_isub hc dM_colourOf_7 ?_
  refine r_istore hc dM_colourOf_8 (Nat.le_of_ble_eq_true rfl) ?_
  have hgen : ∀ r, r ≤ n → Go X g 0 0 (Fen X g 0 0 (Rp (An (some (.int (Int32.ofInt (f_la G r p)))) w))) w 10 [some (.ref (g.1 48)), some (.int (nI p)), some (.int (nI 0)), some (.int (nI 0)), some (.int (nI r - nI 1))] [] := by
    refine lp_dn (P := fun r => r ≤ n → Go X g 0 0 (Fen X g 0 0 (Rp (An (some (.int (Int32.ofInt (f_la G r p)))) w))) w 10 [some (.ref (g.1 48)), some (.int (nI p)), some (.int (nI 0)), some (.int (nI 0)), some (.int (nI r - nI 1))] []) ?_
    intro r ih hr
    cases r with
    | zero =>
      refine r_iload hc dM_colourOf_10 rfl ?_
      refine r_if_lt_t hc dM_colourOf_12 (tgt := 59) (by decide) (by decide) ?_
      refine r_iconst hc dM_colourOf_59 (nI 0) (by decide) ?_
      exact r_iret hc dM_colourOf_60 ⟨rfl, rfl⟩
    | succ r =>
      have ih := ih r rfl (by omega)
      rw [show nI (r + 1) - nI 1 = nI r from nI_pred r]
      refine r_iload hc dM_colourOf_10 rfl ?_
      refine r_if_lt_f hc dM_colourOf_12 (tgt := 59) (by decide) (nI_pos (by omega)) ?_
      refine r_aload_n hc dM_colourOf_15 rfl ?_
      refine r_iload hc dM_colourOf_16 rfl ?_
      refine r_iload_n hc dM_colourOf_18 rfl ?_
      refine kM_66r hc dM_colourOf_19 (cM_hadGame _ g d w G n r p hR (by omega) (by omega) hp) (Nat.le_refl _) (Nat.le_of_ble_eq_true rfl) ?_
      rintro _ _ ⟨rfl, rfl⟩
      have hM := hR r (by omega) p hp
      rcases hg : G r p with _ | _ | ⟨q, b, k⟩ <;> rw [hg] at hM <;> simp only [McOk] at hM <;> simp only [f_la, hg]
      · refine r_if_eq_t hc dM_colourOf_22 (tgt := 53) (by decide) rfl ?_
        refine r_iinc hc dM_colourOf_53 rfl ?_
        refine r_goto hc dM_colourOf_56 (tgt := 10) (by decide) ?_
        rw [ii_m1]
        exact ih
      · refine r_if_eq_t hc dM_colourOf_22 (tgt := 53) (by decide) rfl ?_
        refine r_iinc hc dM_colourOf_53 rfl ?_
        refine r_goto hc dM_colourOf_56 (tgt := 10) (by decide) ?_
        rw [ii_m1]
        exact ih
      · obtain ⟨h1, h2, h3, -⟩ := hM
        refine r_if_eq_f hc dM_colourOf_22 (tgt := 53) (by decide) (show ¬ bI true = 0 by decide) ?_
        refine r_iload_n hc dM_colourOf_25 rfl ?_
        refine r_if_ne_f hc dM_colourOf_26 (tgt := 50) (by decide) rfl ?_
        refine r_aload_n hc dM_colourOf_29 rfl ?_
        refine gM_20 hc dM_colourOf_30 ?_
        refine r_bipush hc dM_colourOf_33 (nI 12) (by decide) ?_
        refine r_iload hc dM_colourOf_35 rfl ?_
        refine r_imul hc dM_colourOf_37 ?_
        refine r_iload_n hc dM_colourOf_38 rfl ?_
        refine r_iadd hc dM_colourOf_39 ?_
        rw [ix12]
        refine r_zaldN hc dM_colourOf_40 rfl (by first | omega | (show _ < 12; omega) | (show _ < 204; omega) | (show _ < 144; omega) | (show _ < 2048; omega) | (show _ < 4096; omega) | (show _ < 16; omega)) ?_
        rw [h3]
        cases b with
        | true =>
          refine r_if_eq_f hc dM_colourOf_41 (tgt := 48) (by decide) (by decide) ?_
          refine r_iconst hc dM_colourOf_44 (nI 1) (by decide) ?_
          refine r_goto hc dM_colourOf_45 (tgt := 49) (by decide) ?_
          exact r_iret hc dM_colourOf_49 ⟨rfl, rfl⟩
        | false =>
          refine r_if_eq_t hc dM_colourOf_41 (tgt := 48) (by decide) rfl ?_
          refine r_iconst hc dM_colourOf_48 (-1) (by decide) ?_
          exact r_iret hc dM_colourOf_49 ⟨rfl, rfl⟩
  exact hgen n (Nat.le_refl _)
theorem cM_colourOf1 (l : Launch) (g : GG) (d : Nat) (w : Wd) (G : Nat → Nat → Ce) (n p : Nat) (hR : MRep w G n) (hn : n ≤ 16) (hcl : w 48 4 = nI n) (hp : p < 12) : Con l g yM_colourOf bM_colourOf 5 ((some .int)) [] (d + 1) 0 0 [.ref (g.1 48), .int (nI p), .int (nI 1)] w (Rp (An (some (.int (Int32.ofInt (f_lb G n p)))) w)) := by
  intro X hl ha hm hk hn' hc
  subst hl
  refine r_iload_n hc dM_colourOf_0 rfl ?_
  refine r_istore_n hc dM_colourOf_1 (Nat.le_of_ble_eq_true rfl) ?_
  refine r_aload_n hc dM_colourOf_2 rfl ?_
  refine gM_63 hc dM_colourOf_3 ?_
  rw [hcl]
  refine r_iconst hc dM_colourOf_6 (nI 1) (by decide) ?_
  refine r_isub hc dM_colourOf_7 ?_
  refine r_istore hc dM_colourOf_8 (Nat.le_of_ble_eq_true rfl) ?_
  have hgen0 : ∀ r, r ≤ n → Go X g 0 0 (Fen X g 0 0 (Rp (An (some (.int (Int32.ofInt (f_la G r p)))) w))) w 10 [some (.ref (g.1 48)), some (.int (nI p)), some (.int (nI 1)), some (.int (nI 0)), some (.int (nI r - nI 1))] [] := by
    refine lp_dn (P := fun r => r ≤ n → Go X g 0 0 (Fen X g 0 0 (Rp (An (some (.int (Int32.ofInt (f_la G r p)))) w))) w 10 [some (.ref (g.1 48)), some (.int (nI p)), some (.int (nI 1)), some (.int (nI 0)), some (.int (nI r - nI 1))] []) ?_
    intro r ih hr
    cases r with
    | zero =>
      refine r_iload hc dM_colourOf_10 rfl ?_
      refine r_if_lt_t hc dM_colourOf_12 (tgt := 59) (by decide) (by decide) ?_
      refine r_iconst hc dM_colourOf_59 (nI 0) (by decide) ?_
      exact r_iret hc dM_colourOf_60 ⟨rfl, rfl⟩
    | succ r =>
      have ih := ih r rfl (by omega)
      rw [show nI (r + 1) - nI 1 = nI r from nI_pred r]
      refine r_iload hc dM_colourOf_10 rfl ?_
      refine r_if_lt_f hc dM_colourOf_12 (tgt := 59) (by decide) (nI_pos (by omega)) ?_
      refine r_aload_n hc dM_colourOf_15 rfl ?_
      refine r_iload hc dM_colourOf_16 rfl ?_
      refine r_iload_n hc dM_colourOf_18 rfl ?_
      refine kM_66r hc dM_colourOf_19 (cM_hadGame _ g d w G n r p hR (by omega) (by omega) hp) (Nat.le_refl _) (Nat.le_of_ble_eq_true rfl) ?_
      rintro _ _ ⟨rfl, rfl⟩
      have hM := hR r (by omega) p hp
      rcases hg : G r p with _ | _ | ⟨q, b, k⟩ <;> rw [hg] at hM <;> simp only [McOk] at hM <;> simp only [f_la, hg]
      · refine r_if_eq_t hc dM_colourOf_22 (tgt := 53) (by decide) rfl ?_
        refine r_iinc hc dM_colourOf_53 rfl ?_
        refine r_goto hc dM_colourOf_56 (tgt := 10) (by decide) ?_
        rw [ii_m1]
        exact ih
      · refine r_if_eq_t hc dM_colourOf_22 (tgt := 53) (by decide) rfl ?_
        refine r_iinc hc dM_colourOf_53 rfl ?_
        refine r_goto hc dM_colourOf_56 (tgt := 10) (by decide) ?_
        rw [ii_m1]
        exact ih
      · obtain ⟨h1, h2, h3, -⟩ := hM
        refine r_if_eq_f hc dM_colourOf_22 (tgt := 53) (by decide) (show ¬ bI true = 0 by decide) ?_
        refine r_iload_n hc dM_colourOf_25 rfl ?_
        refine r_if_ne_f hc dM_colourOf_26 (tgt := 50) (by decide) rfl ?_
        refine r_aload_n hc dM_colourOf_29 rfl ?_
        refine gM_20 hc dM_colourOf_30 ?_
        refine r_bipush hc dM_colourOf_33 (nI 12) (by decide) ?_
        refine r_iload hc dM_colourOf_35 rfl ?_
        refine r_imul hc dM_colourOf_37 ?_
        refine r_iload_n hc dM_colourOf_38 rfl ?_
        refine r_iadd hc dM_colourOf_39 ?_
        rw [ix12]
        refine r_zaldN hc dM_colourOf_40 rfl (by first | omega | (show _ < 12; omega) | (show _ < 204; omega) | (show _ < 144; omega) | (show _ < 2048; omega) | (show _ < 4096; omega) | (show _ < 16; omega)) ?_
        rw [h3]
        cases b with
        | true =>
          refine r_if_eq_f hc dM_colourOf_41 (tgt := 48) (by decide) (by decide) ?_
          refine r_iconst hc dM_colourOf_44 (nI 1) (by decide) ?_
          refine r_goto hc dM_colourOf_45 (tgt := 49) (by decide) ?_
          exact r_iret hc dM_colourOf_49 ⟨rfl, rfl⟩
        | false =>
          refine r_if_eq_t hc dM_colourOf_41 (tgt := 48) (by decide) rfl ?_
          refine r_iconst hc dM_colourOf_48 (-1) (by decide) ?_
          exact r_iret hc dM_colourOf_49 ⟨rfl, rfl⟩
  have hgen : ∀ r, r ≤ n → Go X g 0 0 (Fen X g 0 0 (Rp (An (some (.int (Int32.ofInt (f_lb G r p)))) w))) w 10 [some (.ref (g.1 48)), some (.int (nI p)), some (.int (nI 1)), some (.int (nI 1)), some (.int (nI r - nI 1))] [] := by
    refine lp_dn (P := fun r => r ≤ n → Go X g 0 0 (Fen X g 0 0 (Rp (An (some (.int (Int32.ofInt (f_lb G r p)))) w))) w 10 [some (.ref (g.1 48)), some (.int (nI p)), some (.int (nI 1)), some (.int (nI 1)), some (.int (nI r - nI 1))] []) ?_
    intro r ih hr
    cases r with
    | zero =>
      refine r_iload hc dM_colourOf_10 rfl ?_
      refine r_if_lt_t hc dM_colourOf_12 (tgt := 59) (by decide) (by decide) ?_
      refine r_iconst hc dM_colourOf_59 (nI 0) (by decide) ?_
      exact r_iret hc dM_colourOf_60 ⟨rfl, rfl⟩
    | succ r =>
      have ih := ih r rfl (by omega)
      rw [show nI (r + 1) - nI 1 = nI r from nI_pred r]
      refine r_iload hc dM_colourOf_10 rfl ?_
      refine r_if_lt_f hc dM_colourOf_12 (tgt := 59) (by decide) (nI_pos (by omega)) ?_
      refine r_aload_n hc dM_colourOf_15 rfl ?_
      refine r_iload hc dM_colourOf_16 rfl ?_
      refine r_iload_n hc dM_colourOf_18 rfl ?_
      refine kM_66r hc dM_colourOf_19 (cM_hadGame _ g d w G n r p hR (by omega) (by omega) hp) (Nat.le_refl _) (Nat.le_of_ble_eq_true rfl) ?_
      rintro _ _ ⟨rfl, rfl⟩
      have hM := hR r (by omega) p hp
      rcases hg : G r p with _ | _ | ⟨q, b, k⟩ <;> simp only [f_lb, hg]
      · refine r_if_eq_t hc dM_colourOf_22 (tgt := 53) (by decide) rfl ?_
        refine r_iinc hc dM_colourOf_53 rfl ?_
        refine r_goto hc dM_colourOf_56 (tgt := 10) (by decide) ?_
        rw [ii_m1]
        exact ih
      · refine r_if_eq_t hc dM_colourOf_22 (tgt := 53) (by decide) rfl ?_
        refine r_iinc hc dM_colourOf_53 rfl ?_
        refine r_goto hc dM_colourOf_56 (tgt := 10) (by decide) ?_
        rw [ii_m1]
        exact ih
      · refine r_if_eq_f hc dM_colourOf_22 (tgt := 53) (by decide) (show ¬ bI true = 0 by decide) ?_
        refine r_iload_n hc dM_colourOf_25 rfl ?_
        refine r_if_ne_t hc dM_colourOf_26 (tgt := 50) (by decide) (by decide) ?_
        refine r_iinc hc dM_colourOf_50 rfl ?_
        refine r_iinc hc dM_colourOf_53 rfl ?_
        refine r_goto hc dM_colourOf_56 (tgt := 10) (by decide) ?_
        simp only [ii_m1]
        rw [show nI 1 - nI 1 = nI 0 by decide]
        exact hgen0 r (by omega)
  exact hgen n (Nat.le_refl _)
theorem cM_buchholzOf (l : Launch) (g : GG) (d : Nat) (w : Wd) (G : Nat → Nat → Ce) (n p : Nat) (hR : MRep w G n) (hT : GTold G n) (hn : n ≤ 16) (hcl : w 48 4 = nI n) (hp : p < 12) : Con l g yM_buchholzOf bM_buchholzOf 4 ((some .int)) [] (d + 1) 0 0 [.ref (g.1 48), .int (nI p)] w (Rp (An (some (.int (nI (f_bu G (f_sc G n) n p)))) w)) := by
  intro X hl ha hm hk hn' hc
  subst hl
  refine r_iconst hc dM_buchholzOf_0 (nI 0) (by decide) ?_
  refine r_istore_n hc dM_buchholzOf_1 (Nat.le_of_ble_eq_true rfl) ?_
  refine r_iconst hc dM_buchholzOf_2 (nI 0) (by decide) ?_
  refine r_istore_n hc dM_buchholzOf_3 (Nat.le_of_ble_eq_true rfl) ?_
  refine lp_up (P := fun r => Go X g 0 0 _ w 4 [some (.ref (g.1 48)), some (.int (nI p)), some (.int (nI (f_bu G (f_sc G n) r p))), some (.int (nI r))] []) (n := n) ?_ 0 (Nat.zero_le _)
  intro r hr ih
  refine r_iload_n hc dM_buchholzOf_4 rfl ?_
  refine r_aload_n hc dM_buchholzOf_5 rfl ?_
  refine gM_63 hc dM_buchholzOf_6 ?_
  rw [hcl]
  refine r_ic_ge hc dM_buchholzOf_9 (tgt := 49) (by decide) (fun h => ?_) (fun h => ?_)
  · have hr2 : r = n := by have := nle_to h (by omega) (by omega); omega
    subst hr2
    refine r_iload_n hc dM_buchholzOf_49 rfl ?_
    exact r_iret hc dM_buchholzOf_50 ⟨rfl, rfl⟩
  · have hr2 : r < n := nle_of h (by omega) (by omega)
    have ih := ih hr2
    refine r_aload_n hc dM_buchholzOf_12 rfl ?_
    refine r_iload_n hc dM_buchholzOf_13 rfl ?_
    refine r_iload_n hc dM_buchholzOf_14 rfl ?_
    refine kM_66r hc dM_buchholzOf_15 (cM_hadGame _ g d w G n r p hR (by omega) hr2 hp) (Nat.le_refl _) (Nat.le_of_ble_eq_true rfl) ?_
    rintro _ _ ⟨rfl, rfl⟩
    have hM := hR r hr2 p hp
    rcases hg : G r p with _ | _ | ⟨q, b, k⟩ <;> rw [hg] at hM <;> simp only [McOk] at hM <;> simp only [f_bu, hg, ← nI_add] at ih
    · refine r_if_eq_t hc dM_buchholzOf_18 (tgt := 41) (by decide) rfl ?_
      refine r_iload_n hc dM_buchholzOf_41 rfl ?_
      refine r_istore_n hc dM_buchholzOf_42 (Nat.le_of_ble_eq_true rfl) ?_
      refine r_iinc hc dM_buchholzOf_43 rfl ?_
      refine r_goto hc dM_buchholzOf_46 (tgt := 4) (by decide) ?_
      exact ih
    · refine r_if_eq_t hc dM_buchholzOf_18 (tgt := 41) (by decide) rfl ?_
      refine r_iload_n hc dM_buchholzOf_41 rfl ?_
      refine r_istore_n hc dM_buchholzOf_42 (Nat.le_of_ble_eq_true rfl) ?_
      refine r_iinc hc dM_buchholzOf_43 rfl ?_
      refine r_goto hc dM_buchholzOf_46 (tgt := 4) (by decide) ?_
      exact ih
    · obtain ⟨h1, h2, -⟩ := hM
      refine r_if_eq_f hc dM_buchholzOf_18 (tgt := 41) (by decide) (show ¬ bI true = 0 by decide) ?_
      refine r_iload_n hc dM_buchholzOf_21 rfl ?_
      refine r_aload_n hc dM_buchholzOf_22 rfl ?_
      refine r_aload_n hc dM_buchholzOf_23 rfl ?_
      refine gM_16 hc dM_buchholzOf_24 ?_
      refine r_bipush hc dM_buchholzOf_27 (nI 12) (by decide) ?_
      refine r_iload_n hc dM_buchholzOf_29 rfl ?_
      refine r_imul hc dM_buchholzOf_30 ?_
      refine r_iload_n hc dM_buchholzOf_31 rfl ?_
      refine r_iadd hc dM_buchholzOf_32 ?_
      rw [ix12]
      refine r_ialdN hc dM_buchholzOf_33 rfl (by first | omega | (show _ < 12; omega) | (show _ < 204; omega) | (show _ < 144; omega) | (show _ < 2048; omega) | (show _ < 4096; omega) | (show _ < 16; omega)) ?_
      rw [h2]
      refine kM_70r hc dM_buchholzOf_34 (cM_scoreOf _ g d w G n q hR hT hn hcl h1) (Nat.le_refl _) (Nat.le_of_ble_eq_true rfl) ?_
      rintro _ _ ⟨rfl, rfl⟩
      refine r_iadd hc dM_buchholzOf_37 ?_
      refine r_goto hc dM_buchholzOf_38 (tgt := 42) (by decide) ?_
      refine r_istore_n hc dM_buchholzOf_42 (Nat.le_of_ble_eq_true rfl) ?_
      refine r_iinc hc dM_buchholzOf_43 rfl ?_
      refine r_goto hc dM_buchholzOf_46 (tgt := 4) (by decide) ?_
      exact ih
theorem cM_bergerOf (l : Launch) (g : GG) (d : Nat) (w : Wd) (G : Nat → Nat → Ce) (n p : Nat) (hR : MRep w G n) (hT : GTold G n) (hn : n ≤ 16) (hcl : w 48 4 = nI n) (hp : p < 12) : Con l g yM_bergerOf bM_bergerOf 4 ((some .int)) [] (d + 1) 0 0 [.ref (g.1 48), .int (nI p)] w (Rp (An (some (.int (nI (f_be G (f_sc G n) n p)))) w)) := by
  intro X hl ha hm hk hn' hc
  subst hl
  refine r_iconst hc dM_bergerOf_0 (nI 0) (by decide) ?_
  refine r_istore_n hc dM_bergerOf_1 (Nat.le_of_ble_eq_true rfl) ?_
  refine r_iconst hc dM_bergerOf_2 (nI 0) (by decide) ?_
  refine r_istore_n hc dM_bergerOf_3 (Nat.le_of_ble_eq_true rfl) ?_
  refine lp_up (P := fun r => Go X g 0 0 _ w 4 [some (.ref (g.1 48)), some (.int (nI p)), some (.int (nI (f_be G (f_sc G n) r p))), some (.int (nI r))] []) (n := n) ?_ 0 (Nat.zero_le _)
  intro r hr ih
  refine r_iload_n hc dM_bergerOf_4 rfl ?_
  refine r_aload_n hc dM_bergerOf_5 rfl ?_
  refine gM_63 hc dM_bergerOf_6 ?_
  rw [hcl]
  refine r_ic_ge hc dM_bergerOf_9 (tgt := 61) (by decide) (fun h => ?_) (fun h => ?_)
  · have hr2 : r = n := by have := nle_to h (by omega) (by omega); omega
    subst hr2
    refine r_iload_n hc dM_bergerOf_61 rfl ?_
    exact r_iret hc dM_bergerOf_62 ⟨rfl, rfl⟩
  · have hr2 : r < n := nle_of h (by omega) (by omega)
    have ih := ih hr2
    refine r_aload_n hc dM_bergerOf_12 rfl ?_
    refine r_iload_n hc dM_bergerOf_13 rfl ?_
    refine r_iload_n hc dM_bergerOf_14 rfl ?_
    refine kM_66r hc dM_bergerOf_15 (cM_hadGame _ g d w G n r p hR (by omega) hr2 hp) (Nat.le_refl _) (Nat.le_of_ble_eq_true rfl) ?_
    rintro _ _ ⟨rfl, rfl⟩
    have hM := hR r hr2 p hp
    have hTr := hT r hr2 p hp
    rcases hg : G r p with _ | _ | ⟨q, b, k⟩ <;> rw [hg] at hM <;> simp only [McOk] at hM <;> simp only [f_be, hg, ← nI_add] at ih
    · refine r_if_eq_t hc dM_bergerOf_18 (tgt := 53) (by decide) rfl ?_
      refine r_iload_n hc dM_bergerOf_53 rfl ?_
      refine r_istore_n hc dM_bergerOf_54 (Nat.le_of_ble_eq_true rfl) ?_
      refine r_iinc hc dM_bergerOf_55 rfl ?_
      refine r_goto hc dM_bergerOf_58 (tgt := 4) (by decide) ?_
      exact ih
    · refine r_if_eq_t hc dM_bergerOf_18 (tgt := 53) (by decide) rfl ?_
      refine r_iload_n hc dM_bergerOf_53 rfl ?_
      refine r_istore_n hc dM_bergerOf_54 (Nat.le_of_ble_eq_true rfl) ?_
      refine r_iinc hc dM_bergerOf_55 rfl ?_
      refine r_goto hc dM_bergerOf_58 (tgt := 4) (by decide) ?_
      exact ih
    · obtain ⟨h1, h2, -, h4, h5⟩ := hM
      have hk2 : k ≤ 2 := hTr q b k hg
      rw [if_neg (by omega)] at h5
      refine r_if_eq_f hc dM_bergerOf_18 (tgt := 53) (by decide) (show ¬ bI true = 0 by decide) ?_
      refine r_iload_n hc dM_bergerOf_21 rfl ?_
      refine r_aload_n hc dM_bergerOf_22 rfl ?_
      refine gM_23 hc dM_bergerOf_23 ?_
      refine r_bipush hc dM_bergerOf_26 (nI 12) (by decide) ?_
      refine r_iload_n hc dM_bergerOf_28 rfl ?_
      refine r_imul hc dM_bergerOf_29 ?_
      refine r_iload_n hc dM_bergerOf_30 rfl ?_
      refine r_iadd hc dM_bergerOf_31 ?_
      rw [ix12]
      refine r_ialdN hc dM_bergerOf_32 rfl (by first | omega | (show _ < 12; omega) | (show _ < 204; omega) | (show _ < 144; omega) | (show _ < 2048; omega) | (show _ < 4096; omega) | (show _ < 16; omega)) ?_
      rw [h5]
      refine r_aload_n hc dM_bergerOf_33 rfl ?_
      refine r_aload_n hc dM_bergerOf_34 rfl ?_
      refine gM_16 hc dM_bergerOf_35 ?_
      refine r_bipush hc dM_bergerOf_38 (nI 12) (by decide) ?_
      refine r_iload_n hc dM_bergerOf_40 rfl ?_
      refine r_imul hc dM_bergerOf_41 ?_
      refine r_iload_n hc dM_bergerOf_42 rfl ?_
      refine r_iadd hc dM_bergerOf_43 ?_
      rw [ix12]
      refine r_ialdN hc dM_bergerOf_44 rfl (by first | omega | (show _ < 12; omega) | (show _ < 204; omega) | (show _ < 144; omega) | (show _ < 2048; omega) | (show _ < 4096; omega) | (show _ < 16; omega)) ?_
      rw [h2]
      refine kM_70r hc dM_bergerOf_45 (cM_scoreOf _ g d w G n q hR hT hn hcl h1) (Nat.le_refl _) (Nat.le_of_ble_eq_true rfl) ?_
      rintro _ _ ⟨rfl, rfl⟩
      refine r_imul hc dM_bergerOf_48 ?_
      refine r_iadd hc dM_bergerOf_49 ?_
      refine r_goto hc dM_bergerOf_50 (tgt := 54) (by decide) ?_
      refine r_istore_n hc dM_bergerOf_54 (Nat.le_of_ble_eq_true rfl) ?_
      refine r_iinc hc dM_bergerOf_55 rfl ?_
      refine r_goto hc dM_bergerOf_58 (tgt := 4) (by decide) ?_
      rw [pk_mul]
      exact ih
theorem cM_hadEachOther (l : Launch) (g : GG) (d : Nat) (w : Wd) (G : Nat → Nat → Ce) (n p q : Nat) (hR : MRep w G n) (hn : n ≤ 16) (hcl : w 48 4 = nI n) (hp : p < 12) (hq : q < 12) : Con l g yM_hadEachOther bM_hadEachOther 5 ((some .boolean)) [] d 0 0 [.ref (g.1 48), .int (nI p), .int (nI q)] w (Rp (An (some (.int (bI (f_mt G n p q)))) w)) := by
  intro X hl ha hm hk hn' hc
  subst hl
  refine r_iconst hc dM_hadEachOther_0 (nI 0) (by decide) ?_
  refine r_istore_n hc dM_hadEachOther_1 (Nat.le_of_ble_eq_true rfl) ?_
  refine r_iconst hc dM_hadEachOther_2 (nI 0) (by decide) ?_
  refine r_istore hc dM_hadEachOther_3 (Nat.le_of_ble_eq_true rfl) ?_
  refine lp_up (P := fun r => Go X g 0 0 _ w 5 [some (.ref (g.1 48)), some (.int (nI p)), some (.int (nI q)), some (.int (bI (f_mt G r p q))), some (.int (nI r))] []) (n := n) ?_ 0 (Nat.zero_le _)
  intro r hr ih
  refine r_iload hc dM_hadEachOther_5 rfl ?_
  refine r_aload_n hc dM_hadEachOther_7 rfl ?_
  refine gM_63 hc dM_hadEachOther_8 ?_
  rw [hcl]
  refine r_ic_ge hc dM_hadEachOther_11 (tgt := 46) (by decide) (fun h => ?_) (fun h => ?_)
  · have hr2 : r = n := by have := nle_to h (by omega) (by omega); omega
    subst hr2
    refine r_iload_n hc dM_hadEachOther_46 rfl ?_
    exact r_zret hc dM_hadEachOther_47 (bI_nar _) ⟨rfl, rfl⟩
  · have hr2 : r < n := nle_of h (by omega) (by omega)
    have ih := ih hr2
    refine r_iload_n hc dM_hadEachOther_14 rfl ?_
    cases hb : f_mt G r p q with
    | true =>
      refine r_if_ne_t hc dM_hadEachOther_15 (tgt := 34) (by decide) (by decide) ?_
      refine r_iconst hc dM_hadEachOther_34 (nI 1) (by decide) ?_
      refine r_goto hc dM_hadEachOther_35 (tgt := 39) (by decide) ?_
      refine r_istore_n hc dM_hadEachOther_39 (Nat.le_of_ble_eq_true rfl) ?_
      refine r_iinc hc dM_hadEachOther_40 rfl ?_
      refine r_goto hc dM_hadEachOther_43 (tgt := 5) (by decide) ?_
      rw [show f_mt G (r + 1) p q = true by simp only [f_mt]; split <;> simp [hb], ← nI_add] at ih
      exact ih
    | false =>
      refine r_if_ne_f hc dM_hadEachOther_15 (tgt := 34) (by decide) rfl ?_
      refine r_aload_n hc dM_hadEachOther_18 rfl ?_
      refine gM_16 hc dM_hadEachOther_19 ?_
      refine r_bipush hc dM_hadEachOther_22 (nI 12) (by decide) ?_
      refine r_iload hc dM_hadEachOther_24 rfl ?_
      refine r_imul hc dM_hadEachOther_26 ?_
      refine r_iload_n hc dM_hadEachOther_27 rfl ?_
      refine r_iadd hc dM_hadEachOther_28 ?_
      rw [ix12]
      refine r_ialdN hc dM_hadEachOther_29 rfl (by first | omega | (show _ < 12; omega) | (show _ < 204; omega) | (show _ < 144; omega) | (show _ < 2048; omega) | (show _ < 4096; omega) | (show _ < 16; omega)) ?_
      refine r_iload_n hc dM_hadEachOther_30 rfl ?_
      have hM := hR r hr2 p hp
      rcases hg : G r p with _ | _ | ⟨o, b, k⟩ <;> rw [hg] at hM <;> simp only [McOk] at hM
      · rw [hM]
        refine r_ic_ne_t hc dM_hadEachOther_31 (tgt := 38) (by decide) (fun z => by have := nI_pos (n := q) (by omega); rw [← z] at this; exact this (by decide)) ?_
        refine r_iconst hc dM_hadEachOther_38 (nI 0) (by decide) ?_
        refine r_istore_n hc dM_hadEachOther_39 (Nat.le_of_ble_eq_true rfl) ?_
        refine r_iinc hc dM_hadEachOther_40 rfl ?_
        refine r_goto hc dM_hadEachOther_43 (tgt := 5) (by decide) ?_
        rw [show f_mt G (r + 1) p q = false by simp only [f_mt, hg]; exact hb, ← nI_add] at ih
        exact ih
      · rw [hM]
        refine r_ic_ne_t hc dM_hadEachOther_31 (tgt := 38) (by decide) (fun z => by rw [nI_eq (by decide) (by omega)] at z; omega) ?_
        refine r_iconst hc dM_hadEachOther_38 (nI 0) (by decide) ?_
        refine r_istore_n hc dM_hadEachOther_39 (Nat.le_of_ble_eq_true rfl) ?_
        refine r_iinc hc dM_hadEachOther_40 rfl ?_
        refine r_goto hc dM_hadEachOther_43 (tgt := 5) (by decide) ?_
        rw [show f_mt G (r + 1) p q = false by simp only [f_mt, hg]; exact hb, ← nI_add] at ih
        exact ih
      · obtain ⟨h1, h2, -⟩ := hM
        rw [h2]
        by_cases ho : o = q
        · refine r_ic_ne_f hc dM_hadEachOther_31 (tgt := 38) (by decide) (by rw [ho]) ?_
          refine r_iconst hc dM_hadEachOther_34 (nI 1) (by decide) ?_
          refine r_goto hc dM_hadEachOther_35 (tgt := 39) (by decide) ?_
          refine r_istore_n hc dM_hadEachOther_39 (Nat.le_of_ble_eq_true rfl) ?_
          refine r_iinc hc dM_hadEachOther_40 rfl ?_
          refine r_goto hc dM_hadEachOther_43 (tgt := 5) (by decide) ?_
          rw [show f_mt G (r + 1) p q = true by simp only [f_mt, hg]; simp [ho], ← nI_add] at ih
          exact ih
        · refine r_ic_ne_t hc dM_hadEachOther_31 (tgt := 38) (by decide) (fun z => by rw [nI_eq (by omega) (by omega)] at z; omega) ?_
          refine r_iconst hc dM_hadEachOther_38 (nI 0) (by decide) ?_
          refine r_istore_n hc dM_hadEachOther_39 (Nat.le_of_ble_eq_true rfl) ?_
          refine r_iinc hc dM_hadEachOther_40 rfl ?_
          refine r_goto hc dM_hadEachOther_43 (tgt := 5) (by decide) ?_
          rw [show f_mt G (r + 1) p q = false by simp only [f_mt, hg]; simp [ho, hb], ← nI_add] at ih
          exact ih
end
section
/-! PairedFieldModel: colours and costs -/
theorem ii_toInt {z : Int} (h1 : -1000 ≤ z) (h2 : z ≤ 1000) : (Int32.ofInt z).toInt = z := by
  rw [Int32.toInt_ofInt, show (Int32.size : Nat) = 4294967296 from rfl, Int.bmod_def]
  omega
theorem ii_eq {a b : Int} (h1 : -1000 ≤ a) (h2 : a ≤ 1000) (h3 : -1000 ≤ b) (h4 : b ≤ 1000) : Int32.ofInt a = Int32.ofInt b ↔ a = b := by
  constructor
  · intro h
    have := congrArg Int32.toInt h
    rw [ii_toInt h1 h2, ii_toInt h3 h4] at this
    exact this
  · intro h
    rw [h]
theorem ii_le {a b : Int} (h1 : -1000 ≤ a) (h2 : a ≤ 1000) (h3 : -1000 ≤ b) (h4 : b ≤ 1000) : Int32.ofInt a ≤ Int32.ofInt b ↔ a ≤ b := by
  rw [Int32.le_iff_toInt_le, ii_toInt h1 h2, ii_toInt h3 h4]
theorem ii_lt {a b : Int} (h1 : -1000 ≤ a) (h2 : a ≤ 1000) (h3 : -1000 ≤ b) (h4 : b ≤ 1000) : Int32.ofInt a < Int32.ofInt b ↔ a < b := by
  rw [Int32.lt_iff_toInt_lt, ii_toInt h1 h2, ii_toInt h3 h4]
theorem f_ba_le {G : Nat → Nat → Ce} : ∀ (n p : Nat), -(n : Int) ≤ f_ba G n p ∧ f_ba G n p ≤ n
  | 0, _ => by simp [f_ba]
  | n + 1, p => by
    have ih := f_ba_le (G := G) n p
    simp only [f_ba]
    split
    · rename_i b _ _
      cases b <;> simp [ce_col] <;> omega
    · omega
theorem f_la_in {G : Nat → Nat → Ce} : ∀ (n p : Nat), f_la G n p = 0 ∨ f_la G n p = 1 ∨ f_la G n p = -1
  | 0, _ => by simp [f_la]
  | n + 1, p => by
    have ih := f_la_in (G := G) n p
    simp only [f_la]
    split
    · rename_i b _ _
      cases b <;> simp [ce_col]
    · exact ih
theorem f_lb_in {G : Nat → Nat → Ce} : ∀ (n p : Nat), f_lb G n p = 0 ∨ f_lb G n p = 1 ∨ f_lb G n p = -1
  | 0, _ => by simp [f_lb]
  | n + 1, p => by
    have ih := f_lb_in (G := G) n p
    simp only [f_lb]
    split
    · exact f_la_in n p
    · exact ih
/-- is the first of the two white -/
def fw (G : Nat → Nat → Ce) (n p q : Nat) : Bool := if f_ba G n p = f_ba G n q then (if f_la G n p = -1 ∧ f_la G n q = 1 then true else if f_la G n p = 1 ∧ f_la G n q = -1 then false else n % 2 == 0) else decide (f_ba G n p < f_ba G n q)
def cla (G : Nat → Nat → Ce) (n p : Nat) (c : Int) : Nat := (if f_la G n p = c ∧ f_lb G n p = c then 1 else 0) + (if 3 ≤ f_ba G n p + c ∨ f_ba G n p + c ≤ -3 then 1 else 0)
/-- what a game costs, p before q in the order -/
def gco (G : Nat → Nat → Ce) (n p q : Nat) : Nat := 64 * (f_sc G n p - f_sc G n q) * (f_sc G n p - f_sc G n q) + cla G n p (ce_col (fw G n p q)) + cla G n q (ce_col (!fw G n p q))
theorem rem2 {n : Nat} (h : n ≤ 100) : nI n - nI n / nI 2 * nI 2 = nI (n % 2) := pk_rem (by omega) (by decide) (by decide)
theorem cM_isFirstWhite (l : Launch) (g : GG) (d : Nat) (w : Wd) (G : Nat → Nat → Ce) (n p q : Nat) (hR : MRep w G n) (hn : n ≤ 16) (hcl : w 48 4 = nI n) (hp : p < 12) (hq : q < 12) : Con l g yM_isFirstWhite bM_isFirstWhite 7 ((some .boolean)) [] (d + 2) 0 0 [.ref (g.1 48), .int (nI p), .int (nI q)] w (Rp (An (some (.int (bI (fw G n p q)))) w)) := by
  intro X hl ha hm hk hn' hc
  subst hl
  have b1 := f_ba_le (G := G) n p
  have b2 := f_ba_le (G := G) n q
  have c1 := f_la_in (G := G) n p
  have c2 := f_la_in (G := G) n q
  refine r_aload_n hc dM_isFirstWhite_0 rfl ?_
  refine r_iload_n hc dM_isFirstWhite_1 rfl ?_
  refine kM_74r hc dM_isFirstWhite_2 (cM_balanceOf _ g d w G n p hR hn hcl hp) (Nat.le_refl _) (Nat.le_of_ble_eq_true rfl) ?_
  rintro _ _ ⟨rfl, rfl⟩
  refine r_istore_n hc dM_isFirstWhite_5 (Nat.le_of_ble_eq_true rfl) ?_
  refine r_aload_n hc dM_isFirstWhite_6 rfl ?_
  refine r_iload_n hc dM_isFirstWhite_7 rfl ?_
  refine kM_74r hc dM_isFirstWhite_8 (cM_balanceOf _ g d w G n q hR hn hcl hq) (Nat.le_refl _) (Nat.le_of_ble_eq_true rfl) ?_
  rintro _ _ ⟨rfl, rfl⟩
  refine r_istore hc dM_isFirstWhite_11 (Nat.le_of_ble_eq_true rfl) ?_
  refine r_iload_n hc dM_isFirstWhite_13 rfl ?_
  refine r_iload hc dM_isFirstWhite_14 rfl ?_
  by_cases hb : f_ba G n p = f_ba G n q
  · refine r_ic_eq_t hc dM_isFirstWhite_16 (tgt := 31) (by decide) (by rw [hb]) ?_
    refine r_aload_n hc dM_isFirstWhite_31 rfl ?_
    refine r_iload_n hc dM_isFirstWhite_32 rfl ?_
    refine r_iconst hc dM_isFirstWhite_33 (nI 0) (by decide) ?_
    refine kM_77r hc dM_isFirstWhite_34 (cM_colourOf0 _ g d w G n p hR hn hcl hp) (Nat.le_refl _) (Nat.le_of_ble_eq_true rfl) ?_
    rintro _ _ ⟨rfl, rfl⟩
    refine r_istore hc dM_isFirstWhite_37 (Nat.le_of_ble_eq_true rfl) ?_
    refine r_aload_n hc dM_isFirstWhite_39 rfl ?_
    refine r_iload_n hc dM_isFirstWhite_40 rfl ?_
    refine r_iconst hc dM_isFirstWhite_41 (nI 0) (by decide) ?_
    refine kM_77r hc dM_isFirstWhite_42 (cM_colourOf0 _ g d w G n q hR hn hcl hq) (Nat.le_refl _) (Nat.le_of_ble_eq_true rfl) ?_
    rintro _ _ ⟨rfl, rfl⟩
    have hend : Go X g 0 0 (Fen X g 0 0 (Rp (An (some (.int (bI (n % 2 == 0)))) w))) w 75 [some (.ref (g.1 48)), some (.int (nI p)), some (.int (nI q)), some (.int (Int32.ofInt (f_ba G n p))), some (.int (Int32.ofInt (f_ba G n q))), some (.int (Int32.ofInt (f_la G n p))), some (.int (Int32.ofInt (f_la G n q)))] [] := by
      refine r_aload_n hc dM_isFirstWhite_75 rfl ?_
      refine gM_63 hc dM_isFirstWhite_76 ?_
      rw [hcl]
      refine r_iconst hc dM_isFirstWhite_79 (nI 2) (by decide) ?_
      refine r_irem hc dM_isFirstWhite_80 (by decide) ?_
      rw [rem2 (by omega)]
      rcases Nat.mod_two_eq_zero_or_one n with h | h
      · rw [h]
        refine r_if_ne_f hc dM_isFirstWhite_81 (tgt := 88) (by decide) rfl ?_
        refine r_iconst hc dM_isFirstWhite_84 (nI 1) (by decide) ?_
        refine r_goto hc dM_isFirstWhite_85 (tgt := 89) (by decide) ?_
        exact r_zret hc dM_isFirstWhite_89 rfl ⟨rfl, rfl⟩
      · rw [h]
        refine r_if_ne_t hc dM_isFirstWhite_81 (tgt := 88) (by decide) (by decide) ?_
        refine r_iconst hc dM_isFirstWhite_88 (nI 0) (by decide) ?_
        exact r_zret hc dM_isFirstWhite_89 rfl ⟨rfl, rfl⟩
    refine r_istore hc dM_isFirstWhite_45 (Nat.le_of_ble_eq_true rfl) ?_
    refine r_iload hc dM_isFirstWhite_47 rfl ?_
    refine r_iconst hc dM_isFirstWhite_49 (-1) (by decide) ?_
    unfold fw
    rw [if_pos hb]
    rcases c1 with h1 | h1 | h1 <;> rcases c2 with h2 | h2 | h2 <;> rw [h1, h2] at hend <;> simp only [h1, h2]
    · refine r_ic_ne_t hc dM_isFirstWhite_50 (tgt := 61) (by decide) (by decide) ?_
      refine r_iload hc dM_isFirstWhite_61 rfl ?_
      refine r_iconst hc dM_isFirstWhite_63 (nI 1) (by decide) ?_
      refine r_ic_ne_t hc dM_isFirstWhite_64 (tgt := 75) (by decide) (by decide) ?_
      exact hend
    · refine r_ic_ne_t hc dM_isFirstWhite_50 (tgt := 61) (by decide) (by decide) ?_
      refine r_iload hc dM_isFirstWhite_61 rfl ?_
      refine r_iconst hc dM_isFirstWhite_63 (nI 1) (by decide) ?_
      refine r_ic_ne_t hc dM_isFirstWhite_64 (tgt := 75) (by decide) (by decide) ?_
      exact hend
    · refine r_ic_ne_t hc dM_isFirstWhite_50 (tgt := 61) (by decide) (by decide) ?_
      refine r_iload hc dM_isFirstWhite_61 rfl ?_
      refine r_iconst hc dM_isFirstWhite_63 (nI 1) (by decide) ?_
      refine r_ic_ne_t hc dM_isFirstWhite_64 (tgt := 75) (by decide) (by decide) ?_
      exact hend
    · refine r_ic_ne_t hc dM_isFirstWhite_50 (tgt := 61) (by decide) (by decide) ?_
      refine r_iload hc dM_isFirstWhite_61 rfl ?_
      refine r_iconst hc dM_isFirstWhite_63 (nI 1) (by decide) ?_
      refine r_ic_ne_f hc dM_isFirstWhite_64 (tgt := 75) (by decide) (by decide) ?_
      refine r_iload hc dM_isFirstWhite_67 rfl ?_
      refine r_iconst hc dM_isFirstWhite_69 (-1) (by decide) ?_
      refine r_ic_ne_t hc dM_isFirstWhite_70 (tgt := 75) (by decide) (by decide) ?_
      exact hend
    · refine r_ic_ne_t hc dM_isFirstWhite_50 (tgt := 61) (by decide) (by decide) ?_
      refine r_iload hc dM_isFirstWhite_61 rfl ?_
      refine r_iconst hc dM_isFirstWhite_63 (nI 1) (by decide) ?_
      refine r_ic_ne_f hc dM_isFirstWhite_64 (tgt := 75) (by decide) (by decide) ?_
      refine r_iload hc dM_isFirstWhite_67 rfl ?_
      refine r_iconst hc dM_isFirstWhite_69 (-1) (by decide) ?_
      refine r_ic_ne_t hc dM_isFirstWhite_70 (tgt := 75) (by decide) (by decide) ?_
      exact hend
    · refine r_ic_ne_t hc dM_isFirstWhite_50 (tgt := 61) (by decide) (by decide) ?_
      refine r_iload hc dM_isFirstWhite_61 rfl ?_
      refine r_iconst hc dM_isFirstWhite_63 (nI 1) (by decide) ?_
      refine r_ic_ne_f hc dM_isFirstWhite_64 (tgt := 75) (by decide) (by decide) ?_
      refine r_iload hc dM_isFirstWhite_67 rfl ?_
      refine r_iconst hc dM_isFirstWhite_69 (-1) (by decide) ?_
      refine r_ic_ne_f hc dM_isFirstWhite_70 (tgt := 75) (by decide) (by decide) ?_
      refine r_iconst hc dM_isFirstWhite_73 (nI 0) (by decide) ?_
      exact r_zret hc dM_isFirstWhite_74 rfl ⟨rfl, rfl⟩
    · refine r_ic_ne_f hc dM_isFirstWhite_50 (tgt := 61) (by decide) (by decide) ?_
      refine r_iload hc dM_isFirstWhite_53 rfl ?_
      refine r_iconst hc dM_isFirstWhite_55 (nI 1) (by decide) ?_
      refine r_ic_ne_t hc dM_isFirstWhite_56 (tgt := 61) (by decide) (by decide) ?_
      refine r_iload hc dM_isFirstWhite_61 rfl ?_
      refine r_iconst hc dM_isFirstWhite_63 (nI 1) (by decide) ?_
      refine r_ic_ne_t hc dM_isFirstWhite_64 (tgt := 75) (by decide) (by decide) ?_
      exact hend
    · refine r_ic_ne_f hc dM_isFirstWhite_50 (tgt := 61) (by decide) (by decide) ?_
      refine r_iload hc dM_isFirstWhite_53 rfl ?_
      refine r_iconst hc dM_isFirstWhite_55 (nI 1) (by decide) ?_
      refine r_ic_ne_f hc dM_isFirstWhite_56 (tgt := 61) (by decide) (by decide) ?_
      refine r_iconst hc dM_isFirstWhite_59 (nI 1) (by decide) ?_
      exact r_zret hc dM_isFirstWhite_60 rfl ⟨rfl, rfl⟩
    · refine r_ic_ne_f hc dM_isFirstWhite_50 (tgt := 61) (by decide) (by decide) ?_
      refine r_iload hc dM_isFirstWhite_53 rfl ?_
      refine r_iconst hc dM_isFirstWhite_55 (nI 1) (by decide) ?_
      refine r_ic_ne_t hc dM_isFirstWhite_56 (tgt := 61) (by decide) (by decide) ?_
      refine r_iload hc dM_isFirstWhite_61 rfl ?_
      refine r_iconst hc dM_isFirstWhite_63 (nI 1) (by decide) ?_
      refine r_ic_ne_t hc dM_isFirstWhite_64 (tgt := 75) (by decide) (by decide) ?_
      exact hend
  · refine r_ic_eq_f hc dM_isFirstWhite_16 (tgt := 31) (by decide) (fun z => hb ((ii_eq (by omega) (by omega) (by omega) (by omega)).mp z)) ?_
    refine r_iload_n hc dM_isFirstWhite_19 rfl ?_
    refine r_iload hc dM_isFirstWhite_20 rfl ?_
    unfold fw
    rw [if_neg hb]
    by_cases h : f_ba G n p < f_ba G n q
    · refine r_ic_ge_f hc dM_isFirstWhite_22 (tgt := 29) (by decide) (fun z => by rw [ii_le (by omega) (by omega) (by omega) (by omega)] at z; omega) ?_
      refine r_iconst hc dM_isFirstWhite_25 (nI 1) (by decide) ?_
      refine r_goto hc dM_isFirstWhite_26 (tgt := 30) (by decide) ?_
      exact r_zret hc dM_isFirstWhite_30 rfl ⟨by rw [decide_eq_true h]; rfl, rfl⟩
    · refine r_ic_ge_t hc dM_isFirstWhite_22 (tgt := 29) (by decide) ((ii_le (by omega) (by omega) (by omega) (by omega)).mpr (by omega)) ?_
      refine r_iconst hc dM_isFirstWhite_29 (nI 0) (by decide) ?_
      exact r_zret hc dM_isFirstWhite_30 rfl ⟨by rw [decide_eq_false h]; rfl, rfl⟩
theorem cM_clashes (l : Launch) (g : GG) (d : Nat) (w : Wd) (G : Nat → Nat → Ce) (n p : Nat) (b : Bool) (hR : MRep w G n) (hn : n ≤ 16) (hcl : w 48 4 = nI n) (hp : p < 12) : Con l g yM_clashes bM_clashes 5 ((some .int)) [] (d + 2) 0 0 [.ref (g.1 48), .int (nI p), .int (Int32.ofInt (ce_col b))] w (Rp (An (some (.int (nI (cla G n p (ce_col b))))) w)) := by
  intro X hl ha hm hk hn' hc
  subst hl
  have b1 := f_ba_le (G := G) n p
  have c1 := f_la_in (G := G) n p
  have c2 := f_lb_in (G := G) n p
  have cb : ce_col b = 1 ∨ ce_col b = -1 := by cases b <;> simp [ce_col]
  generalize ce_col b = c at cb ⊢
  have hend : ∀ a : Nat, a ≤ 1 → (if f_la G n p = c ∧ f_lb G n p = c then 1 else 0) = a → Go X g 0 0 (Fen X g 0 0 (Rp (An (some (.int (nI (cla G n p c)))) w))) w 25 [some (.ref (g.1 48)), some (.int (nI p)), some (.int (Int32.ofInt c)), none, none] [.int (nI a)] := by
    intro a ha1 ha2
    refine r_istore_n hc dM_clashes_25 (Nat.le_of_ble_eq_true rfl) ?_
    refine r_aload_n hc dM_clashes_26 rfl ?_
    refine r_iload_n hc dM_clashes_27 rfl ?_
    refine kM_74r hc dM_clashes_28 (cM_balanceOf _ g d w G n p hR hn hcl hp) (by omega) (Nat.le_of_ble_eq_true rfl) ?_
    rintro _ _ ⟨rfl, rfl⟩
    refine r_iload_n hc dM_clashes_31 rfl ?_
    refine r_iadd hc dM_clashes_32 ?_
    rw [← Int32.ofInt_add]
    refine r_istore hc dM_clashes_33 (Nat.le_of_ble_eq_true rfl) ?_
    refine r_iload hc dM_clashes_35 rfl ?_
    refine r_iconst hc dM_clashes_37 (nI 3) (by decide) ?_
    by_cases h3 : 3 ≤ f_ba G n p + c
    · refine r_ic_ge_t hc dM_clashes_38 (tgt := 48) (by decide) ((ii_le (a := 3) (by omega) (by omega) (by omega) (by omega)).mpr h3) ?_
      refine r_iload_n hc dM_clashes_48 rfl ?_
      refine r_iconst hc dM_clashes_49 (nI 1) (by decide) ?_
      refine r_iadd hc dM_clashes_50 ?_
      refine r_goto hc dM_clashes_51 (tgt := 55) (by decide) ?_
      rw [nI_add]
      exact r_iret hc dM_clashes_55 ⟨by rw [cla, ha2, if_pos (Or.inl h3)], rfl⟩
    · refine r_ic_ge_f hc dM_clashes_38 (tgt := 48) (by decide) (fun z => h3 ((ii_le (a := 3) (by omega) (by omega) (by omega) (by omega)).mp z)) ?_
      refine r_iload hc dM_clashes_41 rfl ?_
      refine r_bipush hc dM_clashes_43 (Int32.ofInt (-3)) (by decide) ?_
      by_cases h4 : f_ba G n p + c ≤ -3
      · refine r_ic_gt_f hc dM_clashes_45 (tgt := 54) (by decide) (fun z => by have z := (ii_lt (a := -3) (by omega) (by omega) (by omega) (by omega)).mp z; omega) ?_
        refine r_iload_n hc dM_clashes_48 rfl ?_
        refine r_iconst hc dM_clashes_49 (nI 1) (by decide) ?_
        refine r_iadd hc dM_clashes_50 ?_
        refine r_goto hc dM_clashes_51 (tgt := 55) (by decide) ?_
        rw [nI_add]
        exact r_iret hc dM_clashes_55 ⟨by rw [cla, ha2, if_pos (Or.inr h4)], rfl⟩
      · refine r_ic_gt_t hc dM_clashes_45 (tgt := 54) (by decide) ((ii_lt (a := -3) (by omega) (by omega) (by omega) (by omega)).mpr (by omega)) ?_
        refine r_iload_n hc dM_clashes_54 rfl ?_
        exact r_iret hc dM_clashes_55 ⟨by rw [cla, ha2, if_neg (by omega)]; rfl, rfl⟩
  refine r_aload_n hc dM_clashes_0 rfl ?_
  refine r_iload_n hc dM_clashes_1 rfl ?_
  refine r_iconst hc dM_clashes_2 (nI 0) (by decide) ?_
  refine kM_77r hc dM_clashes_3 (cM_colourOf0 _ g d w G n p hR hn hcl hp) (by omega) (Nat.le_of_ble_eq_true rfl) ?_
  rintro _ _ ⟨rfl, rfl⟩
  refine r_iload_n hc dM_clashes_6 rfl ?_
  by_cases h1 : f_la G n p = c
  · refine r_ic_ne_f hc dM_clashes_7 (tgt := 24) (by decide) (by rw [h1]) ?_
    refine r_aload_n hc dM_clashes_10 rfl ?_
    refine r_iload_n hc dM_clashes_11 rfl ?_
    refine r_iconst hc dM_clashes_12 (nI 1) (by decide) ?_
    refine kM_77r hc dM_clashes_13 (cM_colourOf1 _ g d w G n p hR hn hcl hp) (by omega) (Nat.le_of_ble_eq_true rfl) ?_
    rintro _ _ ⟨rfl, rfl⟩
    refine r_iload_n hc dM_clashes_16 rfl ?_
    by_cases h2 : f_lb G n p = c
    · refine r_ic_ne_f hc dM_clashes_17 (tgt := 24) (by decide) (by rw [h2]) ?_
      refine r_iconst hc dM_clashes_20 (nI 1) (by decide) ?_
      refine r_goto hc dM_clashes_21 (tgt := 25) (by decide) ?_
      exact hend 1 (by omega) (if_pos ⟨h1, h2⟩)
    · refine r_ic_ne_t hc dM_clashes_17 (tgt := 24) (by decide) (fun z => h2 ((ii_eq (by omega) (by omega) (by omega) (by omega)).mp z)) ?_
      refine r_iconst hc dM_clashes_24 (nI 0) (by decide) ?_
      exact hend 0 (by omega) (if_neg (fun z => h2 z.2))
  · refine r_ic_ne_t hc dM_clashes_7 (tgt := 24) (by decide) (fun z => h1 ((ii_eq (by omega) (by omega) (by omega) (by omega)).mp z)) ?_
    refine r_iconst hc dM_clashes_24 (nI 0) (by decide) ?_
    exact hend 0 (by omega) (if_neg (fun z => h1 z.1))
theorem cM_costOf (l : Launch) (g : GG) (d : Nat) (w : Wd) (G : Nat → Nat → Ce) (n p q : Nat) (hR : MRep w G n) (hT : GTold G n) (hn : n ≤ 16) (hcl : w 48 4 = nI n) (hp : p < 12) (hq : q < 12) (hs : f_sc G n q ≤ f_sc G n p) : Con l g yM_costOf bM_costOf 5 ((some .int)) [] (d + 3) 0 0 [.ref (g.1 48), .int (nI p), .int (nI q)] w (Rp (An (some (.int (nI (gco G n p q)))) w)) := by
  intro X hl ha hm hk hn' hc
  subst hl
  refine r_aload_n hc dM_costOf_0 rfl ?_
  refine r_iload_n hc dM_costOf_1 rfl ?_
  refine kM_70r hc dM_costOf_2 (cM_scoreOf _ g d w G n p hR hT hn hcl hp) (by omega) (Nat.le_of_ble_eq_true rfl) ?_
  rintro _ _ ⟨rfl, rfl⟩
  refine r_aload_n hc dM_costOf_5 rfl ?_
  refine r_iload_n hc dM_costOf_6 rfl ?_
  refine kM_70r hc dM_costOf_7 (cM_scoreOf _ g d w G n q hR hT hn hcl hq) (by omega) (Nat.le_of_ble_eq_true rfl) ?_
  rintro _ _ ⟨rfl, rfl⟩
  refine r_isub hc dM_costOf_10 ?_
  rw [pk_sub hs]
  refine r_istore_n hc dM_costOf_11 (Nat.le_of_ble_eq_true rfl) ?_
  refine r_aload_n hc dM_costOf_12 rfl ?_
  refine r_iload_n hc dM_costOf_13 rfl ?_
  refine r_iload_n hc dM_costOf_14 rfl ?_
  refine kM_81r hc dM_costOf_15 (cM_isFirstWhite _ g d w G n p q hR hn hcl hp hq) (by omega) (Nat.le_of_ble_eq_true rfl) ?_
  rintro _ _ ⟨rfl, rfl⟩
  have hend : Go X g 0 0 (Fen X g 0 0 (Rp (An (some (.int (nI (gco G n p q)))) w))) w 26 [some (.ref (g.1 48)), some (.int (nI p)), some (.int (nI q)), some (.int (nI (f_sc G n p - f_sc G n q))), none] [.int (Int32.ofInt (ce_col (fw G n p q)))] := by
    refine r_istore hc dM_costOf_26 (Nat.le_of_ble_eq_true rfl) ?_
    refine r_bipush hc dM_costOf_28 (nI 64) (by decide) ?_
    refine r_iload_n hc dM_costOf_30 rfl ?_
    refine r_imul hc dM_costOf_31 ?_
    refine r_iload_n hc dM_costOf_32 rfl ?_
    refine r_imul hc dM_costOf_33 ?_
    refine r_aload_n hc dM_costOf_34 rfl ?_
    refine r_iload_n hc dM_costOf_35 rfl ?_
    refine r_iload hc dM_costOf_36 rfl ?_
    refine kM_84r hc dM_costOf_38 (cM_clashes _ g d w G n p (fw G n p q) hR hn hcl hp) (by omega) (Nat.le_of_ble_eq_true rfl) ?_
    rintro _ _ ⟨rfl, rfl⟩
    refine r_iadd hc dM_costOf_41 ?_
    refine r_aload_n hc dM_costOf_42 rfl ?_
    refine r_iload_n hc dM_costOf_43 rfl ?_
    refine r_iload hc dM_costOf_44 rfl ?_
    refine r_ineg hc dM_costOf_46 ?_
    rw [show -Int32.ofInt (ce_col (fw G n p q)) = Int32.ofInt (ce_col (!fw G n p q)) by cases fw G n p q <;> decide]
    refine kM_84r hc dM_costOf_47 (cM_clashes _ g d w G n q (!fw G n p q) hR hn hcl hq) (by omega) (Nat.le_of_ble_eq_true rfl) ?_
    rintro _ _ ⟨rfl, rfl⟩
    refine r_iadd hc dM_costOf_50 ?_
    rw [pk_mul, pk_mul, nI_add, nI_add]
    exact r_iret hc dM_costOf_51 ⟨rfl, rfl⟩
  cases hb : fw G n p q with
  | true =>
    rw [hb] at hend
    refine r_if_eq_f hc dM_costOf_18 (tgt := 25) (by decide) (by decide) ?_
    refine r_iconst hc dM_costOf_21 (nI 1) (by decide) ?_
    refine r_goto hc dM_costOf_22 (tgt := 26) (by decide) ?_
    exact hend
  | false =>
    rw [hb] at hend
    refine r_if_eq_t hc dM_costOf_18 (tgt := 25) (by decide) rfl ?_
    refine r_iconst hc dM_costOf_25 (-1) (by decide) ?_
    exact hend
end
section
/-! PairedFieldModel: who is in, the bye, the order -/
def oI : Option Nat → Int32
  | none => -1
  | some p => nI p
def f_in (inn : Nat → Bool) : Nat → Nat
  | 0 => 0
  | p + 1 => if inn p then f_in inn p + 1 else f_in inn p
def bet (G : Nat → Nat → Ce) (n p c : Nat) : Bool := decide (f_by G n p < f_by G n c) || (decide (f_by G n p = f_by G n c) && decide (f_sc G n p ≤ f_sc G n c))
/-- who has the bye, among the first players -/
def f_fb (G : Nat → Nat → Ce) (n : Nat) (inn : Nat → Bool) : Nat → Option Nat
  | 0 => none
  | p + 1 => if inn p then (match f_fb G n inn p with
    | none => some p
    | some c => if bet G n p c then some p else some c) else f_fb G n inn p
theorem f_fb_lt {G : Nat → Nat → Ce} {n : Nat} {inn : Nat → Bool} : ∀ {m c : Nat}, f_fb G n inn m = some c → c < m ∧ inn c = true
  | 0, c, h => by cases h
  | m + 1, c, h => by
    simp only [f_fb] at h
    split at h
    · rename_i hi
      split at h
      · have : m = c := by simpa using h
        subst this
        exact ⟨by omega, hi⟩
      · rename_i c2 h2
        split at h
        · have : m = c := by simpa using h
          subst this
          exact ⟨by omega, hi⟩
        · have : c2 = c := by simpa using h
          subst this
          have := f_fb_lt h2
          exact ⟨by omega, this.2⟩
    · have := f_fb_lt h
      exact ⟨by omega, this.2⟩
theorem f_in_le (inn : Nat → Bool) : ∀ m, f_in inn m ≤ m
  | 0 => Nat.le_refl _
  | m + 1 => by
    have := f_in_le inn m
    simp only [f_in]
    split <;> omega
def MIn (w : Wd) (inn : Nat → Bool) (m : Nat) : Prop := ∀ p, p < m → w 49 p = bI (inn p)
theorem cM_inMany (l : Launch) (g : GG) (d : Nat) (w : Wd) (inn : Nat → Bool) (m : Nat) (hI : MIn w inn m) (hm : m ≤ 12) (hpl : w 48 1 = nI m) : Con l g yM_inMany bM_inMany 3 ((some .int)) [] d 0 0 [.ref (g.1 48)] w (Rp (An (some (.int (nI (f_in inn m)))) w)) := by
  intro X hl ha hm' hk hn' hc
  subst hl
  refine r_iconst hc dM_inMany_0 (nI 0) (by decide) ?_
  refine r_istore_n hc dM_inMany_1 (Nat.le_of_ble_eq_true rfl) ?_
  refine r_iconst hc dM_inMany_2 (nI 0) (by decide) ?_
  refine r_istore_n hc dM_inMany_3 (Nat.le_of_ble_eq_true rfl) ?_
  refine lp_up (P := fun r => Go X g 0 0 _ w 4 [some (.ref (g.1 48)), some (.int (nI (f_in inn r))), some (.int (nI r))] []) (n := m) ?_ 0 (Nat.zero_le _)
  intro r hr ih
  refine r_iload_n hc dM_inMany_4 rfl ?_
  refine r_aload_n hc dM_inMany_5 rfl ?_
  refine gM_44 hc dM_inMany_6 ?_
  rw [hpl]
  refine r_ic_ge hc dM_inMany_9 (tgt := 35) (by decide) (fun h => ?_) (fun h => ?_)
  · have hr2 : r = m := by have := nle_to h (by omega) (by omega); omega
    subst hr2
    refine r_iload_n hc dM_inMany_35 rfl ?_
    exact r_iret hc dM_inMany_36 ⟨rfl, rfl⟩
  · have hr2 : r < m := nle_of h (by omega) (by omega)
    have ih := ih hr2
    refine r_aload_n hc dM_inMany_12 rfl ?_
    refine gM_7 hc dM_inMany_13 ?_
    refine r_iload_n hc dM_inMany_16 rfl ?_
    refine r_zaldN hc dM_inMany_17 rfl (by first | omega | (show _ < 12; omega) | (show _ < 204; omega) | (show _ < 144; omega) | (show _ < 2048; omega) | (show _ < 4096; omega) | (show _ < 16; omega)) ?_
    rw [hI r hr2]
    cases hi : inn r with
    | true =>
      simp only [f_in, hi, if_true, ← nI_add] at ih
      refine r_if_eq_f hc dM_inMany_18 (tgt := 27) (by decide) (by decide) ?_
      refine r_iload_n hc dM_inMany_21 rfl ?_
      refine r_iconst hc dM_inMany_22 (nI 1) (by decide) ?_
      refine r_iadd hc dM_inMany_23 ?_
      refine r_goto hc dM_inMany_24 (tgt := 28) (by decide) ?_
      refine r_istore_n hc dM_inMany_28 (Nat.le_of_ble_eq_true rfl) ?_
      refine r_iinc hc dM_inMany_29 rfl ?_
      refine r_goto hc dM_inMany_32 (tgt := 4) (by decide) ?_
      exact ih
    | false =>
      simp only [f_in, hi, Bool.false_eq_true, if_false, ← nI_add] at ih
      refine r_if_eq_t hc dM_inMany_18 (tgt := 27) (by decide) rfl ?_
      refine r_iload_n hc dM_inMany_27 rfl ?_
      refine r_istore_n hc dM_inMany_28 (Nat.le_of_ble_eq_true rfl) ?_
      refine r_iinc hc dM_inMany_29 rfl ?_
      refine r_goto hc dM_inMany_32 (tgt := 4) (by decide) ?_
      exact ih
theorem f_by_le {G : Nat → Nat → Ce} : ∀ (n p : Nat), f_by G n p ≤ n
  | 0, _ => Nat.le_refl _
  | n + 1, p => by
    have := f_by_le (G := G) n p
    simp only [f_by]
    split <;> omega
theorem nsub_lt {a b : Nat} (ha : a < 2 ^ 30) (hb : b < 2 ^ 30) : nI a - nI b < 0 ↔ a < b := by
  rw [Int32.lt_iff_toInt_lt, pk_sub_toInt ha hb, Int32.toInt_zero]
  omega
theorem nsub_gt {a b : Nat} (ha : a < 2 ^ 30) (hb : b < 2 ^ 30) : 0 < nI a - nI b ↔ b < a := by
  rw [Int32.lt_iff_toInt_lt, pk_sub_toInt ha hb, Int32.toInt_zero]
  omega
theorem nsub_z {a b : Nat} (ha : a < 2 ^ 30) (hb : b < 2 ^ 30) : nI a - nI b = 0 ↔ a = b := by
  rw [← Int32.toInt_inj, pk_sub_toInt ha hb, Int32.toInt_zero]
  omega
theorem f_sc_le2 {G : Nat → Nat → Ce} {n p : Nat} (hT : GTold G n) (hp : p < 12) : f_sc G n p ≤ 2 * n := by
  have key : ∀ r, r ≤ n → f_sc G r p ≤ 2 * r := by
    intro r
    induction r with
    | zero => intro _; exact Nat.le_refl _
    | succ r ih =>
      intro hr
      have h1 := ih (by omega)
      have : ce_pts (G r p) ≤ 2 := by
        rcases hg : G r p with _ | _ | ⟨q, b, k⟩
        · simp [ce_pts]
        · simp [ce_pts]
        · exact hT r (by omega) p hp q b k hg
      simp only [f_sc]
      omega
  exact key n (Nat.le_refl _)
theorem cM_findBye (l : Launch) (g : GG) (d : Nat) (w : Wd) (G : Nat → Nat → Ce) (n : Nat) (inn : Nat → Bool) (m : Nat) (hR : MRep w G n) (hT : GTold G n) (hn : n ≤ 16) (hcl : w 48 4 = nI n) (hI : MIn w inn m) (hm : m ≤ 12) (hpl : w 48 1 = nI m) : Con l g yM_findBye bM_findBye 6 ((some .int)) [] (d + 1) 0 0 [.ref (g.1 48)] w (Rp (An (some (.int (oI (f_fb G n inn m)))) w)) := by
  intro X hl ha hm' hk hn' hc
  subst hl
  refine r_iconst hc dM_findBye_0 (-1) (by decide) ?_
  refine r_istore_n hc dM_findBye_1 (Nat.le_of_ble_eq_true rfl) ?_
  refine r_iconst hc dM_findBye_2 (nI 0) (by decide) ?_
  refine r_istore_n hc dM_findBye_3 (Nat.le_of_ble_eq_true rfl) ?_
  refine lp_up (P := fun r => Go X g 0 0 _ w 4 [some (.ref (g.1 48)), some (.int (oI (f_fb G n inn r))), some (.int (nI r)), none, none, none] []) (n := m) ?_ 0 (Nat.zero_le _)
  intro r hr ih
  refine r_iload_n hc dM_findBye_4 rfl ?_
  refine r_aload_n hc dM_findBye_5 rfl ?_
  refine gM_44 hc dM_findBye_6 ?_
  rw [hpl]
  refine r_ic_ge hc dM_findBye_9 (tgt := 107) (by decide) (fun h => ?_) (fun h => ?_)
  · have hr2 : r = m := by have := nle_to h (by omega) (by omega); omega
    subst hr2
    refine r_iload_n hc dM_findBye_107 rfl ?_
    exact r_iret hc dM_findBye_108 ⟨rfl, rfl⟩
  · have hr2 : r < m := nle_of h (by omega) (by omega)
    have ih := ih hr2
    have hir := hI r hr2
    refine r_iload_n hc dM_findBye_12 rfl ?_
    cases hi : inn r with
    | false =>
      simp only [f_fb, hi, Bool.false_eq_true, if_false, ← nI_add] at ih
      rw [hi] at hir
      have hend : ∀ v : Int32, Go X g 0 0 (Fen X g 0 0 (Rp (An (some (.int (oI (f_fb G n inn m)))) w))) w 21 [some (.ref (g.1 48)), some (.int (oI (f_fb G n inn r))), some (.int (nI r)), none, none, none] [.int v] := by
        intro v
        refine r_istore_n hc dM_findBye_21 (Nat.le_of_ble_eq_true rfl) ?_
        refine r_aload_n hc dM_findBye_22 rfl ?_
        refine gM_7 hc dM_findBye_23 ?_
        refine r_iload_n hc dM_findBye_26 rfl ?_
        refine r_zaldN hc dM_findBye_27 rfl (by first | omega | (show _ < 12; omega) | (show _ < 204; omega) | (show _ < 144; omega) | (show _ < 2048; omega) | (show _ < 4096; omega) | (show _ < 16; omega)) ?_
        rw [hir]
        refine r_if_eq_t hc dM_findBye_28 (tgt := 82) (by decide) rfl ?_
        refine r_aload_n hc dM_findBye_82 rfl ?_
        refine gM_7 hc dM_findBye_83 ?_
        refine r_iload_n hc dM_findBye_86 rfl ?_
        refine r_zaldN hc dM_findBye_87 rfl (by first | omega | (show _ < 12; omega) | (show _ < 204; omega) | (show _ < 144; omega) | (show _ < 2048; omega) | (show _ < 4096; omega) | (show _ < 16; omega)) ?_
        rw [hir]
        refine r_if_eq_t hc dM_findBye_88 (tgt := 99) (by decide) rfl ?_
        refine r_iload_n hc dM_findBye_99 rfl ?_
        refine r_istore_n hc dM_findBye_100 (Nat.le_of_ble_eq_true rfl) ?_
        refine r_iinc hc dM_findBye_101 rfl ?_
        refine r_goto hc dM_findBye_104 (tgt := 4) (by decide) ?_
        refine Go.drop 3 ?_
        exact ih
      refine r_if_ge hc dM_findBye_13 (tgt := 20) (by decide) (fun h9 => ?_) (fun h9 => ?_)
      · refine r_iconst hc dM_findBye_20 (nI 0) (by decide) ?_
        exact hend _
      · refine r_iconst hc dM_findBye_16 (nI 1) (by decide) ?_
        refine r_goto hc dM_findBye_17 (tgt := 21) (by decide) ?_
        exact hend _
    | true =>
      rw [hi] at hir
      cases hf : f_fb G n inn r with
      | none =>
        simp only [f_fb, hi, if_true, hf, oI, ← nI_add] at ih
        refine r_if_ge_f hc dM_findBye_13 (tgt := 20) (by decide) (by decide) ?_
        refine r_iconst hc dM_findBye_16 (nI 1) (by decide) ?_
        refine r_goto hc dM_findBye_17 (tgt := 21) (by decide) ?_
        refine r_istore_n hc dM_findBye_21 (Nat.le_of_ble_eq_true rfl) ?_
        refine r_aload_n hc dM_findBye_22 rfl ?_
        refine gM_7 hc dM_findBye_23 ?_
        refine r_iload_n hc dM_findBye_26 rfl ?_
        refine r_zaldN hc dM_findBye_27 rfl (by first | omega | (show _ < 12; omega) | (show _ < 204; omega) | (show _ < 144; omega) | (show _ < 2048; omega) | (show _ < 4096; omega) | (show _ < 16; omega)) ?_
        rw [hir]
        refine r_if_eq_f hc dM_findBye_28 (tgt := 82) (by decide) (by decide) ?_
        refine r_iload_n hc dM_findBye_31 rfl ?_
        refine r_if_lt_t hc dM_findBye_32 (tgt := 82) (by decide) (by decide) ?_
        refine r_aload_n hc dM_findBye_82 rfl ?_
        refine gM_7 hc dM_findBye_83 ?_
        refine r_iload_n hc dM_findBye_86 rfl ?_
        refine r_zaldN hc dM_findBye_87 rfl (by first | omega | (show _ < 12; omega) | (show _ < 204; omega) | (show _ < 144; omega) | (show _ < 2048; omega) | (show _ < 4096; omega) | (show _ < 16; omega)) ?_
        rw [hir]
        refine r_if_eq_f hc dM_findBye_88 (tgt := 99) (by decide) (by decide) ?_
        refine r_iload_n hc dM_findBye_91 rfl ?_
        refine r_if_eq_f hc dM_findBye_92 (tgt := 99) (by decide) (by decide) ?_
        refine r_iload_n hc dM_findBye_95 rfl ?_
        refine r_goto hc dM_findBye_96 (tgt := 100) (by decide) ?_
        refine r_istore_n hc dM_findBye_100 (Nat.le_of_ble_eq_true rfl) ?_
        refine r_iinc hc dM_findBye_101 rfl ?_
        refine r_goto hc dM_findBye_104 (tgt := 4) (by decide) ?_
        refine Go.drop 3 ?_
        exact ih
      | some c =>
        have hc1 := f_fb_lt hf
        have l1 := f_by_le (G := G) n r
        have l2 := f_by_le (G := G) n c
        have l3 := f_sc_le2 (p := r) hT (by omega)
        have l4 := f_sc_le2 (p := c) hT (by omega)
        simp only [oI]
        refine r_if_ge_t hc dM_findBye_13 (tgt := 20) (by decide) (nI_pos' (by omega)) ?_
        refine r_iconst hc dM_findBye_20 (nI 0) (by decide) ?_
        refine r_istore_n hc dM_findBye_21 (Nat.le_of_ble_eq_true rfl) ?_
        refine r_aload_n hc dM_findBye_22 rfl ?_
        refine gM_7 hc dM_findBye_23 ?_
        refine r_iload_n hc dM_findBye_26 rfl ?_
        refine r_zaldN hc dM_findBye_27 rfl (by first | omega | (show _ < 12; omega) | (show _ < 204; omega) | (show _ < 144; omega) | (show _ < 2048; omega) | (show _ < 4096; omega) | (show _ < 16; omega)) ?_
        rw [hir]
        refine r_if_eq_f hc dM_findBye_28 (tgt := 82) (by decide) (by decide) ?_
        refine r_iload_n hc dM_findBye_31 rfl ?_
        refine r_if_lt_f hc dM_findBye_32 (tgt := 82) (by decide) (nI_pos (by omega)) ?_
        refine r_aload_n hc dM_findBye_35 rfl ?_
        refine r_iload_n hc dM_findBye_36 rfl ?_
        refine kM_87r hc dM_findBye_37 (cM_byesOf _ g d w G n r hR hn hcl (by omega)) (Nat.le_refl _) (Nat.le_of_ble_eq_true rfl) ?_
        rintro _ _ ⟨rfl, rfl⟩
        refine r_aload_n hc dM_findBye_40 rfl ?_
        refine r_iload_n hc dM_findBye_41 rfl ?_
        refine kM_87r hc dM_findBye_42 (cM_byesOf _ g d w G n c hR hn hcl (by omega)) (Nat.le_refl _) (Nat.le_of_ble_eq_true rfl) ?_
        rintro _ _ ⟨rfl, rfl⟩
        refine r_isub hc dM_findBye_45 ?_
        refine r_istore hc dM_findBye_46 (Nat.le_of_ble_eq_true rfl) ?_
        refine r_aload_n hc dM_findBye_48 rfl ?_
        refine r_iload_n hc dM_findBye_49 rfl ?_
        refine kM_70r hc dM_findBye_50 (cM_scoreOf _ g d w G n r hR hT hn hcl (by omega)) (Nat.le_refl _) (Nat.le_of_ble_eq_true rfl) ?_
        rintro _ _ ⟨rfl, rfl⟩
        refine r_aload_n hc dM_findBye_53 rfl ?_
        refine r_iload_n hc dM_findBye_54 rfl ?_
        refine kM_70r hc dM_findBye_55 (cM_scoreOf _ g d w G n c hR hT hn hcl (by omega)) (Nat.le_refl _) (Nat.le_of_ble_eq_true rfl) ?_
        rintro _ _ ⟨rfl, rfl⟩
        refine r_isub hc dM_findBye_58 ?_
        refine r_istore hc dM_findBye_59 (Nat.le_of_ble_eq_true rfl) ?_
        refine r_iload hc dM_findBye_61 rfl ?_
        have hyes : bet G n r c = true → Go X g 0 0 (Fen X g 0 0 (Rp (An (some (.int (oI (f_fb G n inn m)))) w))) w 76 [some (.ref (g.1 48)), some (.int (nI c)), some (.int (nI r)), none, none, none] [] := by
          intro hb
          simp only [f_fb, hi, if_true, hf, hb, oI, ← nI_add] at ih
          refine r_iconst hc dM_findBye_76 (nI 1) (by decide) ?_
          refine r_goto hc dM_findBye_77 (tgt := 81) (by decide) ?_
          refine r_istore_n hc dM_findBye_81 (Nat.le_of_ble_eq_true rfl) ?_
          refine r_aload_n hc dM_findBye_82 rfl ?_
          refine gM_7 hc dM_findBye_83 ?_
          refine r_iload_n hc dM_findBye_86 rfl ?_
          refine r_zaldN hc dM_findBye_87 rfl (by first | omega | (show _ < 12; omega) | (show _ < 204; omega) | (show _ < 144; omega) | (show _ < 2048; omega) | (show _ < 4096; omega) | (show _ < 16; omega)) ?_
          rw [hir]
          refine r_if_eq_f hc dM_findBye_88 (tgt := 99) (by decide) (by decide) ?_
          refine r_iload_n hc dM_findBye_91 rfl ?_
          refine r_if_eq_f hc dM_findBye_92 (tgt := 99) (by decide) (by decide) ?_
          refine r_iload_n hc dM_findBye_95 rfl ?_
          refine r_goto hc dM_findBye_96 (tgt := 100) (by decide) ?_
          refine r_istore_n hc dM_findBye_100 (Nat.le_of_ble_eq_true rfl) ?_
          refine r_iinc hc dM_findBye_101 rfl ?_
          refine r_goto hc dM_findBye_104 (tgt := 4) (by decide) ?_
          refine Go.drop 3 ?_
          exact ih
        have hno : bet G n r c = false → Go X g 0 0 (Fen X g 0 0 (Rp (An (some (.int (oI (f_fb G n inn m)))) w))) w 80 [some (.ref (g.1 48)), some (.int (nI c)), some (.int (nI r)), none, none, none] [] := by
          intro hb
          simp only [f_fb, hi, if_true, hf, hb, Bool.false_eq_true, if_false, oI, ← nI_add] at ih
          refine r_iconst hc dM_findBye_80 (nI 0) (by decide) ?_
          refine r_istore_n hc dM_findBye_81 (Nat.le_of_ble_eq_true rfl) ?_
          refine r_aload_n hc dM_findBye_82 rfl ?_
          refine gM_7 hc dM_findBye_83 ?_
          refine r_iload_n hc dM_findBye_86 rfl ?_
          refine r_zaldN hc dM_findBye_87 rfl (by first | omega | (show _ < 12; omega) | (show _ < 204; omega) | (show _ < 144; omega) | (show _ < 2048; omega) | (show _ < 4096; omega) | (show _ < 16; omega)) ?_
          rw [hir]
          refine r_if_eq_f hc dM_findBye_88 (tgt := 99) (by decide) (by decide) ?_
          refine r_iload_n hc dM_findBye_91 rfl ?_
          refine r_if_eq_t hc dM_findBye_92 (tgt := 99) (by decide) rfl ?_
          refine r_iload_n hc dM_findBye_99 rfl ?_
          refine r_istore_n hc dM_findBye_100 (Nat.le_of_ble_eq_true rfl) ?_
          refine r_iinc hc dM_findBye_101 rfl ?_
          refine r_goto hc dM_findBye_104 (tgt := 4) (by decide) ?_
          refine Go.drop 3 ?_
          exact ih
        by_cases h1 : f_by G n r < f_by G n c
        · refine r_if_lt_t hc dM_findBye_63 (tgt := 76) (by decide) ((nsub_lt (by omega) (by omega)).mpr h1) ?_
          refine Go.drop 3 (Go.drop 4 (Go.drop 5 ?_))
          exact hyes (by simp [bet, h1])
        · refine r_if_lt_f hc dM_findBye_63 (tgt := 76) (by decide) (fun z => h1 ((nsub_lt (by omega) (by omega)).mp z)) ?_
          refine r_iload hc dM_findBye_66 rfl ?_
          by_cases h2 : f_by G n r = f_by G n c
          · refine r_if_ne_f hc dM_findBye_68 (tgt := 80) (by decide) ((nsub_z (by omega) (by omega)).mpr h2) ?_
            refine r_iload hc dM_findBye_71 rfl ?_
            by_cases h3 : f_sc G n r ≤ f_sc G n c
            · refine r_if_gt_f hc dM_findBye_73 (tgt := 80) (by decide) (fun z => by have := (nsub_gt (by omega) (by omega)).mp z; omega) ?_
              refine Go.drop 3 (Go.drop 4 (Go.drop 5 ?_))
              exact hyes (by simp [bet, h2, h3])
            · refine r_if_gt_t hc dM_findBye_73 (tgt := 80) (by decide) ((nsub_gt (by omega) (by omega)).mpr (by omega)) ?_
              refine Go.drop 3 (Go.drop 4 (Go.drop 5 ?_))
              exact hno (by simp [bet, h2, h3])
          · refine r_if_ne_t hc dM_findBye_68 (tgt := 80) (by decide) (fun z => h2 ((nsub_z (by omega) (by omega)).mp z)) ?_
            refine Go.drop 3 (Go.drop 4 (Go.drop 5 ?_))
            exact hno (by simp [bet, h1, h2])
end
section
/-! PairedFieldModel.lineUp -/
theorem wu_at (w : Wd) (k i : Nat) (x : Int32) : wu w k i x k i = x := by simp [wu, upd]
theorem wu_o1 {w : Wd} {k k' i j : Nat} {x : Int32} (h : k' ≠ k) : wu w k i x k' j = w k' j := by simp [wu, h]
theorem wu_o2 {w : Wd} {k i j : Nat} {x : Int32} (h : j ≠ i) : wu w k i x k j = w k j := by simp [wu, upd, h]
theorem r_ldc {X : Cxt} {g : GG} {cc : ByteArray} {own : String} {ret : Option FieldType} {hx : List (Nat × Nat × Nat × Nat)} {d kc ks : Nat} {Q : State → Prop} {w : Wd} {pc : Nat} {lp : List (Option Value)} {st : List Value} {idx : Nat} {v : Int32} (hc : Ok X g cc own ret hx d) (hd : decode cc pc = .ok (.ldc idx, 2)) (hl : Cond.constant own idx v ∈ Ttab) (k : Go X g kc ks Q w (pc + 2) lp (.int v :: st)) : Go X g kc ks Q w pc lp st := by
  obtain ⟨p, l, e, R, s, m, args, below, meth, c⟩ := X
  intro ls H locs h1 h2 h3
  exact lv_ldc hc.1 hc.2.1 hc.2.2.1 (hc.2.2.2.1 _ hl) hd (k ls H locs h1 h2 h3)
theorem MRep.congr {w w1 : Wd} {G : Nat → Nat → Ce} {n : Nat} (h : MRep w G n) (h1 : w1 51 = w 51) (h2 : w1 52 = w 52) (h3 : w1 53 = w 53) : MRep w1 G n := fun r hr p hp => by rw [h1, h2, h3]; exact h r hr p hp
def byeOf (G : Nat → Nat → Ce) (n : Nat) (inn : Nat → Bool) (m : Nat) : Option Nat := if f_in inn m % 2 = 1 then f_fb G n inn m else none
def elOf (G : Nat → Nat → Ce) (n : Nat) (inn : Nat → Bool) (m p : Nat) : Bool := inn p && !decide (byeOf G n inn m = some p)
def ordOf (G : Nat → Nat → Ce) (n : Nat) (inn : Nat → Bool) (m : Nat) : List Nat := bk (f_sc G n) (elOf G n inn m) m 33
def bar (G : Nat → Nat → Ce) (n : Nat) (ap : Nat → Nat → Bool) (p q : Nat) : Bool := ap p q || f_mt G n p q
def cvOf (G : Nat → Nat → Ce) (n : Nat) (ap : Nat → Nat → Bool) (p q : Nat) : Nat := if bar G n ap p q then dpE else gco G n p q
theorem rf_len (f : Nat → Bool) {a b : Nat} (h : a ≤ b) : ((List.range a).filter f).length ≤ ((List.range b).filter f).length := by
  induction b with
  | zero => rw [Nat.le_zero.mp h]; exact Nat.le_refl _
  | succ b ih =>
    rcases Nat.lt_or_eq_of_le h with q | q
    · have := ih (by omega)
      rw [List.range_succ, List.filter_append, List.length_append]
      omega
    · rw [q]
      exact Nat.le_refl _
theorem bk_len (s : Nat → Nat) (el : Nat → Bool) (K : Nat) : ∀ n, (bk s el n K).length ≤ n
  | 0 => by
    have : bk s el 0 K = [] := by
      induction K with
      | zero => rfl
      | succ K ih => simp [bk, ih]
    rw [this]
    exact Nat.le_refl _
  | n + 1 => by
    have ih := bk_len s el K n
    by_cases h : el n = true ∧ s n < K
    · obtain ⟨A, B, h1, h2, -, -⟩ := bk_ins (s := s) h.1 h.2
      rw [h2]
      rw [h1] at ih
      simp at ih ⊢
      omega
    · rw [bk_skip (by
        cases he : el n with
        | false => exact Or.inl rfl
        | true => exact Or.inr (by have : ¬ s n < K := fun q => h ⟨he, q⟩
                                   omega))]
      omega
theorem bk_sorted (s : Nat → Nat) (el : Nat → Bool) (n : Nat) : ∀ K, (bk s el n K).Pairwise (fun x y => s y ≤ s x)
  | 0 => List.Pairwise.nil
  | K + 1 => by
    simp only [bk]
    rw [List.pairwise_append]
    refine ⟨?_, bk_sorted s el n K, ?_⟩
    · rw [List.pairwise_iff_forall_sublist]
      intro a b hab
      have ha : a ∈ (List.range n).filter (fun p => el p && s p == K) := hab.subset (by simp)
      have hb : b ∈ (List.range n).filter (fun p => el p && s p == K) := hab.subset (by simp)
      simp only [List.mem_filter, Bool.and_eq_true, beq_iff_eq] at ha hb
      omega
    · intro a ha b hb
      simp only [List.mem_filter, Bool.and_eq_true, beq_iff_eq] at ha
      have := (bk_mem.mp hb).2.2
      omega
theorem ord_mem {G : Nat → Nat → Ce} {n : Nat} {inn : Nat → Bool} {m i : Nat} (h : i < (ordOf G n inn m).length) : (ordOf G n inn m).getD i 0 < m ∧ elOf G n inn m ((ordOf G n inn m).getD i 0) = true := by
  have : (ordOf G n inn m).getD i 0 ∈ ordOf G n inn m := by
    rw [List.getD_eq_getElem?_getD, List.getElem?_eq_getElem h]
    exact List.getElem_mem h
  have := bk_mem.mp this
  exact ⟨this.1, this.2.1⟩
theorem ord_sorted {G : Nat → Nat → Ce} {n : Nat} {inn : Nat → Bool} {m i j : Nat} (hij : i < j) (h : j < (ordOf G n inn m).length) : f_sc G n ((ordOf G n inn m).getD j 0) ≤ f_sc G n ((ordOf G n inn m).getD i 0) := by
  have := List.pairwise_iff_getElem.mp (bk_sorted (f_sc G n) (elOf G n inn m) m 33) i j (by unfold ordOf at h; omega) h hij
  rw [List.getD_eq_getElem?_getD, List.getD_eq_getElem?_getD, List.getElem?_eq_getElem h, List.getElem?_eq_getElem (show i < (ordOf G n inn m).length by omega)]
  exact this
/-- the order as far as it is laid -/
def LInv (w w1 : Wd) (by_ : Option Nat) (P : List Nat) : Prop := (∀ k, k ≠ 48 → k ≠ 54 → w1 k = w k) ∧ (∀ j, j ≠ 9 → j ≠ 11 → w1 48 j = w 48 j) ∧ w1 48 11 = oI by_ ∧ w1 48 9 = nI P.length ∧ ∀ i, i < P.length → w1 54 i = nI (P.getD i 0)
theorem LInv.push {w w1 : Wd} {by_ : Option Nat} {P : List Nat} (h : LInv w w1 by_ P) (r : Nat) : LInv w (wu (wu w1 54 P.length (nI r)) 48 9 (nI P.length + nI 1)) by_ (P ++ [r]) := by
  obtain ⟨h1, h2, h3, h4, h5⟩ := h
  refine ⟨fun k k1 k2 => ?_, fun j j1 j2 => ?_, ?_, ?_, fun i hi => ?_⟩
  · rw [wu_ne k1, wu_ne k2]; exact h1 k k1 k2
  · rw [wu_o2 j1, wu_o1 (by decide)]; exact h2 j j1 j2
  · rw [wu_o2 (by decide), wu_o1 (by decide)]; exact h3
  · rw [wu_at, nI_add]; simp
  · rw [wu_o1 (by decide)]
    rw [List.length_append, List.length_singleton] at hi
    by_cases hr : i = P.length
    · subst hr
      rw [wu_at]
      simp
    · rw [wu_o2 hr, h5 i (by omega)]
      simp [List.getD_eq_getElem?_getD, List.getElem?_append_left (show i < P.length by omega)]
/-- what lineUp does -/
def LnUp (w w' : Wd) (G : Nat → Nat → Ce) (n : Nat) (ap : Nat → Nat → Bool) (inn : Nat → Bool) (m : Nat) (D : Nat → Nat → Prop) : Prop :=
  (∀ k, k ≠ 48 → k ≠ 54 → k ≠ 55 → w' k = w k) ∧ (∀ j, j ≠ 9 → j ≠ 11 → w' 48 j = w 48 j) ∧ w' 48 11 = oI (byeOf G n inn m) ∧ w' 48 9 = nI (ordOf G n inn m).length ∧
    (∀ i, i < (ordOf G n inn m).length → w' 54 i = nI ((ordOf G n inn m).getD i 0)) ∧
    ∀ a b, a < b → b < (ordOf G n inn m).length → D a b → w' 55 (12 * a + b) = nI (cvOf G n ap ((ordOf G n inn m).getD a 0) ((ordOf G n inn m).getD b 0))
def MKept (w : Wd) (ap : Nat → Nat → Bool) : Prop := ∀ p q, p < 12 → q < 12 → w 50 (12 * p + q) = bI (ap p q)
set_option maxHeartbeats 4000000 in
theorem cM_lineUp (l : Launch) (g : GG) (d : Nat) (w : Wd) (G : Nat → Nat → Ce) (n : Nat) (ap : Nat → Nat → Bool) (inn : Nat → Bool) (m : Nat) (hR : MRep w G n) (hT : GTold G n) (hn : n ≤ 16) (hcl : w 48 4 = nI n) (hI : MIn w inn m) (hm : m ≤ 12) (hpl : w 48 1 = nI m) (hK : MKept w ap) : Con l g yM_lineUp bM_lineUp 4 ((none : Option Jvm.ClassFile.FieldType)) [] (d + 4) 0 0 [.ref (g.1 48)] w (Rp (fun v w' => v = none ∧ LnUp w w' G n ap inn m (fun _ _ => True))) := by
  intro X hl ha hm' hk hn' hc
  subst hl
  obtain ⟨Q, hQ⟩ : ∃ Q, Q = Fen X g 0 0 (Rp (fun v w' => v = none ∧ LnUp w w' G n ap inn m (fun _ _ => True))) := ⟨_, rfl⟩
  rw [← hQ]
  have hlen : (ordOf G n inn m).length ≤ m := bk_len _ _ _ _
  -- the costs, row by row
  have hcost : ∀ w1, LnUp w w1 G n ap inn m (fun _ _ => False) → Go X g 0 0 Q w1 102 [some (.ref (g.1 48)), none, none, none] [] := by
    intro w1 hw1
    refine r_iconst hc dM_lineUp_102 (nI 0) (by decide) ?_
    refine r_istore_n hc dM_lineUp_103 (Nat.le_of_ble_eq_true rfl) ?_
    have hw1' : LnUp w w1 G n ap inn m (fun a _ => a < 0) := ⟨hw1.1, hw1.2.1, hw1.2.2.1, hw1.2.2.2.1, hw1.2.2.2.2.1, fun a b _ _ h => by omega⟩
    clear hw1
    revert w1
    refine lp_up (P := fun i => ∀ w1, LnUp w w1 G n ap inn m (fun a _ => a < i) → Go X g 0 0 Q w1 104 [some (.ref (g.1 48)), some (.int (nI i)), none, none] []) (n := (ordOf G n inn m).length) ?_ 0 (Nat.zero_le _)
    intro i hi ih w1 hw1
    refine r_iload_n hc dM_lineUp_104 rfl ?_
    refine r_aload_n hc dM_lineUp_105 rfl ?_
    refine gM_100 hc dM_lineUp_106 ?_
    rw [hw1.2.2.2.1]
    refine r_ic_ge hc dM_lineUp_109 (tgt := 221) (by decide) (fun h => ?_) (fun h => ?_)
    · have hi2 : i = (ordOf G n inn m).length := by have := nle_to h (by omega) (by omega); omega
      subst hQ
      exact r_vret hc dM_lineUp_221 ⟨rfl, hw1.1, hw1.2.1, hw1.2.2.1, hw1.2.2.2.1, hw1.2.2.2.2.1, fun a b hab hb _ => hw1.2.2.2.2.2 a b hab hb (by omega)⟩
    · have hi2 : i < (ordOf G n inn m).length := nle_of h (by omega) (by omega)
      have ih := ih hi2
      refine r_iload_n hc dM_lineUp_112 rfl ?_
      refine r_iconst hc dM_lineUp_113 (nI 1) (by decide) ?_
      refine r_iadd hc dM_lineUp_114 ?_
      rw [nI_add]
      refine r_istore_n hc dM_lineUp_115 (Nat.le_of_ble_eq_true rfl) ?_
      have hw1' : LnUp w w1 G n ap inn m (fun a b => a < i ∨ (a = i ∧ b < i + 1)) := ⟨hw1.1, hw1.2.1, hw1.2.2.1, hw1.2.2.2.1, hw1.2.2.2.2.1, fun a b q1 q2 q3 => hw1.2.2.2.2.2 a b q1 q2 (by omega)⟩
      clear hw1
      revert w1
      refine lp_up (P := fun j => i + 1 ≤ j → ∀ w1, LnUp w w1 G n ap inn m (fun a b => a < i ∨ (a = i ∧ b < j)) → Go X g 0 0 Q w1 116 [some (.ref (g.1 48)), some (.int (nI i)), some (.int (nI j)), none] []) (n := (ordOf G n inn m).length) ?_ (i + 1) (by omega) (Nat.le_refl _)
      intro j hj ihj hij w1 hw1
      refine r_iload_n hc dM_lineUp_116 rfl ?_
      refine r_aload_n hc dM_lineUp_117 rfl ?_
      refine gM_100 hc dM_lineUp_118 ?_
      rw [hw1.2.2.2.1]
      refine r_ic_ge hc dM_lineUp_121 (tgt := 215) (by decide) (fun h2 => ?_) (fun h2 => ?_)
      · have hj2 : j = (ordOf G n inn m).length := by have := nle_to h2 (by omega) (by omega); omega
        refine r_iinc hc dM_lineUp_215 rfl ?_
        refine r_goto hc dM_lineUp_218 (tgt := 104) (by decide) ?_
        simp only [← nI_add] at ih
        refine Go.drop 2 ?_
        exact ih w1 ⟨hw1.1, hw1.2.1, hw1.2.2.1, hw1.2.2.2.1, hw1.2.2.2.2.1, fun a b q1 q2 q3 => hw1.2.2.2.2.2 a b q1 q2 (by omega)⟩
      · have hj2 : j < (ordOf G n inn m).length := nle_of h2 (by omega) (by omega)
        have ihj := ihj hj2 (by omega)
        obtain ⟨e1, e2, e3, e4, e5, e6⟩ := hw1
        obtain ⟨p1, -⟩ := ord_mem hi2
        obtain ⟨p2, -⟩ := ord_mem hj2
        have hsrt := ord_sorted hij hj2
        have o1 := e5 i hi2
        have o2 := e5 j hj2
        generalize hp : (ordOf G n inn m).getD i 0 = p at p1 hsrt o1
        generalize hq : (ordOf G n inn m).getD j 0 = q at p2 hsrt o2
        have hR1 : MRep w1 G n := hR.congr (e1 51 (by decide) (by decide) (by decide)) (e1 52 (by decide) (by decide) (by decide)) (e1 53 (by decide) (by decide) (by decide))
        have hcl1 : w1 48 4 = nI n := by rw [e2 4 (by decide) (by decide)]; exact hcl
        -- behind the choice of the cost
        have hput : Go X g 0 0 Q w1 208 [some (.ref (g.1 48)), some (.int (nI i)), some (.int (nI j)), none] [.int (nI (cvOf G n ap p q)), .int (nI (12 * i + j)), .ref (g.1 55)] := by
          refine r_iastN hc dM_lineUp_208 rfl (by first | omega | (show _ < 12; omega) | (show _ < 204; omega) | (show _ < 144; omega) | (show _ < 2048; omega) | (show _ < 4096; omega) | (show _ < 16; omega)) ?_
          refine r_iinc hc dM_lineUp_209 rfl ?_
          refine r_goto hc dM_lineUp_212 (tgt := 116) (by decide) ?_
          simp only [← nI_add] at ihj
          refine ihj _ ⟨fun k k1 k2 k3 => ?_, fun b b1 b2 => ?_, ?_, ?_, fun a q1 => ?_, fun a b q1 q2 q3 => ?_⟩
          · rw [wu_ne k3]; exact e1 k k1 k2 k3
          · rw [wu_o1 (by decide)]; exact e2 b b1 b2
          · rw [wu_o1 (by decide)]; exact e3
          · rw [wu_o1 (by decide)]; exact e4
          · rw [wu_o1 (by decide)]; exact e5 a q1
          · by_cases hab : a = i ∧ b = j
            · obtain ⟨rfl, rfl⟩ := hab
              rw [wu_at, hp, hq]
            · rw [wu_o2 (by omega)]
              exact e6 a b q1 q2 (by omega)
        have hcan : ∀ v : Int32, v = bI (!bar G n ap p q) → Go X g 0 0 Q w1 172 [some (.ref (g.1 48)), some (.int (nI i)), some (.int (nI j)), none] [.int v] := by
          intro v hv
          refine r_istore_n hc dM_lineUp_172 (Nat.le_of_ble_eq_true rfl) ?_
          refine r_aload_n hc dM_lineUp_173 rfl ?_
          refine gM_29 hc dM_lineUp_174 ?_
          refine r_bipush hc dM_lineUp_177 (nI 12) (by decide) ?_
          refine r_iload_n hc dM_lineUp_179 rfl ?_
          refine r_imul hc dM_lineUp_180 ?_
          refine r_iload_n hc dM_lineUp_181 rfl ?_
          refine r_iadd hc dM_lineUp_182 ?_
          rw [ix12]
          refine r_iload_n hc dM_lineUp_183 rfl ?_
          subst hv
          cases hb : bar G n ap p q with
          | true =>
            refine r_if_eq_t hc dM_lineUp_184 (tgt := 206) (by decide) rfl ?_
            refine r_ldc hc dM_lineUp_206 (v := nI dpE) (t4_mem 11 rfl rfl) ?_
            refine Go.drop 3 ?_
            simp only [cvOf, hb, if_true] at hput
            exact hput
          | false =>
            refine r_if_eq_f hc dM_lineUp_184 (tgt := 206) (by decide) (by decide) ?_
            refine r_aload_n hc dM_lineUp_187 rfl ?_
            refine r_aload_n hc dM_lineUp_188 rfl ?_
            refine gM_26 hc dM_lineUp_189 ?_
            refine r_iload_n hc dM_lineUp_192 rfl ?_
            refine r_ialdN hc dM_lineUp_193 rfl (by first | omega | (show _ < 12; omega) | (show _ < 204; omega) | (show _ < 144; omega) | (show _ < 2048; omega) | (show _ < 4096; omega) | (show _ < 16; omega)) ?_
            rw [o1]
            refine r_aload_n hc dM_lineUp_194 rfl ?_
            refine gM_26 hc dM_lineUp_195 ?_
            refine r_iload_n hc dM_lineUp_198 rfl ?_
            refine r_ialdN hc dM_lineUp_199 rfl (by first | omega | (show _ < 12; omega) | (show _ < 204; omega) | (show _ < 144; omega) | (show _ < 2048; omega) | (show _ < 4096; omega) | (show _ < 16; omega)) ?_
            rw [o2]
            refine kM_106r hc dM_lineUp_200 (cM_costOf _ g d w1 G n p q hR1 hT hn hcl1 (by omega) (by omega) hsrt) (by omega) (Nat.le_of_ble_eq_true rfl) ?_
            rintro _ _ ⟨rfl, rfl⟩
            refine r_goto hc dM_lineUp_203 (tgt := 208) (by decide) ?_
            refine Go.drop 3 ?_
            simp only [cvOf, hb, Bool.false_eq_true, if_false] at hput
            exact hput
        refine r_aload_n hc dM_lineUp_124 rfl ?_
        refine gM_13 hc dM_lineUp_125 ?_
        refine r_bipush hc dM_lineUp_128 (nI 12) (by decide) ?_
        refine r_aload_n hc dM_lineUp_130 rfl ?_
        refine gM_26 hc dM_lineUp_131 ?_
        refine r_iload_n hc dM_lineUp_134 rfl ?_
        refine r_ialdN hc dM_lineUp_135 rfl (by first | omega | (show _ < 12; omega) | (show _ < 204; omega) | (show _ < 144; omega) | (show _ < 2048; omega) | (show _ < 4096; omega) | (show _ < 16; omega)) ?_
        rw [o1]
        refine r_imul hc dM_lineUp_136 ?_
        refine r_aload_n hc dM_lineUp_137 rfl ?_
        refine gM_26 hc dM_lineUp_138 ?_
        refine r_iload_n hc dM_lineUp_141 rfl ?_
        refine r_ialdN hc dM_lineUp_142 rfl (by first | omega | (show _ < 12; omega) | (show _ < 204; omega) | (show _ < 144; omega) | (show _ < 2048; omega) | (show _ < 4096; omega) | (show _ < 16; omega)) ?_
        rw [o2]
        refine r_iadd hc dM_lineUp_143 ?_
        rw [ix12]
        refine r_zaldN hc dM_lineUp_144 rfl (by first | omega | (show _ < 12; omega) | (show _ < 204; omega) | (show _ < 144; omega) | (show _ < 2048; omega) | (show _ < 4096; omega) | (show _ < 16; omega)) ?_
        rw [show w1 50 = w 50 from e1 50 (by decide) (by decide) (by decide), hK p q (by omega) (by omega)]
        cases hap : ap p q with
        | true =>
          refine r_if_ne_t hc dM_lineUp_145 (tgt := 171) (by decide) (by decide) ?_
          refine r_iconst hc dM_lineUp_171 (nI 0) (by decide) ?_
          exact hcan _ (by simp [bar, hap, bI]; rfl)
        | false =>
          refine r_if_ne_f hc dM_lineUp_145 (tgt := 171) (by decide) rfl ?_
          refine r_aload_n hc dM_lineUp_148 rfl ?_
          refine r_aload_n hc dM_lineUp_149 rfl ?_
          refine gM_26 hc dM_lineUp_150 ?_
          refine r_iload_n hc dM_lineUp_153 rfl ?_
          refine r_ialdN hc dM_lineUp_154 rfl (by first | omega | (show _ < 12; omega) | (show _ < 204; omega) | (show _ < 144; omega) | (show _ < 2048; omega) | (show _ < 4096; omega) | (show _ < 16; omega)) ?_
          rw [o1]
          refine r_aload_n hc dM_lineUp_155 rfl ?_
          refine gM_26 hc dM_lineUp_156 ?_
          refine r_iload_n hc dM_lineUp_159 rfl ?_
          refine r_ialdN hc dM_lineUp_160 rfl (by first | omega | (show _ < 12; omega) | (show _ < 204; omega) | (show _ < 144; omega) | (show _ < 2048; omega) | (show _ < 4096; omega) | (show _ < 16; omega)) ?_
          rw [o2]
          refine kM_103r hc dM_lineUp_161 (cM_hadEachOther _ g d w1 G n p q hR1 hn hcl1 (by omega) (by omega)) (by omega) (Nat.le_of_ble_eq_true rfl) ?_
          rintro _ _ ⟨rfl, rfl⟩
          cases hmt : f_mt G n p q with
          | true =>
            refine r_if_ne_t hc dM_lineUp_164 (tgt := 171) (by decide) (by decide) ?_
            refine r_iconst hc dM_lineUp_171 (nI 0) (by decide) ?_
            exact hcan _ (by simp [bar, hap, hmt, bI]; rfl)
          | false =>
            refine r_if_ne_f hc dM_lineUp_164 (tgt := 171) (by decide) rfl ?_
            refine r_iconst hc dM_lineUp_167 (nI 1) (by decide) ?_
            refine r_goto hc dM_lineUp_168 (tgt := 172) (by decide) ?_
            exact hcan _ (by simp [bar, hap, hmt, bI]; rfl)
  -- the order, score by score
  have hord : ∀ K, K ≤ 33 → ∀ w1 P, LInv w w1 (byeOf G n inn m) P → P ++ bk (f_sc G n) (elOf G n inn m) m K = ordOf G n inn m → Go X g 0 0 Q w1 30 [some (.ref (g.1 48)), some (.int (nI K - nI 1)), none, none] [] := by
    refine lp_dn (P := fun K => K ≤ 33 → ∀ w1 P, LInv w w1 (byeOf G n inn m) P → P ++ bk (f_sc G n) (elOf G n inn m) m K = ordOf G n inn m → Go X g 0 0 Q w1 30 [some (.ref (g.1 48)), some (.int (nI K - nI 1)), none, none] []) ?_
    intro K ihK hK33 w1 P hw1 hP
    cases K with
    | zero =>
      refine r_iload_n hc dM_lineUp_30 rfl ?_
      refine r_if_lt_t hc dM_lineUp_31 (tgt := 102) (by decide) (by decide) ?_
      refine Go.drop 1 ?_
      have hPL : P = ordOf G n inn m := by simpa [bk] using hP
      subst hPL
      exact hcost w1 ⟨fun k k1 k2 _ => hw1.1 k k1 k2, hw1.2.1, hw1.2.2.1, hw1.2.2.2.1, hw1.2.2.2.2, fun a b _ _ h => h.elim⟩
    | succ K =>
      have ihK := ihK K rfl (by omega)
      rw [show nI (K + 1) - nI 1 = nI K from nI_pred K]
      refine r_iload_n hc dM_lineUp_30 rfl ?_
      refine r_if_lt_f hc dM_lineUp_31 (tgt := 102) (by decide) (nI_pos (by omega)) ?_
      refine r_iconst hc dM_lineUp_34 (nI 0) (by decide) ?_
      refine r_istore_n hc dM_lineUp_35 (Nat.le_of_ble_eq_true rfl) ?_
      refine lp_up (P := fun r => ∀ w1 P', LInv w w1 (byeOf G n inn m) P' → P' = P ++ (List.range r).filter (fun p => elOf G n inn m p && f_sc G n p == K) → Go X g 0 0 Q w1 36 [some (.ref (g.1 48)), some (.int (nI K)), some (.int (nI r)), none] []) (n := m) ?_ 0 (Nat.zero_le _) w1 P hw1 (by simp)
      clear hw1 w1
      intro r hr ihr w1 P' hw1 hP'
      refine r_iload_n hc dM_lineUp_36 rfl ?_
      refine r_aload_n hc dM_lineUp_37 rfl ?_
      refine gM_44 hc dM_lineUp_38 ?_
      rw [show w1 48 1 = nI m by rw [hw1.2.1 1 (by decide) (by decide)]; exact hpl]
      refine r_ic_ge hc dM_lineUp_41 (tgt := 96) (by decide) (fun h => ?_) (fun h => ?_)
      · have hr2 : r = m := by have := nle_to h (by omega) (by omega); omega
        subst hr2
        refine r_iinc hc dM_lineUp_96 rfl ?_
        refine r_goto hc dM_lineUp_99 (tgt := 30) (by decide) ?_
        rw [ii_m1]
        refine Go.drop 2 ?_
        exact ihK w1 P' hw1 (by rw [hP', List.append_assoc]; exact hP)
      · have hr2 : r < m := nle_of h (by omega) (by omega)
        have ihr := ihr hr2
        have hskip : (elOf G n inn m r && f_sc G n r == K) = false → Go X g 0 0 Q w1 90 [some (.ref (g.1 48)), some (.int (nI K)), some (.int (nI r)), none] [] := by
          intro hs
          refine r_iinc hc dM_lineUp_90 rfl ?_
          refine r_goto hc dM_lineUp_93 (tgt := 36) (by decide) ?_
          simp only [← nI_add] at ihr
          exact ihr w1 P' hw1 (by rw [hP', List.range_succ, List.filter_append]; simp [hs])
        refine r_aload_n hc dM_lineUp_44 rfl ?_
        refine gM_7 hc dM_lineUp_45 ?_
        refine r_iload_n hc dM_lineUp_48 rfl ?_
        refine r_zaldN hc dM_lineUp_49 rfl (by first | omega | (show _ < 12; omega) | (show _ < 204; omega) | (show _ < 144; omega) | (show _ < 2048; omega) | (show _ < 4096; omega) | (show _ < 16; omega)) ?_
        rw [show w1 49 = w 49 from hw1.1 49 (by decide) (by decide), hI r hr2]
        cases hi : inn r with
        | false =>
          refine r_if_eq_t hc dM_lineUp_50 (tgt := 90) (by decide) rfl ?_
          exact hskip (by simp [elOf, hi])
        | true =>
          refine r_if_eq_f hc dM_lineUp_50 (tgt := 90) (by decide) (by decide) ?_
          refine r_iload_n hc dM_lineUp_53 rfl ?_
          refine r_aload_n hc dM_lineUp_54 rfl ?_
          refine gM_97 hc dM_lineUp_55 ?_
          rw [hw1.2.2.1]
          by_cases hbr : byeOf G n inn m = some r
          · rw [hbr]
            refine r_ic_eq_t hc dM_lineUp_58 (tgt := 90) (by decide) rfl ?_
            exact hskip (by simp [elOf, hbr])
          · have hne : ¬ nI r = oI (byeOf G n inn m) := by
              intro z
              apply hbr
              cases hb : byeOf G n inn m with
              | none =>
                rw [hb] at z
                have := nI_pos (n := r) (by omega)
                rw [z] at this
                exact absurd (by decide) this
              | some c =>
                rw [hb] at z
                have hlt : c < m := by
                  unfold byeOf at hb
                  split at hb
                  · exact (f_fb_lt hb).1
                  · cases hb
                have : r = c := (nI_eq (by omega) (by omega)).mp z
                rw [this]
            refine r_ic_eq_f hc dM_lineUp_58 (tgt := 90) (by decide) hne ?_
            refine r_aload_n hc dM_lineUp_61 rfl ?_
            refine r_iload_n hc dM_lineUp_62 rfl ?_
            refine kM_70r hc dM_lineUp_63 (cM_scoreOf _ g d w1 G n r (hR.congr (hw1.1 51 (by decide) (by decide)) (hw1.1 52 (by decide) (by decide)) (hw1.1 53 (by decide) (by decide))) hT hn (by rw [hw1.2.1 4 (by decide) (by decide)]; exact hcl) (by omega)) (by omega) (Nat.le_of_ble_eq_true rfl) ?_
            rintro _ _ ⟨rfl, rfl⟩
            refine r_iload_n hc dM_lineUp_66 rfl ?_
            have hsc := f_sc_le2 (p := r) hT (by omega)
            by_cases hs : f_sc G n r = K
            · refine r_ic_ne_f hc dM_lineUp_67 (tgt := 90) (by decide) (by rw [hs]) ?_
              have hel : elOf G n inn m r = true := by simp [elOf, hi, hbr]
              have hl12 : P'.length < 12 := by
                have h1 := rf_len (fun p => elOf G n inn m p && f_sc G n p == K) (show r + 1 ≤ m by omega)
                rw [List.range_succ, List.filter_append] at h1
                simp [hel, hs] at h1
                have h2 := congrArg List.length hP
                simp [bk] at h2
                have h3 := congrArg List.length hP'
                simp at h3
                omega
              refine r_aload_n hc dM_lineUp_70 rfl ?_
              refine gM_26 hc dM_lineUp_71 ?_
              refine r_aload_n hc dM_lineUp_74 rfl ?_
              refine gM_100 hc dM_lineUp_75 ?_
              rw [hw1.2.2.2.1]
              refine r_iload_n hc dM_lineUp_78 rfl ?_
              refine r_iastN hc dM_lineUp_79 rfl (by first | omega | (show _ < 12; omega) | (show _ < 204; omega) | (show _ < 144; omega) | (show _ < 2048; omega) | (show _ < 4096; omega) | (show _ < 16; omega)) ?_
              refine r_aload_n hc dM_lineUp_80 rfl ?_
              refine r_dup hc dM_lineUp_81 rfl ?_
              refine gM_100 hc dM_lineUp_82 ?_
              rw [show wu w1 54 P'.length (nI r) 48 9 = nI P'.length by rw [wu_o1 (by decide)]; exact hw1.2.2.2.1]
              refine r_iconst hc dM_lineUp_85 (nI 1) (by decide) ?_
              refine r_iadd hc dM_lineUp_86 ?_
              refine pM_100 hc dM_lineUp_87 ?_
              refine r_iinc hc dM_lineUp_90 rfl ?_
              refine r_goto hc dM_lineUp_93 (tgt := 36) (by decide) ?_
              simp only [← nI_add] at ihr
              exact ihr _ (P' ++ [r]) (hw1.push r) (by rw [hP', List.range_succ, List.filter_append]; simp [hel, hs])
            · refine r_ic_ne_t hc dM_lineUp_67 (tgt := 90) (by decide) (fun z => hs ((nI_eq (by omega) (by omega)).mp z)) ?_
              exact hskip (by simp [hs])
  have hgo : ∀ o : Option Nat, o = byeOf G n inn m → Go X g 0 0 Q w 19 [some (.ref (g.1 48)), none, none, none] [.int (oI o), .ref (g.1 48)] := by
    intro o ho
    refine pM_97 hc dM_lineUp_19 ?_
    refine r_aload_n hc dM_lineUp_22 rfl ?_
    refine r_iconst hc dM_lineUp_23 (nI 0) (by decide) ?_
    refine pM_100 hc dM_lineUp_24 ?_
    refine r_bipush hc dM_lineUp_27 (nI 32) (by decide) ?_
    refine r_istore_n hc dM_lineUp_29 (Nat.le_of_ble_eq_true rfl) ?_
    refine hord 33 (Nat.le_refl _) _ [] ⟨fun k k1 k2 => ?_, fun j j1 j2 => ?_, ?_, ?_, fun i hi => by simp at hi⟩ rfl
    · rw [wu_ne k1, wu_ne k1]
    · rw [wu_o2 j1, wu_o2 j2]
    · rw [wu_o2 (by decide), wu_at, ho]
    · rw [wu_at]; rfl
  refine r_aload_n hc dM_lineUp_0 rfl ?_
  refine r_aload_n hc dM_lineUp_1 rfl ?_
  refine kM_90r hc dM_lineUp_2 (cM_inMany _ g d w inn m hI hm hpl) (by omega) (Nat.le_of_ble_eq_true rfl) ?_
  rintro _ _ ⟨rfl, rfl⟩
  have hfm := f_in_le inn m
  refine r_iconst hc dM_lineUp_5 (nI 2) (by decide) ?_
  refine r_irem hc dM_lineUp_6 (by decide) ?_
  rw [rem2 (by omega)]
  refine r_iconst hc dM_lineUp_7 (nI 1) (by decide) ?_
  by_cases hodd : f_in inn m % 2 = 1
  · rw [hodd]
    refine r_ic_ne_f hc dM_lineUp_8 (tgt := 18) (by decide) rfl ?_
    refine r_aload_n hc dM_lineUp_11 rfl ?_
    refine kM_94r hc dM_lineUp_12 (cM_findBye _ g d w G n inn m hR hT hn hcl hI hm hpl) (by omega) (Nat.le_of_ble_eq_true rfl) ?_
    rintro _ _ ⟨rfl, rfl⟩
    refine r_goto hc dM_lineUp_15 (tgt := 19) (by decide) ?_
    exact hgo _ (by rw [byeOf, if_pos hodd])
  · rw [show f_in inn m % 2 = 0 by omega]
    refine r_ic_ne_t hc dM_lineUp_8 (tgt := 18) (by decide) (by decide) ?_
    refine r_iconst hc dM_lineUp_18 (-1) (by decide) ?_
    exact hgo none (by rw [byeOf, if_neg hodd])
end
