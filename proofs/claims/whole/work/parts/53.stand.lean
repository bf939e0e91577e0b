/-! PairedField.Standing: who is before whom, colours, costs -/
theorem nlt_to {a b : Nat} (h : nI a < nI b) (ha : a < 2 ^ 31) (hb : b < 2 ^ 31) : a < b := nle_of (Int32.not_le.mpr h) hb ha
def obB (G : Nat → Nat → Ce) (n p q : Nat) : Bool := decide (f_sc G n q < f_sc G n p) || (decide (f_sc G n p = f_sc G n q) && decide (p < q))
theorem cS_isBeforeInOrder (l : Launch) (g : GG) (d : Nat) (w : Wd) (G : Nat → Nat → Ce) (n p q : Nat) (hS : SRep w G n) (hT : GTold G n) (hn : n ≤ 16) (hp : p < 12) (hq : q < 12) : Con l g yS_isBeforeInOrder bS_isBeforeInOrder 3 ((some .boolean)) [] d 0 0 [.ref (g.1 20), .int (nI p), .int (nI q)] w (Rp (An (some (.int (bI (obB G n p q)))) w)) := by
  intro X hl ha hm' hk hn' hc
  subst hl
  have s1 := f_sc_le2 hT hp
  have s2 := f_sc_le2 hT hq
  refine r_aload_n hc dS_isBeforeInOrder_0 rfl ?_
  refine gS_9 hc dS_isBeforeInOrder_1 ?_
  refine r_iload_n hc dS_isBeforeInOrder_4 rfl ?_
  refine r_ialdN hc dS_isBeforeInOrder_5 rfl (by first | omega | (show _ < 12; omega) | (show _ < 204; omega) | (show _ < 144; omega) | (show _ < 2048; omega) | (show _ < 4096; omega) | (show _ < 16; omega)) ?_
  refine r_aload_n hc dS_isBeforeInOrder_6 rfl ?_
  refine gS_9 hc dS_isBeforeInOrder_7 ?_
  refine r_iload_n hc dS_isBeforeInOrder_10 rfl ?_
  refine r_ialdN hc dS_isBeforeInOrder_11 rfl (by first | omega | (show _ < 12; omega) | (show _ < 204; omega) | (show _ < 144; omega) | (show _ < 2048; omega) | (show _ < 4096; omega) | (show _ < 16; omega)) ?_
  rw [(hS p hp).1.1, (hS q hq).1.1]
  by_cases he : f_sc G n p = f_sc G n q
  · refine r_ic_eq_t hc dS_isBeforeInOrder_12 (tgt := 38) (by decide) (by rw [he]) ?_
    refine r_iload_n hc dS_isBeforeInOrder_38 rfl ?_
    refine r_iload_n hc dS_isBeforeInOrder_39 rfl ?_
    by_cases h : p < q
    · refine r_ic_ge_f hc dS_isBeforeInOrder_40 (tgt := 47) (by decide) (nI_ge h (by omega)) ?_
      refine r_iconst hc dS_isBeforeInOrder_43 (nI 1) (by decide) ?_
      refine r_goto hc dS_isBeforeInOrder_44 (tgt := 48) (by decide) ?_
      exact r_zret hc dS_isBeforeInOrder_48 rfl ⟨by rw [show obB G n p q = true by simp [obB, he, h]]; rfl, rfl⟩
    · refine r_ic_ge_t hc dS_isBeforeInOrder_40 (tgt := 47) (by decide) (nI_le (by omega) (by omega)) ?_
      refine r_iconst hc dS_isBeforeInOrder_47 (nI 0) (by decide) ?_
      exact r_zret hc dS_isBeforeInOrder_48 rfl ⟨by rw [show obB G n p q = false by simp [obB, he]; omega]; rfl, rfl⟩
  · refine r_ic_eq_f hc dS_isBeforeInOrder_12 (tgt := 38) (by decide) (fun z => he (by rw [nI_eq (by omega) (by omega)] at z; exact z)) ?_
    refine r_aload_n hc dS_isBeforeInOrder_15 rfl ?_
    refine gS_9 hc dS_isBeforeInOrder_16 ?_
    refine r_iload_n hc dS_isBeforeInOrder_19 rfl ?_
    refine r_ialdN hc dS_isBeforeInOrder_20 rfl (by first | omega | (show _ < 12; omega) | (show _ < 204; omega) | (show _ < 144; omega) | (show _ < 2048; omega) | (show _ < 4096; omega) | (show _ < 16; omega)) ?_
    refine r_aload_n hc dS_isBeforeInOrder_21 rfl ?_
    refine gS_9 hc dS_isBeforeInOrder_22 ?_
    refine r_iload_n hc dS_isBeforeInOrder_25 rfl ?_
    refine r_ialdN hc dS_isBeforeInOrder_26 rfl (by first | omega | (show _ < 12; omega) | (show _ < 204; omega) | (show _ < 144; omega) | (show _ < 2048; omega) | (show _ < 4096; omega) | (show _ < 16; omega)) ?_
    rw [(hS p hp).1.1, (hS q hq).1.1]
    by_cases h : f_sc G n q < f_sc G n p
    · refine r_ic_le_f hc dS_isBeforeInOrder_27 (tgt := 34) (by decide) (nI_ge h (by omega)) ?_
      refine r_iconst hc dS_isBeforeInOrder_30 (nI 1) (by decide) ?_
      refine r_goto hc dS_isBeforeInOrder_31 (tgt := 48) (by decide) ?_
      exact r_zret hc dS_isBeforeInOrder_48 rfl ⟨by rw [show obB G n p q = true by simp [obB, h]]; rfl, rfl⟩
    · refine r_ic_le_t hc dS_isBeforeInOrder_27 (tgt := 34) (by decide) (nI_le (by omega) (by omega)) ?_
      refine r_iconst hc dS_isBeforeInOrder_34 (nI 0) (by decide) ?_
      refine r_goto hc dS_isBeforeInOrder_35 (tgt := 48) (by decide) ?_
      exact r_zret hc dS_isBeforeInOrder_48 rfl ⟨by rw [show obB G n p q = false by simp [obB, he]; omega]; rfl, rfl⟩
theorem cS_getsByeBefore (l : Launch) (g : GG) (d : Nat) (w : Wd) (G : Nat → Nat → Ce) (n p q : Nat) (hS : SRep w G n) (hT : GTold G n) (hn : n ≤ 16) (hp : p < 12) (hqp : q < p) : Con l g yS_getsByeBefore bS_getsByeBefore 3 ((some .boolean)) [] d 0 0 [.ref (g.1 20), .int (nI p), .int (nI q)] w (Rp (An (some (.int (bI (bet G n p q)))) w)) := by
  intro X hl ha hm' hk hn' hc
  subst hl
  have hq : q < 12 := by omega
  have s1 := f_sc_le2 hT hp
  have s2 := f_sc_le2 hT hq
  have y1 := f_by_le (G := G) n p
  have y2 := f_by_le (G := G) n q
  refine r_aload_n hc dS_getsByeBefore_0 rfl ?_
  refine gS_27 hc dS_getsByeBefore_1 ?_
  refine r_iload_n hc dS_getsByeBefore_4 rfl ?_
  refine r_ialdN hc dS_getsByeBefore_5 rfl (by first | omega | (show _ < 12; omega) | (show _ < 204; omega) | (show _ < 144; omega) | (show _ < 2048; omega) | (show _ < 4096; omega) | (show _ < 16; omega)) ?_
  refine r_aload_n hc dS_getsByeBefore_6 rfl ?_
  refine gS_27 hc dS_getsByeBefore_7 ?_
  refine r_iload_n hc dS_getsByeBefore_10 rfl ?_
  refine r_ialdN hc dS_getsByeBefore_11 rfl (by first | omega | (show _ < 12; omega) | (show _ < 204; omega) | (show _ < 144; omega) | (show _ < 2048; omega) | (show _ < 4096; omega) | (show _ < 16; omega)) ?_
  rw [(hS p hp).1.2.2.2.1, (hS q hq).1.2.2.2.1]
  by_cases hb : f_by G n p = f_by G n q
  · refine r_ic_eq_t hc dS_getsByeBefore_12 (tgt := 36) (by decide) (by rw [hb]) ?_
    refine r_aload_n hc dS_getsByeBefore_36 rfl ?_
    refine gS_9 hc dS_getsByeBefore_37 ?_
    refine r_iload_n hc dS_getsByeBefore_40 rfl ?_
    refine r_ialdN hc dS_getsByeBefore_41 rfl (by first | omega | (show _ < 12; omega) | (show _ < 204; omega) | (show _ < 144; omega) | (show _ < 2048; omega) | (show _ < 4096; omega) | (show _ < 16; omega)) ?_
    refine r_aload_n hc dS_getsByeBefore_42 rfl ?_
    refine gS_9 hc dS_getsByeBefore_43 ?_
    refine r_iload_n hc dS_getsByeBefore_46 rfl ?_
    refine r_ialdN hc dS_getsByeBefore_47 rfl (by first | omega | (show _ < 12; omega) | (show _ < 204; omega) | (show _ < 144; omega) | (show _ < 2048; omega) | (show _ < 4096; omega) | (show _ < 16; omega)) ?_
    rw [(hS p hp).1.1, (hS q hq).1.1]
    by_cases he : f_sc G n p = f_sc G n q
    · refine r_ic_eq_t hc dS_getsByeBefore_48 (tgt := 74) (by decide) (by rw [he]) ?_
      refine r_iload_n hc dS_getsByeBefore_74 rfl ?_
      refine r_iload_n hc dS_getsByeBefore_75 rfl ?_
      refine r_ic_le_f hc dS_getsByeBefore_76 (tgt := 83) (by decide) (nI_ge hqp (by omega)) ?_
      refine r_iconst hc dS_getsByeBefore_79 (nI 1) (by decide) ?_
      refine r_goto hc dS_getsByeBefore_80 (tgt := 84) (by decide) ?_
      exact r_zret hc dS_getsByeBefore_84 rfl ⟨by rw [show bet G n p q = true by simp [bet, hb, he]]; rfl, rfl⟩
    · refine r_ic_eq_f hc dS_getsByeBefore_48 (tgt := 74) (by decide) (fun z => he (by rw [nI_eq (by omega) (by omega)] at z; exact z)) ?_
      refine r_aload_n hc dS_getsByeBefore_51 rfl ?_
      refine gS_9 hc dS_getsByeBefore_52 ?_
      refine r_iload_n hc dS_getsByeBefore_55 rfl ?_
      refine r_ialdN hc dS_getsByeBefore_56 rfl (by first | omega | (show _ < 12; omega) | (show _ < 204; omega) | (show _ < 144; omega) | (show _ < 2048; omega) | (show _ < 4096; omega) | (show _ < 16; omega)) ?_
      refine r_aload_n hc dS_getsByeBefore_57 rfl ?_
      refine gS_9 hc dS_getsByeBefore_58 ?_
      refine r_iload_n hc dS_getsByeBefore_61 rfl ?_
      refine r_ialdN hc dS_getsByeBefore_62 rfl (by first | omega | (show _ < 12; omega) | (show _ < 204; omega) | (show _ < 144; omega) | (show _ < 2048; omega) | (show _ < 4096; omega) | (show _ < 16; omega)) ?_
      rw [(hS p hp).1.1, (hS q hq).1.1]
      by_cases h : f_sc G n p < f_sc G n q
      · refine r_ic_ge_f hc dS_getsByeBefore_63 (tgt := 70) (by decide) (nI_ge h (by omega)) ?_
        refine r_iconst hc dS_getsByeBefore_66 (nI 1) (by decide) ?_
        refine r_goto hc dS_getsByeBefore_67 (tgt := 84) (by decide) ?_
        exact r_zret hc dS_getsByeBefore_84 rfl ⟨by rw [show bet G n p q = true by simp [bet, hb]; omega]; rfl, rfl⟩
      · refine r_ic_ge_t hc dS_getsByeBefore_63 (tgt := 70) (by decide) (nI_le (by omega) (by omega)) ?_
        refine r_iconst hc dS_getsByeBefore_70 (nI 0) (by decide) ?_
        refine r_goto hc dS_getsByeBefore_71 (tgt := 84) (by decide) ?_
        exact r_zret hc dS_getsByeBefore_84 rfl ⟨by rw [show bet G n p q = false by simp [bet, hb]; omega]; rfl, rfl⟩
  · refine r_ic_eq_f hc dS_getsByeBefore_12 (tgt := 36) (by decide) (fun z => hb (by rw [nI_eq (by omega) (by omega)] at z; exact z)) ?_
    refine r_aload_n hc dS_getsByeBefore_15 rfl ?_
    refine gS_27 hc dS_getsByeBefore_16 ?_
    refine r_iload_n hc dS_getsByeBefore_19 rfl ?_
    refine r_ialdN hc dS_getsByeBefore_20 rfl (by first | omega | (show _ < 12; omega) | (show _ < 204; omega) | (show _ < 144; omega) | (show _ < 2048; omega) | (show _ < 4096; omega) | (show _ < 16; omega)) ?_
    refine r_aload_n hc dS_getsByeBefore_21 rfl ?_
    refine gS_27 hc dS_getsByeBefore_22 ?_
    refine r_iload_n hc dS_getsByeBefore_25 rfl ?_
    refine r_ialdN hc dS_getsByeBefore_26 rfl (by first | omega | (show _ < 12; omega) | (show _ < 204; omega) | (show _ < 144; omega) | (show _ < 2048; omega) | (show _ < 4096; omega) | (show _ < 16; omega)) ?_
    rw [(hS p hp).1.2.2.2.1, (hS q hq).1.2.2.2.1]
    by_cases h : f_by G n p < f_by G n q
    · refine r_ic_ge_f hc dS_getsByeBefore_27 (tgt := 34) (by decide) (nI_ge h (by omega)) ?_
      refine r_iconst hc dS_getsByeBefore_30 (nI 1) (by decide) ?_
      refine r_goto hc dS_getsByeBefore_31 (tgt := 35) (by decide) ?_
      exact r_zret hc dS_getsByeBefore_35 rfl ⟨by rw [show bet G n p q = true by simp [bet, h]]; rfl, rfl⟩
    · refine r_ic_ge_t hc dS_getsByeBefore_27 (tgt := 34) (by decide) (nI_le (by omega) (by omega)) ?_
      refine r_iconst hc dS_getsByeBefore_34 (nI 0) (by decide) ?_
      exact r_zret hc dS_getsByeBefore_35 rfl ⟨by rw [show bet G n p q = false by simp [bet, hb]; omega]; rfl, rfl⟩
theorem cS_isBeforeInTable (l : Launch) (g : GG) (d : Nat) (w : Wd) (G : Nat → Nat → Ce) (n p q : Nat) (hS : SRep w G n) (hT : GTold G n) (hG : GOpp G n) (hn : n ≤ 16) (hp : p < 12) (hq : q < 12) : Con l g yS_isBeforeInTable bS_isBeforeInTable 3 ((some .boolean)) [] d 0 0 [.ref (g.1 20), .int (nI p), .int (nI q)] w (Rp (An (some (.int (bI (tbB G n p q)))) w)) := by
  intro X hl ha hm' hk hn' hc
  subst hl
  have s1 := f_sc_le2 hT hp
  have s2 := f_sc_le2 hT hq
  have u1 := bu_le hT hG p n (Nat.le_refl _)
  have u2 := bu_le hT hG q n (Nat.le_refl _)
  have v1 := be_le hT hp hG n (Nat.le_refl _)
  have v2 := be_le hT hq hG n (Nat.le_refl _)
  have x1 := wi_le (G := G) (p := p) n
  have x2 := wi_le (G := G) (p := q) n
  have qq := sq16 hn
  have hy : tbP G n p q → bI (tbB G n p q) = 1 := fun h => by rw [tbB_t.mpr h]; rfl
  have hz : ¬ tbP G n p q → bI (tbB G n p q) = 0 := fun h => by rw [tbB_f.mpr h]; rfl
  unfold tbP at hy hz
  generalize hB : bI (tbB G n p q) = B at hy hz ⊢
  refine r_aload_n hc dS_isBeforeInTable_0 rfl ?_
  refine gS_9 hc dS_isBeforeInTable_1 ?_
  refine r_iload_n hc dS_isBeforeInTable_4 rfl ?_
  refine r_ialdN hc dS_isBeforeInTable_5 rfl (by first | omega | (show _ < 12; omega) | (show _ < 204; omega) | (show _ < 144; omega) | (show _ < 2048; omega) | (show _ < 4096; omega) | (show _ < 16; omega)) ?_
  refine r_aload_n hc dS_isBeforeInTable_6 rfl ?_
  refine gS_9 hc dS_isBeforeInTable_7 ?_
  refine r_iload_n hc dS_isBeforeInTable_10 rfl ?_
  refine r_ialdN hc dS_isBeforeInTable_11 rfl (by first | omega | (show _ < 12; omega) | (show _ < 204; omega) | (show _ < 144; omega) | (show _ < 2048; omega) | (show _ < 4096; omega) | (show _ < 16; omega)) ?_
  rw [(hS p hp).1.1, (hS q hq).1.1]
  by_cases e1 : f_sc G n p = f_sc G n q
  · refine r_ic_eq_t hc dS_isBeforeInTable_12 (tgt := 36) (by decide) (by rw [e1]) ?_
    refine r_aload_n hc dS_isBeforeInTable_36 rfl ?_
    refine gS_18 hc dS_isBeforeInTable_37 ?_
    refine r_iload_n hc dS_isBeforeInTable_40 rfl ?_
    refine r_ialdN hc dS_isBeforeInTable_41 rfl (by first | omega | (show _ < 12; omega) | (show _ < 204; omega) | (show _ < 144; omega) | (show _ < 2048; omega) | (show _ < 4096; omega) | (show _ < 16; omega)) ?_
    refine r_aload_n hc dS_isBeforeInTable_42 rfl ?_
    refine gS_18 hc dS_isBeforeInTable_43 ?_
    refine r_iload_n hc dS_isBeforeInTable_46 rfl ?_
    refine r_ialdN hc dS_isBeforeInTable_47 rfl (by first | omega | (show _ < 12; omega) | (show _ < 204; omega) | (show _ < 144; omega) | (show _ < 2048; omega) | (show _ < 4096; omega) | (show _ < 16; omega)) ?_
    rw [(hS p hp).2.1, (hS q hq).2.1]
    by_cases e2 : f_bu G (f_sc G n) n p = f_bu G (f_sc G n) n q
    · refine r_ic_eq_t hc dS_isBeforeInTable_48 (tgt := 72) (by decide) (by rw [e2]) ?_
      refine r_aload_n hc dS_isBeforeInTable_72 rfl ?_
      refine gS_21 hc dS_isBeforeInTable_73 ?_
      refine r_iload_n hc dS_isBeforeInTable_76 rfl ?_
      refine r_ialdN hc dS_isBeforeInTable_77 rfl (by first | omega | (show _ < 12; omega) | (show _ < 204; omega) | (show _ < 144; omega) | (show _ < 2048; omega) | (show _ < 4096; omega) | (show _ < 16; omega)) ?_
      refine r_aload_n hc dS_isBeforeInTable_78 rfl ?_
      refine gS_21 hc dS_isBeforeInTable_79 ?_
      refine r_iload_n hc dS_isBeforeInTable_82 rfl ?_
      refine r_ialdN hc dS_isBeforeInTable_83 rfl (by first | omega | (show _ < 12; omega) | (show _ < 204; omega) | (show _ < 144; omega) | (show _ < 2048; omega) | (show _ < 4096; omega) | (show _ < 16; omega)) ?_
      rw [(hS p hp).2.2, (hS q hq).2.2]
      by_cases e3 : f_be G (f_sc G n) n p = f_be G (f_sc G n) n q
      · refine r_ic_eq_t hc dS_isBeforeInTable_84 (tgt := 108) (by decide) (by rw [e3]) ?_
        refine r_aload_n hc dS_isBeforeInTable_108 rfl ?_
        refine gS_24 hc dS_isBeforeInTable_109 ?_
        refine r_iload_n hc dS_isBeforeInTable_112 rfl ?_
        refine r_ialdN hc dS_isBeforeInTable_113 rfl (by first | omega | (show _ < 12; omega) | (show _ < 204; omega) | (show _ < 144; omega) | (show _ < 2048; omega) | (show _ < 4096; omega) | (show _ < 16; omega)) ?_
        refine r_aload_n hc dS_isBeforeInTable_114 rfl ?_
        refine gS_24 hc dS_isBeforeInTable_115 ?_
        refine r_iload_n hc dS_isBeforeInTable_118 rfl ?_
        refine r_ialdN hc dS_isBeforeInTable_119 rfl (by first | omega | (show _ < 12; omega) | (show _ < 204; omega) | (show _ < 144; omega) | (show _ < 2048; omega) | (show _ < 4096; omega) | (show _ < 16; omega)) ?_
        rw [(hS p hp).1.2.2.1, (hS q hq).1.2.2.1]
        by_cases e4 : f_wi G n p = f_wi G n q
        · refine r_ic_eq_t hc dS_isBeforeInTable_120 (tgt := 146) (by decide) (by rw [e4]) ?_
          refine r_iload_n hc dS_isBeforeInTable_146 rfl ?_
          refine r_iload_n hc dS_isBeforeInTable_147 rfl ?_
          by_cases h : p < q
          · refine r_ic_ge_f hc dS_isBeforeInTable_148 (tgt := 155) (by decide) (nI_ge h (by omega)) ?_
            refine r_iconst hc dS_isBeforeInTable_151 (nI 1) (by decide) ?_
            refine r_goto hc dS_isBeforeInTable_152 (tgt := 156) (by decide) ?_
            exact r_zret hc dS_isBeforeInTable_156 rfl ⟨by rw [hy (by omega)]; rfl, rfl⟩
          · refine r_ic_ge_t hc dS_isBeforeInTable_148 (tgt := 155) (by decide) (nI_le (by omega) (by omega)) ?_
            refine r_iconst hc dS_isBeforeInTable_155 (nI 0) (by decide) ?_
            exact r_zret hc dS_isBeforeInTable_156 rfl ⟨by rw [hz (by omega)]; rfl, rfl⟩
        · refine r_ic_eq_f hc dS_isBeforeInTable_120 (tgt := 146) (by decide) (fun z => e4 (by rw [nI_eq (by omega) (by omega)] at z; exact z)) ?_
          refine r_aload_n hc dS_isBeforeInTable_123 rfl ?_
          refine gS_24 hc dS_isBeforeInTable_124 ?_
          refine r_iload_n hc dS_isBeforeInTable_127 rfl ?_
          refine r_ialdN hc dS_isBeforeInTable_128 rfl (by first | omega | (show _ < 12; omega) | (show _ < 204; omega) | (show _ < 144; omega) | (show _ < 2048; omega) | (show _ < 4096; omega) | (show _ < 16; omega)) ?_
          refine r_aload_n hc dS_isBeforeInTable_129 rfl ?_
          refine gS_24 hc dS_isBeforeInTable_130 ?_
          refine r_iload_n hc dS_isBeforeInTable_133 rfl ?_
          refine r_ialdN hc dS_isBeforeInTable_134 rfl (by first | omega | (show _ < 12; omega) | (show _ < 204; omega) | (show _ < 144; omega) | (show _ < 2048; omega) | (show _ < 4096; omega) | (show _ < 16; omega)) ?_
          rw [(hS p hp).1.2.2.1, (hS q hq).1.2.2.1]
          by_cases h : f_wi G n q < f_wi G n p
          · refine r_ic_le_f hc dS_isBeforeInTable_135 (tgt := 142) (by decide) (nI_ge h (by omega)) ?_
            refine r_iconst hc dS_isBeforeInTable_138 (nI 1) (by decide) ?_
            refine r_goto hc dS_isBeforeInTable_139 (tgt := 156) (by decide) ?_
            exact r_zret hc dS_isBeforeInTable_156 rfl ⟨by rw [hy (by omega)]; rfl, rfl⟩
          · refine r_ic_le_t hc dS_isBeforeInTable_135 (tgt := 142) (by decide) (nI_le (by omega) (by omega)) ?_
            refine r_iconst hc dS_isBeforeInTable_142 (nI 0) (by decide) ?_
            refine r_goto hc dS_isBeforeInTable_143 (tgt := 156) (by decide) ?_
            exact r_zret hc dS_isBeforeInTable_156 rfl ⟨by rw [hz (by omega)]; rfl, rfl⟩
      · refine r_ic_eq_f hc dS_isBeforeInTable_84 (tgt := 108) (by decide) (fun z => e3 (by rw [nI_eq (by omega) (by omega)] at z; exact z)) ?_
        refine r_aload_n hc dS_isBeforeInTable_87 rfl ?_
        refine gS_21 hc dS_isBeforeInTable_88 ?_
        refine r_iload_n hc dS_isBeforeInTable_91 rfl ?_
        refine r_ialdN hc dS_isBeforeInTable_92 rfl (by first | omega | (show _ < 12; omega) | (show _ < 204; omega) | (show _ < 144; omega) | (show _ < 2048; omega) | (show _ < 4096; omega) | (show _ < 16; omega)) ?_
        refine r_aload_n hc dS_isBeforeInTable_93 rfl ?_
        refine gS_21 hc dS_isBeforeInTable_94 ?_
        refine r_iload_n hc dS_isBeforeInTable_97 rfl ?_
        refine r_ialdN hc dS_isBeforeInTable_98 rfl (by first | omega | (show _ < 12; omega) | (show _ < 204; omega) | (show _ < 144; omega) | (show _ < 2048; omega) | (show _ < 4096; omega) | (show _ < 16; omega)) ?_
        rw [(hS p hp).2.2, (hS q hq).2.2]
        by_cases h : f_be G (f_sc G n) n q < f_be G (f_sc G n) n p
        · refine r_ic_le_f hc dS_isBeforeInTable_99 (tgt := 106) (by decide) (nI_ge h (by omega)) ?_
          refine r_iconst hc dS_isBeforeInTable_102 (nI 1) (by decide) ?_
          refine r_goto hc dS_isBeforeInTable_103 (tgt := 107) (by decide) ?_
          exact r_zret hc dS_isBeforeInTable_107 rfl ⟨by rw [hy (by omega)]; rfl, rfl⟩
        · refine r_ic_le_t hc dS_isBeforeInTable_99 (tgt := 106) (by decide) (nI_le (by omega) (by omega)) ?_
          refine r_iconst hc dS_isBeforeInTable_106 (nI 0) (by decide) ?_
          exact r_zret hc dS_isBeforeInTable_107 rfl ⟨by rw [hz (by omega)]; rfl, rfl⟩
    · refine r_ic_eq_f hc dS_isBeforeInTable_48 (tgt := 72) (by decide) (fun z => e2 (by rw [nI_eq (by omega) (by omega)] at z; exact z)) ?_
      refine r_aload_n hc dS_isBeforeInTable_51 rfl ?_
      refine gS_18 hc dS_isBeforeInTable_52 ?_
      refine r_iload_n hc dS_isBeforeInTable_55 rfl ?_
      refine r_ialdN hc dS_isBeforeInTable_56 rfl (by first | omega | (show _ < 12; omega) | (show _ < 204; omega) | (show _ < 144; omega) | (show _ < 2048; omega) | (show _ < 4096; omega) | (show _ < 16; omega)) ?_
      refine r_aload_n hc dS_isBeforeInTable_57 rfl ?_
      refine gS_18 hc dS_isBeforeInTable_58 ?_
      refine r_iload_n hc dS_isBeforeInTable_61 rfl ?_
      refine r_ialdN hc dS_isBeforeInTable_62 rfl (by first | omega | (show _ < 12; omega) | (show _ < 204; omega) | (show _ < 144; omega) | (show _ < 2048; omega) | (show _ < 4096; omega) | (show _ < 16; omega)) ?_
      rw [(hS p hp).2.1, (hS q hq).2.1]
      by_cases h : f_bu G (f_sc G n) n q < f_bu G (f_sc G n) n p
      · refine r_ic_le_f hc dS_isBeforeInTable_63 (tgt := 70) (by decide) (nI_ge h (by omega)) ?_
        refine r_iconst hc dS_isBeforeInTable_66 (nI 1) (by decide) ?_
        refine r_goto hc dS_isBeforeInTable_67 (tgt := 71) (by decide) ?_
        exact r_zret hc dS_isBeforeInTable_71 rfl ⟨by rw [hy (by omega)]; rfl, rfl⟩
      · refine r_ic_le_t hc dS_isBeforeInTable_63 (tgt := 70) (by decide) (nI_le (by omega) (by omega)) ?_
        refine r_iconst hc dS_isBeforeInTable_70 (nI 0) (by decide) ?_
        exact r_zret hc dS_isBeforeInTable_71 rfl ⟨by rw [hz (by omega)]; rfl, rfl⟩
  · refine r_ic_eq_f hc dS_isBeforeInTable_12 (tgt := 36) (by decide) (fun z => e1 (by rw [nI_eq (by omega) (by omega)] at z; exact z)) ?_
    refine r_aload_n hc dS_isBeforeInTable_15 rfl ?_
    refine gS_9 hc dS_isBeforeInTable_16 ?_
    refine r_iload_n hc dS_isBeforeInTable_19 rfl ?_
    refine r_ialdN hc dS_isBeforeInTable_20 rfl (by first | omega | (show _ < 12; omega) | (show _ < 204; omega) | (show _ < 144; omega) | (show _ < 2048; omega) | (show _ < 4096; omega) | (show _ < 16; omega)) ?_
    refine r_aload_n hc dS_isBeforeInTable_21 rfl ?_
    refine gS_9 hc dS_isBeforeInTable_22 ?_
    refine r_iload_n hc dS_isBeforeInTable_25 rfl ?_
    refine r_ialdN hc dS_isBeforeInTable_26 rfl (by first | omega | (show _ < 12; omega) | (show _ < 204; omega) | (show _ < 144; omega) | (show _ < 2048; omega) | (show _ < 4096; omega) | (show _ < 16; omega)) ?_
    rw [(hS p hp).1.1, (hS q hq).1.1]
    by_cases h : f_sc G n q < f_sc G n p
    · refine r_ic_le_f hc dS_isBeforeInTable_27 (tgt := 34) (by decide) (nI_ge h (by omega)) ?_
      refine r_iconst hc dS_isBeforeInTable_30 (nI 1) (by decide) ?_
      refine r_goto hc dS_isBeforeInTable_31 (tgt := 35) (by decide) ?_
      exact r_zret hc dS_isBeforeInTable_35 rfl ⟨by rw [hy (by omega)]; rfl, rfl⟩
    · refine r_ic_le_t hc dS_isBeforeInTable_27 (tgt := 34) (by decide) (nI_le (by omega) (by omega)) ?_
      refine r_iconst hc dS_isBeforeInTable_34 (nI 0) (by decide) ?_
      exact r_zret hc dS_isBeforeInTable_35 rfl ⟨by rw [hz (by omega)]; rfl, rfl⟩
theorem cS_playerAt (l : Launch) (g : GG) (d : Nat) (w : Wd) (G : Nat → Nat → Ce) (n m k : Nat) (hS : SRep w G n) (hT : GTold G n) (hG : GOpp G n) (hn : n ≤ 16) (hm : m ≤ 12) (hkm : k < m) : Con l g yS_playerAt bS_playerAt 6 ((some .int)) [] (d + 1) 0 0 [.ref (g.1 20), .int (nI k), .int (nI m)] w (Rp (fun v w' => (∃ p, p < m ∧ f_rk G n p m = k ∧ v = some (.int (nI p))) ∧ w = w')) := by
  intro X hl ha hm' hk hn' hc
  subst hl
  obtain ⟨Q, hQ⟩ : ∃ Q, Q = Fen X g 0 0 (Rp (fun v w' => (∃ p, p < m ∧ f_rk G n p m = k ∧ v = some (.int (nI p))) ∧ w = w')) := ⟨_, rfl⟩
  rw [← hQ]
  refine r_iconst hc dS_playerAt_0 (nI 0) (by decide) ?_
  refine r_istore_n hc dS_playerAt_1 (Nat.le_of_ble_eq_true rfl) ?_
  suffices hgen : ∀ r, r ≤ m → (∀ p, p < r → f_rk G n p m ≠ k) → Go X g 0 0 Q w 2 [some (.ref (g.1 20)), some (.int (nI k)), some (.int (nI m)), some (.int (nI r)), none, none] [] from hgen 0 (Nat.zero_le _) (fun p hp => absurd hp (Nat.not_lt_zero _))
  refine lp_up (P := fun r => (∀ p, p < r → f_rk G n p m ≠ k) → Go X g 0 0 Q w 2 [some (.ref (g.1 20)), some (.int (nI k)), some (.int (nI m)), some (.int (nI r)), none, none] []) ?_
  intro r hr ih hno
  refine r_iload_n hc dS_playerAt_2 rfl ?_
  refine r_iload_n hc dS_playerAt_3 rfl ?_
  refine r_ic_ge hc dS_playerAt_4 (tgt := 52) (by decide) (fun h => ?_) (fun h => ?_)
  · have hr2 : r = m := by have := nle_to h (by omega) (by omega); omega
    subst hr2
    obtain ⟨p, hp, hpk⟩ := rk_ex (G := G) (n := n) hkm
    exact absurd hpk (hno p hp)
  · have hr2 : r < m := nle_of h (by omega) (by omega)
    have ih := ih hr2
    simp only [← nI_add] at ih
    refine r_iconst hc dS_playerAt_7 (nI 0) (by decide) ?_
    refine r_istore hc dS_playerAt_8 (Nat.le_of_ble_eq_true rfl) ?_
    refine r_iconst hc dS_playerAt_10 (nI 0) (by decide) ?_
    refine r_istore hc dS_playerAt_11 (Nat.le_of_ble_eq_true rfl) ?_
    refine lp_up (P := fun q => Go X g 0 0 Q w 13 [some (.ref (g.1 20)), some (.int (nI k)), some (.int (nI m)), some (.int (nI r)), some (.int (nI (f_rk G n r q))), some (.int (nI q))] []) (n := m) ?_ 0 (Nat.zero_le _)
    intro q hq ihq
    refine r_iload hc dS_playerAt_13 rfl ?_
    refine r_iload_n hc dS_playerAt_15 rfl ?_
    refine r_ic_ge hc dS_playerAt_16 (tgt := 38) (by decide) (fun h2 => ?_) (fun h2 => ?_)
    · have hq2 : q = m := by have := nle_to h2 (by omega) (by omega); omega
      subst hq2
      have hrk := rk_lt (G := G) (n := n) (p := r) q
      rw [if_pos hr2] at hrk
      refine r_iload hc dS_playerAt_38 rfl ?_
      refine r_iload_n hc dS_playerAt_40 rfl ?_
      by_cases hx : f_rk G n r q = k
      · refine r_ic_ne_f hc dS_playerAt_41 (tgt := 46) (by decide) (by rw [hx]) ?_
        refine r_iload_n hc dS_playerAt_44 rfl ?_
        subst hQ
        exact r_iret hc dS_playerAt_45 ⟨⟨r, hr2, hx, rfl⟩, rfl⟩
      · refine r_ic_ne_t hc dS_playerAt_41 (tgt := 46) (by decide) (fun z => hx (by rw [nI_eq (by omega) (by omega)] at z; exact z)) ?_
        refine r_iinc hc dS_playerAt_46 rfl ?_
        refine r_goto hc dS_playerAt_49 (tgt := 2) (by decide) ?_
        refine Go.drop 4 (Go.drop 5 ?_)
        refine ih (fun p hp => ?_)
        by_cases hpr : p = r
        · rw [hpr]; exact hx
        · exact hno p (by omega)
    · have hq2 : q < m := nle_of h2 (by omega) (by omega)
      have ihq := ihq hq2
      refine r_aload_n hc dS_playerAt_19 rfl ?_
      refine r_iload hc dS_playerAt_20 rfl ?_
      refine r_iload_n hc dS_playerAt_22 rfl ?_
      refine kS_74r hc dS_playerAt_23 (cS_isBeforeInTable _ g d w G n q r hS hT hG hn (by omega) (by omega)) (Nat.le_refl _) (Nat.le_of_ble_eq_true rfl) ?_
      rintro _ _ ⟨rfl, rfl⟩
      simp only [f_rk] at ihq
      cases hb : tbB G n q r with
      | true =>
        simp only [hb, if_true, ← nI_add] at ihq
        refine r_if_eq_f hc dS_playerAt_26 (tgt := 32) (by decide) (by decide) ?_
        refine r_iinc hc dS_playerAt_29 rfl ?_
        refine r_iinc hc dS_playerAt_32 rfl ?_
        refine r_goto hc dS_playerAt_35 (tgt := 13) (by decide) ?_
        exact ihq
      | false =>
        simp only [hb, Bool.false_eq_true, if_false, ← nI_add] at ihq
        refine r_if_eq_t hc dS_playerAt_26 (tgt := 32) (by decide) rfl ?_
        refine r_iinc hc dS_playerAt_32 rfl ?_
        refine r_goto hc dS_playerAt_35 (tgt := 13) (by decide) ?_
        exact ihq
theorem cS_colourOfFirst (l : Launch) (g : GG) (d : Nat) (w : Wd) (G : Nat → Nat → Ce) (n p q : Nat) (hS : SRep w G n) (hn : n ≤ 16) (hp : p < 12) (hq : q < 12) : Con l g yS_colourOfFirst bS_colourOfFirst 4 ((some .int)) [] d 0 0 [.ref (g.1 20), .int (nI p), .int (nI q), .int (nI n)] w (Rp (An (some (.int (Int32.ofInt (ce_col (fw G n p q))))) w)) := by
  intro X hl ha hm' hk hn' hc
  subst hl
  have b1 := f_ba_le (G := G) n p
  have b2 := f_ba_le (G := G) n q
  have c1 := f_la_in (G := G) n p
  have c2 := f_la_in (G := G) n q
  have hp6 := (hS p hp).1.2.2.2.2.2.1
  have hq6 := (hS q hq).1.2.2.2.2.2.1
  refine r_aload_n hc dS_colourOfFirst_0 rfl ?_
  refine gS_15 hc dS_colourOfFirst_1 ?_
  refine r_iload_n hc dS_colourOfFirst_4 rfl ?_
  refine r_ialdN hc dS_colourOfFirst_5 rfl (by first | omega | (show _ < 12; omega) | (show _ < 204; omega) | (show _ < 144; omega) | (show _ < 2048; omega) | (show _ < 4096; omega) | (show _ < 16; omega)) ?_
  refine r_aload_n hc dS_colourOfFirst_6 rfl ?_
  refine gS_15 hc dS_colourOfFirst_7 ?_
  refine r_iload_n hc dS_colourOfFirst_10 rfl ?_
  refine r_ialdN hc dS_colourOfFirst_11 rfl (by first | omega | (show _ < 12; omega) | (show _ < 204; omega) | (show _ < 144; omega) | (show _ < 2048; omega) | (show _ < 4096; omega) | (show _ < 16; omega)) ?_
  rw [(hS p hp).1.2.1, (hS q hq).1.2.1]
  by_cases hb : f_ba G n p = f_ba G n q
  · refine r_ic_eq_t hc dS_colourOfFirst_12 (tgt := 36) (by decide) (by rw [hb]) ?_
    refine r_aload_n hc dS_colourOfFirst_36 rfl ?_
    refine gS_33 hc dS_colourOfFirst_37 ?_
    refine r_iload_n hc dS_colourOfFirst_40 rfl ?_
    refine r_ialdN hc dS_colourOfFirst_41 rfl (by first | omega | (show _ < 12; omega) | (show _ < 204; omega) | (show _ < 144; omega) | (show _ < 2048; omega) | (show _ < 4096; omega) | (show _ < 16; omega)) ?_
    refine r_aload_n hc dS_colourOfFirst_42 rfl ?_
    refine gS_33 hc dS_colourOfFirst_43 ?_
    refine r_iload_n hc dS_colourOfFirst_46 rfl ?_
    refine r_ialdN hc dS_colourOfFirst_47 rfl (by first | omega | (show _ < 12; omega) | (show _ < 204; omega) | (show _ < 144; omega) | (show _ < 2048; omega) | (show _ < 4096; omega) | (show _ < 16; omega)) ?_
    refine r_ineg hc dS_colourOfFirst_48 ?_
    rw [hp6, hq6]
    have hend : Go X g 0 0 (Fen X g 0 0 (Rp (An (some (.int (Int32.ofInt (ce_col (n % 2 == 0))))) w))) w 69 [some (.ref (g.1 20)), some (.int (nI p)), some (.int (nI q)), some (.int (nI n))] [] := by
      refine r_iload_n hc dS_colourOfFirst_69 rfl ?_
      refine r_iconst hc dS_colourOfFirst_70 (nI 2) (by decide) ?_
      refine r_irem hc dS_colourOfFirst_71 (by decide) ?_
      rw [rem2 (by omega)]
      rcases Nat.mod_two_eq_zero_or_one n with h | h
      · rw [h]
        refine r_if_ne_f hc dS_colourOfFirst_72 (tgt := 79) (by decide) (by decide) ?_
        refine r_iconst hc dS_colourOfFirst_75 (nI 1) (by decide) ?_
        refine r_goto hc dS_colourOfFirst_76 (tgt := 80) (by decide) ?_
        exact r_iret hc dS_colourOfFirst_80 ⟨rfl, rfl⟩
      · rw [h]
        refine r_if_ne_t hc dS_colourOfFirst_72 (tgt := 79) (by decide) (by decide) ?_
        refine r_iconst hc dS_colourOfFirst_79 (-1) (by decide) ?_
        exact r_iret hc dS_colourOfFirst_80 ⟨rfl, rfl⟩
    unfold fw
    rw [if_pos hb]
    rcases c1 with h1 | h1 | h1 <;> rcases c2 with h2 | h2 | h2 <;> rw [h1] at hp6 <;> simp only [h1, h2]
    · refine r_ic_ne_f hc dS_colourOfFirst_49 (tgt := 69) (by decide) (by decide) ?_
      refine r_aload_n hc dS_colourOfFirst_52 rfl ?_
      refine gS_33 hc dS_colourOfFirst_53 ?_
      refine r_iload_n hc dS_colourOfFirst_56 rfl ?_
      refine r_ialdN hc dS_colourOfFirst_57 rfl (by first | omega | (show _ < 12; omega) | (show _ < 204; omega) | (show _ < 144; omega) | (show _ < 2048; omega) | (show _ < 4096; omega) | (show _ < 16; omega)) ?_
      rw [hp6]
      refine r_if_eq_t hc dS_colourOfFirst_58 (tgt := 69) (by decide) (by decide) ?_
      exact hend
    · refine r_ic_ne_t hc dS_colourOfFirst_49 (tgt := 69) (by decide) (by decide) ?_
      exact hend
    · refine r_ic_ne_t hc dS_colourOfFirst_49 (tgt := 69) (by decide) (by decide) ?_
      exact hend
    · refine r_ic_ne_t hc dS_colourOfFirst_49 (tgt := 69) (by decide) (by decide) ?_
      exact hend
    · refine r_ic_ne_t hc dS_colourOfFirst_49 (tgt := 69) (by decide) (by decide) ?_
      exact hend
    · refine r_ic_ne_f hc dS_colourOfFirst_49 (tgt := 69) (by decide) (by decide) ?_
      refine r_aload_n hc dS_colourOfFirst_52 rfl ?_
      refine gS_33 hc dS_colourOfFirst_53 ?_
      refine r_iload_n hc dS_colourOfFirst_56 rfl ?_
      refine r_ialdN hc dS_colourOfFirst_57 rfl (by first | omega | (show _ < 12; omega) | (show _ < 204; omega) | (show _ < 144; omega) | (show _ < 2048; omega) | (show _ < 4096; omega) | (show _ < 16; omega)) ?_
      rw [hp6]
      refine r_if_eq_f hc dS_colourOfFirst_58 (tgt := 69) (by decide) (by decide) ?_
      refine r_aload_n hc dS_colourOfFirst_61 rfl ?_
      refine gS_33 hc dS_colourOfFirst_62 ?_
      refine r_iload_n hc dS_colourOfFirst_65 rfl ?_
      refine r_ialdN hc dS_colourOfFirst_66 rfl (by first | omega | (show _ < 12; omega) | (show _ < 204; omega) | (show _ < 144; omega) | (show _ < 2048; omega) | (show _ < 4096; omega) | (show _ < 16; omega)) ?_
      refine r_ineg hc dS_colourOfFirst_67 ?_
      rw [hp6]
      exact r_iret hc dS_colourOfFirst_68 ⟨rfl, rfl⟩
    · refine r_ic_ne_t hc dS_colourOfFirst_49 (tgt := 69) (by decide) (by decide) ?_
      exact hend
    · refine r_ic_ne_f hc dS_colourOfFirst_49 (tgt := 69) (by decide) (by decide) ?_
      refine r_aload_n hc dS_colourOfFirst_52 rfl ?_
      refine gS_33 hc dS_colourOfFirst_53 ?_
      refine r_iload_n hc dS_colourOfFirst_56 rfl ?_
      refine r_ialdN hc dS_colourOfFirst_57 rfl (by first | omega | (show _ < 12; omega) | (show _ < 204; omega) | (show _ < 144; omega) | (show _ < 2048; omega) | (show _ < 4096; omega) | (show _ < 16; omega)) ?_
      rw [hp6]
      refine r_if_eq_f hc dS_colourOfFirst_58 (tgt := 69) (by decide) (by decide) ?_
      refine r_aload_n hc dS_colourOfFirst_61 rfl ?_
      refine gS_33 hc dS_colourOfFirst_62 ?_
      refine r_iload_n hc dS_colourOfFirst_65 rfl ?_
      refine r_ialdN hc dS_colourOfFirst_66 rfl (by first | omega | (show _ < 12; omega) | (show _ < 204; omega) | (show _ < 144; omega) | (show _ < 2048; omega) | (show _ < 4096; omega) | (show _ < 16; omega)) ?_
      refine r_ineg hc dS_colourOfFirst_67 ?_
      rw [hp6]
      exact r_iret hc dS_colourOfFirst_68 ⟨rfl, rfl⟩
    · refine r_ic_ne_t hc dS_colourOfFirst_49 (tgt := 69) (by decide) (by decide) ?_
      exact hend
  · refine r_ic_eq_f hc dS_colourOfFirst_12 (tgt := 36) (by decide) (fun z => hb ((ii_eq (by omega) (by omega) (by omega) (by omega)).mp z)) ?_
    refine r_aload_n hc dS_colourOfFirst_15 rfl ?_
    refine gS_15 hc dS_colourOfFirst_16 ?_
    refine r_iload_n hc dS_colourOfFirst_19 rfl ?_
    refine r_ialdN hc dS_colourOfFirst_20 rfl (by first | omega | (show _ < 12; omega) | (show _ < 204; omega) | (show _ < 144; omega) | (show _ < 2048; omega) | (show _ < 4096; omega) | (show _ < 16; omega)) ?_
    refine r_aload_n hc dS_colourOfFirst_21 rfl ?_
    refine gS_15 hc dS_colourOfFirst_22 ?_
    refine r_iload_n hc dS_colourOfFirst_25 rfl ?_
    refine r_ialdN hc dS_colourOfFirst_26 rfl (by first | omega | (show _ < 12; omega) | (show _ < 204; omega) | (show _ < 144; omega) | (show _ < 2048; omega) | (show _ < 4096; omega) | (show _ < 16; omega)) ?_
    rw [(hS p hp).1.2.1, (hS q hq).1.2.1]
    unfold fw
    rw [if_neg hb]
    by_cases h : f_ba G n p < f_ba G n q
    · refine r_ic_ge_f hc dS_colourOfFirst_27 (tgt := 34) (by decide) (fun z => by rw [ii_le (by omega) (by omega) (by omega) (by omega)] at z; omega) ?_
      refine r_iconst hc dS_colourOfFirst_30 (nI 1) (by decide) ?_
      refine r_goto hc dS_colourOfFirst_31 (tgt := 35) (by decide) ?_
      exact r_iret hc dS_colourOfFirst_35 ⟨by rw [decide_eq_true h]; rfl, rfl⟩
    · refine r_ic_ge_t hc dS_colourOfFirst_27 (tgt := 34) (by decide) ((ii_le (by omega) (by omega) (by omega) (by omega)).mpr (by omega)) ?_
      refine r_iconst hc dS_colourOfFirst_34 (-1) (by decide) ?_
      exact r_iret hc dS_colourOfFirst_35 ⟨by rw [decide_eq_false h]; rfl, rfl⟩
theorem cS_clashes (l : Launch) (g : GG) (d : Nat) (w : Wd) (G : Nat → Nat → Ce) (n p : Nat) (b : Bool) (hS : SRep w G n) (hn : n ≤ 16) (hp : p < 12) : Con l g yS_clashes bS_clashes 5 ((some .int)) [] d 0 0 [.ref (g.1 20), .int (nI p), .int (Int32.ofInt (ce_col b))] w (Rp (An (some (.int (nI (cla G n p (ce_col b))))) w)) := by
  intro X hl ha hm' hk hn' hc
  subst hl
  have b1 := f_ba_le (G := G) n p
  have c1 := f_la_in (G := G) n p
  have c2 := f_lb_in (G := G) n p
  have cb : ce_col b = 1 ∨ ce_col b = -1 := by cases b <;> simp [ce_col]
  generalize ce_col b = c at cb ⊢
  have hend : ∀ a : Nat, a ≤ 1 → (if f_la G n p = c ∧ f_lb G n p = c then 1 else 0) = a → Go X g 0 0 (Fen X g 0 0 (Rp (An (some (.int (nI (cla G n p c)))) w))) w 25 [some (.ref (g.1 20)), some (.int (nI p)), some (.int (Int32.ofInt c)), some (.int (nI a)), none] [] := by
    intro a ha1 ha2
    refine r_aload_n hc dS_clashes_25 rfl ?_
    refine gS_15 hc dS_clashes_26 ?_
    refine r_iload_n hc dS_clashes_29 rfl ?_
    refine r_ialdN hc dS_clashes_30 rfl (by first | omega | (show _ < 12; omega) | (show _ < 204; omega) | (show _ < 144; omega) | (show _ < 2048; omega) | (show _ < 4096; omega) | (show _ < 16; omega)) ?_
    rw [(hS p hp).1.2.1]
    refine r_iload_n hc dS_clashes_31 rfl ?_
    refine r_iadd hc dS_clashes_32 ?_
    rw [← Int32.ofInt_add]
    refine r_istore hc dS_clashes_33 (Nat.le_of_ble_eq_true rfl) ?_
    refine r_iload hc dS_clashes_35 rfl ?_
    refine r_iconst hc dS_clashes_37 (nI 3) (by decide) ?_
    by_cases h3 : 3 ≤ f_ba G n p + c
    · refine r_ic_ge_t hc dS_clashes_38 (tgt := 48) (by decide) ((ii_le (a := 3) (by omega) (by omega) (by omega) (by omega)).mpr h3) ?_
      refine r_iinc hc dS_clashes_48 rfl ?_
      refine r_iload_n hc dS_clashes_51 rfl ?_
      rw [show cla G n p c = a + 1 by rw [cla, ha2, if_pos (Or.inl h3)], ← nI_add]
      exact r_iret hc dS_clashes_52 ⟨rfl, rfl⟩
    · refine r_ic_ge_f hc dS_clashes_38 (tgt := 48) (by decide) (fun z => h3 ((ii_le (a := 3) (by omega) (by omega) (by omega) (by omega)).mp z)) ?_
      refine r_iload hc dS_clashes_41 rfl ?_
      refine r_bipush hc dS_clashes_43 (Int32.ofInt (-3)) (by decide) ?_
      by_cases h4 : f_ba G n p + c ≤ -3
      · refine r_ic_gt_f hc dS_clashes_45 (tgt := 51) (by decide) (fun z => by have z := (ii_lt (a := -3) (by omega) (by omega) (by omega) (by omega)).mp z; omega) ?_
        refine r_iinc hc dS_clashes_48 rfl ?_
        refine r_iload_n hc dS_clashes_51 rfl ?_
        rw [show cla G n p c = a + 1 by rw [cla, ha2, if_pos (Or.inr h4)], ← nI_add]
        exact r_iret hc dS_clashes_52 ⟨rfl, rfl⟩
      · refine r_ic_gt_t hc dS_clashes_45 (tgt := 51) (by decide) ((ii_lt (a := -3) (by omega) (by omega) (by omega) (by omega)).mpr (by omega)) ?_
        refine r_iload_n hc dS_clashes_51 rfl ?_
        exact r_iret hc dS_clashes_52 ⟨by rw [cla, ha2, if_neg (by omega)]; rfl, rfl⟩
  refine r_iconst hc dS_clashes_0 (nI 0) (by decide) ?_
  refine r_istore_n hc dS_clashes_1 (Nat.le_of_ble_eq_true rfl) ?_
  refine r_aload_n hc dS_clashes_2 rfl ?_
  refine gS_33 hc dS_clashes_3 ?_
  refine r_iload_n hc dS_clashes_6 rfl ?_
  refine r_ialdN hc dS_clashes_7 rfl (by first | omega | (show _ < 12; omega) | (show _ < 204; omega) | (show _ < 144; omega) | (show _ < 2048; omega) | (show _ < 4096; omega) | (show _ < 16; omega)) ?_
  rw [(hS p hp).1.2.2.2.2.2.1]
  refine r_iload_n hc dS_clashes_8 rfl ?_
  by_cases h1 : f_la G n p = c
  · refine r_ic_ne_f hc dS_clashes_9 (tgt := 25) (by decide) (by rw [h1]) ?_
    refine r_aload_n hc dS_clashes_12 rfl ?_
    refine gS_36 hc dS_clashes_13 ?_
    refine r_iload_n hc dS_clashes_16 rfl ?_
    refine r_ialdN hc dS_clashes_17 rfl (by first | omega | (show _ < 12; omega) | (show _ < 204; omega) | (show _ < 144; omega) | (show _ < 2048; omega) | (show _ < 4096; omega) | (show _ < 16; omega)) ?_
    rw [(hS p hp).1.2.2.2.2.2.2.1]
    refine r_iload_n hc dS_clashes_18 rfl ?_
    by_cases h2 : f_lb G n p = c
    · refine r_ic_ne_f hc dS_clashes_19 (tgt := 25) (by decide) (by rw [h2]) ?_
      refine r_iinc hc dS_clashes_22 rfl ?_
      exact hend 1 (by omega) (if_pos ⟨h1, h2⟩)
    · refine r_ic_ne_t hc dS_clashes_19 (tgt := 25) (by decide) (fun z => h2 ((ii_eq (by omega) (by omega) (by omega) (by omega)).mp z)) ?_
      exact hend 0 (by omega) (if_neg (fun z => h2 z.2))
  · refine r_ic_ne_t hc dS_clashes_9 (tgt := 25) (by decide) (fun z => h1 ((ii_eq (by omega) (by omega) (by omega) (by omega)).mp z)) ?_
    exact hend 0 (by omega) (if_neg (fun z => h1 z.1))
theorem cS_costOfGame (l : Launch) (g : GG) (d : Nat) (w : Wd) (G : Nat → Nat → Ce) (n p q : Nat) (hS : SRep w G n) (hn : n ≤ 16) (hp : p < 12) (hq : q < 12) (hs : f_sc G n q ≤ f_sc G n p) : Con l g yS_costOfGame bS_costOfGame 6 ((some .int)) [] (d + 1) 0 0 [.ref (g.1 20), .int (nI p), .int (nI q), .int (nI n)] w (Rp (An (some (.int (nI (gco G n p q)))) w)) := by
  intro X hl ha hm hk hn' hc
  subst hl
  refine r_aload_n hc dS_costOfGame_0 rfl ?_
  refine gS_9 hc dS_costOfGame_1 ?_
  refine r_iload_n hc dS_costOfGame_4 rfl ?_
  refine r_ialdN hc dS_costOfGame_5 rfl (by first | omega | (show _ < 12; omega) | (show _ < 204; omega) | (show _ < 144; omega) | (show _ < 2048; omega) | (show _ < 4096; omega) | (show _ < 16; omega)) ?_
  refine r_aload_n hc dS_costOfGame_6 rfl ?_
  refine gS_9 hc dS_costOfGame_7 ?_
  refine r_iload_n hc dS_costOfGame_10 rfl ?_
  refine r_ialdN hc dS_costOfGame_11 rfl (by first | omega | (show _ < 12; omega) | (show _ < 204; omega) | (show _ < 144; omega) | (show _ < 2048; omega) | (show _ < 4096; omega) | (show _ < 16; omega)) ?_
  rw [(hS p hp).1.1, (hS q hq).1.1]
  refine r_isub hc dS_costOfGame_12 ?_
  rw [pk_sub hs]
  refine r_istore hc dS_costOfGame_13 (Nat.le_of_ble_eq_true rfl) ?_
  refine r_aload_n hc dS_costOfGame_15 rfl ?_
  refine r_iload_n hc dS_costOfGame_16 rfl ?_
  refine r_iload_n hc dS_costOfGame_17 rfl ?_
  refine r_iload_n hc dS_costOfGame_18 rfl ?_
  refine kS_78r hc dS_costOfGame_19 (cS_colourOfFirst _ g d w G n p q hS hn hp hq) (Nat.le_refl _) (Nat.le_of_ble_eq_true rfl) ?_
  rintro _ _ ⟨rfl, rfl⟩
  refine r_istore hc dS_costOfGame_22 (Nat.le_of_ble_eq_true rfl) ?_
  refine r_bipush hc dS_costOfGame_24 (nI 64) (by decide) ?_
  refine r_iload hc dS_costOfGame_26 rfl ?_
  refine r_imul hc dS_costOfGame_28 ?_
  refine r_iload hc dS_costOfGame_29 rfl ?_
  refine r_imul hc dS_costOfGame_31 ?_
  refine r_aload_n hc dS_costOfGame_32 rfl ?_
  refine r_iload_n hc dS_costOfGame_33 rfl ?_
  refine r_iload hc dS_costOfGame_34 rfl ?_
  refine kS_82r hc dS_costOfGame_36 (cS_clashes _ g d w G n p (fw G n p q) hS hn hp) (Nat.le_refl _) (Nat.le_of_ble_eq_true rfl) ?_
  rintro _ _ ⟨rfl, rfl⟩
  refine r_iadd hc dS_costOfGame_39 ?_
  refine r_aload_n hc dS_costOfGame_40 rfl ?_
  refine r_iload_n hc dS_costOfGame_41 rfl ?_
  refine r_iload hc dS_costOfGame_42 rfl ?_
  refine r_ineg hc dS_costOfGame_44 ?_
  rw [show -Int32.ofInt (ce_col (fw G n p q)) = Int32.ofInt (ce_col (!fw G n p q)) by cases fw G n p q <;> decide]
  refine kS_82r hc dS_costOfGame_45 (cS_clashes _ g d w G n q (!fw G n p q) hS hn hq) (Nat.le_refl _) (Nat.le_of_ble_eq_true rfl) ?_
  rintro _ _ ⟨rfl, rfl⟩
  refine r_iadd hc dS_costOfGame_48 ?_
  rw [pk_mul, pk_mul, nI_add, nI_add]
  exact r_iret hc dS_costOfGame_49 ⟨rfl, rfl⟩
