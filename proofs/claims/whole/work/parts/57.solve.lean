/-! PairedField.Pairing: the small questions, the sets solved -/
theorem cP_indexOf (l : Launch) (g : GG) (d : Nat) (w : Wd) (S : Nat) (hS : S < 4096) : Con l g yP_indexOf bP_indexOf 1 ((some .int)) [] d 0 0 [.int (nI S)] w (Rp (An (some (.int (nI (S / 2)))) w)) := by
  intro X hl ha hm' hk hn' hc
  subst hl
  refine r_iload_n hc dP_indexOf_0 rfl ?_
  refine r_iconst hc dP_indexOf_1 (nI 1) (by decide) ?_
  refine r_ishr hc dP_indexOf_2 ?_
  rw [pk_shrN (by omega) _ 1 (s_lt 1 (by decide))]
  exact r_iret hc dP_indexOf_3 ⟨rfl, rfl⟩
theorem cP_without (l : Launch) (g : GG) (d : Nat) (w : Wd) (S f j : Nat) (hf : f < 12) (hj : j < 13) : Con l g yP_without bP_without 3 ((some .int)) [] d 0 0 [.int (nI S), .int (nI f), .int (nI j)] w (Rp (An (some (.int (nI (clr (clr S f) j)))) w)) := by
  intro X hl ha hm' hk hn' hc
  subst hl
  refine r_iload_n hc dP_without_0 rfl ?_
  refine r_iconst hc dP_without_1 (nI 1) (by decide) ?_
  refine r_iload_n hc dP_without_2 rfl ?_
  refine r_ishl hc dP_without_3 ?_
  refine r_iconst hc dP_without_4 (nI 1) (by decide) ?_
  refine r_iload_n hc dP_without_5 rfl ?_
  refine r_ishl hc dP_without_6 ?_
  refine r_ior hc dP_without_7 ?_
  refine r_iconst hc dP_without_8 (-1) (by decide) ?_
  refine r_ixor hc dP_without_9 ?_
  refine r_iand hc dP_without_10 ?_
  rw [wo_I, clrI S (by omega), clrI _ hj]
  exact r_iret hc dP_without_11 ⟨rfl, rfl⟩
theorem cP_evenSet (l : Launch) (g : GG) (d : Nat) (w : Wd) (i : Nat) (hi : i < 2048) : Con l g yP_evenSet bP_evenSet 1 ((some .int)) [] (d + 1) 0 0 [.int (nI i)] w (Rp (An (some (.int (nI (2 * i + pop i % 2)))) w)) := by
  intro X hl ha hm' hk hn' hc
  subst hl
  refine r_iload_n hc dP_evenSet_0 rfl ?_
  refine r_iconst hc dP_evenSet_1 (nI 1) (by decide) ?_
  refine r_ishl hc dP_evenSet_2 ?_
  refine r_iload_n hc dP_evenSet_3 rfl ?_
  refine kP_127r hc dP_evenSet_4 (cI_bitCount _ g d w i (by omega)) (Nat.le_refl _) (Nat.le_of_ble_eq_true rfl) ?_
  rintro _ _ ⟨rfl, rfl⟩
  refine r_iconst hc dP_evenSet_7 (nI 1) (by decide) ?_
  refine r_iand hc dP_evenSet_8 ?_
  refine r_ior hc dP_evenSet_9 ?_
  rw [(even_all hi).1]
  exact r_iret hc dP_evenSet_10 ⟨rfl, rfl⟩
theorem cP_canBeLeft (l : Launch) (g : GG) (d : Nat) (w : Wd) (m S : Nat) (hm : m ≤ 12) (hs : w 31 1 = nI m) (h0 : 0 < S) (hS : S < 2 ^ m) : Con l g yP_canBeLeft bP_canBeLeft 3 ((some .boolean)) [] (d + 1) 0 0 [.ref (g.1 31), .int (nI S)] w (Rp (An (some (.int (bI (decide ((m - pop S) / 2 ≤ lowb S))))) w)) := by
  intro X hl ha hm' hk hn' hc
  subst hl
  have h12 := pow12 hm
  have hp := pop_le hm hS
  obtain ⟨l1, l2, l3⟩ := lowb_spec h0 (by omega)
  refine r_aload_n hc dP_canBeLeft_0 rfl ?_
  refine gP_44 hc dP_canBeLeft_1 ?_
  rw [hs]
  refine r_iload_n hc dP_canBeLeft_4 rfl ?_
  refine kP_127r hc dP_canBeLeft_5 (cI_bitCount _ g d w S (by omega)) (Nat.le_refl _) (Nat.le_of_ble_eq_true rfl) ?_
  rintro _ _ ⟨rfl, rfl⟩
  refine r_isub hc dP_canBeLeft_8 ?_
  rw [pk_sub hp]
  refine r_iconst hc dP_canBeLeft_9 (nI 2) (by decide) ?_
  refine r_idiv hc dP_canBeLeft_10 (by decide) ?_
  rw [pk_div (by omega) (by decide) (by decide)]
  refine r_istore_n hc dP_canBeLeft_11 (Nat.le_of_ble_eq_true rfl) ?_
  refine r_iload_n hc dP_canBeLeft_12 rfl ?_
  refine r_iload_n hc dP_canBeLeft_13 rfl ?_
  refine kP_69r hc dP_canBeLeft_14 (cI_ntz _ g d w S h0 (by omega)) (Nat.le_refl _) (Nat.le_of_ble_eq_true rfl) ?_
  rintro _ _ ⟨rfl, rfl⟩
  by_cases h : (m - pop S) / 2 ≤ lowb S
  · rw [decide_eq_true h]
    refine r_ic_gt_f hc dP_canBeLeft_17 (tgt := 24) (by decide) (Int32.not_lt.mpr (nI_le h (by omega))) ?_
    refine r_iconst hc dP_canBeLeft_20 (nI 1) (by decide) ?_
    refine r_goto hc dP_canBeLeft_21 (tgt := 25) (by decide) ?_
    exact r_zret hc dP_canBeLeft_25 rfl ⟨rfl, rfl⟩
  · rw [decide_eq_false h]
    refine r_ic_gt_t hc dP_canBeLeft_17 (tgt := 24) (by decide) (nI_lt (by omega) (by omega)) ?_
    refine r_iconst hc dP_canBeLeft_24 (nI 0) (by decide) ?_
    exact r_zret hc dP_canBeLeft_25 rfl ⟨rfl, rfl⟩
theorem cP_mayPlay (l : Launch) (g : GG) (d : Nat) (w : Wd) (m S f j : Nat) (cst : Nat → Nat → Option Nat) (hm : m ≤ 12) (hS : S < 4096) (hfj : f < j) (hj : j < m) (hcb : ∀ a b c, cst a b = some c → c ≤ 65540) (hP : ∀ a b, a < b → b < m → w (34 + a) b = prI (cst a b)) : Con l g yP_mayPlay bP_mayPlay 4 ((some .boolean)) [] d 0 0 [.ref (g.1 31), .int (nI S), .int (nI f), .int (nI j)] w (Rp (An (some (.int (bI (S.testBit j && (cst f j).isSome)))) w)) := by
  intro X hl ha hm' hk hn' hc
  subst hl
  refine r_iload_n hc dP_mayPlay_0 rfl ?_
  refine r_iload_n hc dP_mayPlay_1 rfl ?_
  refine r_ishr hc dP_mayPlay_2 ?_
  refine r_iconst hc dP_mayPlay_3 (nI 1) (by decide) ?_
  refine r_iand hc dP_mayPlay_4 ?_
  rw [bitI (by omega) (by omega)]
  refine r_iconst hc dP_mayPlay_5 (nI 1) (by decide) ?_
  cases hb : S.testBit j with
  | false =>
    rw [bit_f hb]
    refine r_ic_ne_t hc dP_mayPlay_6 (tgt := 25) (by decide) (by decide) ?_
    refine r_iconst hc dP_mayPlay_25 (nI 0) (by decide) ?_
    exact r_zret hc dP_mayPlay_26 rfl ⟨rfl, rfl⟩
  | true =>
    rw [bit_t hb]
    refine r_ic_ne_f hc dP_mayPlay_6 (tgt := 25) (by decide) (by decide) ?_
    refine r_aload_n hc dP_mayPlay_9 rfl ?_
    refine gP_21 hc dP_mayPlay_10 ?_
    refine r_iload_n hc dP_mayPlay_13 rfl ?_
    refine r_aaldN hc dP_mayPlay_14 rfl (by first | omega | (show _ < 12; omega) | (show _ < 204; omega) | (show _ < 144; omega) | (show _ < 2048; omega) | (show _ < 4096; omega) | (show _ < 16; omega)) ?_
    refine r_iload_n hc dP_mayPlay_15 rfl ?_
    rw [show (33 + 1 + f : Nat) = 34 + f by omega]
    refine r_ialdN hc dP_mayPlay_16 rfl (lenPr (by omega) (by omega)) ?_
    rw [hP f j hfj hj]
    refine r_iconst hc dP_mayPlay_17 (-1) (by decide) ?_
    cases hcs : cst f j with
    | none =>
      refine r_ic_eq_t hc dP_mayPlay_18 (tgt := 25) (by decide) rfl ?_
      refine r_iconst hc dP_mayPlay_25 (nI 0) (by decide) ?_
      exact r_zret hc dP_mayPlay_26 rfl ⟨rfl, rfl⟩
    | some c =>
      have := hcb f j c hcs
      refine r_ic_eq_f hc dP_mayPlay_18 (tgt := 25) (by decide) (nI_nm1 (by omega)) ?_
      refine r_iconst hc dP_mayPlay_21 (nI 1) (by decide) ?_
      refine r_goto hc dP_mayPlay_22 (tgt := 26) (by decide) ?_
      exact r_zret hc dP_mayPlay_26 rfl ⟨rfl, rfl⟩
/-- the sets of an index below i are solved -/
def DpI (w : Wd) (cst : Nat → Nat → Option Nat) (m i : Nat) : Prop := ∀ T, Tok m T → T / 2 < i → w 47 (T / 2) = nI (sol cst m T).2.2 ∧ (0 < (sol cst m T).2.2 → w 46 (T / 2) = nI (sol cst m T).1)
set_option maxHeartbeats 2000000 in
theorem cP_solveSet (l : Launch) (g : GG) (d : Nat) (w : Wd) (m S : Nat) (cst : Nat → Nat → Option Nat) (hm : m ≤ 12) (hs : w 31 1 = nI m) (hcb : ∀ a b c, cst a b = some c → c ≤ 65540) (hP : ∀ a b, a < b → b < m → w (34 + a) b = prI (cst a b)) (h0 : 0 < S) (hT : Tok m S) (hD : DpI w cst m (S / 2)) : Con l g yP_solveSet bP_solveSet 8 ((none : Option Jvm.ClassFile.FieldType)) [] (d + 1) 0 0 [.ref (g.1 31), .int (nI S)] w (Rp (fun v w' => v = none ∧ ∃ b : Int32, (0 < (sol cst m S).2.2 → b = nI (sol cst m S).1) ∧ w' = wu (wu w 46 (S / 2) b) 47 (S / 2) (nI (sol cst m S).2.2))) := by
  intro X hl ha hm' hk hn' hc
  subst hl
  have h12 := pow12 hm
  have hS : S < 4096 := Nat.lt_of_lt_of_le hT.2.1 h12
  obtain ⟨l1, l2, l3⟩ := lowb_spec h0 hS
  have hlm := bit_lt l1 hT.2.1
  have hsol := sol_eq cst m h0 hS
  obtain ⟨Q, hQ⟩ : ∃ Q, Q = Fen X g 0 0 (Rp (fun v w' => v = none ∧ ∃ b : Int32, (0 < (sol cst m S).2.2 → b = nI (sol cst m S).1) ∧ w' = wu (wu w 46 (S / 2) b) 47 (S / 2) (nI (sol cst m S).2.2))) := ⟨_, rfl⟩
  rw [← hQ]
  refine r_iload_n hc dP_solveSet_0 rfl ?_
  refine kP_69r hc dP_solveSet_1 (cI_ntz _ g d w S h0 hS) (Nat.le_refl _) (Nat.le_of_ble_eq_true rfl) ?_
  rintro _ _ ⟨rfl, rfl⟩
  refine r_istore_n hc dP_solveSet_4 (Nat.le_of_ble_eq_true rfl) ?_
  refine r_iconst hc dP_solveSet_5 (nI 0) (by decide) ?_
  refine r_istore_n hc dP_solveSet_6 (Nat.le_of_ble_eq_true rfl) ?_
  refine r_iconst hc dP_solveSet_7 (nI 0) (by decide) ?_
  refine r_istore hc dP_solveSet_8 (Nat.le_of_ble_eq_true rfl) ?_
  refine r_iload_n hc dP_solveSet_10 rfl ?_
  refine r_iconst hc dP_solveSet_11 (nI 1) (by decide) ?_
  refine r_iadd hc dP_solveSet_12 ?_
  rw [nI_add]
  refine r_istore hc dP_solveSet_13 (Nat.le_of_ble_eq_true rfl) ?_
  have hgen : ∀ t, t ≤ m → lowb S + 1 ≤ t → ∀ bst : Int32, (0 < (dp cst (fun T => (sol cst m T).1) (fun T => (sol cst m T).2.2) S (lowb S) t).2.2 → bst = nI (dp cst (fun T => (sol cst m T).1) (fun T => (sol cst m T).2.2) S (lowb S) t).1) → Go X g 0 0 Q w 15 [some (.ref (g.1 31)), some (.int (nI S)), some (.int (nI (lowb S))), some (.int bst), some (.int (nI (dp cst (fun T => (sol cst m T).1) (fun T => (sol cst m T).2.2) S (lowb S) t).2.2)), some (.int (nI t)), none, none] [] := by
    refine lp_up (P := fun t => lowb S + 1 ≤ t → ∀ bst : Int32, (0 < (dp cst (fun T => (sol cst m T).1) (fun T => (sol cst m T).2.2) S (lowb S) t).2.2 → bst = nI (dp cst (fun T => (sol cst m T).1) (fun T => (sol cst m T).2.2) S (lowb S) t).1) → Go X g 0 0 Q w 15 [some (.ref (g.1 31)), some (.int (nI S)), some (.int (nI (lowb S))), some (.int bst), some (.int (nI (dp cst (fun T => (sol cst m T).1) (fun T => (sol cst m T).2.2) S (lowb S) t).2.2)), some (.int (nI t)), none, none] []) ?_
    intro t ht ih hlt bst hbst
    refine r_iload hc dP_solveSet_15 rfl ?_
    refine r_aload_n hc dP_solveSet_17 rfl ?_
    refine gP_44 hc dP_solveSet_18 ?_
    rw [hs]
    refine r_ic_ge hc dP_solveSet_21 (tgt := 111) (by decide) (fun h => ?_) (fun h => ?_)
    · have ht2 : t = m := by have := nle_to h (by omega) (by omega); omega
      subst ht2
      rw [← hsol] at hbst ⊢
      refine r_aload_n hc dP_solveSet_111 rfl ?_
      refine gP_24 hc dP_solveSet_112 ?_
      refine r_iload_n hc dP_solveSet_115 rfl ?_
      refine kP_54r hc dP_solveSet_116 (cP_indexOf _ g d w S hS) (by omega) (Nat.le_of_ble_eq_true rfl) ?_
      rintro _ _ ⟨rfl, rfl⟩
      refine r_iload_n hc dP_solveSet_119 rfl ?_
      refine r_iastN hc dP_solveSet_120 rfl (by first | omega | (show _ < 12; omega) | (show _ < 204; omega) | (show _ < 144; omega) | (show _ < 2048; omega) | (show _ < 4096; omega) | (show _ < 16; omega)) ?_
      refine r_aload_n hc dP_solveSet_121 rfl ?_
      refine gP_27 hc dP_solveSet_122 ?_
      refine r_iload_n hc dP_solveSet_125 rfl ?_
      refine kP_54r hc dP_solveSet_126 (cP_indexOf _ g d _ S hS) (by omega) (Nat.le_of_ble_eq_true rfl) ?_
      rintro _ _ ⟨rfl, rfl⟩
      refine r_iload hc dP_solveSet_129 rfl ?_
      refine r_iastN hc dP_solveSet_131 rfl (by first | omega | (show _ < 12; omega) | (show _ < 204; omega) | (show _ < 144; omega) | (show _ < 2048; omega) | (show _ < 4096; omega) | (show _ < 16; omega)) ?_
      subst hQ
      exact r_vret hc dP_solveSet_132 ⟨rfl, bst, hbst, rfl⟩
    · have ht2 : t < m := nle_of h (by omega) (by omega)
      have ih := ih ht2 (by omega)
      simp only [← nI_add] at ih
      have hbd := dp_le (cst := cst) (B := fun T => (sol cst m T).1) (Y := fun T => (sol cst m T).2.2) (S := S) (f := lowb S) t
      refine r_iload_n hc dP_solveSet_24 rfl ?_
      refine r_iload_n hc dP_solveSet_25 rfl ?_
      refine r_iload hc dP_solveSet_26 rfl ?_
      refine kP_87r hc dP_solveSet_28 (cP_without _ g d w S (lowb S) t (by omega) (by omega)) (by omega) (Nat.le_of_ble_eq_true rfl) ?_
      rintro _ _ ⟨rfl, rfl⟩
      have hcl : clr (clr S (lowb S)) t ≤ S := Nat.le_trans (clr_le _ _) (clr_le _ _)
      refine kP_54r hc dP_solveSet_31 (cP_indexOf _ g d w _ (by omega)) (by omega) (Nat.le_of_ble_eq_true rfl) ?_
      rintro _ _ ⟨rfl, rfl⟩
      refine r_istore hc dP_solveSet_34 (Nat.le_of_ble_eq_true rfl) ?_
      refine r_aload_n hc dP_solveSet_36 rfl ?_
      refine r_iload_n hc dP_solveSet_37 rfl ?_
      refine r_iload_n hc dP_solveSet_38 rfl ?_
      refine r_iload hc dP_solveSet_39 rfl ?_
      refine kP_118r hc dP_solveSet_41 (cP_mayPlay _ g d w m S (lowb S) t cst hm hS (by omega) ht2 hcb hP) (by omega) (Nat.le_of_ble_eq_true rfl) ?_
      rintro _ _ ⟨rfl, rfl⟩
      -- nothing is found here
      have hskip : dp cst (fun T => (sol cst m T).1) (fun T => (sol cst m T).2.2) S (lowb S) (t + 1) = dp cst (fun T => (sol cst m T).1) (fun T => (sol cst m T).2.2) S (lowb S) t → Go X g 0 0 Q w 105 [some (.ref (g.1 31)), some (.int (nI S)), some (.int (nI (lowb S))), some (.int bst), some (.int (nI (dp cst (fun T => (sol cst m T).1) (fun T => (sol cst m T).2.2) S (lowb S) t).2.2)), some (.int (nI t)), some (.int (nI (clr (clr S (lowb S)) t / 2))), none] [] := by
        intro he
        rw [he] at ih
        refine r_iinc hc dP_solveSet_105 rfl ?_
        refine r_goto hc dP_solveSet_108 (tgt := 15) (by decide) ?_
        refine Go.drop 6 ?_
        exact ih bst hbst
      cases hb : S.testBit t with
      | false =>
        refine r_if_eq_t hc dP_solveSet_44 (tgt := 105) (by decide) rfl ?_
        exact hskip (by simp [dp, hb])
      | true =>
        cases hcs : cst (lowb S) t with
        | none =>
          refine r_if_eq_t hc dP_solveSet_44 (tgt := 105) (by decide) rfl ?_
          exact hskip (by simp [dp, hcs])
        | some c =>
          have hcc := hcb _ _ _ hcs
          obtain ⟨r1, r2, -⟩ := hT.rest hm h0 (by omega) hb
          obtain ⟨d1, d2⟩ := hD _ r1 r2
          have hcond : lowb S < t ∧ S.testBit t = true := ⟨by omega, hb⟩
          have hT2 : clr (clr S (lowb S)) t < 4096 := by omega
          refine r_if_eq_f hc dP_solveSet_44 (tgt := 105) (by decide) (show ¬ bI true = 0 by decide) ?_
          refine r_aload_n hc dP_solveSet_47 rfl ?_
          refine gP_27 hc dP_solveSet_48 ?_
          refine r_iload hc dP_solveSet_51 rfl ?_
          refine r_ialdN hc dP_solveSet_53 rfl (by first | omega | (show _ < 12; omega) | (show _ < 204; omega) | (show _ < 144; omega) | (show _ < 2048; omega) | (show _ < 4096; omega) | (show _ < 16; omega)) ?_
          rw [d1]
          rcases sol_cnt (cst := cst) (m := m) hm hcb hT2 with ⟨y1, y2⟩ | ⟨y1, y2, y3⟩
          · rw [y2]
            refine r_if_le_t hc dP_solveSet_54 (tgt := 105) (by decide) (by decide) ?_
            refine hskip ?_
            simp only [dp, if_pos hcond, hcs, y1, y2]
            rw [if_neg (by omega)]
            rfl
          · have d2 := d2 y2
            refine r_if_le_f hc dP_solveSet_54 (tgt := 105) (by decide) (nI_ge (a := 0) y2 (by omega)) ?_
            refine r_aload_n hc dP_solveSet_57 rfl ?_
            refine gP_21 hc dP_solveSet_58 ?_
            refine r_iload_n hc dP_solveSet_61 rfl ?_
            refine r_aaldN hc dP_solveSet_62 rfl (by first | omega | (show _ < 12; omega) | (show _ < 204; omega) | (show _ < 144; omega) | (show _ < 2048; omega) | (show _ < 4096; omega) | (show _ < 16; omega)) ?_
            refine r_iload hc dP_solveSet_63 rfl ?_
            rw [show (33 + 1 + lowb S : Nat) = 34 + lowb S by omega]
            refine r_ialdN hc dP_solveSet_65 rfl (lenPr (by omega) (by omega)) ?_
            rw [hP (lowb S) t (by omega) ht2, hcs]
            refine r_aload_n hc dP_solveSet_66 rfl ?_
            refine gP_24 hc dP_solveSet_67 ?_
            refine r_iload hc dP_solveSet_70 rfl ?_
            refine r_ialdN hc dP_solveSet_72 rfl (by first | omega | (show _ < 12; omega) | (show _ < 204; omega) | (show _ < 144; omega) | (show _ < 2048; omega) | (show _ < 4096; omega) | (show _ < 16; omega)) ?_
            rw [d2]
            change Go X g 0 0 Q w 73 _ [.int (nI (sol cst m (clr (clr S (lowb S)) t)).1), .int (nI c)]
            refine r_iadd hc dP_solveSet_73 ?_
            rw [nI_add]
            refine r_istore hc dP_solveSet_74 (Nat.le_of_ble_eq_true rfl) ?_
            refine r_iload hc dP_solveSet_76 rfl ?_
            have hsb : SBd (dp cst (fun T => (sol cst m T).1) (fun T => (sol cst m T).2.2) S (lowb S) t) 7 (t * 2985984) := dp_bd (h := 6) (N := 2985984) hcb (fun j hj hbj => sol_cnt (cst := cst) (m := m) (S := clr (clr S (lowb S)) j) hm hcb (by have : clr (clr S (lowb S)) j ≤ S := Nat.le_trans (clr_le _ _) (clr_le _ _); omega)) (Nat.le_refl _) t
            have hlast : ∀ nb : Int32, nb = nI (if c + (sol cst m (clr (clr S (lowb S)) t)).1 < (dp cst (fun T => (sol cst m T).1) (fun T => (sol cst m T).2.2) S (lowb S) t).1 then c + (sol cst m (clr (clr S (lowb S)) t)).1 else (dp cst (fun T => (sol cst m T).1) (fun T => (sol cst m T).2.2) S (lowb S) t).1) → Go X g 0 0 Q w 92 [some (.ref (g.1 31)), some (.int (nI S)), some (.int (nI (lowb S))), some (.int bst), some (.int (nI (dp cst (fun T => (sol cst m T).1) (fun T => (sol cst m T).2.2) S (lowb S) t).2.2)), some (.int (nI t)), some (.int (nI (clr (clr S (lowb S)) t / 2))), some (.int (nI (c + (sol cst m (clr (clr S (lowb S)) t)).1)))] [.int nb] := by
              intro nb hnb
              refine r_istore_n hc dP_solveSet_92 (Nat.le_of_ble_eq_true rfl) ?_
              refine r_iload hc dP_solveSet_93 rfl ?_
              refine r_aload_n hc dP_solveSet_95 rfl ?_
              refine gP_27 hc dP_solveSet_96 ?_
              refine r_iload hc dP_solveSet_99 rfl ?_
              refine r_ialdN hc dP_solveSet_101 rfl (by first | omega | (show _ < 12; omega) | (show _ < 204; omega) | (show _ < 144; omega) | (show _ < 2048; omega) | (show _ < 4096; omega) | (show _ < 16; omega)) ?_
              rw [d1]
              refine r_iadd hc dP_solveSet_102 ?_
              rw [nI_add]
              refine r_istore hc dP_solveSet_103 (Nat.le_of_ble_eq_true rfl) ?_
              refine r_iinc hc dP_solveSet_105 rfl ?_
              refine r_goto hc dP_solveSet_108 (tgt := 15) (by decide) ?_
              refine Go.drop 6 (Go.drop 7 ?_)
              have e2 : (dp cst (fun T => (sol cst m T).1) (fun T => (sol cst m T).2.2) S (lowb S) (t + 1)).2.2 = (dp cst (fun T => (sol cst m T).1) (fun T => (sol cst m T).2.2) S (lowb S) t).2.2 + (sol cst m (clr (clr S (lowb S)) t)).2.2 := by
                simp only [dp, if_pos hcond, hcs]
                split <;> rfl
              have e1 : (dp cst (fun T => (sol cst m T).1) (fun T => (sol cst m T).2.2) S (lowb S) (t + 1)).1 = if c + (sol cst m (clr (clr S (lowb S)) t)).1 < (dp cst (fun T => (sol cst m T).1) (fun T => (sol cst m T).2.2) S (lowb S) t).1 then c + (sol cst m (clr (clr S (lowb S)) t)).1 else (dp cst (fun T => (sol cst m T).1) (fun T => (sol cst m T).2.2) S (lowb S) t).1 := by
                simp only [dp, if_pos hcond, hcs]
                split <;> rfl
              have ih := ih nb (fun _ => by rw [e1]; exact hnb)
              rw [e2] at ih
              exact ih
            rcases hsb with ⟨z1, z2⟩ | ⟨z1, z2, z3⟩
            · rw [z2] at hlast ⊢
              refine r_if_ne_f hc dP_solveSet_78 (tgt := 86) (by decide) (by decide) ?_
              refine r_iload hc dP_solveSet_81 rfl ?_
              refine r_goto hc dP_solveSet_83 (tgt := 92) (by decide) ?_
              refine hlast _ ?_
              rw [z1, if_pos (by unfold dpE; omega)]
            · have hz3 : (dp cst (fun T => (sol cst m T).1) (fun T => (sol cst m T).2.2) S (lowb S) t).2.2 < 2 ^ 30 := by omega
              refine r_if_ne_t hc dP_solveSet_78 (tgt := 86) (by decide) (nI_ne0 z2 (by omega)) ?_
              refine r_iload_n hc dP_solveSet_86 rfl ?_
              refine r_iload hc dP_solveSet_87 rfl ?_
              rw [hbst z2] at hlast ⊢
              refine kP_122r hc dP_solveSet_89 (cH_min _ g d w _ _) (by omega) (Nat.le_of_ble_eq_true rfl) ?_
              rintro _ _ ⟨rfl, rfl⟩
              refine hlast _ ?_
              by_cases hlt9 : c + (sol cst m (clr (clr S (lowb S)) t)).1 < (dp cst (fun T => (sol cst m T).1) (fun T => (sol cst m T).2.2) S (lowb S) t).1
              · rw [if_pos hlt9, if_neg (nI_ge hlt9 (by omega))]
              · rw [if_neg hlt9, if_pos (nI_le (by omega) (by omega))]
  refine Go.cast rfl ?_ rfl (hgen (lowb S + 1) (by omega) (Nat.le_refl _) (nI 0) (fun z => ?_))
  · rw [dp_low _ (Nat.le_refl _)]
    rfl
  · rw [dp_low _ (Nat.le_refl _)] at z
    exact absurd z (Nat.lt_irrefl _)
