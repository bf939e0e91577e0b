/-! PairedField: table, had, missing, close, opponent, isWhite, enter, back -/
theorem cF_table_y (l : Launch) (g : GG) (d : Nat) (w : Wd) (m : Nat) (inn : Nat → Bool) (ap : Nat → Nat → Bool) (n : Nat) (op : Bool) (G : Nat → Nat → Ce) (x : Int32) (hF : FOk m inn ap n op G) (hS : CS w m inn ap n op G) (h : isP m x = true) : Con l g yF_table bF_table 2 ((some .int)) [] (d + 2) 0 0 [.ref (g.1 0), .int x] w (Rp (fun v w' => (∃ p, p < m ∧ f_rk G n p m = pN x ∧ v = some (.int (nI p))) ∧ w = w')) := by
  intro X hl ha hm' hk hn' hc
  subst hl
  have hm := hF.1.2
  obtain ⟨p, hp, rfl⟩ := isP_t h hm
  rw [pN_nI (by omega)]
  refine r_iload_n hc dF_table_0 rfl ?_
  refine r_if_lt_f hc dF_table_1 (tgt := 12) (by decide) (nI_pos (by omega)) ?_
  refine r_iload_n hc dF_table_4 rfl ?_
  refine r_aload_n hc dF_table_5 rfl ?_
  refine gF_45 hc dF_table_6 ?_
  rw [hS.1]
  refine r_ic_lt_t hc dF_table_9 (tgt := 22) (by decide) (nI_lt hp (by omega)) ?_
  refine r_aload_n hc dF_table_22 rfl ?_
  refine gF_25 hc dF_table_23 ?_
  refine r_iload_n hc dF_table_26 rfl ?_
  refine r_aload_n hc dF_table_27 rfl ?_
  refine gF_45 hc dF_table_28 ?_
  rw [hS.1]
  refine kF_182r hc dF_table_31 (cS_playerAt _ g d w G n m p hS.2.2.2.2.2.1 hF.2.2.2.1 (fun r hr p q b k h => hF.opp r hr p q b k h) hF.2.1 hm hp) (by omega) (Nat.le_of_ble_eq_true rfl) ?_
  rintro _ _ ⟨⟨q, h1, h2, rfl⟩, rfl⟩
  exact r_iret hc dF_table_34 ⟨⟨q, h1, h2, rfl⟩, rfl⟩
theorem cF_table_n (l : Launch) (g : GG) (d : Nat) (w : Wd) (m : Nat) (inn : Nat → Bool) (ap : Nat → Nat → Bool) (n : Nat) (op : Bool) (G : Nat → Nat → Ce) (x : Int32) (hF : FOk m inn ap n op G) (hS : CS w m inn ap n op G) (h : isP m x = false) : Con l g yF_table bF_table 2 ((some .int)) [] (d + 6) 1 6 [.ref (g.1 0), .int x] w (Tp tIOB (fun z => w = z)) := by
  intro X hl ha hm' hk hn' hc
  subst hl
  have hm := hF.1.2
  have h := of_decide_eq_false h
  refine r_iload_n hc dF_table_0 rfl ?_
  refine r_if_lt hc dF_table_1 (tgt := 12) (by decide) (fun h1 => ?_) (fun h1 => ?_)
  · exact r_throw (cls := "java/lang/IndexOutOfBoundsException") hc (by omega) (Nat.le_of_ble_eq_true rfl) (by decide +kernel) own_IOB (t2_mem 96 rfl rfl) (t2_mem 97 rfl rfl) (t1_mem 10 rfl rfl) (t3_mem 100 rfl rfl) dF_table_12 dF_table_15 dF_table_16 dF_table_18 dF_table_21 hk hn' ⟨rfl, rfl⟩
  · refine r_iload_n hc dF_table_4 rfl ?_
    refine r_aload_n hc dF_table_5 rfl ?_
    refine gF_45 hc dF_table_6 ?_
    rw [hS.1]
    refine r_ic_lt_f hc dF_table_9 (tgt := 22) (by decide) (fun z => h ⟨Int32.not_lt.mp h1, z⟩) ?_
    exact r_throw (cls := "java/lang/IndexOutOfBoundsException") hc (by omega) (Nat.le_of_ble_eq_true rfl) (by decide +kernel) own_IOB (t2_mem 96 rfl rfl) (t2_mem 97 rfl rfl) (t1_mem 10 rfl rfl) (t3_mem 100 rfl rfl) dF_table_12 dF_table_15 dF_table_16 dF_table_18 dF_table_21 hk hn' ⟨rfl, rfl⟩
theorem cF_had_y (l : Launch) (g : GG) (d : Nat) (w : Wd) (m : Nat) (inn : Nat → Bool) (ap : Nat → Nat → Bool) (n : Nat) (op : Bool) (G : Nat → Nat → Ce) (x y : Int32) (hF : FOk m inn ap n op G) (hS : CS w m inn ap n op G) (h : isP m y = true) (h2 : isP n x = true) : Con l g yF_had bF_had 3 ((some .int)) [] (d + 2) 0 0 [.ref (g.1 0), .int x, .int y] w (Rp (An (some (.int (ce_code (G (pN x) (pN y))))) w)) := by
  intro X hl ha hm' hk hn' hc
  subst hl
  have hm := hF.1.2
  have hn16 := hF.2.1
  have hr := rnd_le hF
  refine r_aload_n hc dF_had_0 rfl ?_
  refine r_iload_n hc dF_had_1 rfl ?_
  refine kF_59r hc dF_had_2 (cF_refuseNoPlayer_y _ g d w m y hS.1 h) (by omega) (Nat.le_of_ble_eq_true rfl) ?_
  rintro _ _ ⟨rfl, rfl⟩
  obtain ⟨p, hp, rfl⟩ := isP_t h hm
  obtain ⟨h2a, h2b⟩ := of_decide_eq_true h2
  obtain ⟨r, hr1, rfl⟩ := nI_of (Int32.not_lt.mpr h2a)
  have hr2 : r < n := (nI_ltI hr1 (by omega)).mp h2b
  rw [pN_nI (by omega), pN_nI (by omega)]
  refine r_iload_n hc dF_had_5 rfl ?_
  refine r_if_lt_f hc dF_had_6 (tgt := 17) (by decide) (nI_pos (by omega)) ?_
  refine r_iload_n hc dF_had_9 rfl ?_
  refine r_aload_n hc dF_had_10 rfl ?_
  refine gF_73 hc dF_had_11 ?_
  rw [hS.2.1]
  refine r_ic_lt_t hc dF_had_14 (tgt := 27) (by decide) (nI_lt hr2 (by omega)) ?_
  refine r_aload_n hc dF_had_27 rfl ?_
  refine gF_11 hc dF_had_28 ?_
  refine r_iload_n hc dF_had_31 rfl ?_
  refine r_aaldN hc dF_had_32 rfl (by first | omega | (show _ < 12; omega) | (show _ < 204; omega) | (show _ < 144; omega) | (show _ < 2048; omega) | (show _ < 4096; omega) | (show _ < 16; omega)) ?_
  refine r_iload_n hc dF_had_33 rfl ?_
  rw [show (1 + 1 + r : Nat) = 2 + r by omega]
  refine r_ialdN hc dF_had_34 rfl (lenR hn16 hr2 (by omega)) ?_
  rw [hS.2.2.2.2.2.2 r (by unfold rnd; split <;> omega) p (by omega)]
  exact r_iret hc dF_had_35 ⟨rfl, rfl⟩
theorem cF_had_n (l : Launch) (g : GG) (d : Nat) (w : Wd) (m : Nat) (inn : Nat → Bool) (ap : Nat → Nat → Bool) (n : Nat) (op : Bool) (G : Nat → Nat → Ce) (x y : Int32) (hF : FOk m inn ap n op G) (hS : CS w m inn ap n op G) (h : (isP m y && isP n x) = false) : Con l g yF_had bF_had 3 ((some .int)) [] (d + 7) 1 6 [.ref (g.1 0), .int x, .int y] w (Tp tIOB (fun z => w = z)) := by
  intro X hl ha hm' hk hn' hc
  subst hl
  have hm := hF.1.2
  refine r_aload_n hc dF_had_0 rfl ?_
  refine r_iload_n hc dF_had_1 rfl ?_
  cases hy : isP m y with
  | false => exact kF_59t hc dF_had_2 (cF_refuseNoPlayer_n _ g d w m y hS.1 hy) (by omega) (Nat.le_of_ble_eq_true rfl) hk hn' (fun w' h => ⟨rfl, h⟩)
  | true =>
    rw [hy, Bool.true_and] at h
    have h := of_decide_eq_false h
    refine kF_59r hc dF_had_2 (cF_refuseNoPlayer_y _ g d w m y hS.1 hy) (by omega) (Nat.le_of_ble_eq_true rfl) ?_
    rintro _ _ ⟨rfl, rfl⟩
    refine r_iload_n hc dF_had_5 rfl ?_
    refine r_if_lt hc dF_had_6 (tgt := 17) (by decide) (fun h1 => ?_) (fun h1 => ?_)
    · exact r_throw (cls := "java/lang/IndexOutOfBoundsException") hc (by omega) (Nat.le_of_ble_eq_true rfl) (by decide +kernel) own_IOB (t2_mem 96 rfl rfl) (t2_mem 97 rfl rfl) (t1_mem 10 rfl rfl) (t3_mem 92 rfl rfl) dF_had_17 dF_had_20 dF_had_21 dF_had_23 dF_had_26 hk hn' ⟨rfl, rfl⟩
    · refine r_iload_n hc dF_had_9 rfl ?_
      refine r_aload_n hc dF_had_10 rfl ?_
      refine gF_73 hc dF_had_11 ?_
      rw [hS.2.1]
      refine r_ic_lt_f hc dF_had_14 (tgt := 27) (by decide) (fun z => h ⟨Int32.not_lt.mp h1, z⟩) ?_
      exact r_throw (cls := "java/lang/IndexOutOfBoundsException") hc (by omega) (Nat.le_of_ble_eq_true rfl) (by decide +kernel) own_IOB (t2_mem 96 rfl rfl) (t2_mem 97 rfl rfl) (t1_mem 10 rfl rfl) (t3_mem 92 rfl rfl) dF_had_17 dF_had_20 dF_had_21 dF_had_23 dF_had_26 hk hn' ⟨rfl, rfl⟩
theorem cF_missing_y (l : Launch) (g : GG) (d : Nat) (w : Wd) (m : Nat) (inn : Nat → Bool) (ap : Nat → Nat → Bool) (n : Nat) (G : Nat → Nat → Ce) (hF : FOk m inn ap n true G) (hS : CS w m inn ap n true G) : Con l g yF_missing bF_missing 1 ((some .int)) [] (d + 3) 0 0 [.ref (g.1 0)] w (Rp (An (some (.int (nI (f_un (G n) m / 2)))) w)) := by
  intro X hl ha hm' hk hn' hc
  subst hl
  have hm := hF.1.2
  refine r_aload_n hc dF_missing_0 rfl ?_
  refine kF_100r hc dF_missing_1 (cF_refuseNoRound_y _ g d w hS.2.2.1) (by omega) (Nat.le_of_ble_eq_true rfl) ?_
  rintro _ _ ⟨rfl, rfl⟩
  refine r_aload_n hc dF_missing_4 rfl ?_
  refine kF_127r hc dF_missing_5 (cF_countUntold _ g d w m inn ap n G hF hS) (by omega) (Nat.le_of_ble_eq_true rfl) ?_
  rintro _ _ ⟨rfl, rfl⟩
  exact r_iret hc dF_missing_8 ⟨rfl, rfl⟩
theorem cF_missing_n (l : Launch) (g : GG) (d : Nat) (w : Wd) (h : w 0 7 = bI false) : Con l g yF_missing bF_missing 1 ((some .int)) [] (d + 7) 1 6 [.ref (g.1 0)] w (Tp tISE (fun z => w = z)) := by
  intro X hl ha hm' hk hn' hc
  subst hl
  refine r_aload_n hc dF_missing_0 rfl ?_
  exact kF_100t hc dF_missing_1 (cF_refuseNoRound_n _ g d w h) (by omega) (Nat.le_of_ble_eq_true rfl) hk hn' (fun w' h => ⟨rfl, h⟩)
theorem cF_close_y (l : Launch) (g : GG) (d : Nat) (w : Wd) (m : Nat) (inn : Nat → Bool) (ap : Nat → Nat → Bool) (n : Nat) (G : Nat → Nat → Ce) (hF : FOk m inn ap n true G) (hS : CS w m inn ap n true G) (h : f_un (G n) m / 2 = 0) (hT : GTold G (n + 1)) : Con l g yF_close bF_close 1 ((some .int)) [] (d + 4) 0 0 [.ref (g.1 0)] w (Rp (fun v w' => v = some (.int (nI (n + 1))) ∧ CS w' m inn ap (n + 1) false G ∧ FrC w w')) := by
  intro X hl ha hm' hk hn' hc
  subst hl
  have hm := hF.1.2
  refine r_aload_n hc dF_close_0 rfl ?_
  refine kF_100r hc dF_close_1 (cF_refuseNoRound_y _ g d w hS.2.2.1) (by omega) (Nat.le_of_ble_eq_true rfl) ?_
  rintro _ _ ⟨rfl, rfl⟩
  refine r_aload_n hc dF_close_4 rfl ?_
  refine kF_127r hc dF_close_5 (cF_countUntold _ g d w m inn ap n G hF hS) (by omega) (Nat.le_of_ble_eq_true rfl) ?_
  rintro _ _ ⟨rfl, rfl⟩
  rw [h]
  refine r_if_le_t hc dF_close_8 (tgt := 21) (by decide) (by decide) ?_
  refine r_aload_n hc dF_close_21 rfl ?_
  refine kF_132r hc dF_close_22 (cF_closeRound _ g d w m inn ap n G (hF.2.2.1 rfl) hT (fun r hr p q b k hg => by have := ((hF.2.2.2.2.2.2.1 r (by simp [rnd]; omega)).2 p q b k hg).1; omega) hS) (by omega) (Nat.le_of_ble_eq_true rfl) ?_
  rintro _ w' ⟨rfl, h1, h2⟩
  refine r_aload_n hc dF_close_25 rfl ?_
  refine gF_73 hc dF_close_26 ?_
  rw [h1.2.1]
  exact r_iret hc dF_close_29 ⟨rfl, h1, h2⟩
theorem cF_close_n (l : Launch) (g : GG) (d : Nat) (w : Wd) (m : Nat) (inn : Nat → Bool) (ap : Nat → Nat → Bool) (n : Nat) (op : Bool) (G : Nat → Nat → Ce) (hF : FOk m inn ap n op G) (hS : CS w m inn ap n op G) (h : clOk op (G n) m = false) : Con l g yF_close bF_close 1 ((some .int)) [] (d + 7) 1 6 [.ref (g.1 0)] w (Tp tISE (fun z => w = z)) := by
  intro X hl ha hm' hk hn' hc
  subst hl
  have hm := hF.1.2
  have hle := f_un_le (G n) m
  refine r_aload_n hc dF_close_0 rfl ?_
  cases op with
  | false => exact kF_100t hc dF_close_1 (cF_refuseNoRound_n _ g d w hS.2.2.1) (by omega) (Nat.le_of_ble_eq_true rfl) hk hn' (fun w' h => ⟨rfl, h⟩)
  | true =>
    have h : ¬ f_un (G n) m / 2 = 0 := by
      unfold clOk at h
      rw [Bool.true_and] at h
      exact of_decide_eq_false h
    refine kF_100r hc dF_close_1 (cF_refuseNoRound_y _ g d w hS.2.2.1) (by omega) (Nat.le_of_ble_eq_true rfl) ?_
    rintro _ _ ⟨rfl, rfl⟩
    refine r_aload_n hc dF_close_4 rfl ?_
    refine kF_127r hc dF_close_5 (cF_countUntold _ g d w m inn ap n G hF hS) (by omega) (Nat.le_of_ble_eq_true rfl) ?_
    rintro _ _ ⟨rfl, rfl⟩
    refine r_if_le_f hc dF_close_8 (tgt := 21) (by decide) (nI_ge (a := 0) (by omega) (by omega)) ?_
    exact r_throw (cls := "java/lang/IllegalStateException") hc (by omega) (Nat.le_of_ble_eq_true rfl) (by decide +kernel) own_ISE (t2_mem 13 rfl rfl) (t2_mem 14 rfl rfl) (t1_mem 9 rfl rfl) (t3_mem 31 rfl rfl) dF_close_11 dF_close_14 dF_close_15 dF_close_17 dF_close_20 hk hn' ⟨rfl, rfl⟩
