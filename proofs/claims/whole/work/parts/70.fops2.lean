/-! PairedField: opponent, isWhite, enter, back, tell -/
theorem cF_opponent_y (l : Launch) (g : GG) (d : Nat) (w : Wd) (m : Nat) (inn : Nat → Bool) (ap : Nat → Nat → Bool) (n : Nat) (G : Nat → Nat → Ce) (x : Int32) (hF : FOk m inn ap n true G) (hS : CS w m inn ap n true G) (h : isP m x = true) : Con l g yF_opponent bF_opponent 3 ((some .int)) [] (d + 2) 0 0 [.ref (g.1 0), .int x] w (Rp (An (some (.int (oppI (G n (pN x))))) w)) := by
  intro X hl ha hm' hk hn' hc
  subst hl
  have hm := hF.1.2
  have hn : n < 16 := hF.2.2.1 rfl
  have hlr := lenRow hn
  have hrow := hF.2.2.2.2.2.2.1 n (by simp [rnd])
  refine r_aload_n hc dF_opponent_0 rfl ?_
  refine r_iload_n hc dF_opponent_1 rfl ?_
  refine kF_59r hc dF_opponent_2 (cF_refuseNoPlayer_y _ g d w m x hS.1 h) (by omega) (Nat.le_of_ble_eq_true rfl) ?_
  rintro _ _ ⟨rfl, rfl⟩
  obtain ⟨p, hp, rfl⟩ := isP_t h hm
  rw [pN_nI (by omega)]
  refine r_aload_n hc dF_opponent_5 rfl ?_
  refine kF_100r hc dF_opponent_6 (cF_refuseNoRound_y _ g d w hS.2.2.1) (by omega) (Nat.le_of_ble_eq_true rfl) ?_
  rintro _ _ ⟨rfl, rfl⟩
  refine r_aload_n hc dF_opponent_9 rfl ?_
  refine gF_11 hc dF_opponent_10 ?_
  refine r_aload_n hc dF_opponent_13 rfl ?_
  refine gF_73 hc dF_opponent_14 ?_
  rw [hS.2.1]
  refine r_aaldN hc dF_opponent_17 rfl (by first | omega | (show _ < 12; omega) | (show _ < 204; omega) | (show _ < 144; omega) | (show _ < 2048; omega) | (show _ < 4096; omega) | (show _ < 16; omega)) ?_
  refine r_iload_n hc dF_opponent_18 rfl ?_
  rw [show (1 + 1 + n : Nat) = 2 + n by omega]
  refine r_ialdN hc dF_opponent_19 rfl (by rw [hlr]; omega) ?_
  rw [hS.2.2.2.2.2.2 n (by simp [rnd]) p (by omega)]
  refine r_istore_n hc dF_opponent_20 (Nat.le_of_ble_eq_true rfl) ?_
  refine r_iload_n hc dF_opponent_21 rfl ?_
  refine r_iconst hc dF_opponent_22 (-1) (by decide) ?_
  rcases hg : G n p with _ | _ | ⟨q, b, k⟩
  · refine r_ic_ne_f hc dF_opponent_23 (tgt := 30) (by decide) (by decide) ?_
    refine r_iconst hc dF_opponent_26 (-1) (by decide) ?_
    refine r_goto hc dF_opponent_27 (tgt := 34) (by decide) ?_
    exact r_iret hc dF_opponent_34 ⟨rfl, rfl⟩
  · refine r_ic_ne_t hc dF_opponent_23 (tgt := 30) (by decide) (by decide) ?_
    refine r_iload_n hc dF_opponent_30 rfl ?_
    refine kF_103r hc dF_opponent_31 (cC_opponentIn _ g d w _) (by omega) (Nat.le_of_ble_eq_true rfl) ?_
    rintro _ _ ⟨rfl, rfl⟩
    exact r_iret hc dF_opponent_34 ⟨rfl, rfl⟩
  · have hr := hrow.2 p q b k hg
    obtain ⟨-, c2, -, -, c5⟩ := ce_all q (by omega) b k (by omega)
    refine r_ic_ne_t hc dF_opponent_23 (tgt := 30) (by decide) c5 ?_
    refine r_iload_n hc dF_opponent_30 rfl ?_
    refine kF_103r hc dF_opponent_31 (cC_opponentIn _ g d w _) (by omega) (Nat.le_of_ble_eq_true rfl) ?_
    rintro _ _ ⟨rfl, rfl⟩
    rw [c2]
    exact r_iret hc dF_opponent_34 ⟨rfl, rfl⟩
theorem cF_opponent_nP (l : Launch) (g : GG) (d : Nat) (w : Wd) (m : Nat) (inn : Nat → Bool) (ap : Nat → Nat → Bool) (n : Nat) (op : Bool) (G : Nat → Nat → Ce) (x : Int32) (hF : FOk m inn ap n op G) (hS : CS w m inn ap n op G) (h : isP m x = false) : Con l g yF_opponent bF_opponent 3 ((some .int)) [] (d + 7) 1 6 [.ref (g.1 0), .int x] w (Tp tIOB (fun z => w = z)) := by
  intro X hl ha hm' hk hn' hc
  subst hl
  have hm := hF.1.2
  refine r_aload_n hc dF_opponent_0 rfl ?_
  refine r_iload_n hc dF_opponent_1 rfl ?_
  exact kF_59t hc dF_opponent_2 (cF_refuseNoPlayer_n _ g d w m x hS.1 h) (by omega) (Nat.le_of_ble_eq_true rfl) hk hn' (fun w' h => ⟨rfl, h⟩)
theorem cF_opponent_nR (l : Launch) (g : GG) (d : Nat) (w : Wd) (m : Nat) (inn : Nat → Bool) (ap : Nat → Nat → Bool) (n : Nat) (G : Nat → Nat → Ce) (x : Int32) (hF : FOk m inn ap n false G) (hS : CS w m inn ap n false G) (h : isP m x = true) : Con l g yF_opponent bF_opponent 3 ((some .int)) [] (d + 7) 1 6 [.ref (g.1 0), .int x] w (Tp tISE (fun z => w = z)) := by
  intro X hl ha hm' hk hn' hc
  subst hl
  have hm := hF.1.2
  refine r_aload_n hc dF_opponent_0 rfl ?_
  refine r_iload_n hc dF_opponent_1 rfl ?_
  refine kF_59r hc dF_opponent_2 (cF_refuseNoPlayer_y _ g d w m x hS.1 h) (by omega) (Nat.le_of_ble_eq_true rfl) ?_
  rintro _ _ ⟨rfl, rfl⟩
  refine r_aload_n hc dF_opponent_5 rfl ?_
  exact kF_100t hc dF_opponent_6 (cF_refuseNoRound_n _ g d w hS.2.2.1) (by omega) (Nat.le_of_ble_eq_true rfl) hk hn' (fun w' h => ⟨rfl, h⟩)
theorem cF_isWhite_y (l : Launch) (g : GG) (d : Nat) (w : Wd) (m : Nat) (inn : Nat → Bool) (ap : Nat → Nat → Bool) (n : Nat) (G : Nat → Nat → Ce) (x : Int32) (hF : FOk m inn ap n true G) (hS : CS w m inn ap n true G) (h : isP m x = true) : Con l g yF_isWhite bF_isWhite 3 ((some .boolean)) [] (d + 2) 0 0 [.ref (g.1 0), .int x] w (Rp (An (some (.int (bI (whB (G n (pN x)))))) w)) := by
  intro X hl ha hm' hk hn' hc
  subst hl
  have hm := hF.1.2
  have hn : n < 16 := hF.2.2.1 rfl
  have hlr := lenRow hn
  have hrow := hF.2.2.2.2.2.2.1 n (by simp [rnd])
  refine r_aload_n hc dF_isWhite_0 rfl ?_
  refine r_iload_n hc dF_isWhite_1 rfl ?_
  refine kF_59r hc dF_isWhite_2 (cF_refuseNoPlayer_y _ g d w m x hS.1 h) (by omega) (Nat.le_of_ble_eq_true rfl) ?_
  rintro _ _ ⟨rfl, rfl⟩
  obtain ⟨p, hp, rfl⟩ := isP_t h hm
  rw [pN_nI (by omega)]
  refine r_aload_n hc dF_isWhite_5 rfl ?_
  refine kF_100r hc dF_isWhite_6 (cF_refuseNoRound_y _ g d w hS.2.2.1) (by omega) (Nat.le_of_ble_eq_true rfl) ?_
  rintro _ _ ⟨rfl, rfl⟩
  refine r_aload_n hc dF_isWhite_9 rfl ?_
  refine gF_11 hc dF_isWhite_10 ?_
  refine r_aload_n hc dF_isWhite_13 rfl ?_
  refine gF_73 hc dF_isWhite_14 ?_
  rw [hS.2.1]
  refine r_aaldN hc dF_isWhite_17 rfl (by first | omega | (show _ < 12; omega) | (show _ < 204; omega) | (show _ < 144; omega) | (show _ < 2048; omega) | (show _ < 4096; omega) | (show _ < 16; omega)) ?_
  refine r_iload_n hc dF_isWhite_18 rfl ?_
  rw [show (1 + 1 + n : Nat) = 2 + n by omega]
  refine r_ialdN hc dF_isWhite_19 rfl (by rw [hlr]; omega) ?_
  rw [hS.2.2.2.2.2.2 n (by simp [rnd]) p (by omega)]
  refine r_istore_n hc dF_isWhite_20 (Nat.le_of_ble_eq_true rfl) ?_
  refine r_iload_n hc dF_isWhite_21 rfl ?_
  refine kF_109r hc dF_isWhite_22 (cC_isGame _ g d w _) (by omega) (Nat.le_of_ble_eq_true rfl) ?_
  rintro _ _ ⟨rfl, rfl⟩
  rcases hg : G n p with _ | _ | ⟨q, b, k⟩
  · refine r_if_eq_t hc dF_isWhite_25 (tgt := 40) (by decide) (by decide) ?_
    refine r_iconst hc dF_isWhite_40 (nI 0) (by decide) ?_
    exact r_zret hc dF_isWhite_41 rfl ⟨rfl, rfl⟩
  · refine r_if_eq_t hc dF_isWhite_25 (tgt := 40) (by decide) (by decide) ?_
    refine r_iconst hc dF_isWhite_40 (nI 0) (by decide) ?_
    exact r_zret hc dF_isWhite_41 rfl ⟨rfl, rfl⟩
  · have hr := hrow.2 p q b k hg
    obtain ⟨c1, -, c3, -, -⟩ := ce_all q (by omega) b k (by omega)
    rw [c1]
    refine r_if_eq_f hc dF_isWhite_25 (tgt := 40) (by decide) (by decide) ?_
    refine r_iload_n hc dF_isWhite_28 rfl ?_
    refine kF_113r hc dF_isWhite_29 (cC_colourIn _ g d w _) (by omega) (Nat.le_of_ble_eq_true rfl) ?_
    rintro _ _ ⟨rfl, rfl⟩
    rw [c3]
    refine r_iconst hc dF_isWhite_32 (nI 1) (by decide) ?_
    cases b with
    | true =>
      refine r_ic_ne_f hc dF_isWhite_33 (tgt := 40) (by decide) (by decide) ?_
      refine r_iconst hc dF_isWhite_36 (nI 1) (by decide) ?_
      refine r_goto hc dF_isWhite_37 (tgt := 41) (by decide) ?_
      exact r_zret hc dF_isWhite_41 rfl ⟨rfl, rfl⟩
    | false =>
      refine r_ic_ne_t hc dF_isWhite_33 (tgt := 40) (by decide) (by decide) ?_
      refine r_iconst hc dF_isWhite_40 (nI 0) (by decide) ?_
      exact r_zret hc dF_isWhite_41 rfl ⟨rfl, rfl⟩
theorem cF_isWhite_nP (l : Launch) (g : GG) (d : Nat) (w : Wd) (m : Nat) (inn : Nat → Bool) (ap : Nat → Nat → Bool) (n : Nat) (op : Bool) (G : Nat → Nat → Ce) (x : Int32) (hF : FOk m inn ap n op G) (hS : CS w m inn ap n op G) (h : isP m x = false) : Con l g yF_isWhite bF_isWhite 3 ((some .boolean)) [] (d + 7) 1 6 [.ref (g.1 0), .int x] w (Tp tIOB (fun z => w = z)) := by
  intro X hl ha hm' hk hn' hc
  subst hl
  have hm := hF.1.2
  refine r_aload_n hc dF_isWhite_0 rfl ?_
  refine r_iload_n hc dF_isWhite_1 rfl ?_
  exact kF_59t hc dF_isWhite_2 (cF_refuseNoPlayer_n _ g d w m x hS.1 h) (by omega) (Nat.le_of_ble_eq_true rfl) hk hn' (fun w' h => ⟨rfl, h⟩)
theorem cF_isWhite_nR (l : Launch) (g : GG) (d : Nat) (w : Wd) (m : Nat) (inn : Nat → Bool) (ap : Nat → Nat → Bool) (n : Nat) (G : Nat → Nat → Ce) (x : Int32) (hF : FOk m inn ap n false G) (hS : CS w m inn ap n false G) (h : isP m x = true) : Con l g yF_isWhite bF_isWhite 3 ((some .boolean)) [] (d + 7) 1 6 [.ref (g.1 0), .int x] w (Tp tISE (fun z => w = z)) := by
  intro X hl ha hm' hk hn' hc
  subst hl
  have hm := hF.1.2
  refine r_aload_n hc dF_isWhite_0 rfl ?_
  refine r_iload_n hc dF_isWhite_1 rfl ?_
  refine kF_59r hc dF_isWhite_2 (cF_refuseNoPlayer_y _ g d w m x hS.1 h) (by omega) (Nat.le_of_ble_eq_true rfl) ?_
  rintro _ _ ⟨rfl, rfl⟩
  refine r_aload_n hc dF_isWhite_5 rfl ?_
  exact kF_100t hc dF_isWhite_6 (cF_refuseNoRound_n _ g d w hS.2.2.1) (by omega) (Nat.le_of_ble_eq_true rfl) hk hn' (fun w' h => ⟨rfl, h⟩)
theorem cF_enter_y (l : Launch) (g : GG) (d : Nat) (w : Wd) (m : Nat) (inn : Nat → Bool) (ap : Nat → Nat → Bool) (n : Nat) (G : Nat → Nat → Ce) (hF : FOk m inn ap n false G) (hS : CS w m inn ap n false G) (h : m ≠ 12) : Con l g yF_enter bF_enter 1 ((some .int)) [] (d + 1) 0 0 [.ref (g.1 0)] w (Rp (fun v w' => v = some (.int (nI m)) ∧ CS w' (m + 1) (fun p => if p = m then true else inn p) ap n false G ∧ FrC w w')) := by
  intro X hl ha hm' hk hn' hc
  subst hl
  have hm := hF.1.2
  refine r_aload_n hc dF_enter_0 rfl ?_
  refine kF_49r hc dF_enter_1 (cF_refuseOpenRound_y _ g d w hS.2.2.1) (by omega) (Nat.le_of_ble_eq_true rfl) ?_
  rintro _ _ ⟨rfl, rfl⟩
  refine r_aload_n hc dF_enter_4 rfl ?_
  refine gF_45 hc dF_enter_5 ?_
  rw [hS.1]
  refine r_bipush hc dF_enter_8 (nI 12) (by decide) ?_
  refine r_ic_ne_t hc dF_enter_10 (tgt := 23) (by decide) (fun z => h (by rw [nI_eq (by omega) (by decide)] at z; exact z)) ?_
  refine r_aload_n hc dF_enter_23 rfl ?_
  refine gF_14 hc dF_enter_24 ?_
  refine r_aload_n hc dF_enter_27 rfl ?_
  refine gF_45 hc dF_enter_28 ?_
  rw [hS.1]
  refine r_iconst hc dF_enter_31 (nI 1) (by decide) ?_
  refine r_zastN hc dF_enter_32 rfl (by first | omega | (show _ < 12; omega) | (show _ < 204; omega) | (show _ < 144; omega) | (show _ < 2048; omega) | (show _ < 4096; omega) | (show _ < 16; omega)) (by first | exact Or.inl rfl | exact Or.inr rfl | assumption) ?_
  refine r_aload_n hc dF_enter_33 rfl ?_
  refine r_dup hc dF_enter_34 rfl ?_
  refine gF_45 hc dF_enter_35 ?_
  rw [wu_o1 (by decide), hS.1]
  refine r_iconst hc dF_enter_38 (nI 1) (by decide) ?_
  refine r_iadd hc dF_enter_39 ?_
  rw [nI_add]
  refine pF_45 hc dF_enter_40 ?_
  refine r_aload_n hc dF_enter_43 rfl ?_
  refine gF_45 hc dF_enter_44 ?_
  rw [wu_at]
  refine r_iconst hc dF_enter_47 (nI 1) (by decide) ?_
  refine r_isub hc dF_enter_48 ?_
  rw [pk_sub (by omega)]
  refine r_iret hc dF_enter_49 ⟨rfl, ⟨?_, ?_, ?_, fun p hp => ?_, fun p hp => ?_, ?_, fun r hr p hp => ?_⟩, ((FrC.rf w).put 18 _ _ (by decide)).put 0 _ _ (by decide)⟩
  · rw [wu_at]
  · rw [wu_o2 (by decide), wu_o1 (by decide)]; exact hS.2.1
  · rw [wu_o2 (by decide), wu_o1 (by decide)]; exact hS.2.2.1
  · rw [wu_o1 (by decide)]
    by_cases hpm : p = m
    · subst hpm
      rw [wu_at, inM_lt (by omega)]
      simp [bI]
      rfl
    · rw [wu_o2 hpm, hS.2.2.2.1 p hp]
      by_cases h9 : p < m
      · rw [inM_lt h9, inM_lt (by omega), if_neg hpm]
      · rw [inM_ge (by omega), inM_ge (by omega)]
  · rw [wu_o1 (by decide), wu_o1 (by decide)]; exact hS.2.2.2.2.1 p hp
  · exact hS.2.2.2.2.2.1.congr (fun k k1 k2 => by rw [wu_ne (by omega), wu_ne (by omega)])
  · have hr2 : r < n := hr
    have := hF.2.1
    rw [wu_o1 (by omega), wu_o1 (by omega)]; exact hS.2.2.2.2.2.2 r hr p hp
theorem cF_enter_n (l : Launch) (g : GG) (d : Nat) (w : Wd) (m : Nat) (inn : Nat → Bool) (ap : Nat → Nat → Bool) (n : Nat) (op : Bool) (G : Nat → Nat → Ce) (hF : FOk m inn ap n op G) (hS : CS w m inn ap n op G) (h : (op || decide (m = 12)) = true) : Con l g yF_enter bF_enter 1 ((some .int)) [] (d + 7) 1 6 [.ref (g.1 0)] w (Tp tISE (fun z => w = z)) := by
  intro X hl ha hm' hk hn' hc
  subst hl
  have hm := hF.1.2
  refine r_aload_n hc dF_enter_0 rfl ?_
  cases op with
  | true => exact kF_49t hc dF_enter_1 (cF_refuseOpenRound_n _ g d w hS.2.2.1) (by omega) (Nat.le_of_ble_eq_true rfl) hk hn' (fun w' h => ⟨rfl, h⟩)
  | false =>
    have h : m = 12 := by simpa using h
    refine kF_49r hc dF_enter_1 (cF_refuseOpenRound_y _ g d w hS.2.2.1) (by omega) (Nat.le_of_ble_eq_true rfl) ?_
    rintro _ _ ⟨rfl, rfl⟩
    refine r_aload_n hc dF_enter_4 rfl ?_
    refine gF_45 hc dF_enter_5 ?_
    rw [hS.1, h]
    refine r_bipush hc dF_enter_8 (nI 12) (by decide) ?_
    refine r_ic_ne_f hc dF_enter_10 (tgt := 23) (by decide) (by decide) ?_
    exact r_throw (cls := "java/lang/IllegalStateException") hc (by omega) (Nat.le_of_ble_eq_true rfl) (by decide +kernel) own_ISE (t2_mem 13 rfl rfl) (t2_mem 14 rfl rfl) (t1_mem 9 rfl rfl) (t2_mem 82 rfl rfl) dF_enter_13 dF_enter_16 dF_enter_17 dF_enter_19 dF_enter_22 hk hn' ⟨rfl, rfl⟩
theorem cF_back_yO (l : Launch) (g : GG) (d : Nat) (w : Wd) (m : Nat) (inn : Nat → Bool) (ap : Nat → Nat → Bool) (n : Nat) (G : Nat → Nat → Ce) (hF : FOk m inn ap n true G) (hS : CS w m inn ap n true G) : Con l g yF_back bF_back 1 ((some .int)) [] d 0 0 [.ref (g.1 0)] w (Rp (fun v w' => v = some (.int (nI n)) ∧ CS w' m inn ap n false G ∧ FrC w w')) := by
  intro X hl ha hm' hk hn' hc
  subst hl
  have hm := hF.1.2
  refine r_aload_n hc dF_back_0 rfl ?_
  refine gF_135 hc dF_back_1 ?_
  rw [hS.2.2.1]
  refine r_if_eq_f hc dF_back_4 (tgt := 17) (by decide) (by decide) ?_
  refine r_aload_n hc dF_back_7 rfl ?_
  refine r_iconst hc dF_back_8 (nI 0) (by decide) ?_
  refine pF_135 hc dF_back_9 (by first | exact Or.inl rfl | exact Or.inr rfl | assumption) ?_
  refine r_aload_n hc dF_back_12 rfl ?_
  refine gF_73 hc dF_back_13 ?_
  rw [wu_o2 (by decide), hS.2.1]
  refine r_iret hc dF_back_16 ⟨rfl, ⟨?_, ?_, ?_, fun p hp => ?_, fun p hp => ?_, ?_, fun r hr p hp => ?_⟩, (FrC.rf w).put 0 _ _ (by decide)⟩
  · rw [wu_o2 (by decide)]; exact hS.1
  · rw [wu_o2 (by decide)]; exact hS.2.1
  · rw [wu_at]; rfl
  · rw [wu_o1 (by decide)]; exact hS.2.2.2.1 p hp
  · rw [wu_o1 (by decide)]; exact hS.2.2.2.2.1 p hp
  · exact hS.2.2.2.2.2.1.congr (fun k k1 k2 => by rw [wu_ne (by omega)])
  · have hr2 : r < n := hr
    rw [wu_o1 (by omega)]; exact hS.2.2.2.2.2.2 r (by simp [rnd]; omega) p hp
theorem cF_back_yC (l : Launch) (g : GG) (d : Nat) (w : Wd) (m : Nat) (inn : Nat → Bool) (ap : Nat → Nat → Bool) (n : Nat) (G : Nat → Nat → Ce) (hF : FOk m inn ap n false G) (hS : CS w m inn ap n false G) (h : 0 < n) : Con l g yF_back bF_back 1 ((some .int)) [] (d + 3) 0 0 [.ref (g.1 0)] w (Rp (fun v w' => v = some (.int (nI (n - 1))) ∧ CS w' m inn ap (n - 1) false G ∧ FrC w w')) := by
  intro X hl ha hm' hk hn' hc
  subst hl
  have hm := hF.1.2
  have hn16 := hF.2.1
  refine r_aload_n hc dF_back_0 rfl ?_
  refine gF_135 hc dF_back_1 ?_
  rw [hS.2.2.1]
  refine r_if_eq_t hc dF_back_4 (tgt := 17) (by decide) rfl ?_
  refine r_aload_n hc dF_back_17 rfl ?_
  refine gF_73 hc dF_back_18 ?_
  rw [hS.2.1]
  refine r_if_ne_t hc dF_back_21 (tgt := 34) (by decide) (nI_ne0 h (by omega)) ?_
  refine r_aload_n hc dF_back_34 rfl ?_
  refine r_dup hc dF_back_35 rfl ?_
  refine gF_73 hc dF_back_36 ?_
  rw [hS.2.1]
  refine r_iconst hc dF_back_39 (nI 1) (by decide) ?_
  refine r_isub hc dF_back_40 ?_
  rw [pk_sub (by omega)]
  refine pF_73 hc dF_back_41 ?_
  refine r_aload_n hc dF_back_44 rfl ?_
  refine gF_25 hc dF_back_45 ?_
  refine r_aload_n hc dF_back_48 rfl ?_
  refine gF_11 hc dF_back_49 ?_
  refine r_aload_n hc dF_back_52 rfl ?_
  refine gF_73 hc dF_back_53 ?_
  rw [wu_at]
  refine kF_141r hc dF_back_56 (cS_recount _ g d _ G (n - 1) (by omega) (fun r hr p hp => by rw [wu_o1 (by omega)]; exact hS.2.2.2.2.2.2 r (by simp [rnd]; omega) p hp) (fun r hr => hF.2.2.2.1 r (by omega)) (fun r hr p q b k h => hF.opp r (by omega) p q b k h)) (by omega) (Nat.le_of_ble_eq_true rfl) ?_
  rintro _ w' ⟨rfl, h1, h2⟩
  refine r_aload_n hc dF_back_59 rfl ?_
  refine gF_73 hc dF_back_60 ?_
  rw [h2 0 (by omega), wu_at]
  refine r_iret hc dF_back_63 ⟨rfl, ⟨?_, ?_, ?_, fun p hp => ?_, fun p hp => ?_, h1, fun r hr p hp => ?_⟩, fun k hk => ?_⟩
  · rw [h2 0 (by omega), wu_o2 (by decide)]; exact hS.1
  · rw [h2 0 (by omega), wu_at]
  · rw [h2 0 (by omega), wu_o2 (by decide)]; exact hS.2.2.1
  · rw [h2 18 (by omega), wu_o1 (by decide)]; exact hS.2.2.2.1 p hp
  · rw [h2 19 (by omega), wu_o1 (by decide)]; exact hS.2.2.2.2.1 p hp
  · have hr2 : r < n - 1 := hr
    rw [h2 (2 + r) (by omega), wu_o1 (by omega)]; exact hS.2.2.2.2.2.2 r (by simp [rnd]; omega) p hp
  · rw [h2 k (by omega), wu_ne (by omega)]
theorem cF_back_n (l : Launch) (g : GG) (d : Nat) (w : Wd) (m : Nat) (inn : Nat → Bool) (ap : Nat → Nat → Bool) (n : Nat) (G : Nat → Nat → Ce) (hF : FOk m inn ap n false G) (hS : CS w m inn ap n false G) (h : n = 0) : Con l g yF_back bF_back 1 ((some .int)) [] (d + 6) 1 6 [.ref (g.1 0)] w (Tp tISE (fun z => w = z)) := by
  intro X hl ha hm' hk hn' hc
  subst hl
  have hm := hF.1.2
  refine r_aload_n hc dF_back_0 rfl ?_
  refine gF_135 hc dF_back_1 ?_
  rw [hS.2.2.1]
  refine r_if_eq_t hc dF_back_4 (tgt := 17) (by decide) rfl ?_
  refine r_aload_n hc dF_back_17 rfl ?_
  refine gF_73 hc dF_back_18 ?_
  rw [hS.2.1, h]
  refine r_if_ne_f hc dF_back_21 (tgt := 34) (by decide) (by decide) ?_
  exact r_throw (cls := "java/lang/IllegalStateException") hc (by omega) (Nat.le_of_ble_eq_true rfl) (by decide +kernel) own_ISE (t2_mem 13 rfl rfl) (t2_mem 14 rfl rfl) (t1_mem 9 rfl rfl) (t3_mem 64 rfl rfl) dF_back_24 dF_back_27 dF_back_28 dF_back_30 dF_back_33 hk hn' ⟨rfl, rfl⟩
