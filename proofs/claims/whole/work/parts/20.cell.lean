/-! PairedField.Cell -/
def isG (c : Int32) : Bool := !decide (c = -1) && !decide (c = nI 76)
def isUn (c : Int32) : Bool := isG c && decide (c >>> (nI 5 &&& 31) = nI 3)
def wRes (c r : Int32) : Int32 := (c &&& nI 31) + (r <<< (nI 5 &&& 31))
def colr (c : Int32) : Int32 := if c &&& nI 16 = 0 then -1 else nI 1
def unto (o col : Int32) : Int32 := wRes (o + (if col = nI 1 then nI 16 else nI 0)) (nI 3)
theorem cC_withResult (l : Launch) (g : GG) (d : Nat) (w : Wd) (c r : Int32) : Con l g yC_withResult bC_withResult 2 ((some .int)) [] d 0 0 [.int c, .int r] w (Rp (An (some (.int (wRes c r))) w)) := by
  intro X hl ha hm hk hn hc
  subst hl
  refine r_iload_n hc dC_withResult_0 rfl ?_
  refine r_bipush hc dC_withResult_1 (nI 31) (by decide) ?_
  refine r_iand hc dC_withResult_3 ?_
  refine r_iload_n hc dC_withResult_4 rfl ?_
  refine r_iconst hc dC_withResult_5 (nI 5) (by decide) ?_
  refine r_ishl hc dC_withResult_6 ?_
  refine r_iadd hc dC_withResult_7 ?_
  exact r_iret hc dC_withResult_8 ⟨rfl, rfl⟩
theorem cC_opponentIn (l : Launch) (g : GG) (d : Nat) (w : Wd) (c : Int32) : Con l g yC_opponentIn bC_opponentIn 1 ((some .int)) [] d 0 0 [.int c] w (Rp (An (some (.int (c &&& nI 15))) w)) := by
  intro X hl ha hm hk hn hc
  subst hl
  refine r_iload_n hc dC_opponentIn_0 rfl ?_
  refine r_bipush hc dC_opponentIn_1 (nI 15) (by decide) ?_
  refine r_iand hc dC_opponentIn_3 ?_
  exact r_iret hc dC_opponentIn_4 ⟨rfl, rfl⟩
theorem cC_resultIn (l : Launch) (g : GG) (d : Nat) (w : Wd) (c : Int32) : Con l g yC_resultIn bC_resultIn 1 ((some .int)) [] d 0 0 [.int c] w (Rp (An (some (.int (c >>> (nI 5 &&& 31)))) w)) := by
  intro X hl ha hm hk hn hc
  subst hl
  refine r_iload_n hc dC_resultIn_0 rfl ?_
  refine r_iconst hc dC_resultIn_1 (nI 5) (by decide) ?_
  refine r_ishr hc dC_resultIn_2 ?_
  exact r_iret hc dC_resultIn_3 ⟨rfl, rfl⟩
theorem cC_colourIn (l : Launch) (g : GG) (d : Nat) (w : Wd) (c : Int32) : Con l g yC_colourIn bC_colourIn 1 ((some .int)) [] d 0 0 [.int c] w (Rp (An (some (.int (colr c))) w)) := by
  intro X hl ha hm hk hn hc
  subst hl
  refine r_iload_n hc dC_colourIn_0 rfl ?_
  refine r_bipush hc dC_colourIn_1 (nI 16) (by decide) ?_
  refine r_iand hc dC_colourIn_3 ?_
  refine r_if_eq hc dC_colourIn_4 (tgt := 11) (by decide) (fun h => ?_) (fun h => ?_)
  · refine r_iconst hc dC_colourIn_11 (-1) (by decide) ?_
    exact r_iret hc dC_colourIn_12 ⟨by simp [colr, h], rfl⟩
  · refine r_iconst hc dC_colourIn_7 (nI 1) (by decide) ?_
    refine r_goto hc dC_colourIn_8 (tgt := 12) (by decide) ?_
    exact r_iret hc dC_colourIn_12 ⟨by simp [colr, h], rfl⟩
theorem cC_isGame (l : Launch) (g : GG) (d : Nat) (w : Wd) (c : Int32) : Con l g yC_isGame bC_isGame 1 ((some .boolean)) [] d 0 0 [.int c] w (Rp (An (some (.int (bI (isG c)))) w)) := by
  intro X hl ha hm hk hn hc
  subst hl
  refine r_iload_n hc dC_isGame_0 rfl ?_
  refine r_iconst hc dC_isGame_1 (-1) (by decide) ?_
  refine r_ic_eq hc dC_isGame_2 (tgt := 15) (by decide) (fun h => ?_) (fun h => ?_)
  · refine r_iconst hc dC_isGame_15 (nI 0) (by decide) ?_
    exact r_zret hc dC_isGame_16 rfl ⟨by rw [show isG c = false by simp [isG, h]]; rfl, rfl⟩
  · refine r_iload_n hc dC_isGame_5 rfl ?_
    refine r_bipush hc dC_isGame_6 (nI 76) (by decide) ?_
    refine r_ic_eq hc dC_isGame_8 (tgt := 15) (by decide) (fun h2 => ?_) (fun h2 => ?_)
    · refine r_iconst hc dC_isGame_15 (nI 0) (by decide) ?_
      exact r_zret hc dC_isGame_16 rfl ⟨by rw [show isG c = false by simp [isG, h2]]; rfl, rfl⟩
    · refine r_iconst hc dC_isGame_11 (nI 1) (by decide) ?_
      refine r_goto hc dC_isGame_12 (tgt := 16) (by decide) ?_
      exact r_zret hc dC_isGame_16 rfl ⟨by rw [show isG c = true by simp [isG, h, h2]]; rfl, rfl⟩
theorem cC_isUntold (l : Launch) (g : GG) (d : Nat) (w : Wd) (c : Int32) : Con l g yC_isUntold bC_isUntold 1 ((some .boolean)) [] (d + 1) 0 0 [.int c] w (Rp (An (some (.int (bI (isUn c)))) w)) := by
  intro X hl ha hm hk hn hc
  subst hl
  refine r_iload_n hc dC_isUntold_0 rfl ?_
  refine kC_15r hc dC_isUntold_1 (cC_isGame _ g d w c) (Nat.le_refl _) (Nat.le_of_ble_eq_true rfl) ?_
  rintro _ _ ⟨rfl, rfl⟩
  refine r_if_eq hc dC_isUntold_4 (tgt := 19) (by decide) (fun h => ?_) (fun h => ?_)
  · refine r_iconst hc dC_isUntold_19 (nI 0) (by decide) ?_
    have h1 : isG c = false := by cases hh : isG c <;> simp_all [bI]
    exact r_zret hc dC_isUntold_20 rfl ⟨by rw [show isUn c = false by simp [isUn, h1]]; rfl, rfl⟩
  · have h1 : isG c = true := by cases hh : isG c <;> simp_all [bI]
    refine r_iload_n hc dC_isUntold_7 rfl ?_
    refine kC_19r hc dC_isUntold_8 (cC_resultIn _ g d w c) (Nat.le_refl _) (Nat.le_of_ble_eq_true rfl) ?_
    rintro _ _ ⟨rfl, rfl⟩
    refine r_iconst hc dC_isUntold_11 (nI 3) (by decide) ?_
    refine r_ic_ne hc dC_isUntold_12 (tgt := 19) (by decide) (fun h2 => ?_) (fun h2 => ?_)
    · refine r_iconst hc dC_isUntold_19 (nI 0) (by decide) ?_
      exact r_zret hc dC_isUntold_20 rfl ⟨by rw [show isUn c = false by simp [isUn, h2]]; rfl, rfl⟩
    · refine r_iconst hc dC_isUntold_15 (nI 1) (by decide) ?_
      refine r_goto hc dC_isUntold_16 (tgt := 20) (by decide) ?_
      exact r_zret hc dC_isUntold_20 rfl ⟨by rw [show isUn c = true by simp [isUn, h1, h2]]; rfl, rfl⟩
theorem cC_untoldGame (l : Launch) (g : GG) (d : Nat) (w : Wd) (o col : Int32) : Con l g yC_untoldGame bC_untoldGame 2 ((some .int)) [] (d + 1) 0 0 [.int o, .int col] w (Rp (An (some (.int (unto o col))) w)) := by
  intro X hl ha hm hk hn hc
  subst hl
  refine r_iload_n hc dC_untoldGame_0 rfl ?_
  refine r_iload_n hc dC_untoldGame_1 rfl ?_
  refine r_iconst hc dC_untoldGame_2 (nI 1) (by decide) ?_
  refine r_ic_ne hc dC_untoldGame_3 (tgt := 11) (by decide) (fun h => ?_) (fun h => ?_)
  · refine r_iconst hc dC_untoldGame_11 (nI 0) (by decide) ?_
    refine r_iadd hc dC_untoldGame_12 ?_
    refine r_iconst hc dC_untoldGame_13 (nI 3) (by decide) ?_
    refine kC_11r hc dC_untoldGame_14 (cC_withResult _ g d w _ _) (Nat.le_refl _) (Nat.le_of_ble_eq_true rfl) ?_
    rintro _ _ ⟨rfl, rfl⟩
    exact r_iret hc dC_untoldGame_17 ⟨by simp [unto, h], rfl⟩
  · refine r_bipush hc dC_untoldGame_6 (nI 16) (by decide) ?_
    refine r_goto hc dC_untoldGame_8 (tgt := 12) (by decide) ?_
    refine r_iadd hc dC_untoldGame_12 ?_
    refine r_iconst hc dC_untoldGame_13 (nI 3) (by decide) ?_
    refine kC_11r hc dC_untoldGame_14 (cC_withResult _ g d w _ _) (Nat.le_refl _) (Nat.le_of_ble_eq_true rfl) ?_
    rintro _ _ ⟨rfl, rfl⟩
    exact r_iret hc dC_untoldGame_17 ⟨by simp [unto, h], rfl⟩
