/-! PairedField: the refusals -/
abbrev tISE : String := "java/lang/IllegalStateException"
abbrev tIOB : String := "java/lang/IndexOutOfBoundsException"
abbrev tIAE : String := "java/lang/IllegalArgumentException"
abbrev tNSE : String := "java/util/NoSuchElementException"
theorem cF_refuseOpenRound_y (l : Launch) (g : GG) (d : Nat) (w : Wd) (h : w 0 7 = bI false) : Con l g yF_refuseOpenRound bF_refuseOpenRound 1 ((none : Option Jvm.ClassFile.FieldType)) [] d 0 0 [.ref (g.1 0)] w (Rp (An none w)) := by
  intro X hl ha hm' hk hn' hc
  subst hl
  refine r_aload_n hc dF_refuseOpenRound_0 rfl ?_
  refine gF_135 hc dF_refuseOpenRound_1 ?_
  rw [h]
  refine r_if_eq_t hc dF_refuseOpenRound_4 (tgt := 17) (by decide) rfl ?_
  exact r_vret hc dF_refuseOpenRound_17 ⟨rfl, rfl⟩
theorem cF_refuseOpenRound_n (l : Launch) (g : GG) (d : Nat) (w : Wd) (h : w 0 7 = bI true) : Con l g yF_refuseOpenRound bF_refuseOpenRound 1 ((none : Option Jvm.ClassFile.FieldType)) [] (d + 6) 1 6 [.ref (g.1 0)] w (Tp tISE (fun z => w = z)) := by
  intro X hl ha hm' hk hn' hc
  subst hl
  refine r_aload_n hc dF_refuseOpenRound_0 rfl ?_
  refine gF_135 hc dF_refuseOpenRound_1 ?_
  rw [h]
  refine r_if_eq_f hc dF_refuseOpenRound_4 (tgt := 17) (by decide) (by decide) ?_
  exact r_throw (cls := "java/lang/IllegalStateException") hc (by omega) (Nat.le_of_ble_eq_true rfl) (by decide +kernel) own_ISE (t2_mem 13 rfl rfl) (t2_mem 14 rfl rfl) (t1_mem 9 rfl rfl) (t2_mem 55 rfl rfl) dF_refuseOpenRound_7 dF_refuseOpenRound_10 dF_refuseOpenRound_11 dF_refuseOpenRound_13 dF_refuseOpenRound_16 hk hn' ⟨rfl, rfl⟩
theorem cF_refuseNoRound_y (l : Launch) (g : GG) (d : Nat) (w : Wd) (h : w 0 7 = bI true) : Con l g yF_refuseNoRound bF_refuseNoRound 1 ((none : Option Jvm.ClassFile.FieldType)) [] d 0 0 [.ref (g.1 0)] w (Rp (An none w)) := by
  intro X hl ha hm' hk hn' hc
  subst hl
  refine r_aload_n hc dF_refuseNoRound_0 rfl ?_
  refine gF_135 hc dF_refuseNoRound_1 ?_
  rw [h]
  refine r_if_ne_t hc dF_refuseNoRound_4 (tgt := 17) (by decide) (by decide) ?_
  exact r_vret hc dF_refuseNoRound_17 ⟨rfl, rfl⟩
theorem cF_refuseNoRound_n (l : Launch) (g : GG) (d : Nat) (w : Wd) (h : w 0 7 = bI false) : Con l g yF_refuseNoRound bF_refuseNoRound 1 ((none : Option Jvm.ClassFile.FieldType)) [] (d + 6) 1 6 [.ref (g.1 0)] w (Tp tISE (fun z => w = z)) := by
  intro X hl ha hm' hk hn' hc
  subst hl
  refine r_aload_n hc dF_refuseNoRound_0 rfl ?_
  refine gF_135 hc dF_refuseNoRound_1 ?_
  rw [h]
  refine r_if_ne_f hc dF_refuseNoRound_4 (tgt := 17) (by decide) (by decide) ?_
  exact r_throw (cls := "java/lang/IllegalStateException") hc (by omega) (Nat.le_of_ble_eq_true rfl) (by decide +kernel) own_ISE (t2_mem 13 rfl rfl) (t2_mem 14 rfl rfl) (t1_mem 9 rfl rfl) (t2_mem 215 rfl rfl) dF_refuseNoRound_7 dF_refuseNoRound_10 dF_refuseNoRound_11 dF_refuseNoRound_13 dF_refuseNoRound_16 hk hn' ⟨rfl, rfl⟩
theorem cF_refuseNoPlayer_y (l : Launch) (g : GG) (d : Nat) (w : Wd) (m : Nat) (x : Int32) (hpl : w 0 5 = nI m) (h : isP m x = true) : Con l g yF_refuseNoPlayer bF_refuseNoPlayer 2 ((none : Option Jvm.ClassFile.FieldType)) [] (d + 1) 0 0 [.ref (g.1 0), .int x] w (Rp (An none w)) := by
  intro X hl ha hm' hk hn' hc
  subst hl
  refine r_aload_n hc dF_refuseNoPlayer_0 rfl ?_
  refine r_iload_n hc dF_refuseNoPlayer_1 rfl ?_
  refine kF_150r hc dF_refuseNoPlayer_2 (cF_isPlayer _ g d w m x hpl) (Nat.le_refl _) (Nat.le_of_ble_eq_true rfl) ?_
  rintro _ _ ⟨rfl, rfl⟩
  rw [h]
  refine r_if_ne_t hc dF_refuseNoPlayer_5 (tgt := 18) (by decide) (by decide) ?_
  exact r_vret hc dF_refuseNoPlayer_18 ⟨rfl, rfl⟩
theorem cF_refuseNoPlayer_n (l : Launch) (g : GG) (d : Nat) (w : Wd) (m : Nat) (x : Int32) (hpl : w 0 5 = nI m) (h : isP m x = false) : Con l g yF_refuseNoPlayer bF_refuseNoPlayer 2 ((none : Option Jvm.ClassFile.FieldType)) [] (d + 6) 1 6 [.ref (g.1 0), .int x] w (Tp tIOB (fun z => w = z)) := by
  intro X hl ha hm' hk hn' hc
  subst hl
  refine r_aload_n hc dF_refuseNoPlayer_0 rfl ?_
  refine r_iload_n hc dF_refuseNoPlayer_1 rfl ?_
  refine Go.cast rfl rfl rfl (kF_150 (kc := 0) (ks := 0) hc dF_refuseNoPlayer_2 (cF_isPlayer _ g d w m x hpl) (by omega) (Nat.le_of_ble_eq_true rfl) (Nat.zero_le _) (Nat.zero_le _) ?_ (fun cn w' h => absurd h Rp_r))
  rintro _ _ ⟨rfl, rfl⟩
  rw [h]
  refine r_if_ne_f hc dF_refuseNoPlayer_5 (tgt := 18) (by decide) (by decide) ?_
  exact r_throw (cls := "java/lang/IndexOutOfBoundsException") hc (by omega) (Nat.le_of_ble_eq_true rfl) (by decide +kernel) own_IOB (t2_mem 96 rfl rfl) (t2_mem 97 rfl rfl) (t1_mem 10 rfl rfl) (t2_mem 105 rfl rfl) dF_refuseNoPlayer_8 dF_refuseNoPlayer_11 dF_refuseNoPlayer_12 dF_refuseNoPlayer_14 dF_refuseNoPlayer_17 hk hn' ⟨rfl, rfl⟩
