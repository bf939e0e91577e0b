/-! the law's helpers: missing, had -/
theorem cL_missing_y (l : Launch) (g : GG) (d : Nat) (w : Wd) (m : Nat) (inn : Nat → Bool) (ap : Nat → Nat → Bool) (n : Nat) (G : Nat → Nat → Ce) (hF : FOk m inn ap n true G) (hS : CS w m inn ap n true G) : Con l g yL_missing bL_missing 3 ((some .int)) [(0, 8, 11, 13)] (d + 4) 0 0 [.ref (g.1 0), .ref (g.1 60)] w (Rp (An (some (.int (nI 0))) (wu w 60 0 (nI (f_un (G n) m / 2))))) := by
  intro X hl ha hm' hk hn' hc
  subst hl
  refine r_aload_n hc dL_missing_0 rfl ?_
  refine r_iconst hc dL_missing_1 (nI 0) (by decide) ?_
  refine r_aload_n hc dL_missing_2 rfl ?_
  refine kL_47 (kc := 0) (ks := 0) hc dL_missing_3 (cF_missing_y _ g d w m inn ap n G hF hS) (by omega) (Nat.le_of_ble_eq_true rfl) (Nat.zero_le _) (Nat.zero_le _) ?_ (fun cn w' h => absurd h Rp_r)
  rintro _ _ ⟨rfl, rfl⟩
  refine r_i2l hc dL_missing_6 ?_
  refine r_last0 hc dL_missing_7 ?_
  refine r_goto hc dL_missing_8 (tgt := 14) (by decide) ?_
  refine r_iconst hc dL_missing_14 (nI 0) (by decide) ?_
  exact r_iret hc dL_missing_15 ⟨rfl, rfl⟩
theorem cL_missing_n (l : Launch) (g : GG) (d : Nat) (w : Wd) (h : w 0 7 = bI false) : Con l g yL_missing bL_missing 3 ((some .int)) [(0, 8, 11, 13)] (d + 8) 1 6 [.ref (g.1 0), .ref (g.1 60)] w (Rp (An (some (.int (nI 1))) w)) := by
  intro X hl ha hm' hk hn' hc
  subst hl
  refine r_aload_n hc dL_missing_0 rfl ?_
  refine r_iconst hc dL_missing_1 (nI 0) (by decide) ?_
  refine r_aload_n hc dL_missing_2 rfl ?_
  refine kL_47 (kc := 0) (ks := 0) hc dL_missing_3 (cF_missing_n _ g d w h) (by omega) (Nat.le_of_ble_eq_true rfl) hk hn' (fun v w' h => absurd h Tp_l) ?_
  rintro cn w' ⟨rfl, rfl⟩
  refine x_catch (pre := []) (rest := []) (a := 0) (b := 8) (hp := 11) (ct := 13) hc ⟨by decide, by decide⟩ (by decide) (t2_mem 4 rfl rfl) (t2_mem 15 rfl rfl) (fun r hr => by cases hr) (fun z => ?_)
  refine r_astore_n hc dL_missing_11 (Nat.le_of_ble_eq_true rfl) ?_
  refine r_iconst hc dL_missing_12 (nI 1) (by decide) ?_
  exact r_iret hc dL_missing_13 ⟨rfl, rfl⟩
theorem cL_had_y (l : Launch) (g : GG) (d : Nat) (w : Wd) (m : Nat) (inn : Nat → Bool) (ap : Nat → Nat → Bool) (n : Nat) (op : Bool) (G : Nat → Nat → Ce) (x y : Int32) (hF : FOk m inn ap n op G) (hS : CS w m inn ap n op G) (h : isP m y = true) (h2 : isP n x = true) : Con l g yL_had bL_had 5 ((some .int)) [(0, 10, 13, 19)] (d + 4) 0 0 [.ref (g.1 0), .int x, .int y, .ref (g.1 60)] w (Rp (An (some (.int (nI 0))) (wu w 60 0 (ce_code (G (pN x) (pN y)))))) := by
  intro X hl ha hm' hk hn' hc
  subst hl
  refine r_aload_n hc dL_had_0 rfl ?_
  refine r_iconst hc dL_had_1 (nI 0) (by decide) ?_
  refine r_aload_n hc dL_had_2 rfl ?_
  refine r_iload_n hc dL_had_3 rfl ?_
  refine r_iload_n hc dL_had_4 rfl ?_
  refine kL_63 (kc := 0) (ks := 0) hc dL_had_5 (cF_had_y _ g d w m inn ap n op G x y hF hS h h2) (by omega) (Nat.le_of_ble_eq_true rfl) (Nat.zero_le _) (Nat.zero_le _) ?_ (fun cn w' h => absurd h Rp_r)
  rintro _ _ ⟨rfl, rfl⟩
  refine r_i2l hc dL_had_8 ?_
  refine r_last0 hc dL_had_9 ?_
  refine r_goto hc dL_had_10 (tgt := 17) (by decide) ?_
  refine r_iconst hc dL_had_17 (nI 0) (by decide) ?_
  exact r_iret hc dL_had_18 ⟨rfl, rfl⟩
theorem cL_had_n (l : Launch) (g : GG) (d : Nat) (w : Wd) (m : Nat) (inn : Nat → Bool) (ap : Nat → Nat → Bool) (n : Nat) (op : Bool) (G : Nat → Nat → Ce) (x y : Int32) (hF : FOk m inn ap n op G) (hS : CS w m inn ap n op G) (h : (isP m y && isP n x) = false) : Con l g yL_had bL_had 5 ((some .int)) [(0, 10, 13, 19)] (d + 8) 1 6 [.ref (g.1 0), .int x, .int y, .ref (g.1 60)] w (Rp (An (some (.int (nI 1))) w)) := by
  intro X hl ha hm' hk hn' hc
  subst hl
  refine r_aload_n hc dL_had_0 rfl ?_
  refine r_iconst hc dL_had_1 (nI 0) (by decide) ?_
  refine r_aload_n hc dL_had_2 rfl ?_
  refine r_iload_n hc dL_had_3 rfl ?_
  refine r_iload_n hc dL_had_4 rfl ?_
  refine kL_63 (kc := 0) (ks := 0) hc dL_had_5 (cF_had_n _ g d w m inn ap n op G x y hF hS h) (by omega) (Nat.le_of_ble_eq_true rfl) hk hn' (fun v w' h => absurd h Tp_l) ?_
  rintro cn w' ⟨rfl, rfl⟩
  refine x_catch (pre := []) (rest := []) (a := 0) (b := 10) (hp := 13) (ct := 19) hc ⟨by decide, by decide⟩ (by decide) (t2_mem 86 rfl rfl) (t2_mem 98 rfl rfl) (fun r hr => by cases hr) (fun z => ?_)
  refine r_astore hc dL_had_13 (Nat.le_of_ble_eq_true rfl) ?_
  refine r_iconst hc dL_had_15 (nI 1) (by decide) ?_
  exact r_iret hc dL_had_16 ⟨rfl, rfl⟩
