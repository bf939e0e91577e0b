/-! the law's helpers: opponent to table -/
theorem cL_opponent_nP (l : Launch) (g : GG) (d : Nat) (w : Wd) (m : Nat) (inn : Nat → Bool) (ap : Nat → Nat → Bool) (n : Nat) (op : Bool) (G : Nat → Nat → Ce) (x : Int32) (hF : FOk m inn ap n op G) (hS : CS w m inn ap n op G) (h : isP m x = false) : Con l g yL_opponent bL_opponent 4 ((some .int)) [(0, 9, 12, 19), (0, 9, 15, 13)] (d + 8) 1 6 [.ref (g.1 0), .int x, .ref (g.1 60)] w (Rp (An (some (.int (nI 1))) w)) := by
  intro X hl ha hm' hk hn' hc
  subst hl
  refine r_aload_n hc dL_opponent_0 rfl ?_
  refine r_iconst hc dL_opponent_1 (nI 0) (by decide) ?_
  refine r_aload_n hc dL_opponent_2 rfl ?_
  refine r_iload_n hc dL_opponent_3 rfl ?_
  refine kL_35 (kc := 0) (ks := 0) hc dL_opponent_4 (cF_opponent_nP _ g d w m inn ap n op G x hF hS h) (by omega) (Nat.le_of_ble_eq_true rfl) hk hn' (fun v w' h => absurd h Tp_l) ?_
  rintro cn w' ⟨rfl, rfl⟩
  refine x_catch (pre := []) (rest := [(0, 9, 15, 13)]) (a := 0) (b := 9) (hp := 12) (ct := 19) hc ⟨by decide, by decide⟩ (by decide) (t2_mem 86 rfl rfl) (t2_mem 98 rfl rfl) (fun r hr => by cases hr) (fun z => ?_)
  refine r_astore_n hc dL_opponent_12 (Nat.le_of_ble_eq_true rfl) ?_
  refine r_iconst hc dL_opponent_13 (nI 1) (by decide) ?_
  exact r_iret hc dL_opponent_14 ⟨rfl, rfl⟩
theorem cL_opponent_nR (l : Launch) (g : GG) (d : Nat) (w : Wd) (m : Nat) (inn : Nat → Bool) (ap : Nat → Nat → Bool) (n : Nat) (G : Nat → Nat → Ce) (x : Int32) (hF : FOk m inn ap n false G) (hS : CS w m inn ap n false G) (h : isP m x = true) : Con l g yL_opponent bL_opponent 4 ((some .int)) [(0, 9, 12, 19), (0, 9, 15, 13)] (d + 8) 1 6 [.ref (g.1 0), .int x, .ref (g.1 60)] w (Rp (An (some (.int (nI 2))) w)) := by
  intro X hl ha hm' hk hn' hc
  subst hl
  refine r_aload_n hc dL_opponent_0 rfl ?_
  refine r_iconst hc dL_opponent_1 (nI 0) (by decide) ?_
  refine r_aload_n hc dL_opponent_2 rfl ?_
  refine r_iload_n hc dL_opponent_3 rfl ?_
  refine kL_35 (kc := 0) (ks := 0) hc dL_opponent_4 (cF_opponent_nR _ g d w m inn ap n G x hF hS h) (by omega) (Nat.le_of_ble_eq_true rfl) hk hn' (fun v w' h => absurd h Tp_l) ?_
  rintro cn w' ⟨rfl, rfl⟩
  refine x_catch (pre := [(0, 9, 12, 19)]) (rest := []) (a := 0) (b := 9) (hp := 15) (ct := 13) hc ⟨by decide, by decide⟩ (by decide) (t2_mem 4 rfl rfl) (t2_mem 15 rfl rfl) (fun r hr => by
      simp only [List.mem_cons, List.not_mem_nil, or_false] at hr
      rcases hr with rfl
      · exact ⟨by decide, _, t2_mem 86 rfl rfl, by decide⟩) (fun z => ?_)
  refine r_astore_n hc dL_opponent_15 (Nat.le_of_ble_eq_true rfl) ?_
  refine r_iconst hc dL_opponent_16 (nI 2) (by decide) ?_
  exact r_iret hc dL_opponent_17 ⟨rfl, rfl⟩
theorem cL_opponent_y (l : Launch) (g : GG) (d : Nat) (w : Wd) (m : Nat) (inn : Nat → Bool) (ap : Nat → Nat → Bool) (n : Nat) (G : Nat → Nat → Ce) (x : Int32) (hF : FOk m inn ap n true G) (hS : CS w m inn ap n true G) (h : isP m x = true) : Con l g yL_opponent bL_opponent 4 ((some .int)) [(0, 9, 12, 19), (0, 9, 15, 13)] (d + 3) 0 0 [.ref (g.1 0), .int x, .ref (g.1 60)] w (Rp (An (some (.int (nI 0))) (wu w 60 0 (oppI (G n (pN x)))))) := by
  intro X hl ha hm' hk hn' hc
  subst hl
  refine r_aload_n hc dL_opponent_0 rfl ?_
  refine r_iconst hc dL_opponent_1 (nI 0) (by decide) ?_
  refine r_aload_n hc dL_opponent_2 rfl ?_
  refine r_iload_n hc dL_opponent_3 rfl ?_
  refine kL_35 (kc := 0) (ks := 0) hc dL_opponent_4 (cF_opponent_y _ g d w m inn ap n G x hF hS h) (by omega) (Nat.le_of_ble_eq_true rfl) (Nat.zero_le _) (Nat.zero_le _) ?_ (fun cn w' h => absurd h Rp_r)
  rintro _ _ ⟨rfl, rfl⟩
  refine r_i2l hc dL_opponent_7 ?_
  refine r_last0 hc dL_opponent_8 ?_
  refine r_goto hc dL_opponent_9 (tgt := 18) (by decide) ?_
  refine r_iconst hc dL_opponent_18 (nI 0) (by decide) ?_
  exact r_iret hc dL_opponent_19 ⟨rfl, rfl⟩
theorem cL_isWhite_nP (l : Launch) (g : GG) (d : Nat) (w : Wd) (m : Nat) (inn : Nat → Bool) (ap : Nat → Nat → Bool) (n : Nat) (op : Bool) (G : Nat → Nat → Ce) (x : Int32) (hF : FOk m inn ap n op G) (hS : CS w m inn ap n op G) (h : isP m x = false) : Con l g yL_isWhite bL_isWhite 4 ((some .int)) [(0, 16, 19, 19), (0, 16, 22, 13)] (d + 8) 1 6 [.ref (g.1 0), .int x, .ref (g.1 60)] w (Rp (An (some (.int (nI 1))) w)) := by
  intro X hl ha hm' hk hn' hc
  subst hl
  refine r_aload_n hc dL_isWhite_0 rfl ?_
  refine r_iconst hc dL_isWhite_1 (nI 0) (by decide) ?_
  refine r_aload_n hc dL_isWhite_2 rfl ?_
  refine r_iload_n hc dL_isWhite_3 rfl ?_
  refine kL_39 (kc := 0) (ks := 0) hc dL_isWhite_4 (cF_isWhite_nP _ g d w m inn ap n op G x hF hS h) (by omega) (Nat.le_of_ble_eq_true rfl) hk hn' (fun v w' h => absurd h Tp_l) ?_
  rintro cn w' ⟨rfl, rfl⟩
  refine x_catch (pre := []) (rest := [(0, 16, 22, 13)]) (a := 0) (b := 16) (hp := 19) (ct := 19) hc ⟨by decide, by decide⟩ (by decide) (t2_mem 86 rfl rfl) (t2_mem 98 rfl rfl) (fun r hr => by cases hr) (fun z => ?_)
  refine r_astore_n hc dL_isWhite_19 (Nat.le_of_ble_eq_true rfl) ?_
  refine r_iconst hc dL_isWhite_20 (nI 1) (by decide) ?_
  exact r_iret hc dL_isWhite_21 ⟨rfl, rfl⟩
theorem cL_isWhite_nR (l : Launch) (g : GG) (d : Nat) (w : Wd) (m : Nat) (inn : Nat → Bool) (ap : Nat → Nat → Bool) (n : Nat) (G : Nat → Nat → Ce) (x : Int32) (hF : FOk m inn ap n false G) (hS : CS w m inn ap n false G) (h : isP m x = true) : Con l g yL_isWhite bL_isWhite 4 ((some .int)) [(0, 16, 19, 19), (0, 16, 22, 13)] (d + 8) 1 6 [.ref (g.1 0), .int x, .ref (g.1 60)] w (Rp (An (some (.int (nI 2))) w)) := by
  intro X hl ha hm' hk hn' hc
  subst hl
  refine r_aload_n hc dL_isWhite_0 rfl ?_
  refine r_iconst hc dL_isWhite_1 (nI 0) (by decide) ?_
  refine r_aload_n hc dL_isWhite_2 rfl ?_
  refine r_iload_n hc dL_isWhite_3 rfl ?_
  refine kL_39 (kc := 0) (ks := 0) hc dL_isWhite_4 (cF_isWhite_nR _ g d w m inn ap n G x hF hS h) (by omega) (Nat.le_of_ble_eq_true rfl) hk hn' (fun v w' h => absurd h Tp_l) ?_
  rintro cn w' ⟨rfl, rfl⟩
  refine x_catch (pre := [(0, 16, 19, 19)]) (rest := []) (a := 0) (b := 16) (hp := 22) (ct := 13) hc ⟨by decide, by decide⟩ (by decide) (t2_mem 4 rfl rfl) (t2_mem 15 rfl rfl) (fun r hr => by
      simp only [List.mem_cons, List.not_mem_nil, or_false] at hr
      rcases hr with rfl
      · exact ⟨by decide, _, t2_mem 86 rfl rfl, by decide⟩) (fun z => ?_)
  refine r_astore_n hc dL_isWhite_22 (Nat.le_of_ble_eq_true rfl) ?_
  refine r_iconst hc dL_isWhite_23 (nI 2) (by decide) ?_
  exact r_iret hc dL_isWhite_24 ⟨rfl, rfl⟩
theorem cL_isWhite_y (l : Launch) (g : GG) (d : Nat) (w : Wd) (m : Nat) (inn : Nat → Bool) (ap : Nat → Nat → Bool) (n : Nat) (G : Nat → Nat → Ce) (x : Int32) (hF : FOk m inn ap n true G) (hS : CS w m inn ap n true G) (h : isP m x = true) : Con l g yL_isWhite bL_isWhite 4 ((some .int)) [(0, 16, 19, 19), (0, 16, 22, 13)] (d + 3) 0 0 [.ref (g.1 0), .int x, .ref (g.1 60)] w (Rp (An (some (.int (nI 0))) (wu w 60 0 (bI (whB (G n (pN x))))))) := by
  intro X hl ha hm' hk hn' hc
  subst hl
  refine r_aload_n hc dL_isWhite_0 rfl ?_
  refine r_iconst hc dL_isWhite_1 (nI 0) (by decide) ?_
  refine r_aload_n hc dL_isWhite_2 rfl ?_
  refine r_iload_n hc dL_isWhite_3 rfl ?_
  refine kL_39 (kc := 0) (ks := 0) hc dL_isWhite_4 (cF_isWhite_y _ g d w m inn ap n G x hF hS h) (by omega) (Nat.le_of_ble_eq_true rfl) (Nat.zero_le _) (Nat.zero_le _) ?_ (fun cn w' h => absurd h Rp_r)
  rintro _ _ ⟨rfl, rfl⟩
  cases hb : (whB (G n (pN x))) with
  | false =>
    refine r_if_eq_t hc dL_isWhite_7 (tgt := 14) (by decide) rfl ?_
    refine r_lconst hc dL_isWhite_14 ((bI false).toInt64) (by decide) ?_
    refine r_last0 hc dL_isWhite_15 ?_
    refine r_goto hc dL_isWhite_16 (tgt := 25) (by decide) ?_
    refine r_iconst hc dL_isWhite_25 (nI 0) (by decide) ?_
    exact r_iret hc dL_isWhite_26 ⟨rfl, rfl⟩
  | true =>
    refine r_if_eq_f hc dL_isWhite_7 (tgt := 14) (by decide) (by decide) ?_
    refine r_lconst hc dL_isWhite_10 ((bI true).toInt64) (by decide) ?_
    refine r_goto hc dL_isWhite_11 (tgt := 15) (by decide) ?_
    refine r_last0 hc dL_isWhite_15 ?_
    refine r_goto hc dL_isWhite_16 (tgt := 25) (by decide) ?_
    refine r_iconst hc dL_isWhite_25 (nI 0) (by decide) ?_
    exact r_iret hc dL_isWhite_26 ⟨rfl, rfl⟩
theorem cL_report_nP (l : Launch) (g : GG) (d : Nat) (w : Wd) (m : Nat) (inn : Nat → Bool) (ap : Nat → Nat → Bool) (n : Nat) (op : Bool) (G : Nat → Nat → Ce) (x y : Int32) (hF : FOk m inn ap n op G) (hS : CS w m inn ap n op G) (h : isP m x = false) : Con l g yL_report bL_report 4 ((some .int)) [(0, 6, 9, 19), (0, 6, 12, 27), (0, 6, 15, 13)] (d + 8) 1 6 [.ref (g.1 0), .int x, .int y] w (Rp (An (some (.int (nI 1))) w)) := by
  intro X hl ha hm' hk hn' hc
  subst hl
  refine r_aload_n hc dL_report_0 rfl ?_
  refine r_iload_n hc dL_report_1 rfl ?_
  refine r_iload_n hc dL_report_2 rfl ?_
  refine kL_43 (kc := 0) (ks := 0) hc dL_report_3 (cF_report_nP _ g d w m inn ap n op G x y hF hS h) (by omega) (Nat.le_of_ble_eq_true rfl) hk hn' (fun v w' h => absurd h Tp_l) ?_
  rintro cn w' ⟨rfl, rfl⟩
  refine x_catch (pre := []) (rest := [(0, 6, 12, 27), (0, 6, 15, 13)]) (a := 0) (b := 6) (hp := 9) (ct := 19) hc ⟨by decide, by decide⟩ (by decide) (t2_mem 86 rfl rfl) (t2_mem 98 rfl rfl) (fun r hr => by cases hr) (fun z => ?_)
  refine r_astore_n hc dL_report_9 (Nat.le_of_ble_eq_true rfl) ?_
  refine r_iconst hc dL_report_10 (nI 1) (by decide) ?_
  exact r_iret hc dL_report_11 ⟨rfl, rfl⟩
theorem cL_report_nA (l : Launch) (g : GG) (d : Nat) (w : Wd) (m : Nat) (inn : Nat → Bool) (ap : Nat → Nat → Bool) (n : Nat) (op : Bool) (G : Nat → Nat → Ce) (x y : Int32) (hF : FOk m inn ap n op G) (hS : CS w m inn ap n op G) (h : isP m x = true) (h2 : inR y 2 = false) : Con l g yL_report bL_report 4 ((some .int)) [(0, 6, 9, 19), (0, 6, 12, 27), (0, 6, 15, 13)] (d + 8) 1 6 [.ref (g.1 0), .int x, .int y] w (Rp (An (some (.int (nI 2))) w)) := by
  intro X hl ha hm' hk hn' hc
  subst hl
  refine r_aload_n hc dL_report_0 rfl ?_
  refine r_iload_n hc dL_report_1 rfl ?_
  refine r_iload_n hc dL_report_2 rfl ?_
  refine kL_43 (kc := 0) (ks := 0) hc dL_report_3 (cF_report_nA _ g d w m inn ap n op G x y hF hS h h2) (by omega) (Nat.le_of_ble_eq_true rfl) hk hn' (fun v w' h => absurd h Tp_l) ?_
  rintro cn w' ⟨rfl, rfl⟩
  refine x_catch (pre := [(0, 6, 9, 19)]) (rest := [(0, 6, 15, 13)]) (a := 0) (b := 6) (hp := 12) (ct := 27) hc ⟨by decide, by decide⟩ (by decide) (t2_mem 131 rfl rfl) (t2_mem 138 rfl rfl) (fun r hr => by
      simp only [List.mem_cons, List.not_mem_nil, or_false] at hr
      rcases hr with rfl
      · exact ⟨by decide, _, t2_mem 86 rfl rfl, by decide⟩) (fun z => ?_)
  refine r_astore_n hc dL_report_12 (Nat.le_of_ble_eq_true rfl) ?_
  refine r_iconst hc dL_report_13 (nI 2) (by decide) ?_
  exact r_iret hc dL_report_14 ⟨rfl, rfl⟩
theorem cL_report_nS (l : Launch) (g : GG) (d : Nat) (w : Wd) (m : Nat) (inn : Nat → Bool) (ap : Nat → Nat → Bool) (n : Nat) (op : Bool) (G : Nat → Nat → Ce) (x y : Int32) (hF : FOk m inn ap n op G) (hS : CS w m inn ap n op G) (h : isP m x = true) (h2 : inR y 2 = true) (h3 : rpOk m n op G x = false) : Con l g yL_report bL_report 4 ((some .int)) [(0, 6, 9, 19), (0, 6, 12, 27), (0, 6, 15, 13)] (d + 8) 1 6 [.ref (g.1 0), .int x, .int y] w (Rp (An (some (.int (nI 3))) w)) := by
  intro X hl ha hm' hk hn' hc
  subst hl
  refine r_aload_n hc dL_report_0 rfl ?_
  refine r_iload_n hc dL_report_1 rfl ?_
  refine r_iload_n hc dL_report_2 rfl ?_
  refine kL_43 (kc := 0) (ks := 0) hc dL_report_3 (cF_report_nS _ g d w m inn ap n op G x y hF hS h h2 h3) (by omega) (Nat.le_of_ble_eq_true rfl) hk hn' (fun v w' h => absurd h Tp_l) ?_
  rintro cn w' ⟨rfl, rfl⟩
  refine x_catch (pre := [(0, 6, 9, 19), (0, 6, 12, 27)]) (rest := []) (a := 0) (b := 6) (hp := 15) (ct := 13) hc ⟨by decide, by decide⟩ (by decide) (t2_mem 4 rfl rfl) (t2_mem 15 rfl rfl) (fun r hr => by
      simp only [List.mem_cons, List.not_mem_nil, or_false] at hr
      rcases hr with rfl | rfl
      · exact ⟨by decide, _, t2_mem 86 rfl rfl, by decide⟩
      · exact ⟨by decide, _, t2_mem 131 rfl rfl, by decide⟩) (fun z => ?_)
  refine r_astore_n hc dL_report_15 (Nat.le_of_ble_eq_true rfl) ?_
  refine r_iconst hc dL_report_16 (nI 3) (by decide) ?_
  exact r_iret hc dL_report_17 ⟨rfl, rfl⟩
theorem cL_report_y (l : Launch) (g : GG) (d : Nat) (w : Wd) (m : Nat) (inn : Nat → Bool) (ap : Nat → Nat → Bool) (n : Nat) (G : Nat → Nat → Ce) (x y : Int32) (hF : FOk m inn ap n true G) (hS : CS w m inn ap n true G) (h : isP m x = true) (h2 : inR y 2 = true) (h3 : ceU (G n (pN x)) = true) : Con l g yL_report bL_report 4 ((some .int)) [(0, 6, 9, 19), (0, 6, 12, 27), (0, 6, 15, 13)] (d + 4) 0 0 [.ref (g.1 0), .int x, .int y] w (Rp (fun v w' => v = some (.int (nI 0)) ∧ CS w' m inn ap n true (gUp G n (rowTold (G n) (pN x) (pN y))) ∧ FrC w w')) := by
  intro X hl ha hm' hk hn' hc
  subst hl
  refine r_aload_n hc dL_report_0 rfl ?_
  refine r_iload_n hc dL_report_1 rfl ?_
  refine r_iload_n hc dL_report_2 rfl ?_
  refine kL_43 (kc := 0) (ks := 0) hc dL_report_3 (cF_report_y _ g d w m inn ap n G x y hF hS h h2 h3) (by omega) (Nat.le_of_ble_eq_true rfl) (Nat.zero_le _) (Nat.zero_le _) ?_ (fun cn w' h => absurd h Rp_r)
  rintro _ w' ⟨rfl, h1, h2⟩
  refine r_goto hc dL_report_6 (tgt := 18) (by decide) ?_
  refine r_iconst hc dL_report_18 (nI 0) (by decide) ?_
  exact r_iret hc dL_report_19 ⟨rfl, h1, h2⟩
theorem cL_close_n (l : Launch) (g : GG) (d : Nat) (w : Wd) (m : Nat) (inn : Nat → Bool) (ap : Nat → Nat → Bool) (n : Nat) (op : Bool) (G : Nat → Nat → Ce)  (hF : FOk m inn ap n op G) (hS : CS w m inn ap n op G) (h : clOk op (G n) m = false) : Con l g yL_close bL_close 3 ((some .int)) [(0, 8, 11, 13)] (d + 8) 1 6 [.ref (g.1 0), .ref (g.1 60)] w (Rp (An (some (.int (nI 1))) w)) := by
  intro X hl ha hm' hk hn' hc
  subst hl
  refine r_aload_n hc dL_close_0 rfl ?_
  refine r_iconst hc dL_close_1 (nI 0) (by decide) ?_
  refine r_aload_n hc dL_close_2 rfl ?_
  refine kL_50 (kc := 0) (ks := 0) hc dL_close_3 (cF_close_n _ g d w m inn ap n op G hF hS h) (by omega) (Nat.le_of_ble_eq_true rfl) hk hn' (fun v w' h => absurd h Tp_l) ?_
  rintro cn w' ⟨rfl, rfl⟩
  refine x_catch (pre := []) (rest := []) (a := 0) (b := 8) (hp := 11) (ct := 13) hc ⟨by decide, by decide⟩ (by decide) (t2_mem 4 rfl rfl) (t2_mem 15 rfl rfl) (fun r hr => by cases hr) (fun z => ?_)
  refine r_astore_n hc dL_close_11 (Nat.le_of_ble_eq_true rfl) ?_
  refine r_iconst hc dL_close_12 (nI 1) (by decide) ?_
  exact r_iret hc dL_close_13 ⟨rfl, rfl⟩
theorem cL_close_y (l : Launch) (g : GG) (d : Nat) (w : Wd) (m : Nat) (inn : Nat → Bool) (ap : Nat → Nat → Bool) (n : Nat) (G : Nat → Nat → Ce)  (hF : FOk m inn ap n true G) (hS : CS w m inn ap n true G) (h : f_un (G n) m / 2 = 0) (hT : GTold G (n + 1)) : Con l g yL_close bL_close 3 ((some .int)) [(0, 8, 11, 13)] (d + 5) 0 0 [.ref (g.1 0), .ref (g.1 60)] w (Rp (fun v w' => v = some (.int (nI 0)) ∧ ∃ w1, CS w1 m inn ap (n + 1) false G ∧ FrC w w1 ∧ w' = wu w1 60 0 (nI (n + 1)))) := by
  intro X hl ha hm' hk hn' hc
  subst hl
  refine r_aload_n hc dL_close_0 rfl ?_
  refine r_iconst hc dL_close_1 (nI 0) (by decide) ?_
  refine r_aload_n hc dL_close_2 rfl ?_
  refine kL_50 (kc := 0) (ks := 0) hc dL_close_3 (cF_close_y _ g d w m inn ap n G hF hS h hT) (by omega) (Nat.le_of_ble_eq_true rfl) (Nat.zero_le _) (Nat.zero_le _) ?_ (fun cn w' h => absurd h Rp_r)
  rintro _ w' ⟨rfl, h1, h2⟩
  refine r_i2l hc dL_close_6 ?_
  refine r_last0 hc dL_close_7 ?_
  refine r_goto hc dL_close_8 (tgt := 14) (by decide) ?_
  refine r_iconst hc dL_close_14 (nI 0) (by decide) ?_
  exact r_iret hc dL_close_15 ⟨rfl, w', h1, h2, rfl⟩
theorem cL_back_yO (l : Launch) (g : GG) (d : Nat) (w : Wd) (m : Nat) (inn : Nat → Bool) (ap : Nat → Nat → Bool) (n : Nat) (G : Nat → Nat → Ce)  (hF : FOk m inn ap n true G) (hS : CS w m inn ap n true G) : Con l g yL_back bL_back 3 ((some .int)) [(0, 8, 11, 13)] (d + 1) 0 0 [.ref (g.1 0), .ref (g.1 60)] w (Rp (fun v w' => v = some (.int (nI 0)) ∧ ∃ w1, CS w1 m inn ap n false G ∧ FrC w w1 ∧ w' = wu w1 60 0 (nI n))) := by
  intro X hl ha hm' hk hn' hc
  subst hl
  refine r_aload_n hc dL_back_0 rfl ?_
  refine r_iconst hc dL_back_1 (nI 0) (by decide) ?_
  refine r_aload_n hc dL_back_2 rfl ?_
  refine kL_53 (kc := 0) (ks := 0) hc dL_back_3 (cF_back_yO _ g d w m inn ap n G hF hS) (by omega) (Nat.le_of_ble_eq_true rfl) (Nat.zero_le _) (Nat.zero_le _) ?_ (fun cn w' h => absurd h Rp_r)
  rintro _ w' ⟨rfl, h1, h2⟩
  refine r_i2l hc dL_back_6 ?_
  refine r_last0 hc dL_back_7 ?_
  refine r_goto hc dL_back_8 (tgt := 14) (by decide) ?_
  refine r_iconst hc dL_back_14 (nI 0) (by decide) ?_
  exact r_iret hc dL_back_15 ⟨rfl, w', h1, h2, rfl⟩
theorem cL_back_yC (l : Launch) (g : GG) (d : Nat) (w : Wd) (m : Nat) (inn : Nat → Bool) (ap : Nat → Nat → Bool) (n : Nat) (G : Nat → Nat → Ce)  (hF : FOk m inn ap n false G) (hS : CS w m inn ap n false G) (h : 0 < n) : Con l g yL_back bL_back 3 ((some .int)) [(0, 8, 11, 13)] (d + 4) 0 0 [.ref (g.1 0), .ref (g.1 60)] w (Rp (fun v w' => v = some (.int (nI 0)) ∧ ∃ w1, CS w1 m inn ap (n - 1) false G ∧ FrC w w1 ∧ w' = wu w1 60 0 (nI (n - 1)))) := by
  intro X hl ha hm' hk hn' hc
  subst hl
  refine r_aload_n hc dL_back_0 rfl ?_
  refine r_iconst hc dL_back_1 (nI 0) (by decide) ?_
  refine r_aload_n hc dL_back_2 rfl ?_
  refine kL_53 (kc := 0) (ks := 0) hc dL_back_3 (cF_back_yC _ g d w m inn ap n G hF hS h) (by omega) (Nat.le_of_ble_eq_true rfl) (Nat.zero_le _) (Nat.zero_le _) ?_ (fun cn w' h => absurd h Rp_r)
  rintro _ w' ⟨rfl, h1, h2⟩
  refine r_i2l hc dL_back_6 ?_
  refine r_last0 hc dL_back_7 ?_
  refine r_goto hc dL_back_8 (tgt := 14) (by decide) ?_
  refine r_iconst hc dL_back_14 (nI 0) (by decide) ?_
  exact r_iret hc dL_back_15 ⟨rfl, w', h1, h2, rfl⟩
theorem cL_back_n (l : Launch) (g : GG) (d : Nat) (w : Wd) (m : Nat) (inn : Nat → Bool) (ap : Nat → Nat → Bool) (n : Nat) (G : Nat → Nat → Ce)  (hF : FOk m inn ap n false G) (hS : CS w m inn ap n false G) (h : n = 0) : Con l g yL_back bL_back 3 ((some .int)) [(0, 8, 11, 13)] (d + 8) 1 6 [.ref (g.1 0), .ref (g.1 60)] w (Rp (An (some (.int (nI 1))) w)) := by
  intro X hl ha hm' hk hn' hc
  subst hl
  refine r_aload_n hc dL_back_0 rfl ?_
  refine r_iconst hc dL_back_1 (nI 0) (by decide) ?_
  refine r_aload_n hc dL_back_2 rfl ?_
  refine kL_53 (kc := 0) (ks := 0) hc dL_back_3 (cF_back_n _ g d w m inn ap n G hF hS h) (by omega) (Nat.le_of_ble_eq_true rfl) hk hn' (fun v w' h => absurd h Tp_l) ?_
  rintro cn w' ⟨rfl, rfl⟩
  refine x_catch (pre := []) (rest := []) (a := 0) (b := 8) (hp := 11) (ct := 13) hc ⟨by decide, by decide⟩ (by decide) (t2_mem 4 rfl rfl) (t2_mem 15 rfl rfl) (fun r hr => by cases hr) (fun z => ?_)
  refine r_astore_n hc dL_back_11 (Nat.le_of_ble_eq_true rfl) ?_
  refine r_iconst hc dL_back_12 (nI 1) (by decide) ?_
  exact r_iret hc dL_back_13 ⟨rfl, rfl⟩
theorem cL_play_nA (l : Launch) (g : GG) (d : Nat) (w : Wd) (m : Nat) (inn : Nat → Bool) (ap : Nat → Nat → Bool) (n : Nat) (op : Bool) (G : Nat → Nat → Ce) (x : Int32) (hF : FOk m inn ap n op G) (hS : CS w m inn ap n op G) (h : inR x 16 = false) : Con l g yL_play bL_play 4 ((some .int)) [(0, 9, 12, 27), (0, 9, 15, 13)] (d + 8) 1 6 [.ref (g.1 0), .int x, .ref (g.1 60)] w (Rp (An (some (.int (nI 1))) w)) := by
  intro X hl ha hm' hk hn' hc
  subst hl
  refine r_aload_n hc dL_play_0 rfl ?_
  refine r_iconst hc dL_play_1 (nI 0) (by decide) ?_
  refine r_aload_n hc dL_play_2 rfl ?_
  refine r_iload_n hc dL_play_3 rfl ?_
  refine kL_56 (kc := 0) (ks := 0) hc dL_play_4 (cF_play_nA _ g d w m inn ap n op G x hF hS h) (by omega) (Nat.le_of_ble_eq_true rfl) hk hn' (fun v w' h => absurd h Tp_l) ?_
  rintro cn w' ⟨rfl, rfl⟩
  refine x_catch (pre := []) (rest := [(0, 9, 15, 13)]) (a := 0) (b := 9) (hp := 12) (ct := 27) hc ⟨by decide, by decide⟩ (by decide) (t2_mem 131 rfl rfl) (t2_mem 138 rfl rfl) (fun r hr => by cases hr) (fun z => ?_)
  refine r_astore_n hc dL_play_12 (Nat.le_of_ble_eq_true rfl) ?_
  refine r_iconst hc dL_play_13 (nI 1) (by decide) ?_
  exact r_iret hc dL_play_14 ⟨rfl, rfl⟩
theorem cL_play_nO (l : Launch) (g : GG) (d : Nat) (w : Wd) (m : Nat) (inn : Nat → Bool) (ap : Nat → Nat → Bool) (n : Nat) (G : Nat → Nat → Ce) (x : Int32) (hF : FOk m inn ap n true G) (hS : CS w m inn ap n true G) (h : inR x 16 = true) : Con l g yL_play bL_play 4 ((some .int)) [(0, 9, 12, 27), (0, 9, 15, 13)] (d + 8) 1 6 [.ref (g.1 0), .int x, .ref (g.1 60)] w (Rp (An (some (.int (nI 2))) w)) := by
  intro X hl ha hm' hk hn' hc
  subst hl
  refine r_aload_n hc dL_play_0 rfl ?_
  refine r_iconst hc dL_play_1 (nI 0) (by decide) ?_
  refine r_aload_n hc dL_play_2 rfl ?_
  refine r_iload_n hc dL_play_3 rfl ?_
  refine kL_56 (kc := 0) (ks := 0) hc dL_play_4 (cF_play_nO _ g d w m inn ap n G x hF hS h) (by omega) (Nat.le_of_ble_eq_true rfl) hk hn' (fun v w' h => absurd h Tp_l) ?_
  rintro cn w' ⟨rfl, rfl⟩
  refine x_catch (pre := [(0, 9, 12, 27)]) (rest := []) (a := 0) (b := 9) (hp := 15) (ct := 13) hc ⟨by decide, by decide⟩ (by decide) (t2_mem 4 rfl rfl) (t2_mem 15 rfl rfl) (fun r hr => by
      simp only [List.mem_cons, List.not_mem_nil, or_false] at hr
      rcases hr with rfl
      · exact ⟨by decide, _, t2_mem 131 rfl rfl, by decide⟩) (fun z => ?_)
  refine r_astore_n hc dL_play_15 (Nat.le_of_ble_eq_true rfl) ?_
  refine r_iconst hc dL_play_16 (nI 2) (by decide) ?_
  exact r_iret hc dL_play_17 ⟨rfl, rfl⟩
theorem cL_play_y (l : Launch) (g : GG) (d : Nat) (w : Wd) (m : Nat) (inn : Nat → Bool) (ap : Nat → Nat → Bool) (n : Nat) (G : Nat → Nat → Ce) (x : Int32) (hF : FOk m inn ap n false G) (hS : CS w m inn ap n false G) (h : inR x 16 = true) : Con l g yL_play bL_play 4 ((some .int)) [(0, 9, 12, 27), (0, 9, 15, 13)] (d + 7) 0 0 [.ref (g.1 0), .int x, .ref (g.1 60)] w (Rp (fun v w' => v = some (.int (nI 0)) ∧ ∃ w1, CS w1 m inn ap (plS ap inn m (pN x) n G).1 false (plS ap inn m (pN x) n G).2 ∧ FrC w w1 ∧ w' = wu w1 60 0 (nI ((plS ap inn m (pN x) n G).1 - n)))) := by
  intro X hl ha hm' hk hn' hc
  subst hl
  refine r_aload_n hc dL_play_0 rfl ?_
  refine r_iconst hc dL_play_1 (nI 0) (by decide) ?_
  refine r_aload_n hc dL_play_2 rfl ?_
  refine r_iload_n hc dL_play_3 rfl ?_
  refine kL_56 (kc := 0) (ks := 0) hc dL_play_4 (cF_play_y _ g d w m inn ap n G x hF hS h) (by omega) (Nat.le_of_ble_eq_true rfl) (Nat.zero_le _) (Nat.zero_le _) ?_ (fun cn w' h => absurd h Rp_r)
  rintro _ w' ⟨rfl, h1, h2⟩
  refine r_i2l hc dL_play_7 ?_
  refine r_last0 hc dL_play_8 ?_
  refine r_goto hc dL_play_9 (tgt := 18) (by decide) ?_
  refine r_iconst hc dL_play_18 (nI 0) (by decide) ?_
  exact r_iret hc dL_play_19 ⟨rfl, w', h1, h2, rfl⟩
theorem cL_tell_y (l : Launch) (g : GG) (d : Nat) (w : Wd) (m : Nat) (inn : Nat → Bool) (ap : Nat → Nat → Bool) (n : Nat) (op : Bool) (G : Nat → Nat → Ce) (x y : Int32) (hF : FOk m inn ap n op G) (hS : CS w m inn ap n op G) (h : isP m x = true) (h2 : inR y 6 = true) : Con l g yL_tell bL_tell 5 ((some .int)) [(0, 10, 13, 19)] (d + 3) 0 0 [.ref (g.1 0), .int x, .int y, .ref (g.1 60)] w (Rp (An (some (.int (nI 0))) (wu w 60 0 (figI G n (pN x) (pN y))))) := by
  intro X hl ha hm' hk hn' hc
  subst hl
  refine r_aload_n hc dL_tell_0 rfl ?_
  refine r_iconst hc dL_tell_1 (nI 0) (by decide) ?_
  refine r_aload_n hc dL_tell_2 rfl ?_
  refine r_iload_n hc dL_tell_3 rfl ?_
  refine r_iload_n hc dL_tell_4 rfl ?_
  refine kL_59 (kc := 0) (ks := 0) hc dL_tell_5 (cF_tell_y _ g d w m inn ap n op G x y hF hS h h2) (by omega) (Nat.le_of_ble_eq_true rfl) (Nat.zero_le _) (Nat.zero_le _) ?_ (fun cn w' h => absurd h Rp_r)
  rintro _ _ ⟨rfl, rfl⟩
  refine r_i2l hc dL_tell_8 ?_
  refine r_last0 hc dL_tell_9 ?_
  refine r_goto hc dL_tell_10 (tgt := 17) (by decide) ?_
  refine r_iconst hc dL_tell_17 (nI 0) (by decide) ?_
  exact r_iret hc dL_tell_18 ⟨rfl, rfl⟩
theorem cL_tell_n (l : Launch) (g : GG) (d : Nat) (w : Wd) (m : Nat) (inn : Nat → Bool) (ap : Nat → Nat → Bool) (n : Nat) (op : Bool) (G : Nat → Nat → Ce) (x y : Int32) (hF : FOk m inn ap n op G) (hS : CS w m inn ap n op G) (h : (isP m x && inR y 6) = false) : Con l g yL_tell bL_tell 5 ((some .int)) [(0, 10, 13, 19)] (d + 8) 1 6 [.ref (g.1 0), .int x, .int y, .ref (g.1 60)] w (Rp (An (some (.int (nI 1))) w)) := by
  intro X hl ha hm' hk hn' hc
  subst hl
  refine r_aload_n hc dL_tell_0 rfl ?_
  refine r_iconst hc dL_tell_1 (nI 0) (by decide) ?_
  refine r_aload_n hc dL_tell_2 rfl ?_
  refine r_iload_n hc dL_tell_3 rfl ?_
  refine r_iload_n hc dL_tell_4 rfl ?_
  refine kL_59 (kc := 0) (ks := 0) hc dL_tell_5 (cF_tell_n _ g d w m inn ap n op G x y hF hS h) (by omega) (Nat.le_of_ble_eq_true rfl) hk hn' (fun v w' h => absurd h Tp_l) ?_
  rintro cn w' ⟨rfl, rfl⟩
  refine x_catch (pre := []) (rest := []) (a := 0) (b := 10) (hp := 13) (ct := 19) hc ⟨by decide, by decide⟩ (by decide) (t2_mem 86 rfl rfl) (t2_mem 98 rfl rfl) (fun r hr => by cases hr) (fun z => ?_)
  refine r_astore hc dL_tell_13 (Nat.le_of_ble_eq_true rfl) ?_
  refine r_iconst hc dL_tell_15 (nI 1) (by decide) ?_
  exact r_iret hc dL_tell_16 ⟨rfl, rfl⟩
theorem cL_table_y (l : Launch) (g : GG) (d : Nat) (w : Wd) (m : Nat) (inn : Nat → Bool) (ap : Nat → Nat → Bool) (n : Nat) (op : Bool) (G : Nat → Nat → Ce) (x : Int32) (hF : FOk m inn ap n op G) (hS : CS w m inn ap n op G) (h : isP m x = true) : Con l g yL_table bL_table 4 ((some .int)) [(0, 9, 12, 19)] (d + 3) 0 0 [.ref (g.1 0), .int x, .ref (g.1 60)] w (Rp (fun v w' => v = some (.int (nI 0)) ∧ ∃ p, p < m ∧ f_rk G n p m = pN x ∧ w' = wu w 60 0 (nI p))) := by
  intro X hl ha hm' hk hn' hc
  subst hl
  refine r_aload_n hc dL_table_0 rfl ?_
  refine r_iconst hc dL_table_1 (nI 0) (by decide) ?_
  refine r_aload_n hc dL_table_2 rfl ?_
  refine r_iload_n hc dL_table_3 rfl ?_
  refine kL_66 (kc := 0) (ks := 0) hc dL_table_4 (cF_table_y _ g d w m inn ap n op G x hF hS h) (by omega) (Nat.le_of_ble_eq_true rfl) (Nat.zero_le _) (Nat.zero_le _) ?_ (fun cn w' h => absurd h Rp_r)
  rintro _ _ ⟨⟨p, hp1, hp2, rfl⟩, rfl⟩
  refine r_i2l hc dL_table_7 ?_
  refine r_last0 hc dL_table_8 ?_
  refine r_goto hc dL_table_9 (tgt := 15) (by decide) ?_
  refine r_iconst hc dL_table_15 (nI 0) (by decide) ?_
  exact r_iret hc dL_table_16 ⟨rfl, p, hp1, hp2, rfl⟩
