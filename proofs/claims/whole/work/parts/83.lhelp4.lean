/-! the law's helpers: leave, enter, apart, pair, cost -/
theorem cL_leave_nO (l : Launch) (g : GG) (d : Nat) (w : Wd) (m : Nat) (inn : Nat → Bool) (ap : Nat → Nat → Bool) (n : Nat) (G : Nat → Nat → Ce) (x : Int32) (hF : FOk m inn ap n true G) (hS : CS w m inn ap n true G) (h : isP m x = true) (h2 : inn (pN x) = true) : Con l g yL_leave bL_leave 3 ((some .int)) [(0, 5, 8, 19), (0, 5, 11, 21), (0, 5, 14, 13)] (d + 8) 1 6 [.ref (g.1 0), .int x] w (Rp (An (some (.int (nI 3))) w)) := by
  intro X hl ha hm' hk hn' hc
  subst hl
  refine r_aload_n hc dL_leave_0 rfl ?_
  refine r_iload_n hc dL_leave_1 rfl ?_
  refine kL_15 (kc := 0) (ks := 0) hc dL_leave_2 (cF_leave_nO _ g d w m inn ap n G x hF hS h h2) (by omega) (Nat.le_of_ble_eq_true rfl) hk hn' (fun v w' h => absurd h Tp_l) ?_
  rintro cn w' ⟨rfl, rfl⟩
  refine x_catch (pre := [(0, 5, 8, 19), (0, 5, 11, 21)]) (rest := []) (a := 0) (b := 5) (hp := 14) (ct := 13) hc ⟨by decide, by decide⟩ (by decide) (t2_mem 4 rfl rfl) (t2_mem 15 rfl rfl) (fun r hr => by
      simp only [List.mem_cons, List.not_mem_nil, or_false] at hr
      rcases hr with rfl | rfl
      · exact ⟨by decide, _, t2_mem 86 rfl rfl, by decide⟩
      · exact ⟨by decide, _, t2_mem 87 rfl rfl, by decide⟩) (fun z => ?_)
  refine r_astore_n hc dL_leave_14 (Nat.le_of_ble_eq_true rfl) ?_
  refine r_iconst hc dL_leave_15 (nI 3) (by decide) ?_
  exact r_iret hc dL_leave_16 ⟨rfl, rfl⟩
theorem cL_enter_y (l : Launch) (g : GG) (d : Nat) (w : Wd) (m : Nat) (inn : Nat → Bool) (ap : Nat → Nat → Bool) (n : Nat) (G : Nat → Nat → Ce)  (hF : FOk m inn ap n false G) (hS : CS w m inn ap n false G) (h : m ≠ 12) : Con l g yL_enter bL_enter 3 ((some .int)) [(0, 8, 11, 13)] (d + 2) 0 0 [.ref (g.1 0), .ref (g.1 60)] w (Rp (fun v w' => v = some (.int (nI 0)) ∧ ∃ w1, CS w1 (m + 1) (fun p => if p = m then true else inn p) ap n false G ∧ FrC w w1 ∧ w' = wu w1 60 0 (nI m))) := by
  intro X hl ha hm' hk hn' hc
  subst hl
  refine r_aload_n hc dL_enter_0 rfl ?_
  refine r_iconst hc dL_enter_1 (nI 0) (by decide) ?_
  refine r_aload_n hc dL_enter_2 rfl ?_
  refine kL_7 (kc := 0) (ks := 0) hc dL_enter_3 (cF_enter_y _ g d w m inn ap n G hF hS h) (by omega) (Nat.le_of_ble_eq_true rfl) (Nat.zero_le _) (Nat.zero_le _) ?_ (fun cn w' h => absurd h Rp_r)
  rintro _ w' ⟨rfl, h1, h2⟩
  refine r_i2l hc dL_enter_6 ?_
  refine r_last0 hc dL_enter_7 ?_
  refine r_goto hc dL_enter_8 (tgt := 14) (by decide) ?_
  refine r_iconst hc dL_enter_14 (nI 0) (by decide) ?_
  exact r_iret hc dL_enter_15 ⟨rfl, w', h1, h2, rfl⟩
theorem cL_enter_n (l : Launch) (g : GG) (d : Nat) (w : Wd) (m : Nat) (inn : Nat → Bool) (ap : Nat → Nat → Bool) (n : Nat) (op : Bool) (G : Nat → Nat → Ce)  (hF : FOk m inn ap n op G) (hS : CS w m inn ap n op G) (h : (op || decide (m = 12)) = true) : Con l g yL_enter bL_enter 3 ((some .int)) [(0, 8, 11, 13)] (d + 8) 1 6 [.ref (g.1 0), .ref (g.1 60)] w (Rp (An (some (.int (nI 1))) w)) := by
  intro X hl ha hm' hk hn' hc
  subst hl
  refine r_aload_n hc dL_enter_0 rfl ?_
  refine r_iconst hc dL_enter_1 (nI 0) (by decide) ?_
  refine r_aload_n hc dL_enter_2 rfl ?_
  refine kL_7 (kc := 0) (ks := 0) hc dL_enter_3 (cF_enter_n _ g d w m inn ap n op G hF hS h) (by omega) (Nat.le_of_ble_eq_true rfl) hk hn' (fun v w' h => absurd h Tp_l) ?_
  rintro cn w' ⟨rfl, rfl⟩
  refine x_catch (pre := []) (rest := []) (a := 0) (b := 8) (hp := 11) (ct := 13) hc ⟨by decide, by decide⟩ (by decide) (t2_mem 4 rfl rfl) (t2_mem 15 rfl rfl) (fun r hr => by cases hr) (fun z => ?_)
  refine r_astore_n hc dL_enter_11 (Nat.le_of_ble_eq_true rfl) ?_
  refine r_iconst hc dL_enter_12 (nI 1) (by decide) ?_
  exact r_iret hc dL_enter_13 ⟨rfl, rfl⟩
theorem cL_apart_nP (l : Launch) (g : GG) (d : Nat) (w : Wd) (m : Nat) (inn : Nat → Bool) (ap : Nat → Nat → Bool) (n : Nat) (op : Bool) (G : Nat → Nat → Ce) (x y : Int32) (b : Bool) (hF : FOk m inn ap n op G) (hS : CS w m inn ap n op G) (h : (isP m x && isP m y) = false) : Con l g yL_apart bL_apart 6 ((some .int)) [(0, 19, 22, 19), (0, 19, 26, 27), (0, 19, 30, 13)] (d + 8) 1 6 [.ref (g.1 0), .int x, .int y, .int (bI b), .ref (g.1 60)] w (Rp (An (some (.int (nI 1))) w)) := by
  intro X hl ha hm' hk hn' hc
  subst hl
  refine r_aload hc dL_apart_0 rfl ?_
  refine r_iconst hc dL_apart_2 (nI 0) (by decide) ?_
  refine r_aload_n hc dL_apart_3 rfl ?_
  refine r_iload_n hc dL_apart_4 rfl ?_
  refine r_iload_n hc dL_apart_5 rfl ?_
  refine r_iload_n hc dL_apart_6 rfl ?_
  refine kL_23 (kc := 0) (ks := 0) hc dL_apart_7 (cF_apart_nP _ g d w m inn ap n op G x y b hF hS h) (by omega) (Nat.le_of_ble_eq_true rfl) hk hn' (fun v w' h => absurd h Tp_l) ?_
  rintro cn w' ⟨rfl, rfl⟩
  refine x_catch (pre := []) (rest := [(0, 19, 26, 27), (0, 19, 30, 13)]) (a := 0) (b := 19) (hp := 22) (ct := 19) hc ⟨by decide, by decide⟩ (by decide) (t2_mem 86 rfl rfl) (t2_mem 98 rfl rfl) (fun r hr => by cases hr) (fun z => ?_)
  refine r_astore hc dL_apart_22 (Nat.le_of_ble_eq_true rfl) ?_
  refine r_iconst hc dL_apart_24 (nI 1) (by decide) ?_
  exact r_iret hc dL_apart_25 ⟨rfl, rfl⟩
theorem cL_apart_nS (l : Launch) (g : GG) (d : Nat) (w : Wd) (m : Nat) (inn : Nat → Bool) (ap : Nat → Nat → Bool) (n : Nat) (op : Bool) (G : Nat → Nat → Ce) (x y : Int32) (b : Bool) (hF : FOk m inn ap n op G) (hS : CS w m inn ap n op G) (h : isP m x = true) (h2 : isP m y = true) (h3 : x = y) : Con l g yL_apart bL_apart 6 ((some .int)) [(0, 19, 22, 19), (0, 19, 26, 27), (0, 19, 30, 13)] (d + 8) 1 6 [.ref (g.1 0), .int x, .int y, .int (bI b), .ref (g.1 60)] w (Rp (An (some (.int (nI 2))) w)) := by
  intro X hl ha hm' hk hn' hc
  subst hl
  refine r_aload hc dL_apart_0 rfl ?_
  refine r_iconst hc dL_apart_2 (nI 0) (by decide) ?_
  refine r_aload_n hc dL_apart_3 rfl ?_
  refine r_iload_n hc dL_apart_4 rfl ?_
  refine r_iload_n hc dL_apart_5 rfl ?_
  refine r_iload_n hc dL_apart_6 rfl ?_
  refine kL_23 (kc := 0) (ks := 0) hc dL_apart_7 (cF_apart_nS _ g d w m inn ap n op G x y b hF hS h h2 h3) (by omega) (Nat.le_of_ble_eq_true rfl) hk hn' (fun v w' h => absurd h Tp_l) ?_
  rintro cn w' ⟨rfl, rfl⟩
  refine x_catch (pre := [(0, 19, 22, 19)]) (rest := [(0, 19, 30, 13)]) (a := 0) (b := 19) (hp := 26) (ct := 27) hc ⟨by decide, by decide⟩ (by decide) (t2_mem 131 rfl rfl) (t2_mem 138 rfl rfl) (fun r hr => by
      simp only [List.mem_cons, List.not_mem_nil, or_false] at hr
      rcases hr with rfl
      · exact ⟨by decide, _, t2_mem 86 rfl rfl, by decide⟩) (fun z => ?_)
  refine r_astore hc dL_apart_26 (Nat.le_of_ble_eq_true rfl) ?_
  refine r_iconst hc dL_apart_28 (nI 2) (by decide) ?_
  exact r_iret hc dL_apart_29 ⟨rfl, rfl⟩
theorem cL_apart_nO (l : Launch) (g : GG) (d : Nat) (w : Wd) (m : Nat) (inn : Nat → Bool) (ap : Nat → Nat → Bool) (n : Nat) (G : Nat → Nat → Ce) (x y : Int32) (b : Bool) (hF : FOk m inn ap n true G) (hS : CS w m inn ap n true G) (h : isP m x = true) (h2 : isP m y = true) (h3 : x ≠ y) : Con l g yL_apart bL_apart 6 ((some .int)) [(0, 19, 22, 19), (0, 19, 26, 27), (0, 19, 30, 13)] (d + 8) 1 6 [.ref (g.1 0), .int x, .int y, .int (bI b), .ref (g.1 60)] w (Rp (An (some (.int (nI 3))) w)) := by
  intro X hl ha hm' hk hn' hc
  subst hl
  refine r_aload hc dL_apart_0 rfl ?_
  refine r_iconst hc dL_apart_2 (nI 0) (by decide) ?_
  refine r_aload_n hc dL_apart_3 rfl ?_
  refine r_iload_n hc dL_apart_4 rfl ?_
  refine r_iload_n hc dL_apart_5 rfl ?_
  refine r_iload_n hc dL_apart_6 rfl ?_
  refine kL_23 (kc := 0) (ks := 0) hc dL_apart_7 (cF_apart_nO _ g d w m inn ap n G x y b hF hS h h2 h3) (by omega) (Nat.le_of_ble_eq_true rfl) hk hn' (fun v w' h => absurd h Tp_l) ?_
  rintro cn w' ⟨rfl, rfl⟩
  refine x_catch (pre := [(0, 19, 22, 19), (0, 19, 26, 27)]) (rest := []) (a := 0) (b := 19) (hp := 30) (ct := 13) hc ⟨by decide, by decide⟩ (by decide) (t2_mem 4 rfl rfl) (t2_mem 15 rfl rfl) (fun r hr => by
      simp only [List.mem_cons, List.not_mem_nil, or_false] at hr
      rcases hr with rfl | rfl
      · exact ⟨by decide, _, t2_mem 86 rfl rfl, by decide⟩
      · exact ⟨by decide, _, t2_mem 131 rfl rfl, by decide⟩) (fun z => ?_)
  refine r_astore hc dL_apart_30 (Nat.le_of_ble_eq_true rfl) ?_
  refine r_iconst hc dL_apart_32 (nI 3) (by decide) ?_
  exact r_iret hc dL_apart_33 ⟨rfl, rfl⟩
theorem cL_apart_y (l : Launch) (g : GG) (d : Nat) (w : Wd) (m : Nat) (inn : Nat → Bool) (ap : Nat → Nat → Bool) (n : Nat) (G : Nat → Nat → Ce) (x y : Int32) (b : Bool) (hF : FOk m inn ap n false G) (hS : CS w m inn ap n false G) (h : isP m x = true) (h2 : isP m y = true) (h3 : x ≠ y) : Con l g yL_apart bL_apart 6 ((some .int)) [(0, 19, 22, 19), (0, 19, 26, 27), (0, 19, 30, 13)] (d + 3) 0 0 [.ref (g.1 0), .int x, .int y, .int (bI b), .ref (g.1 60)] w (Rp (fun v w' => v = some (.int (nI 0)) ∧ ∃ w1, CS w1 m inn (apUp ap (pN x) (pN y) b) n false G ∧ FrC w w1 ∧ w' = wu w1 60 0 (bI (ap (pN x) (pN y) != b)))) := by
  intro X hl ha hm' hk hn' hc
  subst hl
  refine r_aload hc dL_apart_0 rfl ?_
  refine r_iconst hc dL_apart_2 (nI 0) (by decide) ?_
  refine r_aload_n hc dL_apart_3 rfl ?_
  refine r_iload_n hc dL_apart_4 rfl ?_
  refine r_iload_n hc dL_apart_5 rfl ?_
  refine r_iload_n hc dL_apart_6 rfl ?_
  refine kL_23 (kc := 0) (ks := 0) hc dL_apart_7 (cF_apart_y _ g d w m inn ap n G x y b hF hS h h2 h3) (by omega) (Nat.le_of_ble_eq_true rfl) (Nat.zero_le _) (Nat.zero_le _) ?_ (fun cn w' h => absurd h Rp_r)
  rintro _ w' ⟨rfl, h1, h2⟩
  cases hb : (ap (pN x) (pN y) != b) with
  | false =>
    refine r_if_eq_t hc dL_apart_10 (tgt := 17) (by decide) rfl ?_
    refine r_lconst hc dL_apart_17 ((bI false).toInt64) (by decide) ?_
    refine r_last0 hc dL_apart_18 ?_
    refine r_goto hc dL_apart_19 (tgt := 34) (by decide) ?_
    refine r_iconst hc dL_apart_34 (nI 0) (by decide) ?_
    exact r_iret hc dL_apart_35 ⟨rfl, w', h1, h2, rfl⟩
  | true =>
    refine r_if_eq_f hc dL_apart_10 (tgt := 17) (by decide) (by decide) ?_
    refine r_lconst hc dL_apart_13 ((bI true).toInt64) (by decide) ?_
    refine r_goto hc dL_apart_14 (tgt := 18) (by decide) ?_
    refine r_last0 hc dL_apart_18 ?_
    refine r_goto hc dL_apart_19 (tgt := 34) (by decide) ?_
    refine r_iconst hc dL_apart_34 (nI 0) (by decide) ?_
    exact r_iret hc dL_apart_35 ⟨rfl, w', h1, h2, rfl⟩
theorem cL_pair_nS (l : Launch) (g : GG) (d : Nat) (w : Wd) (m : Nat) (inn : Nat → Bool) (ap : Nat → Nat → Bool) (n : Nat) (op : Bool) (G : Nat → Nat → Ce)  (hF : FOk m inn ap n op G) (hS : CS w m inn ap n op G) (h : prBad n op = true) : Con l g yL_pair bL_pair 3 ((some .int)) [(0, 8, 11, 13), (0, 8, 14, 21)] (d + 8) 1 6 [.ref (g.1 0), .ref (g.1 60)] w (Rp (An (some (.int (nI 1))) w)) := by
  intro X hl ha hm' hk hn' hc
  subst hl
  refine r_aload_n hc dL_pair_0 rfl ?_
  refine r_iconst hc dL_pair_1 (nI 0) (by decide) ?_
  refine r_aload_n hc dL_pair_2 rfl ?_
  refine kL_29 (kc := 0) (ks := 0) hc dL_pair_3 (cF_pair_nS _ g d w m inn ap n op G hF hS h) (by omega) (Nat.le_of_ble_eq_true rfl) hk hn' (fun v w' h => absurd h Tp_l) ?_
  rintro cn w' ⟨rfl, rfl⟩
  refine x_catch (pre := []) (rest := [(0, 8, 14, 21)]) (a := 0) (b := 8) (hp := 11) (ct := 13) hc ⟨by decide, by decide⟩ (by decide) (t2_mem 4 rfl rfl) (t2_mem 15 rfl rfl) (fun r hr => by cases hr) (fun z => ?_)
  refine r_astore_n hc dL_pair_11 (Nat.le_of_ble_eq_true rfl) ?_
  refine r_iconst hc dL_pair_12 (nI 1) (by decide) ?_
  exact r_iret hc dL_pair_13 ⟨rfl, rfl⟩
theorem cL_pair_nE (l : Launch) (g : GG) (d : Nat) (w : Wd) (m : Nat) (inn : Nat → Bool) (ap : Nat → Nat → Bool) (n : Nat) (G : Nat → Nat → Ce)  (hF : FOk m inn ap n false G) (hS : CS w m inn ap n false G) (h : n < 16) (h2 : canP G n ap inn m = false) : Con l g yL_pair bL_pair 3 ((some .int)) [(0, 8, 11, 13), (0, 8, 14, 21)] (d + 8) 1 6 [.ref (g.1 0), .ref (g.1 60)] w (Rp (fun v w' => v = some (.int (nI 2)) ∧ CS w' m inn ap n false G ∧ FrC w w')) := by
  intro X hl ha hm' hk hn' hc
  subst hl
  refine r_aload_n hc dL_pair_0 rfl ?_
  refine r_iconst hc dL_pair_1 (nI 0) (by decide) ?_
  refine r_aload_n hc dL_pair_2 rfl ?_
  refine kL_29 (kc := 0) (ks := 0) hc dL_pair_3 (cF_pair_nE _ g d w m inn ap n G hF hS h h2) (by omega) (Nat.le_of_ble_eq_true rfl) hk hn' (fun v w' h => absurd h Tp_l) ?_
  rintro cn w' ⟨rfl, h1, h2⟩
  refine x_catch (pre := [(0, 8, 11, 13)]) (rest := []) (a := 0) (b := 8) (hp := 14) (ct := 21) hc ⟨by decide, by decide⟩ (by decide) (t2_mem 87 rfl rfl) (t2_mem 114 rfl rfl) (fun r hr => by
      simp only [List.mem_cons, List.not_mem_nil, or_false] at hr
      rcases hr with rfl
      · exact ⟨by decide, _, t2_mem 4 rfl rfl, by decide⟩) (fun z => ?_)
  refine r_astore_n hc dL_pair_14 (Nat.le_of_ble_eq_true rfl) ?_
  refine r_iconst hc dL_pair_15 (nI 2) (by decide) ?_
  exact r_iret hc dL_pair_16 ⟨rfl, h1, h2⟩
theorem cL_pair_y (l : Launch) (g : GG) (d : Nat) (w : Wd) (m : Nat) (inn : Nat → Bool) (ap : Nat → Nat → Bool) (n : Nat) (G : Nat → Nat → Ce)  (hF : FOk m inn ap n false G) (hS : CS w m inn ap n false G) (h : n < 16) (h2 : canP G n ap inn m = true) : Con l g yL_pair bL_pair 3 ((some .int)) [(0, 8, 11, 13), (0, 8, 14, 21)] (d + 7) 0 0 [.ref (g.1 0), .ref (g.1 60)] w (Rp (fun v w' => v = some (.int (nI 0)) ∧ ∃ w1, CS w1 m inn ap n true (gUp G n (newRow G n ap inn m)) ∧ FrC w w1 ∧ w' = wu w1 60 0 (nI (newGames G n ap inn m)))) := by
  intro X hl ha hm' hk hn' hc
  subst hl
  refine r_aload_n hc dL_pair_0 rfl ?_
  refine r_iconst hc dL_pair_1 (nI 0) (by decide) ?_
  refine r_aload_n hc dL_pair_2 rfl ?_
  refine kL_29 (kc := 0) (ks := 0) hc dL_pair_3 (cF_pair_y _ g d w m inn ap n G hF hS h h2) (by omega) (Nat.le_of_ble_eq_true rfl) (Nat.zero_le _) (Nat.zero_le _) ?_ (fun cn w' h => absurd h Rp_r)
  rintro _ w' ⟨rfl, h1, h2⟩
  refine r_i2l hc dL_pair_6 ?_
  refine r_last0 hc dL_pair_7 ?_
  refine r_goto hc dL_pair_8 (tgt := 17) (by decide) ?_
  refine r_iconst hc dL_pair_17 (nI 0) (by decide) ?_
  exact r_iret hc dL_pair_18 ⟨rfl, w', h1, h2, rfl⟩
theorem cL_cost_nE (l : Launch) (g : GG) (d : Nat) (w : Wd) (m : Nat) (inn : Nat → Bool) (ap : Nat → Nat → Bool) (n : Nat) (op : Bool) (G : Nat → Nat → Ce)  (hF : FOk m inn ap n op G) (hS : CS w m inn ap n op G) (h2 : canP G n ap inn m = false) : Con l g yL_cost bL_cost 3 ((some .int)) [(0, 8, 11, 21)] (d + 8) 1 6 [.ref (g.1 0), .ref (g.1 60)] w (Rp (fun v w' => v = some (.int (nI 1)) ∧ CS w' m inn ap n op G ∧ FrC w w')) := by
  intro X hl ha hm' hk hn' hc
  subst hl
  refine r_aload_n hc dL_cost_0 rfl ?_
  refine r_iconst hc dL_cost_1 (nI 0) (by decide) ?_
  refine r_aload_n hc dL_cost_2 rfl ?_
  refine kL_32 (kc := 0) (ks := 0) hc dL_cost_3 (cF_cost_nE _ g d w m inn ap n op G hF hS h2) (by omega) (Nat.le_of_ble_eq_true rfl) hk hn' (fun v w' h => absurd h Tp_l) ?_
  rintro cn w' ⟨rfl, h1, h2⟩
  refine x_catch (pre := []) (rest := []) (a := 0) (b := 8) (hp := 11) (ct := 21) hc ⟨by decide, by decide⟩ (by decide) (t2_mem 87 rfl rfl) (t2_mem 114 rfl rfl) (fun r hr => by cases hr) (fun z => ?_)
  refine r_astore_n hc dL_cost_11 (Nat.le_of_ble_eq_true rfl) ?_
  refine r_iconst hc dL_cost_12 (nI 1) (by decide) ?_
  exact r_iret hc dL_cost_13 ⟨rfl, h1, h2⟩
theorem cL_cost_y (l : Launch) (g : GG) (d : Nat) (w : Wd) (m : Nat) (inn : Nat → Bool) (ap : Nat → Nat → Bool) (n : Nat) (op : Bool) (G : Nat → Nat → Ce)  (hF : FOk m inn ap n op G) (hS : CS w m inn ap n op G) (h2 : canP G n ap inn m = true) : Con l g yL_cost bL_cost 3 ((some .int)) [(0, 8, 11, 21)] (d + 6) 0 0 [.ref (g.1 0), .ref (g.1 60)] w (Rp (fun v w' => v = some (.int (nI 0)) ∧ ∃ w1, CS w1 m inn ap n op G ∧ FrC w w1 ∧ w' = wu w1 60 0 (nI (solT G n ap inn m (topS G n inn m)).1))) := by
  intro X hl ha hm' hk hn' hc
  subst hl
  refine r_aload_n hc dL_cost_0 rfl ?_
  refine r_iconst hc dL_cost_1 (nI 0) (by decide) ?_
  refine r_aload_n hc dL_cost_2 rfl ?_
  refine kL_32 (kc := 0) (ks := 0) hc dL_cost_3 (cF_cost_y _ g d w m inn ap n op G hF hS h2) (by omega) (Nat.le_of_ble_eq_true rfl) (Nat.zero_le _) (Nat.zero_le _) ?_ (fun cn w' h => absurd h Rp_r)
  rintro _ w' ⟨rfl, h1, h2⟩
  refine r_i2l hc dL_cost_6 ?_
  refine r_last0 hc dL_cost_7 ?_
  refine r_goto hc dL_cost_8 (tgt := 14) (by decide) ?_
  refine r_iconst hc dL_cost_14 (nI 0) (by decide) ?_
  exact r_iret hc dL_cost_15 ⟨rfl, w', h1, h2, rfl⟩
