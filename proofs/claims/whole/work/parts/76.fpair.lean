/-! PairedField: leave, pair, cost -/
theorem cF_leave_nP (l : Launch) (g : GG) (d : Nat) (w : Wd) (m : Nat) (inn : Nat → Bool) (ap : Nat → Nat → Bool) (n : Nat) (op : Bool) (G : Nat → Nat → Ce) (x : Int32) (hF : FOk m inn ap n op G) (hS : CS w m inn ap n op G) (h : isP m x = false) : Con l g yF_leave bF_leave 2 ((none : Option Jvm.ClassFile.FieldType)) [] (d + 7) 1 6 [.ref (g.1 0), .int x] w (Tp tIOB (fun z => w = z)) := by
  intro X hl ha hm' hk hn' hc
  subst hl
  have hm := hF.1.2
  refine r_aload_n hc dF_leave_0 rfl ?_
  refine r_iload_n hc dF_leave_1 rfl ?_
  exact kF_59t hc dF_leave_2 (cF_refuseNoPlayer_n _ g d w m x hS.1 h) (by omega) (Nat.le_of_ble_eq_true rfl) hk hn' (fun w' h => ⟨rfl, h⟩)
theorem cF_leave_nE (l : Launch) (g : GG) (d : Nat) (w : Wd) (m : Nat) (inn : Nat → Bool) (ap : Nat → Nat → Bool) (n : Nat) (op : Bool) (G : Nat → Nat → Ce) (x : Int32) (hF : FOk m inn ap n op G) (hS : CS w m inn ap n op G) (h : isP m x = true) (h2 : inn (pN x) = false) : Con l g yF_leave bF_leave 2 ((none : Option Jvm.ClassFile.FieldType)) [] (d + 6) 1 6 [.ref (g.1 0), .int x] w (Tp tNSE (fun z => w = z)) := by
  intro X hl ha hm' hk hn' hc
  subst hl
  have hm := hF.1.2
  refine r_aload_n hc dF_leave_0 rfl ?_
  refine r_iload_n hc dF_leave_1 rfl ?_
  refine kF_59r hc dF_leave_2 (cF_refuseNoPlayer_y _ g d w m x hS.1 h) (by omega) (Nat.le_of_ble_eq_true rfl) ?_
  rintro _ _ ⟨rfl, rfl⟩
  obtain ⟨p, hp, rfl⟩ := isP_t h hm
  rw [pN_nI (by omega)] at h2
  refine r_aload_n hc dF_leave_5 rfl ?_
  refine gF_14 hc dF_leave_6 ?_
  refine r_iload_n hc dF_leave_9 rfl ?_
  refine r_zaldN hc dF_leave_10 rfl (by first | omega | (show _ < 12; omega) | (show _ < 204; omega) | (show _ < 144; omega) | (show _ < 2048; omega) | (show _ < 4096; omega) | (show _ < 16; omega)) ?_
  rw [hS.2.2.2.1 p (by omega), inM_lt hp, h2]
  refine r_if_ne_f hc dF_leave_11 (tgt := 24) (by decide) (by decide) ?_
  exact r_throwN (cls := "java/util/NoSuchElementException") hc (by omega) (Nat.le_of_ble_eq_true rfl) (by decide +kernel) own_NSE (t2_mem 112 rfl rfl) (t2_mem 113 rfl rfl) (t1_mem 11 rfl rfl) (t2_mem 121 rfl rfl) dF_leave_14 dF_leave_17 dF_leave_18 dF_leave_20 dF_leave_23 hk hn' ⟨rfl, rfl⟩
theorem cF_leave_nO (l : Launch) (g : GG) (d : Nat) (w : Wd) (m : Nat) (inn : Nat → Bool) (ap : Nat → Nat → Bool) (n : Nat) (G : Nat → Nat → Ce) (x : Int32) (hF : FOk m inn ap n true G) (hS : CS w m inn ap n true G) (h : isP m x = true) (h2 : inn (pN x) = true) : Con l g yF_leave bF_leave 2 ((none : Option Jvm.ClassFile.FieldType)) [] (d + 7) 1 6 [.ref (g.1 0), .int x] w (Tp tISE (fun z => w = z)) := by
  intro X hl ha hm' hk hn' hc
  subst hl
  have hm := hF.1.2
  refine r_aload_n hc dF_leave_0 rfl ?_
  refine r_iload_n hc dF_leave_1 rfl ?_
  refine kF_59r hc dF_leave_2 (cF_refuseNoPlayer_y _ g d w m x hS.1 h) (by omega) (Nat.le_of_ble_eq_true rfl) ?_
  rintro _ _ ⟨rfl, rfl⟩
  obtain ⟨p, hp, rfl⟩ := isP_t h hm
  rw [pN_nI (by omega)] at h2
  refine r_aload_n hc dF_leave_5 rfl ?_
  refine gF_14 hc dF_leave_6 ?_
  refine r_iload_n hc dF_leave_9 rfl ?_
  refine r_zaldN hc dF_leave_10 rfl (by first | omega | (show _ < 12; omega) | (show _ < 204; omega) | (show _ < 144; omega) | (show _ < 2048; omega) | (show _ < 4096; omega) | (show _ < 16; omega)) ?_
  rw [hS.2.2.2.1 p (by omega), inM_lt hp, h2]
  refine r_if_ne_t hc dF_leave_11 (tgt := 24) (by decide) (by decide) ?_
  refine r_aload_n hc dF_leave_24 rfl ?_
  exact kF_49t hc dF_leave_25 (cF_refuseOpenRound_n _ g d w hS.2.2.1) (by omega) (Nat.le_of_ble_eq_true rfl) hk hn' (fun w' h => ⟨rfl, h⟩)
theorem cF_leave_y (l : Launch) (g : GG) (d : Nat) (w : Wd) (m : Nat) (inn : Nat → Bool) (ap : Nat → Nat → Bool) (n : Nat) (G : Nat → Nat → Ce) (x : Int32) (hF : FOk m inn ap n false G) (hS : CS w m inn ap n false G) (h : isP m x = true) (h2 : inn (pN x) = true) : Con l g yF_leave bF_leave 2 ((none : Option Jvm.ClassFile.FieldType)) [] (d + 2) 0 0 [.ref (g.1 0), .int x] w (Rp (fun v w' => v = none ∧ CS w' m (fun p => if p = pN x then false else inn p) ap n false G ∧ FrC w w')) := by
  intro X hl ha hm' hk hn' hc
  subst hl
  have hm := hF.1.2
  refine r_aload_n hc dF_leave_0 rfl ?_
  refine r_iload_n hc dF_leave_1 rfl ?_
  refine kF_59r hc dF_leave_2 (cF_refuseNoPlayer_y _ g d w m x hS.1 h) (by omega) (Nat.le_of_ble_eq_true rfl) ?_
  rintro _ _ ⟨rfl, rfl⟩
  obtain ⟨p, hp, rfl⟩ := isP_t h hm
  rw [pN_nI (by omega)] at h2
  refine r_aload_n hc dF_leave_5 rfl ?_
  refine gF_14 hc dF_leave_6 ?_
  refine r_iload_n hc dF_leave_9 rfl ?_
  refine r_zaldN hc dF_leave_10 rfl (by first | omega | (show _ < 12; omega) | (show _ < 204; omega) | (show _ < 144; omega) | (show _ < 2048; omega) | (show _ < 4096; omega) | (show _ < 16; omega)) ?_
  rw [hS.2.2.2.1 p (by omega), inM_lt hp, h2]
  rw [pN_nI (by omega)]
  refine r_if_ne_t hc dF_leave_11 (tgt := 24) (by decide) (by decide) ?_
  refine r_aload_n hc dF_leave_24 rfl ?_
  refine kF_49r hc dF_leave_25 (cF_refuseOpenRound_y _ g d w hS.2.2.1) (by omega) (Nat.le_of_ble_eq_true rfl) ?_
  rintro _ _ ⟨rfl, rfl⟩
  refine r_aload_n hc dF_leave_28 rfl ?_
  refine gF_14 hc dF_leave_29 ?_
  refine r_iload_n hc dF_leave_32 rfl ?_
  refine r_iconst hc dF_leave_33 (nI 0) (by decide) ?_
  refine r_zastN hc dF_leave_34 rfl (by first | omega | (show _ < 12; omega) | (show _ < 204; omega) | (show _ < 144; omega) | (show _ < 2048; omega) | (show _ < 4096; omega) | (show _ < 16; omega)) (by first | exact Or.inl rfl | exact Or.inr rfl | assumption) ?_
  refine r_vret hc dF_leave_35 ⟨rfl, ⟨?_, ?_, ?_, fun i hi => ?_, fun i hi => ?_, ?_, fun r hr i hi => ?_⟩, (FrC.rf w).put 18 _ _ (by decide)⟩
  · rw [wu_o1 (by decide)]; exact hS.1
  · rw [wu_o1 (by decide)]; exact hS.2.1
  · rw [wu_o1 (by decide)]; exact hS.2.2.1
  · by_cases hip : i = p
    · subst hip
      rw [wu_at, inM_lt hp, if_pos rfl]
      rfl
    · rw [wu_o2 hip, hS.2.2.2.1 i hi]
      by_cases h9 : i < m
      · rw [inM_lt h9, inM_lt h9, if_neg hip]
      · rw [inM_ge (by omega), inM_ge (by omega)]
  · rw [wu_o1 (by decide)]; exact hS.2.2.2.2.1 i hi
  · exact hS.2.2.2.2.2.1.congr (fun k k1 k2 => by rw [wu_ne (by omega)])
  · have hr2 : r < n := hr
    have := hF.2.1
    rw [wu_o1 (by omega)]; exact hS.2.2.2.2.2.2 r hr i hi
theorem cF_pair_nS (l : Launch) (g : GG) (d : Nat) (w : Wd) (m : Nat) (inn : Nat → Bool) (ap : Nat → Nat → Bool) (n : Nat) (op : Bool) (G : Nat → Nat → Ce) (hF : FOk m inn ap n op G) (hS : CS w m inn ap n op G) (h : prBad n op = true) : Con l g yF_pair bF_pair 1 ((some .int)) [] (d + 7) 1 6 [.ref (g.1 0)] w (Tp tISE (fun z => w = z)) := by
  intro X hl ha hm' hk hn' hc
  subst hl
  have hm := hF.1.2
  refine r_aload_n hc dF_pair_0 rfl ?_
  cases op with
  | true => exact kF_49t hc dF_pair_1 (cF_refuseOpenRound_n _ g d w hS.2.2.1) (by omega) (Nat.le_of_ble_eq_true rfl) hk hn' (fun w' h => ⟨rfl, h⟩)
  | false =>
    have h : n = 16 := by simpa [prBad] using h
    refine kF_49r hc dF_pair_1 (cF_refuseOpenRound_y _ g d w hS.2.2.1) (by omega) (Nat.le_of_ble_eq_true rfl) ?_
    rintro _ _ ⟨rfl, rfl⟩
    refine r_aload_n hc dF_pair_4 rfl ?_
    refine gF_73 hc dF_pair_5 ?_
    rw [hS.2.1, h]
    refine r_bipush hc dF_pair_8 (nI 16) (by decide) ?_
    refine r_ic_ne_f hc dF_pair_10 (tgt := 23) (by decide) (by decide) ?_
    exact r_throw (cls := "java/lang/IllegalStateException") hc (by omega) (Nat.le_of_ble_eq_true rfl) (by decide +kernel) own_ISE (t2_mem 13 rfl rfl) (t2_mem 14 rfl rfl) (t1_mem 9 rfl rfl) (t2_mem 159 rfl rfl) dF_pair_13 dF_pair_16 dF_pair_17 dF_pair_19 dF_pair_22 hk hn' ⟨rfl, rfl⟩
theorem cF_pair_nE (l : Launch) (g : GG) (d : Nat) (w : Wd) (m : Nat) (inn : Nat → Bool) (ap : Nat → Nat → Bool) (n : Nat) (G : Nat → Nat → Ce) (hF : FOk m inn ap n false G) (hS : CS w m inn ap n false G) (h : n < 16) (h2 : canP G n ap inn m = false) : Con l g yF_pair bF_pair 1 ((some .int)) [] (d + 6) 1 6 [.ref (g.1 0)] w (Tp tNSE (fun z => CS z m inn ap n false G ∧ FrC w z)) := by
  intro X hl ha hm' hk hn' hc
  subst hl
  have hm := hF.1.2
  refine r_aload_n hc dF_pair_0 rfl ?_
  refine kF_49r hc dF_pair_1 (cF_refuseOpenRound_y _ g d w hS.2.2.1) (by omega) (Nat.le_of_ble_eq_true rfl) ?_
  rintro _ _ ⟨rfl, rfl⟩
  refine r_aload_n hc dF_pair_4 rfl ?_
  refine gF_73 hc dF_pair_5 ?_
  rw [hS.2.1]
  refine r_bipush hc dF_pair_8 (nI 16) (by decide) ?_
  refine r_ic_ne_t hc dF_pair_10 (tgt := 23) (by decide) (fun z => by rw [nI_eq (by omega) (by decide)] at z; omega) ?_
  refine r_aload_n hc dF_pair_23 rfl ?_
  refine kF_78r hc dF_pair_24 (cF_openNextRound _ g d w m inn ap n G hF h hS) (by omega) (Nat.le_of_ble_eq_true rfl) ?_
  rintro _ w2 ⟨rfl, s2, -, f2⟩
  rw [h2] at s2 ⊢
  refine r_if_ne_f hc dF_pair_27 (tgt := 40) (by decide) (by decide) ?_
  exact r_throwN (cls := "java/util/NoSuchElementException") hc (by omega) (Nat.le_of_ble_eq_true rfl) (by decide +kernel) own_NSE (t2_mem 112 rfl rfl) (t2_mem 113 rfl rfl) (t1_mem 11 rfl rfl) (t2_mem 191 rfl rfl) dF_pair_30 dF_pair_33 dF_pair_34 dF_pair_36 dF_pair_39 hk hn' ⟨rfl, s2, f2⟩
theorem cF_pair_y (l : Launch) (g : GG) (d : Nat) (w : Wd) (m : Nat) (inn : Nat → Bool) (ap : Nat → Nat → Bool) (n : Nat) (G : Nat → Nat → Ce) (hF : FOk m inn ap n false G) (hS : CS w m inn ap n false G) (h : n < 16) (h2 : canP G n ap inn m = true) : Con l g yF_pair bF_pair 1 ((some .int)) [] (d + 6) 0 0 [.ref (g.1 0)] w (Rp (fun v w' => v = some (.int (nI (newGames G n ap inn m))) ∧ CS w' m inn ap n true (gUp G n (newRow G n ap inn m)) ∧ FrC w w')) := by
  intro X hl ha hm' hk hn' hc
  subst hl
  have hm := hF.1.2
  have hcan2 : (solT G n ap (inM inn m) 12 (topS G n (inM inn m) 12)).1 < dpE := by
    have h := h2
    unfold canP at h
    rw [Bool.and_eq_true] at h
    rw [t_sol hm, t_top hm]
    exact of_decide_eq_true h.2
  have hng := newGames_half hF.2.2.2.1 hF.2.1 hcan2
  rw [t_games hm, t_ord hm] at hng
  have hlen := ord_len G n (inM inn m)
  rw [t_ord hm] at hlen
  refine r_aload_n hc dF_pair_0 rfl ?_
  refine kF_49r hc dF_pair_1 (cF_refuseOpenRound_y _ g d w hS.2.2.1) (by omega) (Nat.le_of_ble_eq_true rfl) ?_
  rintro _ _ ⟨rfl, rfl⟩
  refine r_aload_n hc dF_pair_4 rfl ?_
  refine gF_73 hc dF_pair_5 ?_
  rw [hS.2.1]
  refine r_bipush hc dF_pair_8 (nI 16) (by decide) ?_
  refine r_ic_ne_t hc dF_pair_10 (tgt := 23) (by decide) (fun z => by rw [nI_eq (by omega) (by decide)] at z; omega) ?_
  refine r_aload_n hc dF_pair_23 rfl ?_
  refine kF_78r hc dF_pair_24 (cF_openNextRound _ g d w m inn ap n G hF h hS) (by omega) (Nat.le_of_ble_eq_true rfl) ?_
  rintro _ w2 ⟨rfl, s2, sl, f2⟩
  rw [h2] at s2 ⊢
  simp only [if_true] at s2
  refine r_if_ne_t hc dF_pair_27 (tgt := 40) (by decide) (by decide) ?_
  refine r_aload_n hc dF_pair_40 rfl ?_
  refine gF_32 hc dF_pair_41 ?_
  refine kF_84r hc dF_pair_44 (cP_games _ g d w2 _ hlen sl) (by omega) (Nat.le_of_ble_eq_true rfl) ?_
  rintro _ _ ⟨rfl, rfl⟩
  exact r_iret hc dF_pair_47 ⟨by rw [hng], s2, f2⟩
theorem cF_cost_nE (l : Launch) (g : GG) (d : Nat) (w : Wd) (m : Nat) (inn : Nat → Bool) (ap : Nat → Nat → Bool) (n : Nat) (op : Bool) (G : Nat → Nat → Ce) (hF : FOk m inn ap n op G) (hS : CS w m inn ap n op G) (h2 : canP G n ap inn m = false) : Con l g yF_cost bF_cost 1 ((some .int)) [] (d + 6) 1 6 [.ref (g.1 0)] w (Tp tNSE (fun z => CS z m inn ap n op G ∧ FrC w z)) := by
  intro X hl ha hm' hk hn' hc
  subst hl
  have hm := hF.1.2
  refine r_aload_n hc dF_cost_0 rfl ?_
  refine kF_88r hc dF_cost_1 (cF_workOutPairing _ g d w m inn ap n op G hF hS) (by omega) (Nat.le_of_ble_eq_true rfl) ?_
  rintro _ w2 ⟨rfl, k1, k2, k3⟩
  refine r_aload_n hc dF_cost_4 rfl ?_
  refine gF_32 hc dF_cost_5 ?_
  refine kF_91r hc dF_cost_8 (cP_isPossible _ g d w2 G n ap (inM inn m) hF.2.2.2.1 hF.2.1 k1) (by omega) (Nat.le_of_ble_eq_true rfl) ?_
  rintro _ _ ⟨rfl, rfl⟩
  rw [t_can hm, h2]
  refine r_if_ne_f hc dF_cost_11 (tgt := 24) (by decide) (by decide) ?_
  exact r_throwN (cls := "java/util/NoSuchElementException") hc (by omega) (Nat.le_of_ble_eq_true rfl) (by decide +kernel) own_NSE (t2_mem 112 rfl rfl) (t2_mem 113 rfl rfl) (t1_mem 11 rfl rfl) (t2_mem 191 rfl rfl) dF_cost_14 dF_cost_17 dF_cost_18 dF_cost_20 dF_cost_23 hk hn' ⟨rfl, k2, fun k hk => k3 k (by omega)⟩
theorem cF_cost_y (l : Launch) (g : GG) (d : Nat) (w : Wd) (m : Nat) (inn : Nat → Bool) (ap : Nat → Nat → Bool) (n : Nat) (op : Bool) (G : Nat → Nat → Ce) (hF : FOk m inn ap n op G) (hS : CS w m inn ap n op G) (h2 : canP G n ap inn m = true) : Con l g yF_cost bF_cost 1 ((some .int)) [] (d + 5) 0 0 [.ref (g.1 0)] w (Rp (fun v w' => v = some (.int (nI (solT G n ap inn m (topS G n inn m)).1)) ∧ CS w' m inn ap n op G ∧ FrC w w')) := by
  intro X hl ha hm' hk hn' hc
  subst hl
  have hm := hF.1.2
  have hcan2 : (solT G n ap inn m (topS G n inn m)).1 < dpE := by
    have h := h2
    unfold canP at h
    rw [Bool.and_eq_true] at h
    exact of_decide_eq_true h.2
  refine r_aload_n hc dF_cost_0 rfl ?_
  refine kF_88r hc dF_cost_1 (cF_workOutPairing _ g d w m inn ap n op G hF hS) (by omega) (Nat.le_of_ble_eq_true rfl) ?_
  rintro _ w2 ⟨rfl, k1, k2, k3⟩
  obtain ⟨-, t2, t3, -⟩ := k1.top hF.2.2.2.1 hF.2.1
  refine r_aload_n hc dF_cost_4 rfl ?_
  refine gF_32 hc dF_cost_5 ?_
  refine kF_91r hc dF_cost_8 (cP_isPossible _ g d w2 G n ap (inM inn m) hF.2.2.2.1 hF.2.1 k1) (by omega) (Nat.le_of_ble_eq_true rfl) ?_
  rintro _ _ ⟨rfl, rfl⟩
  rw [t_can hm, h2]
  refine r_if_ne_t hc dF_cost_11 (tgt := 24) (by decide) (by decide) ?_
  refine r_aload_n hc dF_cost_24 rfl ?_
  refine gF_32 hc dF_cost_25 ?_
  refine kF_94r hc dF_cost_28 (cP_leastCost _ g d w2 _ (ord_len G n _) k1.1.1) (by omega) (Nat.le_of_ble_eq_true rfl) ?_
  rintro _ _ ⟨rfl, rfl⟩
  rw [t_sol hm, t_top hm] at t2 t3
  rw [t2 (t3.mpr hcan2)]
  exact r_iret hc dF_cost_31 ⟨rfl, k2, fun k hk => k3 k (by omega)⟩
