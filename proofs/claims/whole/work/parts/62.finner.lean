/-! PairedField: the inner calls -/
theorem rnd_le {m : Nat} {inn : Nat → Bool} {ap : Nat → Nat → Bool} {n : Nat} {op : Bool} {G : Nat → Nat → Ce} (hF : FOk m inn ap n op G) : rnd n op ≤ 16 := by
  unfold rnd
  split
  · rename_i h
    have := hF.2.2.1 h
    omega
  · exact hF.2.1
theorem cF_workOutPairing (l : Launch) (g : GG) (d : Nat) (w : Wd) (m : Nat) (inn : Nat → Bool) (ap : Nat → Nat → Bool) (n : Nat) (op : Bool) (G : Nat → Nat → Ce) (hF : FOk m inn ap n op G) (hS : CS w m inn ap n op G) : Con l g yF_workOutPairing bF_workOutPairing 1 ((none : Option Jvm.ClassFile.FieldType)) [] (d + 4) 0 0 [.ref (g.1 0)] w (Rp (fun v w' => v = none ∧ WkC w' G n ap (inM inn m) ∧ CS w' m inn ap n op G ∧ ∀ k, (k < 31 ∨ 47 < k) → w' k = w k)) := by
  intro X hl ha hm' hk hn' hc
  subst hl
  have hr := rnd_le hF
  refine r_aload_n hc dF_workOutPairing_0 rfl ?_
  refine gF_32 hc dF_workOutPairing_1 ?_
  refine r_aload_n hc dF_workOutPairing_4 rfl ?_
  refine gF_25 hc dF_workOutPairing_5 ?_
  refine r_aload_n hc dF_workOutPairing_8 rfl ?_
  refine gF_14 hc dF_workOutPairing_9 ?_
  refine r_aload_n hc dF_workOutPairing_12 rfl ?_
  refine gF_18 hc dF_workOutPairing_13 ?_
  refine r_aload_n hc dF_workOutPairing_16 rfl ?_
  refine gF_73 hc dF_workOutPairing_17 ?_
  rw [hS.2.1]
  refine kF_191r hc dF_workOutPairing_20 (cP_workOut _ g d w G n ap (inM inn m) hS.2.2.2.2.2.1 hF.2.2.2.1 (fun r hr p q b k h => hF.opp r hr p q b k h) hF.2.1 hS.2.2.2.1 hS.2.2.2.2.1) (Nat.le_refl _) (Nat.le_of_ble_eq_true rfl) ?_
  rintro _ w' ⟨rfl, h1, h2⟩
  exact r_vret hc dF_workOutPairing_23 ⟨rfl, h1, hS.congr (by omega) (fun k hk => h2 k (by omega)), h2⟩
theorem cF_ways (l : Launch) (g : GG) (d : Nat) (w : Wd) (m : Nat) (inn : Nat → Bool) (ap : Nat → Nat → Bool) (n : Nat) (op : Bool) (G : Nat → Nat → Ce) (hF : FOk m inn ap n op G) (hS : CS w m inn ap n op G) : Con l g yF_ways bF_ways 1 ((some .int)) [] (d + 5) 0 0 [.ref (g.1 0)] w (Rp (fun v w' => v = some (.int (nI (solT G n ap inn m (topS G n inn m)).2.2)) ∧ CS w' m inn ap n op G ∧ FrC w w')) := by
  intro X hl ha hm' hk hn' hc
  subst hl
  refine r_aload_n hc dF_ways_0 rfl ?_
  refine kF_88r hc dF_ways_1 (cF_workOutPairing _ g d w m inn ap n op G hF hS) (by omega) (Nat.le_of_ble_eq_true rfl) ?_
  rintro _ w' ⟨rfl, h1, h2, h3⟩
  obtain ⟨t1, -⟩ := h1.top hF.2.2.2.1 hF.2.1
  refine r_aload_n hc dF_ways_4 rfl ?_
  refine gF_32 hc dF_ways_5 ?_
  refine kF_97r hc dF_ways_8 (cP_count _ g d w' _ (ord_len G n _) h1.1.1) (by omega) (Nat.le_of_ble_eq_true rfl) ?_
  rintro _ _ ⟨rfl, rfl⟩
  rw [t1, t_sol hF.1.2, t_top hF.1.2]
  exact r_iret hc dF_ways_11 ⟨rfl, h2, fun k hk => h3 k (by omega)⟩
theorem cF_openNextRound (l : Launch) (g : GG) (d : Nat) (w : Wd) (m : Nat) (inn : Nat → Bool) (ap : Nat → Nat → Bool) (n : Nat) (G : Nat → Nat → Ce) (hF : FOk m inn ap n false G) (hn : n < 16) (hS : CS w m inn ap n false G) : Con l g yF_openNextRound bF_openNextRound 1 ((some .boolean)) [] (d + 5) 0 0 [.ref (g.1 0)] w (Rp (fun v w' => v = some (.int (bI (canP G n ap inn m))) ∧ CS w' m inn ap n (canP G n ap inn m) (if canP G n ap inn m then gUp G n (newRow G n ap inn m) else G) ∧ w' 31 1 = nI (ordOf G n inn m).length ∧ FrC w w')) := by
  intro X hl ha hm' hk hn' hc
  subst hl
  have hm := hF.1.2
  have hT := hF.2.2.2.1
  refine r_aload_n hc dF_openNextRound_0 rfl ?_
  refine kF_88r hc dF_openNextRound_1 (cF_workOutPairing _ g d w m inn ap n false G hF hS) (by omega) (Nat.le_of_ble_eq_true rfl) ?_
  rintro _ w' ⟨rfl, h1, h2, h3⟩
  have hlen : w' 31 1 = nI (ordOf G n inn m).length := by rw [← t_ord hm]; exact h1.1.1
  refine r_aload_n hc dF_openNextRound_4 rfl ?_
  refine gF_32 hc dF_openNextRound_5 ?_
  refine kF_91r hc dF_openNextRound_8 (cP_isPossible _ g d w' G n ap (inM inn m) hT (by omega) h1) (by omega) (Nat.le_of_ble_eq_true rfl) ?_
  rintro _ _ ⟨rfl, rfl⟩
  rw [t_can hm]
  cases hcan : canP G n ap inn m with
  | false =>
    refine r_if_ne_f hc dF_openNextRound_11 (tgt := 16) (by decide) (by decide) ?_
    refine r_iconst hc dF_openNextRound_14 (nI 0) (by decide) ?_
    exact r_zret hc dF_openNextRound_15 rfl ⟨rfl, h2, hlen, fun k hk => h3 k (by omega)⟩
  | true =>
    have hcan2 : (solT G n ap (inM inn m) 12 (topS G n (inM inn m) 12)).1 < dpE := by
      have h := hcan
      unfold canP at h
      rw [Bool.and_eq_true] at h
      rw [t_sol hm, t_top hm]
      exact of_decide_eq_true h.2
    refine r_if_ne_t hc dF_openNextRound_11 (tgt := 16) (by decide) (by decide) ?_
    refine r_aload_n hc dF_openNextRound_16 rfl ?_
    refine gF_32 hc dF_openNextRound_17 ?_
    refine r_aload_n hc dF_openNextRound_20 rfl ?_
    refine gF_11 hc dF_openNextRound_21 ?_
    refine r_aload_n hc dF_openNextRound_24 rfl ?_
    refine gF_73 hc dF_openNextRound_25 ?_
    rw [h2.2.1]
    refine r_aaldN hc dF_openNextRound_28 rfl (by first | omega | (show _ < 12; omega) | (show _ < 204; omega) | (show _ < 144; omega) | (show _ < 2048; omega) | (show _ < 4096; omega) | (show _ < 16; omega)) ?_
    refine r_aload_n hc dF_openNextRound_29 rfl ?_
    refine gF_25 hc dF_openNextRound_30 ?_
    refine r_aload_n hc dF_openNextRound_33 rfl ?_
    refine gF_73 hc dF_openNextRound_34 ?_
    rw [h2.2.1, show (1 + 1 + n : Nat) = 2 + n by omega]
    refine kF_195r hc dF_openNextRound_37 (cP_writeTo _ g d w' G n ap (inM inn m) h2.2.2.2.2.2.1 hT hn h1 hcan2) (by omega) (Nat.le_of_ble_eq_true rfl) ?_
    rintro _ w2 ⟨rfl, e1, e2⟩
    rw [t_row hm] at e1
    refine r_aload_n hc dF_openNextRound_40 rfl ?_
    refine r_iconst hc dF_openNextRound_41 (nI 1) (by decide) ?_
    refine pF_135 hc dF_openNextRound_42 (by first | exact Or.inl rfl | exact Or.inr rfl | assumption) ?_
    refine r_iconst hc dF_openNextRound_45 (nI 1) (by decide) ?_
    refine r_zret hc dF_openNextRound_46 rfl ⟨rfl, ?_, ?_, fun k hk => ?_⟩
    · simp only [if_true]
      refine ⟨?_, ?_, ?_, fun p hp => ?_, fun p hp => ?_, ?_, fun r hr p hp => ?_⟩
      · rw [wu_o2 (by decide), e2 0 (by omega)]; exact h2.1
      · rw [wu_o2 (by decide), e2 0 (by omega)]; exact h2.2.1
      · rw [wu_at]; rfl
      · rw [wu_o1 (by decide), e2 18 (by omega)]; exact h2.2.2.2.1 p hp
      · rw [wu_o1 (by decide), e2 19 (by omega)]; exact h2.2.2.2.2.1 p hp
      · exact (h2.2.2.2.2.2.1.congr (fun k k1 k2 => by rw [wu_ne (by omega), e2 k (by omega)])).rows (fun r hr => (gUp_lt (by omega)).symm)
      · rw [wu_o1 (by omega)]
        by_cases hrn : r = n
        · subst hrn
          rw [gUp_at]
          exact e1 p hp
        · have : r < n := by simp [rnd] at hr; omega
          rw [e2 (2 + r) (by omega), gUp_lt hrn]
          exact h2.2.2.2.2.2.2 r (by simp [rnd]; omega) p hp
    · rw [wu_o1 (by decide), e2 31 (by omega)]; exact hlen
    · rw [wu_ne (by omega), e2 k (by omega)]; exact h3 k (by omega)
theorem cF_closeRound (l : Launch) (g : GG) (d : Nat) (w : Wd) (m : Nat) (inn : Nat → Bool) (ap : Nat → Nat → Bool) (n : Nat) (G : Nat → Nat → Ce) (hn : n < 16) (hT : GTold G (n + 1)) (hO : GOpp G (n + 1)) (hS : CS w m inn ap n true G) : Con l g yF_closeRound bF_closeRound 1 ((none : Option Jvm.ClassFile.FieldType)) [] (d + 3) 0 0 [.ref (g.1 0)] w (Rp (fun v w' => v = none ∧ CS w' m inn ap (n + 1) false G ∧ FrC w w')) := by
  intro X hl ha hm' hk hn' hc
  subst hl
  refine r_aload_n hc dF_closeRound_0 rfl ?_
  refine r_iconst hc dF_closeRound_1 (nI 0) (by decide) ?_
  refine pF_135 hc dF_closeRound_2 (by first | exact Or.inl rfl | exact Or.inr rfl | assumption) ?_
  refine r_aload_n hc dF_closeRound_5 rfl ?_
  refine r_dup hc dF_closeRound_6 rfl ?_
  refine gF_73 hc dF_closeRound_7 ?_
  rw [wu_o2 (by decide), hS.2.1]
  refine r_iconst hc dF_closeRound_10 (nI 1) (by decide) ?_
  refine r_iadd hc dF_closeRound_11 ?_
  rw [nI_add]
  refine pF_73 hc dF_closeRound_12 ?_
  refine r_aload_n hc dF_closeRound_15 rfl ?_
  refine gF_25 hc dF_closeRound_16 ?_
  refine r_aload_n hc dF_closeRound_19 rfl ?_
  refine gF_11 hc dF_closeRound_20 ?_
  refine r_aload_n hc dF_closeRound_23 rfl ?_
  refine gF_73 hc dF_closeRound_24 ?_
  rw [wu_at]
  refine kF_141r hc dF_closeRound_27 (cS_recount _ g d _ G (n + 1) hn (fun r hr p hp => by rw [wu_o1 (by omega), wu_o1 (by omega)]; exact hS.2.2.2.2.2.2 r (by simp [rnd]; omega) p hp) hT hO) (by omega) (Nat.le_of_ble_eq_true rfl) ?_
  rintro _ w' ⟨rfl, h1, h2⟩
  refine r_vret hc dF_closeRound_30 ⟨rfl, ⟨?_, ?_, ?_, fun p hp => ?_, fun p hp => ?_, h1, fun r hr p hp => ?_⟩, fun k hk => ?_⟩
  · rw [h2 0 (by omega), wu_o2 (by decide), wu_o2 (by decide)]; exact hS.1
  · rw [h2 0 (by omega), wu_at]
  · rw [h2 0 (by omega), wu_o2 (by decide), wu_at]; rfl
  · rw [h2 18 (by omega), wu_o1 (by decide), wu_o1 (by decide)]; exact hS.2.2.2.1 p hp
  · rw [h2 19 (by omega), wu_o1 (by decide), wu_o1 (by decide)]; exact hS.2.2.2.2.1 p hp
  · have hr : r < n + 1 := by simpa [rnd] using hr
    rw [h2 (2 + r) (by omega), wu_o1 (by omega), wu_o1 (by omega)]; exact hS.2.2.2.2.2.2 r (by simp [rnd]; omega) p hp
  · rw [h2 k (by omega), wu_ne (by omega), wu_ne (by omega)]
theorem wres_all : ∀ o, o < 12 → ∀ b : Bool, ∀ k, k < 4 → ∀ k2, k2 < 3 → wRes (ce_code (some (some (o, b, k)))) (nI k2) = ce_code (some (some (o, b, k2))) := by decide +kernel
theorem isUn_all : ∀ o, o < 12 → ∀ b : Bool, ∀ k, k < 4 → isUn (ce_code (some (some (o, b, k)))) = (k == 3) := by decide +kernel
theorem isUn_ce {c : Ce} (h : ∀ o b k, c = some (some (o, b, k)) → o < 12 ∧ k ≤ 3) : isUn (ce_code c) = ceU c := by
  rcases c with _ | _ | ⟨o, b, k⟩
  · decide
  · decide
  · obtain ⟨h1, h2⟩ := h o b k rfl
    exact isUn_all o h1 b k (by omega)
theorem cF_noteResult (l : Launch) (g : GG) (d : Nat) (w : Wd) (n p q k k0 k1 : Nat) (b : Bool) (R : Nat → Ce) (hn : n < 16) (hp : p < 12) (hq : q < 12) (hne : q ≠ p) (hk2 : k ≤ 2) (hk0 : k0 ≤ 3) (hk1 : k1 ≤ 3) (hcl : w 0 6 = nI n) (hR : ∀ i, i < 12 → w (2 + n) i = ce_code (R i)) (h1 : R p = some (some (q, b, k0))) (h2 : R q = some (some (p, !b, k1))) : Con l g yF_noteResult bF_noteResult 5 ((none : Option Jvm.ClassFile.FieldType)) [] (d + 1) 0 0 [.ref (g.1 0), .int (nI p), .int (nI k)] w (Rp (fun v w' => v = none ∧ (∀ i, i < 12 → w' (2 + n) i = ce_code (rowTold R p k i)) ∧ ∀ j, j ≠ 2 + n → w' j = w j)) := by
  intro X hl ha hm' hk hn' hc
  subst hl
  have hlr := lenRow hn
  obtain ⟨-, c2, -, -, -⟩ := ce_all q hq b k0 (by omega)
  refine r_aload_n hc dF_noteResult_0 rfl ?_
  refine gF_11 hc dF_noteResult_1 ?_
  refine r_aload_n hc dF_noteResult_4 rfl ?_
  refine gF_73 hc dF_noteResult_5 ?_
  rw [hcl]
  refine r_aaldN hc dF_noteResult_8 rfl (by first | omega | (show _ < 12; omega) | (show _ < 204; omega) | (show _ < 144; omega) | (show _ < 2048; omega) | (show _ < 4096; omega) | (show _ < 16; omega)) ?_
  rw [show (1 + 1 + n : Nat) = 2 + n by omega]
  refine r_astore_n hc dF_noteResult_9 (Nat.le_of_ble_eq_true rfl) ?_
  refine r_aload_n hc dF_noteResult_10 rfl ?_
  refine r_iload_n hc dF_noteResult_11 rfl ?_
  refine r_ialdN hc dF_noteResult_12 rfl (by rw [hlr]; exact hp) ?_
  rw [hR p hp, h1]
  refine kF_103r hc dF_noteResult_13 (cC_opponentIn _ g d w _) (by omega) (Nat.le_of_ble_eq_true rfl) ?_
  rintro _ _ ⟨rfl, rfl⟩
  rw [c2]
  refine r_istore hc dF_noteResult_16 (Nat.le_of_ble_eq_true rfl) ?_
  refine r_aload_n hc dF_noteResult_18 rfl ?_
  refine r_iload_n hc dF_noteResult_19 rfl ?_
  refine r_aload_n hc dF_noteResult_20 rfl ?_
  refine r_iload_n hc dF_noteResult_21 rfl ?_
  refine r_ialdN hc dF_noteResult_22 rfl (by rw [hlr]; exact hp) ?_
  rw [hR p hp, h1]
  refine r_iload_n hc dF_noteResult_23 rfl ?_
  refine kF_199r hc dF_noteResult_24 (cC_withResult _ g d w _ _) (by omega) (Nat.le_of_ble_eq_true rfl) ?_
  rintro _ _ ⟨rfl, rfl⟩
  rw [wres_all q hq b k0 (by omega) k (by omega)]
  refine r_iastN hc dF_noteResult_27 rfl (by rw [hlr]; exact hp) ?_
  refine r_aload_n hc dF_noteResult_28 rfl ?_
  refine r_iload hc dF_noteResult_29 rfl ?_
  refine r_aload_n hc dF_noteResult_31 rfl ?_
  refine r_iload hc dF_noteResult_32 rfl ?_
  refine r_ialdN hc dF_noteResult_34 rfl (by rw [hlr]; exact hq) ?_
  rw [wu_o2 hne, hR q hq, h2]
  refine r_iconst hc dF_noteResult_35 (nI 2) (by decide) ?_
  refine r_iload_n hc dF_noteResult_36 rfl ?_
  refine r_isub hc dF_noteResult_37 ?_
  rw [pk_sub hk2]
  refine kF_199r hc dF_noteResult_38 (cC_withResult _ g d _ _ _) (by omega) (Nat.le_of_ble_eq_true rfl) ?_
  rintro _ _ ⟨rfl, rfl⟩
  rw [wres_all p hp (!b) k1 (by omega) (2 - k) (by omega)]
  refine r_iastN hc dF_noteResult_41 rfl (by rw [hlr]; exact hq) ?_
  refine r_vret hc dF_noteResult_42 ⟨rfl, fun i hi => ?_, fun j hj => by rw [wu_ne hj, wu_ne hj]⟩
  unfold rowTold
  rw [h1]
  by_cases h9 : i = q
  · subst h9
    rw [wu_at]
    simp
  · rw [wu_o2 h9]
    simp only [if_neg h9]
    by_cases h8 : i = p
    · subst h8
      rw [wu_at]
      simp
    · rw [wu_o2 h8, if_neg h8]
      exact hR i hi
