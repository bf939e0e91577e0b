/-! PairedFieldModel: the figures -/
def McOk (c : Ce) (o h k : Int32) : Prop := match c with
  | none => o = -1
  | some none => o = nI 12
  | some (some (q, b, r)) => q < 12 ∧ o = nI q ∧ h = bI b ∧ r ≤ 3 ∧ k = (if r = 3 then -1 else nI r)
/-- the reference's rows hold the first n rounds of G -/
def MRep (w : Wd) (G : Nat → Nat → Ce) (n : Nat) : Prop := ∀ r, r < n → ∀ p, p < 12 → McOk (G r p) (w 51 (12 * r + p)) (w 52 (12 * r + p)) (w 53 (12 * r + p))
/-- every game of the first n rounds is told -/
def GTold (G : Nat → Nat → Ce) (n : Nat) : Prop := ∀ r, r < n → ∀ p, p < 12 → ∀ q b k, G r p = some (some (q, b, k)) → k ≤ 2
def ce_g : Ce → Bool
  | some (some _) => true
  | _ => false
theorem cM_hadGame (l : Launch) (g : GG) (d : Nat) (w : Wd) (G : Nat → Nat → Ce) (n r p : Nat) (hR : MRep w G n) (hn : n ≤ 17) (hr : r < n) (hp : p < 12) : Con l g yM_hadGame bM_hadGame 4 ((some .boolean)) [] d 0 0 [.ref (g.1 48), .int (nI r), .int (nI p)] w (Rp (An (some (.int (bI (ce_g (G r p))))) w)) := by
  intro X hl ha hm hk hn' hc
  subst hl
  refine r_aload_n hc dM_hadGame_0 rfl ?_
  refine gM_16 hc dM_hadGame_1 ?_
  refine r_bipush hc dM_hadGame_4 (nI 12) (by decide) ?_
  refine r_iload_n hc dM_hadGame_6 rfl ?_
  refine r_imul hc dM_hadGame_7 ?_
  refine r_iload_n hc dM_hadGame_8 rfl ?_
  refine r_iadd hc dM_hadGame_9 ?_
  rw [ix12]
  refine r_ialdN hc dM_hadGame_10 rfl (by first | omega | (show _ < 12; omega) | (show _ < 204; omega) | (show _ < 144; omega) | (show _ < 2048; omega) | (show _ < 4096; omega) | (show _ < 16; omega)) ?_
  have hM := hR r hr p hp
  rcases hg : G r p with _ | _ | ⟨q, b, k⟩ <;> rw [hg] at hM <;> simp only [McOk] at hM
  · rw [hM]
    refine r_istore_n hc dM_hadGame_11 (Nat.le_of_ble_eq_true rfl) ?_
    refine r_iload_n hc dM_hadGame_12 rfl ?_
    refine r_if_lt_t hc dM_hadGame_13 (tgt := 26) (by decide) (by decide) ?_
    refine r_iconst hc dM_hadGame_26 (nI 0) (by decide) ?_
    exact r_zret hc dM_hadGame_27 rfl ⟨rfl, rfl⟩
  · rw [hM]
    refine r_istore_n hc dM_hadGame_11 (Nat.le_of_ble_eq_true rfl) ?_
    refine r_iload_n hc dM_hadGame_12 rfl ?_
    refine r_if_lt_f hc dM_hadGame_13 (tgt := 26) (by decide) (by decide) ?_
    refine r_iload_n hc dM_hadGame_16 rfl ?_
    refine r_bipush hc dM_hadGame_17 (nI 12) (by decide) ?_
    refine r_ic_ge_t hc dM_hadGame_19 (tgt := 26) (by decide) (by decide) ?_
    refine r_iconst hc dM_hadGame_26 (nI 0) (by decide) ?_
    exact r_zret hc dM_hadGame_27 rfl ⟨rfl, rfl⟩
  · obtain ⟨h1, h2, -⟩ := hM
    rw [h2]
    refine r_istore_n hc dM_hadGame_11 (Nat.le_of_ble_eq_true rfl) ?_
    refine r_iload_n hc dM_hadGame_12 rfl ?_
    refine r_if_lt_f hc dM_hadGame_13 (tgt := 26) (by decide) (nI_pos (by omega)) ?_
    refine r_iload_n hc dM_hadGame_16 rfl ?_
    refine r_bipush hc dM_hadGame_17 (nI 12) (by decide) ?_
    refine r_ic_ge_f hc dM_hadGame_19 (tgt := 26) (by decide) (nI_ge h1 (by decide)) ?_
    refine r_iconst hc dM_hadGame_22 (nI 1) (by decide) ?_
    refine r_goto hc dM_hadGame_23 (tgt := 27) (by decide) ?_
    exact r_zret hc dM_hadGame_27 rfl ⟨rfl, rfl⟩
theorem cM_scoreOf (l : Launch) (g : GG) (d : Nat) (w : Wd) (G : Nat → Nat → Ce) (n p : Nat) (hR : MRep w G n) (hT : GTold G n) (hn : n ≤ 16) (hcl : w 48 4 = nI n) (hp : p < 12) : Con l g yM_scoreOf bM_scoreOf 5 ((some .int)) [] d 0 0 [.ref (g.1 48), .int (nI p)] w (Rp (An (some (.int (nI (f_sc G n p)))) w)) := by
  intro X hl ha hm hk hn' hc
  subst hl
  refine r_iconst hc dM_scoreOf_0 (nI 0) (by decide) ?_
  refine r_istore_n hc dM_scoreOf_1 (Nat.le_of_ble_eq_true rfl) ?_
  refine r_iconst hc dM_scoreOf_2 (nI 0) (by decide) ?_
  refine r_istore_n hc dM_scoreOf_3 (Nat.le_of_ble_eq_true rfl) ?_
  refine lp_up (P := fun r => Go X g 0 0 _ w 4 [some (.ref (g.1 48)), some (.int (nI p)), some (.int (nI (f_sc G r p))), some (.int (nI r)), none] []) (n := n) ?_ 0 (Nat.zero_le _)
  intro r hr ih
  refine r_iload_n hc dM_scoreOf_4 rfl ?_
  refine r_aload_n hc dM_scoreOf_5 rfl ?_
  refine gM_63 hc dM_scoreOf_6 ?_
  rw [hcl]
  refine r_ic_ge hc dM_scoreOf_9 (tgt := 67) (by decide) (fun h => ?_) (fun h => ?_)
  · have hr2 : r = n := by have := nle_to h (by omega) (by omega); omega
    subst hr2
    refine r_iload_n hc dM_scoreOf_67 rfl ?_
    exact r_iret hc dM_scoreOf_68 ⟨rfl, rfl⟩
  · have hr2 : r < n := nle_of h (by omega) (by omega)
    have ih := ih hr2
    refine r_aload_n hc dM_scoreOf_12 rfl ?_
    refine gM_16 hc dM_scoreOf_13 ?_
    refine r_bipush hc dM_scoreOf_16 (nI 12) (by decide) ?_
    refine r_iload_n hc dM_scoreOf_18 rfl ?_
    refine r_imul hc dM_scoreOf_19 ?_
    refine r_iload_n hc dM_scoreOf_20 rfl ?_
    refine r_iadd hc dM_scoreOf_21 ?_
    rw [ix12]
    refine r_ialdN hc dM_scoreOf_22 rfl (by first | omega | (show _ < 12; omega) | (show _ < 204; omega) | (show _ < 144; omega) | (show _ < 2048; omega) | (show _ < 4096; omega) | (show _ < 16; omega)) ?_
    have hM := hR r hr2 p hp
    have hTr := hT r hr2 p hp
    rcases hg : G r p with _ | _ | ⟨q, b, k⟩ <;> rw [hg] at hM <;> simp only [McOk] at hM
    · rw [hM]
      refine r_istore hc dM_scoreOf_23 (Nat.le_of_ble_eq_true rfl) ?_
      refine r_iload hc dM_scoreOf_25 rfl ?_
      refine r_bipush hc dM_scoreOf_27 (nI 12) (by decide) ?_
      refine r_ic_ne_t hc dM_scoreOf_29 (tgt := 38) (by decide) (by decide) ?_
      refine r_iload hc dM_scoreOf_38 rfl ?_
      refine r_if_lt_t hc dM_scoreOf_40 (tgt := 59) (by decide) (by decide) ?_
      refine r_iload_n hc dM_scoreOf_59 rfl ?_
      refine r_istore_n hc dM_scoreOf_60 (Nat.le_of_ble_eq_true rfl) ?_
      refine r_iinc hc dM_scoreOf_61 rfl ?_
      refine r_goto hc dM_scoreOf_64 (tgt := 4) (by decide) ?_
      refine Go.drop 4 ?_
      simp only [f_sc, hg, ce_pts, Nat.add_zero, ← nI_add] at ih
      exact ih
    · rw [hM]
      refine r_istore hc dM_scoreOf_23 (Nat.le_of_ble_eq_true rfl) ?_
      refine r_iload hc dM_scoreOf_25 rfl ?_
      refine r_bipush hc dM_scoreOf_27 (nI 12) (by decide) ?_
      refine r_ic_ne_f hc dM_scoreOf_29 (tgt := 38) (by decide) rfl ?_
      refine r_iload_n hc dM_scoreOf_32 rfl ?_
      refine r_iconst hc dM_scoreOf_33 (nI 2) (by decide) ?_
      refine r_iadd hc dM_scoreOf_34 ?_
      refine r_goto hc dM_scoreOf_35 (tgt := 60) (by decide) ?_
      refine r_istore_n hc dM_scoreOf_60 (Nat.le_of_ble_eq_true rfl) ?_
      refine r_iinc hc dM_scoreOf_61 rfl ?_
      refine r_goto hc dM_scoreOf_64 (tgt := 4) (by decide) ?_
      refine Go.drop 4 ?_
      simp only [f_sc, hg, ce_pts, ← nI_add] at ih
      exact ih
    · obtain ⟨h1, h2, -, h4, h5⟩ := hM
      have hk2 : k ≤ 2 := hTr q b k hg
      rw [if_neg (by omega)] at h5
      rw [h2]
      refine r_istore hc dM_scoreOf_23 (Nat.le_of_ble_eq_true rfl) ?_
      refine r_iload hc dM_scoreOf_25 rfl ?_
      refine r_bipush hc dM_scoreOf_27 (nI 12) (by decide) ?_
      refine r_ic_ne_t hc dM_scoreOf_29 (tgt := 38) (by decide) (fun z => by rw [nI_eq (by omega) (by decide)] at z; omega) ?_
      refine r_iload hc dM_scoreOf_38 rfl ?_
      refine r_if_lt_f hc dM_scoreOf_40 (tgt := 59) (by decide) (nI_pos (by omega)) ?_
      refine r_iload_n hc dM_scoreOf_43 rfl ?_
      refine r_aload_n hc dM_scoreOf_44 rfl ?_
      refine gM_23 hc dM_scoreOf_45 ?_
      refine r_bipush hc dM_scoreOf_48 (nI 12) (by decide) ?_
      refine r_iload_n hc dM_scoreOf_50 rfl ?_
      refine r_imul hc dM_scoreOf_51 ?_
      refine r_iload_n hc dM_scoreOf_52 rfl ?_
      refine r_iadd hc dM_scoreOf_53 ?_
      rw [ix12]
      refine r_ialdN hc dM_scoreOf_54 rfl (by first | omega | (show _ < 12; omega) | (show _ < 204; omega) | (show _ < 144; omega) | (show _ < 2048; omega) | (show _ < 4096; omega) | (show _ < 16; omega)) ?_
      rw [h5]
      refine r_iadd hc dM_scoreOf_55 ?_
      refine r_goto hc dM_scoreOf_56 (tgt := 60) (by decide) ?_
      refine r_istore_n hc dM_scoreOf_60 (Nat.le_of_ble_eq_true rfl) ?_
      refine r_iinc hc dM_scoreOf_61 rfl ?_
      refine r_goto hc dM_scoreOf_64 (tgt := 4) (by decide) ?_
      refine Go.drop 4 ?_
      simp only [f_sc, hg, ce_pts, ← nI_add] at ih
      exact ih
theorem cM_balanceOf (l : Launch) (g : GG) (d : Nat) (w : Wd) (G : Nat → Nat → Ce) (n p : Nat) (hR : MRep w G n) (hn : n ≤ 16) (hcl : w 48 4 = nI n) (hp : p < 12) : Con l g yM_balanceOf bM_balanceOf 4 ((some .int)) [] (d + 1) 0 0 [.ref (g.1 48), .int (nI p)] w (Rp (An (some (.int (Int32.ofInt (f_ba G n p)))) w)) := by
  intro X hl ha hm hk hn' hc
  subst hl
  refine r_iconst hc dM_balanceOf_0 (nI 0) (by decide) ?_
  refine r_istore_n hc dM_balanceOf_1 (Nat.le_of_ble_eq_true rfl) ?_
  refine r_iconst hc dM_balanceOf_2 (nI 0) (by decide) ?_
  refine r_istore_n hc dM_balanceOf_3 (Nat.le_of_ble_eq_true rfl) ?_
  refine lp_up (P := fun r => Go X g 0 0 _ w 4 [some (.ref (g.1 48)), some (.int (nI p)), some (.int (Int32.ofInt (f_ba G r p))), some (.int (nI r))] []) (n := n) ?_ 0 (Nat.zero_le _)
  intro r hr ih
  refine r_iload_n hc dM_balanceOf_4 rfl ?_
  refine r_aload_n hc dM_balanceOf_5 rfl ?_
  refine gM_63 hc dM_balanceOf_6 ?_
  rw [hcl]
  refine r_ic_ge hc dM_balanceOf_9 (tgt := 55) (by decide) (fun h => ?_) (fun h => ?_)
  · have hr2 : r = n := by have := nle_to h (by omega) (by omega); omega
    subst hr2
    refine r_iload_n hc dM_balanceOf_55 rfl ?_
    exact r_iret hc dM_balanceOf_56 ⟨rfl, rfl⟩
  · have hr2 : r < n := nle_of h (by omega) (by omega)
    have ih := ih hr2
    refine r_aload_n hc dM_balanceOf_12 rfl ?_
    refine r_iload_n hc dM_balanceOf_13 rfl ?_
    refine r_iload_n hc dM_balanceOf_14 rfl ?_
    refine kM_66r hc dM_balanceOf_15 (cM_hadGame _ g d w G n r p hR (by omega) hr2 hp) (Nat.le_refl _) (Nat.le_of_ble_eq_true rfl) ?_
    rintro _ _ ⟨rfl, rfl⟩
    have hM := hR r hr2 p hp
    rcases hg : G r p with _ | _ | ⟨q, b, k⟩ <;> rw [hg] at hM <;> simp only [McOk] at hM <;> simp only [f_ba, hg] at ih
    · refine r_if_ne_f hc dM_balanceOf_18 (tgt := 25) (by decide) rfl ?_
      refine r_iload_n hc dM_balanceOf_21 rfl ?_
      refine r_goto hc dM_balanceOf_22 (tgt := 48) (by decide) ?_
      refine r_istore_n hc dM_balanceOf_48 (Nat.le_of_ble_eq_true rfl) ?_
      refine r_iinc hc dM_balanceOf_49 rfl ?_
      refine r_goto hc dM_balanceOf_52 (tgt := 4) (by decide) ?_
      simp only [← nI_add] at ih
      exact ih
    · refine r_if_ne_f hc dM_balanceOf_18 (tgt := 25) (by decide) rfl ?_
      refine r_iload_n hc dM_balanceOf_21 rfl ?_
      refine r_goto hc dM_balanceOf_22 (tgt := 48) (by decide) ?_
      refine r_istore_n hc dM_balanceOf_48 (Nat.le_of_ble_eq_true rfl) ?_
      refine r_iinc hc dM_balanceOf_49 rfl ?_
      refine r_goto hc dM_balanceOf_52 (tgt := 4) (by decide) ?_
      simp only [← nI_add] at ih
      exact ih
    · obtain ⟨h1, h2, h3, -⟩ := hM
      refine r_if_ne_t hc dM_balanceOf_18 (tgt := 25) (by decide) (show ¬ bI true = 0 by decide) ?_
      refine r_aload_n hc dM_balanceOf_25 rfl ?_
      refine gM_20 hc dM_balanceOf_26 ?_
      refine r_bipush hc dM_balanceOf_29 (nI 12) (by decide) ?_
      refine r_iload_n hc dM_balanceOf_31 rfl ?_
      refine r_imul hc dM_balanceOf_32 ?_
      refine r_iload_n hc dM_balanceOf_33 rfl ?_
      refine r_iadd hc dM_balanceOf_34 ?_
      rw [ix12]
      refine r_zaldN hc dM_balanceOf_35 rfl (by first | omega | (show _ < 12; omega) | (show _ < 204; omega) | (show _ < 144; omega) | (show _ < 2048; omega) | (show _ < 4096; omega) | (show _ < 16; omega)) ?_
      rw [h3]
      cases b with
      | true =>
        refine r_if_eq_f hc dM_balanceOf_36 (tgt := 45) (by decide) (by decide) ?_
        refine r_iload_n hc dM_balanceOf_39 rfl ?_
        refine r_iconst hc dM_balanceOf_40 (nI 1) (by decide) ?_
        refine r_iadd hc dM_balanceOf_41 ?_
        refine r_goto hc dM_balanceOf_42 (tgt := 48) (by decide) ?_
        refine r_istore_n hc dM_balanceOf_48 (Nat.le_of_ble_eq_true rfl) ?_
        refine r_iinc hc dM_balanceOf_49 rfl ?_
        refine r_goto hc dM_balanceOf_52 (tgt := 4) (by decide) ?_
        simp only [ce_col, if_true, Int32.ofInt_add, ← nI_add] at ih
        exact ih
      | false =>
        refine r_if_eq_t hc dM_balanceOf_36 (tgt := 45) (by decide) rfl ?_
        refine r_iload_n hc dM_balanceOf_45 rfl ?_
        refine r_iconst hc dM_balanceOf_46 (nI 1) (by decide) ?_
        refine r_isub hc dM_balanceOf_47 ?_
        refine r_istore_n hc dM_balanceOf_48 (Nat.le_of_ble_eq_true rfl) ?_
        refine r_iinc hc dM_balanceOf_49 rfl ?_
        refine r_goto hc dM_balanceOf_52 (tgt := 4) (by decide) ?_
        simp only [ce_col, Bool.false_eq_true, if_false, Int32.ofInt_add, ← nI_add] at ih
        rw [Int32.sub_eq_add_neg]
        exact ih
theorem cM_byesOf (l : Launch) (g : GG) (d : Nat) (w : Wd) (G : Nat → Nat → Ce) (n p : Nat) (hR : MRep w G n) (hn : n ≤ 16) (hcl : w 48 4 = nI n) (hp : p < 12) : Con l g yM_byesOf bM_byesOf 4 ((some .int)) [] d 0 0 [.ref (g.1 48), .int (nI p)] w (Rp (An (some (.int (nI (f_by G n p)))) w)) := by
  intro X hl ha hm hk hn' hc
  subst hl
  refine r_iconst hc dM_byesOf_0 (nI 0) (by decide) ?_
  refine r_istore_n hc dM_byesOf_1 (Nat.le_of_ble_eq_true rfl) ?_
  refine r_iconst hc dM_byesOf_2 (nI 0) (by decide) ?_
  refine r_istore_n hc dM_byesOf_3 (Nat.le_of_ble_eq_true rfl) ?_
  refine lp_up (P := fun r => Go X g 0 0 _ w 4 [some (.ref (g.1 48)), some (.int (nI p)), some (.int (nI (f_by G r p))), some (.int (nI r))] []) (n := n) ?_ 0 (Nat.zero_le _)
  intro r hr ih
  refine r_iload_n hc dM_byesOf_4 rfl ?_
  refine r_aload_n hc dM_byesOf_5 rfl ?_
  refine gM_63 hc dM_byesOf_6 ?_
  rw [hcl]
  refine r_ic_ge hc dM_byesOf_9 (tgt := 42) (by decide) (fun h => ?_) (fun h => ?_)
  · have hr2 : r = n := by have := nle_to h (by omega) (by omega); omega
    subst hr2
    refine r_iload_n hc dM_byesOf_42 rfl ?_
    exact r_iret hc dM_byesOf_43 ⟨rfl, rfl⟩
  · have hr2 : r < n := nle_of h (by omega) (by omega)
    have ih := ih hr2
    refine r_aload_n hc dM_byesOf_12 rfl ?_
    refine gM_16 hc dM_byesOf_13 ?_
    refine r_bipush hc dM_byesOf_16 (nI 12) (by decide) ?_
    refine r_iload_n hc dM_byesOf_18 rfl ?_
    refine r_imul hc dM_byesOf_19 ?_
    refine r_iload_n hc dM_byesOf_20 rfl ?_
    refine r_iadd hc dM_byesOf_21 ?_
    rw [ix12]
    refine r_ialdN hc dM_byesOf_22 rfl (by first | omega | (show _ < 12; omega) | (show _ < 204; omega) | (show _ < 144; omega) | (show _ < 2048; omega) | (show _ < 4096; omega) | (show _ < 16; omega)) ?_
    refine r_bipush hc dM_byesOf_23 (nI 12) (by decide) ?_
    have hM := hR r hr2 p hp
    rcases hg : G r p with _ | _ | ⟨q, b, k⟩ <;> rw [hg] at hM <;> simp only [McOk] at hM <;> simp only [f_by, hg, ← nI_add] at ih
    · rw [hM]
      refine r_ic_ne_t hc dM_byesOf_25 (tgt := 34) (by decide) (by decide) ?_
      refine r_iload_n hc dM_byesOf_34 rfl ?_
      refine r_istore_n hc dM_byesOf_35 (Nat.le_of_ble_eq_true rfl) ?_
      refine r_iinc hc dM_byesOf_36 rfl ?_
      refine r_goto hc dM_byesOf_39 (tgt := 4) (by decide) ?_
      exact ih
    · rw [hM]
      refine r_ic_ne_f hc dM_byesOf_25 (tgt := 34) (by decide) rfl ?_
      refine r_iload_n hc dM_byesOf_28 rfl ?_
      refine r_iconst hc dM_byesOf_29 (nI 1) (by decide) ?_
      refine r_iadd hc dM_byesOf_30 ?_
      refine r_goto hc dM_byesOf_31 (tgt := 35) (by decide) ?_
      refine r_istore_n hc dM_byesOf_35 (Nat.le_of_ble_eq_true rfl) ?_
      refine r_iinc hc dM_byesOf_36 rfl ?_
      refine r_goto hc dM_byesOf_39 (tgt := 4) (by decide) ?_
      exact ih
    · obtain ⟨h1, h2, -⟩ := hM
      rw [h2]
      refine r_ic_ne_t hc dM_byesOf_25 (tgt := 34) (by decide) (fun z => by rw [nI_eq (by omega) (by decide)] at z; omega) ?_
      refine r_iload_n hc dM_byesOf_34 rfl ?_
      refine r_istore_n hc dM_byesOf_35 (Nat.le_of_ble_eq_true rfl) ?_
      refine r_iinc hc dM_byesOf_36 rfl ?_
      refine r_goto hc dM_byesOf_39 (tgt := 4) (by decide) ?_
      exact ih
theorem cM_gamesOf (l : Launch) (g : GG) (d : Nat) (w : Wd) (G : Nat → Nat → Ce) (n p : Nat) (hR : MRep w G n) (hn : n ≤ 16) (hcl : w 48 4 = nI n) (hp : p < 12) : Con l g yM_gamesOf bM_gamesOf 4 ((some .int)) [] (d + 1) 0 0 [.ref (g.1 48), .int (nI p)] w (Rp (An (some (.int (nI (f_gm G n p)))) w)) := by
  intro X hl ha hm hk hn' hc
  subst hl
  refine r_iconst hc dM_gamesOf_0 (nI 0) (by decide) ?_
  refine r_istore_n hc dM_gamesOf_1 (Nat.le_of_ble_eq_true rfl) ?_
  refine r_iconst hc dM_gamesOf_2 (nI 0) (by decide) ?_
  refine r_istore_n hc dM_gamesOf_3 (Nat.le_of_ble_eq_true rfl) ?_
  refine lp_up (P := fun r => Go X g 0 0 _ w 4 [some (.ref (g.1 48)), some (.int (nI p)), some (.int (nI (f_gm G r p))), some (.int (nI r))] []) (n := n) ?_ 0 (Nat.zero_le _)
  intro r hr ih
  refine r_iload_n hc dM_gamesOf_4 rfl ?_
  refine r_aload_n hc dM_gamesOf_5 rfl ?_
  refine gM_63 hc dM_gamesOf_6 ?_
  rw [hcl]
  refine r_ic_ge hc dM_gamesOf_9 (tgt := 35) (by decide) (fun h => ?_) (fun h => ?_)
  · have hr2 : r = n := by have := nle_to h (by omega) (by omega); omega
    subst hr2
    refine r_iload_n hc dM_gamesOf_35 rfl ?_
    exact r_iret hc dM_gamesOf_36 ⟨rfl, rfl⟩
  · have hr2 : r < n := nle_of h (by omega) (by omega)
    have ih := ih hr2
    refine r_aload_n hc dM_gamesOf_12 rfl ?_
    refine r_iload_n hc dM_gamesOf_13 rfl ?_
    refine r_iload_n hc dM_gamesOf_14 rfl ?_
    refine kM_66r hc dM_gamesOf_15 (cM_hadGame _ g d w G n r p hR (by omega) hr2 hp) (Nat.le_refl _) (Nat.le_of_ble_eq_true rfl) ?_
    rintro _ _ ⟨rfl, rfl⟩
    rcases hg : G r p with _ | _ | ⟨q, b, k⟩ <;> simp only [f_gm, hg, ← nI_add] at ih
    · refine r_if_eq_t hc dM_gamesOf_18 (tgt := 27) (by decide) rfl ?_
      refine r_iload_n hc dM_gamesOf_27 rfl ?_
      refine r_istore_n hc dM_gamesOf_28 (Nat.le_of_ble_eq_true rfl) ?_
      refine r_iinc hc dM_gamesOf_29 rfl ?_
      refine r_goto hc dM_gamesOf_32 (tgt := 4) (by decide) ?_
      exact ih
    · refine r_if_eq_t hc dM_gamesOf_18 (tgt := 27) (by decide) rfl ?_
      refine r_iload_n hc dM_gamesOf_27 rfl ?_
      refine r_istore_n hc dM_gamesOf_28 (Nat.le_of_ble_eq_true rfl) ?_
      refine r_iinc hc dM_gamesOf_29 rfl ?_
      refine r_goto hc dM_gamesOf_32 (tgt := 4) (by decide) ?_
      exact ih
    · refine r_if_eq_f hc dM_gamesOf_18 (tgt := 27) (by decide) (show ¬ bI true = 0 by decide) ?_
      refine r_iload_n hc dM_gamesOf_21 rfl ?_
      refine r_iconst hc dM_gamesOf_22 (nI 1) (by decide) ?_
      refine r_iadd hc dM_gamesOf_23 ?_
      refine r_goto hc dM_gamesOf_24 (tgt := 28) (by decide) ?_
      refine r_istore_n hc dM_gamesOf_28 (Nat.le_of_ble_eq_true rfl) ?_
      refine r_iinc hc dM_gamesOf_29 rfl ?_
      refine r_goto hc dM_gamesOf_32 (tgt := 4) (by decide) ?_
      exact ih
theorem cM_wonOf (l : Launch) (g : GG) (d : Nat) (w : Wd) (G : Nat → Nat → Ce) (n p : Nat) (hR : MRep w G n) (hT : GTold G n) (hn : n ≤ 16) (hcl : w 48 4 = nI n) (hp : p < 12) : Con l g yM_wonOf bM_wonOf 4 ((some .int)) [] (d + 1) 0 0 [.ref (g.1 48), .int (nI p)] w (Rp (An (some (.int (nI (f_wi G n p)))) w)) := by
  intro X hl ha hm hk hn' hc
  subst hl
  refine r_iconst hc dM_wonOf_0 (nI 0) (by decide) ?_
  refine r_istore_n hc dM_wonOf_1 (Nat.le_of_ble_eq_true rfl) ?_
  refine r_iconst hc dM_wonOf_2 (nI 0) (by decide) ?_
  refine r_istore_n hc dM_wonOf_3 (Nat.le_of_ble_eq_true rfl) ?_
  refine lp_up (P := fun r => Go X g 0 0 _ w 4 [some (.ref (g.1 48)), some (.int (nI p)), some (.int (nI (f_wi G r p))), some (.int (nI r))] []) (n := n) ?_ 0 (Nat.zero_le _)
  intro r hr ih
  refine r_iload_n hc dM_wonOf_4 rfl ?_
  refine r_aload_n hc dM_wonOf_5 rfl ?_
  refine gM_63 hc dM_wonOf_6 ?_
  rw [hcl]
  refine r_ic_ge hc dM_wonOf_9 (tgt := 50) (by decide) (fun h => ?_) (fun h => ?_)
  · have hr2 : r = n := by have := nle_to h (by omega) (by omega); omega
    subst hr2
    refine r_iload_n hc dM_wonOf_50 rfl ?_
    exact r_iret hc dM_wonOf_51 ⟨rfl, rfl⟩
  · have hr2 : r < n := nle_of h (by omega) (by omega)
    have ih := ih hr2
    refine r_aload_n hc dM_wonOf_12 rfl ?_
    refine r_iload_n hc dM_wonOf_13 rfl ?_
    refine r_iload_n hc dM_wonOf_14 rfl ?_
    refine kM_66r hc dM_wonOf_15 (cM_hadGame _ g d w G n r p hR (by omega) hr2 hp) (Nat.le_refl _) (Nat.le_of_ble_eq_true rfl) ?_
    rintro _ _ ⟨rfl, rfl⟩
    have hM := hR r hr2 p hp
    have hTr := hT r hr2 p hp
    rcases hg : G r p with _ | _ | ⟨q, b, k⟩ <;> rw [hg] at hM <;> simp only [McOk] at hM <;> simp only [f_wi, hg] at ih
    · refine r_if_eq_t hc dM_wonOf_18 (tgt := 42) (by decide) rfl ?_
      refine r_iload_n hc dM_wonOf_42 rfl ?_
      refine r_istore_n hc dM_wonOf_43 (Nat.le_of_ble_eq_true rfl) ?_
      refine r_iinc hc dM_wonOf_44 rfl ?_
      refine r_goto hc dM_wonOf_47 (tgt := 4) (by decide) ?_
      simp only [← nI_add] at ih
      exact ih
    · refine r_if_eq_t hc dM_wonOf_18 (tgt := 42) (by decide) rfl ?_
      refine r_iload_n hc dM_wonOf_42 rfl ?_
      refine r_istore_n hc dM_wonOf_43 (Nat.le_of_ble_eq_true rfl) ?_
      refine r_iinc hc dM_wonOf_44 rfl ?_
      refine r_goto hc dM_wonOf_47 (tgt := 4) (by decide) ?_
      simp only [← nI_add] at ih
      exact ih
    · obtain ⟨h1, h2, -, h4, h5⟩ := hM
      have hk2 : k ≤ 2 := hTr q b k hg
      rw [if_neg (by omega)] at h5
      refine r_if_eq_f hc dM_wonOf_18 (tgt := 42) (by decide) (show ¬ bI true = 0 by decide) ?_
      refine r_aload_n hc dM_wonOf_21 rfl ?_
      refine gM_23 hc dM_wonOf_22 ?_
      refine r_bipush hc dM_wonOf_25 (nI 12) (by decide) ?_
      refine r_iload_n hc dM_wonOf_27 rfl ?_
      refine r_imul hc dM_wonOf_28 ?_
      refine r_iload_n hc dM_wonOf_29 rfl ?_
      refine r_iadd hc dM_wonOf_30 ?_
      rw [ix12]
      refine r_ialdN hc dM_wonOf_31 rfl (by first | omega | (show _ < 12; omega) | (show _ < 204; omega) | (show _ < 144; omega) | (show _ < 2048; omega) | (show _ < 4096; omega) | (show _ < 16; omega)) ?_
      refine r_iconst hc dM_wonOf_32 (nI 2) (by decide) ?_
      rw [h5]
      by_cases hk3 : k = 2
      · subst hk3
        refine r_ic_ne_f hc dM_wonOf_33 (tgt := 42) (by decide) rfl ?_
        refine r_iload_n hc dM_wonOf_36 rfl ?_
        refine r_iconst hc dM_wonOf_37 (nI 1) (by decide) ?_
        refine r_iadd hc dM_wonOf_38 ?_
        refine r_goto hc dM_wonOf_39 (tgt := 43) (by decide) ?_
        refine r_istore_n hc dM_wonOf_43 (Nat.le_of_ble_eq_true rfl) ?_
        refine r_iinc hc dM_wonOf_44 rfl ?_
        refine r_goto hc dM_wonOf_47 (tgt := 4) (by decide) ?_
        simp only [if_true, ← nI_add] at ih
        exact ih
      · refine r_ic_ne_t hc dM_wonOf_33 (tgt := 42) (by decide) (fun z => by rw [nI_eq (by omega) (by decide)] at z; omega) ?_
        refine r_iload_n hc dM_wonOf_42 rfl ?_
        refine r_istore_n hc dM_wonOf_43 (Nat.le_of_ble_eq_true rfl) ?_
        refine r_iinc hc dM_wonOf_44 rfl ?_
        refine r_goto hc dM_wonOf_47 (tgt := 4) (by decide) ?_
        simp only [hk3, if_false, ← nI_add] at ih
        exact ih
theorem ii_m1 (x : Int32) : x + Int32.ofInt (-1) = x - nI 1 := by rw [Int32.sub_eq_add_neg]; rfl
theorem cM_colourOf0 (l : Launch) (g : GG) (d : Nat) (w : Wd) (G : Nat → Nat → Ce) (n p : Nat) (hR : MRep w G n) (hn : n ≤ 16) (hcl : w 48 4 = nI n) (hp : p < 12) : Con l g yM_colourOf bM_colourOf 5 ((some .int)) [] (d + 1) 0 0 [.ref (g.1 48), .int (nI p), .int (nI 0)] w (Rp (An (some (.int (Int32.ofInt (f_la G n p)))) w)) := by
  intro X hl ha hm hk hn' hc
  subst hl
  refine r_iload_n hc dM_colourOf_0 rfl ?_
  refine r_istore_n hc dM_colourOf_1 (Nat.le_of_ble_eq_true rfl) ?_
  refine r_aload_n hc dM_colourOf_2 rfl ?_
  refine gM_63 hc dM_colourOf_3 ?_
  rw [hcl]
  refine r_iconst hc dM_colourOf_6 (nI 1) (by decide) ?_
  refine r_isub hc dM_colourOf_7 ?_
  refine r_istore hc dM_colourOf_8 (Nat.le_of_ble_eq_true rfl) ?_
  have hgen : ∀ r, r ≤ n → Go X g 0 0 (Fen X g 0 0 (Rp (An (some (.int (Int32.ofInt (f_la G r p)))) w))) w 10 [some (.ref (g.1 48)), some (.int (nI p)), some (.int (nI 0)), some (.int (nI 0)), some (.int (nI r - nI 1))] [] := by
    refine lp_dn (P := fun r => r ≤ n → Go X g 0 0 (Fen X g 0 0 (Rp (An (some (.int (Int32.ofInt (f_la G r p)))) w))) w 10 [some (.ref (g.1 48)), some (.int (nI p)), some (.int (nI 0)), some (.int (nI 0)), some (.int (nI r - nI 1))] []) ?_
    intro r ih hr
    cases r with
    | zero =>
      refine r_iload hc dM_colourOf_10 rfl ?_
      refine r_if_lt_t hc dM_colourOf_12 (tgt := 59) (by decide) (by decide) ?_
      refine r_iconst hc dM_colourOf_59 (nI 0) (by decide) ?_
      exact r_iret hc dM_colourOf_60 ⟨rfl, rfl⟩
    | succ r =>
      have ih := ih r rfl (by omega)
      rw [show nI (r + 1) - nI 1 = nI r from nI_pred r]
      refine r_iload hc dM_colourOf_10 rfl ?_
      refine r_if_lt_f hc dM_colourOf_12 (tgt := 59) (by decide) (nI_pos (by omega)) ?_
      refine r_aload_n hc dM_colourOf_15 rfl ?_
      refine r_iload hc dM_colourOf_16 rfl ?_
      refine r_iload_n hc dM_colourOf_18 rfl ?_
      refine kM_66r hc dM_colourOf_19 (cM_hadGame _ g d w G n r p hR (by omega) (by omega) hp) (Nat.le_refl _) (Nat.le_of_ble_eq_true rfl) ?_
      rintro _ _ ⟨rfl, rfl⟩
      have hM := hR r (by omega) p hp
      rcases hg : G r p with _ | _ | ⟨q, b, k⟩ <;> rw [hg] at hM <;> simp only [McOk] at hM <;> simp only [f_la, hg]
      · refine r_if_eq_t hc dM_colourOf_22 (tgt := 53) (by decide) rfl ?_
        refine r_iinc hc dM_colourOf_53 rfl ?_
        refine r_goto hc dM_colourOf_56 (tgt := 10) (by decide) ?_
        rw [ii_m1]
        exact ih
      · refine r_if_eq_t hc dM_colourOf_22 (tgt := 53) (by decide) rfl ?_
        refine r_iinc hc dM_colourOf_53 rfl ?_
        refine r_goto hc dM_colourOf_56 (tgt := 10) (by decide) ?_
        rw [ii_m1]
        exact ih
      · obtain ⟨h1, h2, h3, -⟩ := hM
        refine r_if_eq_f hc dM_colourOf_22 (tgt := 53) (by decide) (show ¬ bI true = 0 by decide) ?_
        refine r_iload_n hc dM_colourOf_25 rfl ?_
        refine r_if_ne_f hc dM_colourOf_26 (tgt := 50) (by decide) rfl ?_
        refine r_aload_n hc dM_colourOf_29 rfl ?_
        refine gM_20 hc dM_colourOf_30 ?_
        refine r_bipush hc dM_colourOf_33 (nI 12) (by decide) ?_
        refine r_iload hc dM_colourOf_35 rfl ?_
        refine r_imul hc dM_colourOf_37 ?_
        refine r_iload_n hc dM_colourOf_38 rfl ?_
        refine r_iadd hc dM_colourOf_39 ?_
        rw [ix12]
        refine r_zaldN hc dM_colourOf_40 rfl (by first | omega | (show _ < 12; omega) | (show _ < 204; omega) | (show _ < 144; omega) | (show _ < 2048; omega) | (show _ < 4096; omega) | (show _ < 16; omega)) ?_
        rw [h3]
        cases b with
        | true =>
          refine r_if_eq_f hc dM_colourOf_41 (tgt := 48) (by decide) (by decide) ?_
          refine r_iconst hc dM_colourOf_44 (nI 1) (by decide) ?_
          refine r_goto hc dM_colourOf_45 (tgt := 49) (by decide) ?_
          exact r_iret hc dM_colourOf_49 ⟨rfl, rfl⟩
        | false =>
          refine r_if_eq_t hc dM_colourOf_41 (tgt := 48) (by decide) rfl ?_
          refine r_iconst hc dM_colourOf_48 (-1) (by decide) ?_
          exact r_iret hc dM_colourOf_49 ⟨rfl, rfl⟩
  exact hgen n (Nat.le_refl _)
theorem cM_colourOf1 (l : Launch) (g : GG) (d : Nat) (w : Wd) (G : Nat → Nat → Ce) (n p : Nat) (hR : MRep w G n) (hn : n ≤ 16) (hcl : w 48 4 = nI n) (hp : p < 12) : Con l g yM_colourOf bM_colourOf 5 ((some .int)) [] (d + 1) 0 0 [.ref (g.1 48), .int (nI p), .int (nI 1)] w (Rp (An (some (.int (Int32.ofInt (f_lb G n p)))) w)) := by
  intro X hl ha hm hk hn' hc
  subst hl
  refine r_iload_n hc dM_colourOf_0 rfl ?_
  refine r_istore_n hc dM_colourOf_1 (Nat.le_of_ble_eq_true rfl) ?_
  refine r_aload_n hc dM_colourOf_2 rfl ?_
  refine gM_63 hc dM_colourOf_3 ?_
  rw [hcl]
  refine r_iconst hc dM_colourOf_6 (nI 1) (by decide) ?_
  refine r_isub hc dM_colourOf_7 ?_
  refine r_istore hc dM_colourOf_8 (Nat.le_of_ble_eq_true rfl) ?_
  have hgen0 : ∀ r, r ≤ n → Go X g 0 0 (Fen X g 0 0 (Rp (An (some (.int (Int32.ofInt (f_la G r p)))) w))) w 10 [some (.ref (g.1 48)), some (.int (nI p)), some (.int (nI 1)), some (.int (nI 0)), some (.int (nI r - nI 1))] [] := by
    refine lp_dn (P := fun r => r ≤ n → Go X g 0 0 (Fen X g 0 0 (Rp (An (some (.int (Int32.ofInt (f_la G r p)))) w))) w 10 [some (.ref (g.1 48)), some (.int (nI p)), some (.int (nI 1)), some (.int (nI 0)), some (.int (nI r - nI 1))] []) ?_
    intro r ih hr
    cases r with
    | zero =>
      refine r_iload hc dM_colourOf_10 rfl ?_
      refine r_if_lt_t hc dM_colourOf_12 (tgt := 59) (by decide) (by decide) ?_
      refine r_iconst hc dM_colourOf_59 (nI 0) (by decide) ?_
      exact r_iret hc dM_colourOf_60 ⟨rfl, rfl⟩
    | succ r =>
      have ih := ih r rfl (by omega)
      rw [show nI (r + 1) - nI 1 = nI r from nI_pred r]
      refine r_iload hc dM_colourOf_10 rfl ?_
      refine r_if_lt_f hc dM_colourOf_12 (tgt := 59) (by decide) (nI_pos (by omega)) ?_
      refine r_aload_n hc dM_colourOf_15 rfl ?_
      refine r_iload hc dM_colourOf_16 rfl ?_
      refine r_iload_n hc dM_colourOf_18 rfl ?_
      refine kM_66r hc dM_colourOf_19 (cM_hadGame _ g d w G n r p hR (by omega) (by omega) hp) (Nat.le_refl _) (Nat.le_of_ble_eq_true rfl) ?_
      rintro _ _ ⟨rfl, rfl⟩
      have hM := hR r (by omega) p hp
      rcases hg : G r p with _ | _ | ⟨q, b, k⟩ <;> rw [hg] at hM <;> simp only [McOk] at hM <;> simp only [f_la, hg]
      · refine r_if_eq_t hc dM_colourOf_22 (tgt := 53) (by decide) rfl ?_
        refine r_iinc hc dM_colourOf_53 rfl ?_
        refine r_goto hc dM_colourOf_56 (tgt := 10) (by decide) ?_
        rw [ii_m1]
        exact ih
      · refine r_if_eq_t hc dM_colourOf_22 (tgt := 53) (by decide) rfl ?_
        refine r_iinc hc dM_colourOf_53 rfl ?_
        refine r_goto hc dM_colourOf_56 (tgt := 10) (by decide) ?_
        rw [ii_m1]
        exact ih
      · obtain ⟨h1, h2, h3, -⟩ := hM
        refine r_if_eq_f hc dM_colourOf_22 (tgt := 53) (by decide) (show ¬ bI true = 0 by decide) ?_
        refine r_iload_n hc dM_colourOf_25 rfl ?_
        refine r_if_ne_f hc dM_colourOf_26 (tgt := 50) (by decide) rfl ?_
        refine r_aload_n hc dM_colourOf_29 rfl ?_
        refine gM_20 hc dM_colourOf_30 ?_
        refine r_bipush hc dM_colourOf_33 (nI 12) (by decide) ?_
        refine r_iload hc dM_colourOf_35 rfl ?_
        refine r_imul hc dM_colourOf_37 ?_
        refine r_iload_n hc dM_colourOf_38 rfl ?_
        refine r_iadd hc dM_colourOf_39 ?_
        rw [ix12]
        refine r_zaldN hc dM_colourOf_40 rfl (by first | omega | (show _ < 12; omega) | (show _ < 204; omega) | (show _ < 144; omega) | (show _ < 2048; omega) | (show _ < 4096; omega) | (show _ < 16; omega)) ?_
        rw [h3]
        cases b with
        | true =>
          refine r_if_eq_f hc dM_colourOf_41 (tgt := 48) (by decide) (by decide) ?_
          refine r_iconst hc dM_colourOf_44 (nI 1) (by decide) ?_
          refine r_goto hc dM_colourOf_45 (tgt := 49) (by decide) ?_
          exact r_iret hc dM_colourOf_49 ⟨rfl, rfl⟩
        | false =>
          refine r_if_eq_t hc dM_colourOf_41 (tgt := 48) (by decide) rfl ?_
          refine r_iconst hc dM_colourOf_48 (-1) (by decide) ?_
          exact r_iret hc dM_colourOf_49 ⟨rfl, rfl⟩
  have hgen : ∀ r, r ≤ n → Go X g 0 0 (Fen X g 0 0 (Rp (An (some (.int (Int32.ofInt (f_lb G r p)))) w))) w 10 [some (.ref (g.1 48)), some (.int (nI p)), some (.int (nI 1)), some (.int (nI 1)), some (.int (nI r - nI 1))] [] := by
    refine lp_dn (P := fun r => r ≤ n → Go X g 0 0 (Fen X g 0 0 (Rp (An (some (.int (Int32.ofInt (f_lb G r p)))) w))) w 10 [some (.ref (g.1 48)), some (.int (nI p)), some (.int (nI 1)), some (.int (nI 1)), some (.int (nI r - nI 1))] []) ?_
    intro r ih hr
    cases r with
    | zero =>
      refine r_iload hc dM_colourOf_10 rfl ?_
      refine r_if_lt_t hc dM_colourOf_12 (tgt := 59) (by decide) (by decide) ?_
      refine r_iconst hc dM_colourOf_59 (nI 0) (by decide) ?_
      exact r_iret hc dM_colourOf_60 ⟨rfl, rfl⟩
    | succ r =>
      have ih := ih r rfl (by omega)
      rw [show nI (r + 1) - nI 1 = nI r from nI_pred r]
      refine r_iload hc dM_colourOf_10 rfl ?_
      refine r_if_lt_f hc dM_colourOf_12 (tgt := 59) (by decide) (nI_pos (by omega)) ?_
      refine r_aload_n hc dM_colourOf_15 rfl ?_
      refine r_iload hc dM_colourOf_16 rfl ?_
      refine r_iload_n hc dM_colourOf_18 rfl ?_
      refine kM_66r hc dM_colourOf_19 (cM_hadGame _ g d w G n r p hR (by omega) (by omega) hp) (Nat.le_refl _) (Nat.le_of_ble_eq_true rfl) ?_
      rintro _ _ ⟨rfl, rfl⟩
      have hM := hR r (by omega) p hp
      rcases hg : G r p with _ | _ | ⟨q, b, k⟩ <;> simp only [f_lb, hg]
      · refine r_if_eq_t hc dM_colourOf_22 (tgt := 53) (by decide) rfl ?_
        refine r_iinc hc dM_colourOf_53 rfl ?_
        refine r_goto hc dM_colourOf_56 (tgt := 10) (by decide) ?_
        rw [ii_m1]
        exact ih
      · refine r_if_eq_t hc dM_colourOf_22 (tgt := 53) (by decide) rfl ?_
        refine r_iinc hc dM_colourOf_53 rfl ?_
        refine r_goto hc dM_colourOf_56 (tgt := 10) (by decide) ?_
        rw [ii_m1]
        exact ih
      · refine r_if_eq_f hc dM_colourOf_22 (tgt := 53) (by decide) (show ¬ bI true = 0 by decide) ?_
        refine r_iload_n hc dM_colourOf_25 rfl ?_
        refine r_if_ne_t hc dM_colourOf_26 (tgt := 50) (by decide) (by decide) ?_
        refine r_iinc hc dM_colourOf_50 rfl ?_
        refine r_iinc hc dM_colourOf_53 rfl ?_
        refine r_goto hc dM_colourOf_56 (tgt := 10) (by decide) ?_
        simp only [ii_m1]
        rw [show nI 1 - nI 1 = nI 0 by decide]
        exact hgen0 r (by omega)
  exact hgen n (Nat.le_refl _)
theorem cM_buchholzOf (l : Launch) (g : GG) (d : Nat) (w : Wd) (G : Nat → Nat → Ce) (n p : Nat) (hR : MRep w G n) (hT : GTold G n) (hn : n ≤ 16) (hcl : w 48 4 = nI n) (hp : p < 12) : Con l g yM_buchholzOf bM_buchholzOf 4 ((some .int)) [] (d + 1) 0 0 [.ref (g.1 48), .int (nI p)] w (Rp (An (some (.int (nI (f_bu G (f_sc G n) n p)))) w)) := by
  intro X hl ha hm hk hn' hc
  subst hl
  refine r_iconst hc dM_buchholzOf_0 (nI 0) (by decide) ?_
  refine r_istore_n hc dM_buchholzOf_1 (Nat.le_of_ble_eq_true rfl) ?_
  refine r_iconst hc dM_buchholzOf_2 (nI 0) (by decide) ?_
  refine r_istore_n hc dM_buchholzOf_3 (Nat.le_of_ble_eq_true rfl) ?_
  refine lp_up (P := fun r => Go X g 0 0 _ w 4 [some (.ref (g.1 48)), some (.int (nI p)), some (.int (nI (f_bu G (f_sc G n) r p))), some (.int (nI r))] []) (n := n) ?_ 0 (Nat.zero_le _)
  intro r hr ih
  refine r_iload_n hc dM_buchholzOf_4 rfl ?_
  refine r_aload_n hc dM_buchholzOf_5 rfl ?_
  refine gM_63 hc dM_buchholzOf_6 ?_
  rw [hcl]
  refine r_ic_ge hc dM_buchholzOf_9 (tgt := 49) (by decide) (fun h => ?_) (fun h => ?_)
  · have hr2 : r = n := by have := nle_to h (by omega) (by omega); omega
    subst hr2
    refine r_iload_n hc dM_buchholzOf_49 rfl ?_
    exact r_iret hc dM_buchholzOf_50 ⟨rfl, rfl⟩
  · have hr2 : r < n := nle_of h (by omega) (by omega)
    have ih := ih hr2
    refine r_aload_n hc dM_buchholzOf_12 rfl ?_
    refine r_iload_n hc dM_buchholzOf_13 rfl ?_
    refine r_iload_n hc dM_buchholzOf_14 rfl ?_
    refine kM_66r hc dM_buchholzOf_15 (cM_hadGame _ g d w G n r p hR (by omega) hr2 hp) (Nat.le_refl _) (Nat.le_of_ble_eq_true rfl) ?_
    rintro _ _ ⟨rfl, rfl⟩
    have hM := hR r hr2 p hp
    rcases hg : G r p with _ | _ | ⟨q, b, k⟩ <;> rw [hg] at hM <;> simp only [McOk] at hM <;> simp only [f_bu, hg, ← nI_add] at ih
    · refine r_if_eq_t hc dM_buchholzOf_18 (tgt := 41) (by decide) rfl ?_
      refine r_iload_n hc dM_buchholzOf_41 rfl ?_
      refine r_istore_n hc dM_buchholzOf_42 (Nat.le_of_ble_eq_true rfl) ?_
      refine r_iinc hc dM_buchholzOf_43 rfl ?_
      refine r_goto hc dM_buchholzOf_46 (tgt := 4) (by decide) ?_
      exact ih
    · refine r_if_eq_t hc dM_buchholzOf_18 (tgt := 41) (by decide) rfl ?_
      refine r_iload_n hc dM_buchholzOf_41 rfl ?_
      refine r_istore_n hc dM_buchholzOf_42 (Nat.le_of_ble_eq_true rfl) ?_
      refine r_iinc hc dM_buchholzOf_43 rfl ?_
      refine r_goto hc dM_buchholzOf_46 (tgt := 4) (by decide) ?_
      exact ih
    · obtain ⟨h1, h2, -⟩ := hM
      refine r_if_eq_f hc dM_buchholzOf_18 (tgt := 41) (by decide) (show ¬ bI true = 0 by decide) ?_
      refine r_iload_n hc dM_buchholzOf_21 rfl ?_
      refine r_aload_n hc dM_buchholzOf_22 rfl ?_
      refine r_aload_n hc dM_buchholzOf_23 rfl ?_
      refine gM_16 hc dM_buchholzOf_24 ?_
      refine r_bipush hc dM_buchholzOf_27 (nI 12) (by decide) ?_
      refine r_iload_n hc dM_buchholzOf_29 rfl ?_
      refine r_imul hc dM_buchholzOf_30 ?_
      refine r_iload_n hc dM_buchholzOf_31 rfl ?_
      refine r_iadd hc dM_buchholzOf_32 ?_
      rw [ix12]
      refine r_ialdN hc dM_buchholzOf_33 rfl (by first | omega | (show _ < 12; omega) | (show _ < 204; omega) | (show _ < 144; omega) | (show _ < 2048; omega) | (show _ < 4096; omega) | (show _ < 16; omega)) ?_
      rw [h2]
      refine kM_70r hc dM_buchholzOf_34 (cM_scoreOf _ g d w G n q hR hT hn hcl h1) (Nat.le_refl _) (Nat.le_of_ble_eq_true rfl) ?_
      rintro _ _ ⟨rfl, rfl⟩
      refine r_iadd hc dM_buchholzOf_37 ?_
      refine r_goto hc dM_buchholzOf_38 (tgt := 42) (by decide) ?_
      refine r_istore_n hc dM_buchholzOf_42 (Nat.le_of_ble_eq_true rfl) ?_
      refine r_iinc hc dM_buchholzOf_43 rfl ?_
      refine r_goto hc dM_buchholzOf_46 (tgt := 4) (by decide) ?_
      exact ih
theorem cM_bergerOf (l : Launch) (g : GG) (d : Nat) (w : Wd) (G : Nat → Nat → Ce) (n p : Nat) (hR : MRep w G n) (hT : GTold G n) (hn : n ≤ 16) (hcl : w 48 4 = nI n) (hp : p < 12) : Con l g yM_bergerOf bM_bergerOf 4 ((some .int)) [] (d + 1) 0 0 [.ref (g.1 48), .int (nI p)] w (Rp (An (some (.int (nI (f_be G (f_sc G n) n p)))) w)) := by
  intro X hl ha hm hk hn' hc
  subst hl
  refine r_iconst hc dM_bergerOf_0 (nI 0) (by decide) ?_
  refine r_istore_n hc dM_bergerOf_1 (Nat.le_of_ble_eq_true rfl) ?_
  refine r_iconst hc dM_bergerOf_2 (nI 0) (by decide) ?_
  refine r_istore_n hc dM_bergerOf_3 (Nat.le_of_ble_eq_true rfl) ?_
  refine lp_up (P := fun r => Go X g 0 0 _ w 4 [some (.ref (g.1 48)), some (.int (nI p)), some (.int (nI (f_be G (f_sc G n) r p))), some (.int (nI r))] []) (n := n) ?_ 0 (Nat.zero_le _)
  intro r hr ih
  refine r_iload_n hc dM_bergerOf_4 rfl ?_
  refine r_aload_n hc dM_bergerOf_5 rfl ?_
  refine gM_63 hc dM_bergerOf_6 ?_
  rw [hcl]
  refine r_ic_ge hc dM_bergerOf_9 (tgt := 61) (by decide) (fun h => ?_) (fun h => ?_)
  · have hr2 : r = n := by have := nle_to h (by omega) (by omega); omega
    subst hr2
    refine r_iload_n hc dM_bergerOf_61 rfl ?_
    exact r_iret hc dM_bergerOf_62 ⟨rfl, rfl⟩
  · have hr2 : r < n := nle_of h (by omega) (by omega)
    have ih := ih hr2
    refine r_aload_n hc dM_bergerOf_12 rfl ?_
    refine r_iload_n hc dM_bergerOf_13 rfl ?_
    refine r_iload_n hc dM_bergerOf_14 rfl ?_
    refine kM_66r hc dM_bergerOf_15 (cM_hadGame _ g d w G n r p hR (by omega) hr2 hp) (Nat.le_refl _) (Nat.le_of_ble_eq_true rfl) ?_
    rintro _ _ ⟨rfl, rfl⟩
    have hM := hR r hr2 p hp
    have hTr := hT r hr2 p hp
    rcases hg : G r p with _ | _ | ⟨q, b, k⟩ <;> rw [hg] at hM <;> simp only [McOk] at hM <;> simp only [f_be, hg, ← nI_add] at ih
    · refine r_if_eq_t hc dM_bergerOf_18 (tgt := 53) (by decide) rfl ?_
      refine r_iload_n hc dM_bergerOf_53 rfl ?_
      refine r_istore_n hc dM_bergerOf_54 (Nat.le_of_ble_eq_true rfl) ?_
      refine r_iinc hc dM_bergerOf_55 rfl ?_
      refine r_goto hc dM_bergerOf_58 (tgt := 4) (by decide) ?_
      exact ih
    · refine r_if_eq_t hc dM_bergerOf_18 (tgt := 53) (by decide) rfl ?_
      refine r_iload_n hc dM_bergerOf_53 rfl ?_
      refine r_istore_n hc dM_bergerOf_54 (Nat.le_of_ble_eq_true rfl) ?_
      refine r_iinc hc dM_bergerOf_55 rfl ?_
      refine r_goto hc dM_bergerOf_58 (tgt := 4) (by decide) ?_
      exact ih
    · obtain ⟨h1, h2, -, h4, h5⟩ := hM
      have hk2 : k ≤ 2 := hTr q b k hg
      rw [if_neg (by omega)] at h5
      refine r_if_eq_f hc dM_bergerOf_18 (tgt := 53) (by decide) (show ¬ bI true = 0 by decide) ?_
      refine r_iload_n hc dM_bergerOf_21 rfl ?_
      refine r_aload_n hc dM_bergerOf_22 rfl ?_
      refine gM_23 hc dM_bergerOf_23 ?_
      refine r_bipush hc dM_bergerOf_26 (nI 12) (by decide) ?_
      refine r_iload_n hc dM_bergerOf_28 rfl ?_
      refine r_imul hc dM_bergerOf_29 ?_
      refine r_iload_n hc dM_bergerOf_30 rfl ?_
      refine r_iadd hc dM_bergerOf_31 ?_
      rw [ix12]
      refine r_ialdN hc dM_bergerOf_32 rfl (by first | omega | (show _ < 12; omega) | (show _ < 204; omega) | (show _ < 144; omega) | (show _ < 2048; omega) | (show _ < 4096; omega) | (show _ < 16; omega)) ?_
      rw [h5]
      refine r_aload_n hc dM_bergerOf_33 rfl ?_
      refine r_aload_n hc dM_bergerOf_34 rfl ?_
      refine gM_16 hc dM_bergerOf_35 ?_
      refine r_bipush hc dM_bergerOf_38 (nI 12) (by decide) ?_
      refine r_iload_n hc dM_bergerOf_40 rfl ?_
      refine r_imul hc dM_bergerOf_41 ?_
      refine r_iload_n hc dM_bergerOf_42 rfl ?_
      refine r_iadd hc dM_bergerOf_43 ?_
      rw [ix12]
      refine r_ialdN hc dM_bergerOf_44 rfl (by first | omega | (show _ < 12; omega) | (show _ < 204; omega) | (show _ < 144; omega) | (show _ < 2048; omega) | (show _ < 4096; omega) | (show _ < 16; omega)) ?_
      rw [h2]
      refine kM_70r hc dM_bergerOf_45 (cM_scoreOf _ g d w G n q hR hT hn hcl h1) (Nat.le_refl _) (Nat.le_of_ble_eq_true rfl) ?_
      rintro _ _ ⟨rfl, rfl⟩
      refine r_imul hc dM_bergerOf_48 ?_
      refine r_iadd hc dM_bergerOf_49 ?_
      refine r_goto hc dM_bergerOf_50 (tgt := 54) (by decide) ?_
      refine r_istore_n hc dM_bergerOf_54 (Nat.le_of_ble_eq_true rfl) ?_
      refine r_iinc hc dM_bergerOf_55 rfl ?_
      refine r_goto hc dM_bergerOf_58 (tgt := 4) (by decide) ?_
      rw [pk_mul]
      exact ih
theorem cM_hadEachOther (l : Launch) (g : GG) (d : Nat) (w : Wd) (G : Nat → Nat → Ce) (n p q : Nat) (hR : MRep w G n) (hn : n ≤ 16) (hcl : w 48 4 = nI n) (hp : p < 12) (hq : q < 12) : Con l g yM_hadEachOther bM_hadEachOther 5 ((some .boolean)) [] d 0 0 [.ref (g.1 48), .int (nI p), .int (nI q)] w (Rp (An (some (.int (bI (f_mt G n p q)))) w)) := by
  intro X hl ha hm hk hn' hc
  subst hl
  refine r_iconst hc dM_hadEachOther_0 (nI 0) (by decide) ?_
  refine r_istore_n hc dM_hadEachOther_1 (Nat.le_of_ble_eq_true rfl) ?_
  refine r_iconst hc dM_hadEachOther_2 (nI 0) (by decide) ?_
  refine r_istore hc dM_hadEachOther_3 (Nat.le_of_ble_eq_true rfl) ?_
  refine lp_up (P := fun r => Go X g 0 0 _ w 5 [some (.ref (g.1 48)), some (.int (nI p)), some (.int (nI q)), some (.int (bI (f_mt G r p q))), some (.int (nI r))] []) (n := n) ?_ 0 (Nat.zero_le _)
  intro r hr ih
  refine r_iload hc dM_hadEachOther_5 rfl ?_
  refine r_aload_n hc dM_hadEachOther_7 rfl ?_
  refine gM_63 hc dM_hadEachOther_8 ?_
  rw [hcl]
  refine r_ic_ge hc dM_hadEachOther_11 (tgt := 46) (by decide) (fun h => ?_) (fun h => ?_)
  · have hr2 : r = n := by have := nle_to h (by omega) (by omega); omega
    subst hr2
    refine r_iload_n hc dM_hadEachOther_46 rfl ?_
    exact r_zret hc dM_hadEachOther_47 (bI_nar _) ⟨rfl, rfl⟩
  · have hr2 : r < n := nle_of h (by omega) (by omega)
    have ih := ih hr2
    refine r_iload_n hc dM_hadEachOther_14 rfl ?_
    cases hb : f_mt G r p q with
    | true =>
      refine r_if_ne_t hc dM_hadEachOther_15 (tgt := 34) (by decide) (by decide) ?_
      refine r_iconst hc dM_hadEachOther_34 (nI 1) (by decide) ?_
      refine r_goto hc dM_hadEachOther_35 (tgt := 39) (by decide) ?_
      refine r_istore_n hc dM_hadEachOther_39 (Nat.le_of_ble_eq_true rfl) ?_
      refine r_iinc hc dM_hadEachOther_40 rfl ?_
      refine r_goto hc dM_hadEachOther_43 (tgt := 5) (by decide) ?_
      rw [show f_mt G (r + 1) p q = true by simp only [f_mt]; split <;> simp [hb], ← nI_add] at ih
      exact ih
    | false =>
      refine r_if_ne_f hc dM_hadEachOther_15 (tgt := 34) (by decide) rfl ?_
      refine r_aload_n hc dM_hadEachOther_18 rfl ?_
      refine gM_16 hc dM_hadEachOther_19 ?_
      refine r_bipush hc dM_hadEachOther_22 (nI 12) (by decide) ?_
      refine r_iload hc dM_hadEachOther_24 rfl ?_
      refine r_imul hc dM_hadEachOther_26 ?_
      refine r_iload_n hc dM_hadEachOther_27 rfl ?_
      refine r_iadd hc dM_hadEachOther_28 ?_
      rw [ix12]
      refine r_ialdN hc dM_hadEachOther_29 rfl (by first | omega | (show _ < 12; omega) | (show _ < 204; omega) | (show _ < 144; omega) | (show _ < 2048; omega) | (show _ < 4096; omega) | (show _ < 16; omega)) ?_
      refine r_iload_n hc dM_hadEachOther_30 rfl ?_
      have hM := hR r hr2 p hp
      rcases hg : G r p with _ | _ | ⟨o, b, k⟩ <;> rw [hg] at hM <;> simp only [McOk] at hM
      · rw [hM]
        refine r_ic_ne_t hc dM_hadEachOther_31 (tgt := 38) (by decide) (fun z => by have := nI_pos (n := q) (by omega); rw [← z] at this; exact this (by decide)) ?_
        refine r_iconst hc dM_hadEachOther_38 (nI 0) (by decide) ?_
        refine r_istore_n hc dM_hadEachOther_39 (Nat.le_of_ble_eq_true rfl) ?_
        refine r_iinc hc dM_hadEachOther_40 rfl ?_
        refine r_goto hc dM_hadEachOther_43 (tgt := 5) (by decide) ?_
        rw [show f_mt G (r + 1) p q = false by simp only [f_mt, hg]; exact hb, ← nI_add] at ih
        exact ih
      · rw [hM]
        refine r_ic_ne_t hc dM_hadEachOther_31 (tgt := 38) (by decide) (fun z => by rw [nI_eq (by decide) (by omega)] at z; omega) ?_
        refine r_iconst hc dM_hadEachOther_38 (nI 0) (by decide) ?_
        refine r_istore_n hc dM_hadEachOther_39 (Nat.le_of_ble_eq_true rfl) ?_
        refine r_iinc hc dM_hadEachOther_40 rfl ?_
        refine r_goto hc dM_hadEachOther_43 (tgt := 5) (by decide) ?_
        rw [show f_mt G (r + 1) p q = false by simp only [f_mt, hg]; exact hb, ← nI_add] at ih
        exact ih
      · obtain ⟨h1, h2, -⟩ := hM
        rw [h2]
        by_cases ho : o = q
        · refine r_ic_ne_f hc dM_hadEachOther_31 (tgt := 38) (by decide) (by rw [ho]) ?_
          refine r_iconst hc dM_hadEachOther_34 (nI 1) (by decide) ?_
          refine r_goto hc dM_hadEachOther_35 (tgt := 39) (by decide) ?_
          refine r_istore_n hc dM_hadEachOther_39 (Nat.le_of_ble_eq_true rfl) ?_
          refine r_iinc hc dM_hadEachOther_40 rfl ?_
          refine r_goto hc dM_hadEachOther_43 (tgt := 5) (by decide) ?_
          rw [show f_mt G (r + 1) p q = true by simp only [f_mt, hg]; simp [ho], ← nI_add] at ih
          exact ih
        · refine r_ic_ne_t hc dM_hadEachOther_31 (tgt := 38) (by decide) (fun z => by rw [nI_eq (by omega) (by omega)] at z; omega) ?_
          refine r_iconst hc dM_hadEachOther_38 (nI 0) (by decide) ?_
          refine r_istore_n hc dM_hadEachOther_39 (Nat.le_of_ble_eq_true rfl) ?_
          refine r_iinc hc dM_hadEachOther_40 rfl ?_
          refine r_goto hc dM_hadEachOther_43 (tgt := 5) (by decide) ?_
          rw [show f_mt G (r + 1) p q = false by simp only [f_mt, hg]; simp [ho, hb], ← nI_add] at ih
          exact ih
