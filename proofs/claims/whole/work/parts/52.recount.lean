/-! PairedField.Standing: clear, recount -/
def clW (w : Wd) : Wd := fun k i => if 21 ≤ k ∧ k ≤ 30 ∧ i < 12 then nI 0 else w k i
theorem cS_clear (l : Launch) (g : GG) (d : Nat) (w : Wd) : Con l g yS_clear bS_clear 1 ((none : Option Jvm.ClassFile.FieldType)) [] (d + 1) 0 0 [.ref (g.1 20)] w (Rp (An none (clW w))) := by
  intro X hl ha hm' hk hn' hc
  subst hl
  refine r_aload_n hc dS_clear_0 rfl ?_
  refine gS_9 hc dS_clear_1 ?_
  refine r_iconst hc dS_clear_4 (nI 0) (by decide) ?_
  refine kS_52r hc dS_clear_5 (cA_fill _ g d _ 21 12 (nI 0) rfl (by decide)) (Nat.le_refl _) (Nat.le_of_ble_eq_true rfl) ?_
  rintro _ _ ⟨rfl, rfl⟩
  refine r_aload_n hc dS_clear_8 rfl ?_
  refine gS_15 hc dS_clear_9 ?_
  refine r_iconst hc dS_clear_12 (nI 0) (by decide) ?_
  refine kS_52r hc dS_clear_13 (cA_fill _ g d _ 22 12 (nI 0) rfl (by decide)) (Nat.le_refl _) (Nat.le_of_ble_eq_true rfl) ?_
  rintro _ _ ⟨rfl, rfl⟩
  refine r_aload_n hc dS_clear_16 rfl ?_
  refine gS_18 hc dS_clear_17 ?_
  refine r_iconst hc dS_clear_20 (nI 0) (by decide) ?_
  refine kS_52r hc dS_clear_21 (cA_fill _ g d _ 23 12 (nI 0) rfl (by decide)) (Nat.le_refl _) (Nat.le_of_ble_eq_true rfl) ?_
  rintro _ _ ⟨rfl, rfl⟩
  refine r_aload_n hc dS_clear_24 rfl ?_
  refine gS_21 hc dS_clear_25 ?_
  refine r_iconst hc dS_clear_28 (nI 0) (by decide) ?_
  refine kS_52r hc dS_clear_29 (cA_fill _ g d _ 24 12 (nI 0) rfl (by decide)) (Nat.le_refl _) (Nat.le_of_ble_eq_true rfl) ?_
  rintro _ _ ⟨rfl, rfl⟩
  refine r_aload_n hc dS_clear_32 rfl ?_
  refine gS_24 hc dS_clear_33 ?_
  refine r_iconst hc dS_clear_36 (nI 0) (by decide) ?_
  refine kS_52r hc dS_clear_37 (cA_fill _ g d _ 25 12 (nI 0) rfl (by decide)) (Nat.le_refl _) (Nat.le_of_ble_eq_true rfl) ?_
  rintro _ _ ⟨rfl, rfl⟩
  refine r_aload_n hc dS_clear_40 rfl ?_
  refine gS_27 hc dS_clear_41 ?_
  refine r_iconst hc dS_clear_44 (nI 0) (by decide) ?_
  refine kS_52r hc dS_clear_45 (cA_fill _ g d _ 26 12 (nI 0) rfl (by decide)) (Nat.le_refl _) (Nat.le_of_ble_eq_true rfl) ?_
  rintro _ _ ⟨rfl, rfl⟩
  refine r_aload_n hc dS_clear_48 rfl ?_
  refine gS_30 hc dS_clear_49 ?_
  refine r_iconst hc dS_clear_52 (nI 0) (by decide) ?_
  refine kS_52r hc dS_clear_53 (cA_fill _ g d _ 27 12 (nI 0) rfl (by decide)) (Nat.le_refl _) (Nat.le_of_ble_eq_true rfl) ?_
  rintro _ _ ⟨rfl, rfl⟩
  refine r_aload_n hc dS_clear_56 rfl ?_
  refine gS_33 hc dS_clear_57 ?_
  refine r_iconst hc dS_clear_60 (nI 0) (by decide) ?_
  refine kS_52r hc dS_clear_61 (cA_fill _ g d _ 28 12 (nI 0) rfl (by decide)) (Nat.le_refl _) (Nat.le_of_ble_eq_true rfl) ?_
  rintro _ _ ⟨rfl, rfl⟩
  refine r_aload_n hc dS_clear_64 rfl ?_
  refine gS_36 hc dS_clear_65 ?_
  refine r_iconst hc dS_clear_68 (nI 0) (by decide) ?_
  refine kS_52r hc dS_clear_69 (cA_fill _ g d _ 29 12 (nI 0) rfl (by decide)) (Nat.le_refl _) (Nat.le_of_ble_eq_true rfl) ?_
  rintro _ _ ⟨rfl, rfl⟩
  refine r_aload_n hc dS_clear_72 rfl ?_
  refine gS_39 hc dS_clear_73 ?_
  refine r_iconst hc dS_clear_76 (nI 0) (by decide) ?_
  refine kS_52r hc dS_clear_77 (cA_fill _ g d _ 30 12 (nI 0) rfl (by decide)) (Nat.le_refl _) (Nat.le_of_ble_eq_true rfl) ?_
  rintro _ _ ⟨rfl, rfl⟩
  refine r_vret hc dS_clear_80 ⟨rfl, ?_⟩
  funext k i
  unfold clW fl
  by_cases hi : i < 12
  · by_cases h : 21 ≤ k ∧ k ≤ 30
    · rw [if_pos ⟨h.1, h.2, hi⟩]
      have : k = 21 ∨ k = 22 ∨ k = 23 ∨ k = 24 ∨ k = 25 ∨ k = 26 ∨ k = 27 ∨ k = 28 ∨ k = 29 ∨ k = 30 := by omega
      rcases this with h | h | h | h | h | h | h | h | h | h <;> subst h <;> simp [hi]
    · rw [if_neg (by omega)]
      simp only [hi, and_true]
      rw [if_neg (by omega), if_neg (by omega), if_neg (by omega), if_neg (by omega), if_neg (by omega), if_neg (by omega), if_neg (by omega), if_neg (by omega), if_neg (by omega), if_neg (by omega)]
  · simp [hi]
theorem lenR {n r p : Nat} (hn : n ≤ 16) (hr : r < n) (hp : p < 12) : p < lenI (2 + r) := by
  have : ∀ r, r < 16 → lenI (2 + r) = 12 := by decide
  rw [this r (by omega)]
  exact hp
/-- all figures over n rounds -/
def SRep (w : Wd) (G : Nat → Nat → Ce) (n : Nat) : Prop := ∀ p, p < 12 → Fp w G n p ∧ Bp w G (f_sc G n) n p
theorem Fp.congr {w w' : Wd} {G : Nat → Nat → Ce} {r p : Nat} (h : Fp w G r p) (hk : ∀ k, 21 ≤ k → k ≤ 30 → k ≠ 23 → k ≠ 24 → w' k p = w k p) : Fp w' G r p := by
  obtain ⟨a1, a2, a3, a4, a5, a6, a7, a8⟩ := h
  exact ⟨by rw [hk 21 (by decide) (by decide) (by decide) (by decide)]; exact a1, by rw [hk 22 (by decide) (by decide) (by decide) (by decide)]; exact a2, by rw [hk 25 (by decide) (by decide) (by decide) (by decide)]; exact a3, by rw [hk 26 (by decide) (by decide) (by decide) (by decide)]; exact a4, by rw [hk 27 (by decide) (by decide) (by decide) (by decide)]; exact a5, by rw [hk 28 (by decide) (by decide) (by decide) (by decide)]; exact a6, by rw [hk 29 (by decide) (by decide) (by decide) (by decide)]; exact a7, by rw [hk 30 (by decide) (by decide) (by decide) (by decide)]; exact a8⟩
theorem Bp.congr {w w' : Wd} {G : Nat → Nat → Ce} {s : Nat → Nat} {r p : Nat} (h : Bp w G s r p) (h3 : w' 23 p = w 23 p) (h4 : w' 24 p = w 24 p) : Bp w' G s r p := ⟨by rw [h3]; exact h.1, by rw [h4]; exact h.2⟩
set_option maxHeartbeats 2000000 in
theorem cS_recount (l : Launch) (g : GG) (d : Nat) (w : Wd) (G : Nat → Nat → Ce) (n : Nat) (hn : n ≤ 16) (hC : CRep w G n) (hT : GTold G n) (hO : GOpp G n) : Con l g yS_recount bS_recount 5 ((none : Option Jvm.ClassFile.FieldType)) [] (d + 2) 0 0 [.ref (g.1 20), .ref (g.1 1), .int (nI n)] w (Rp (fun v w' => v = none ∧ SRep w' G n ∧ ∀ k, (k < 21 ∨ 30 < k) → w' k = w k)) := by
  intro X hl ha hm' hk hn' hc
  subst hl
  obtain ⟨Q, hQ⟩ : ∃ Q, Q = Fen X g 0 0 (Rp (fun v w' => v = none ∧ SRep w' G n ∧ ∀ k, (k < 21 ∨ 30 < k) → w' k = w k)) := ⟨_, rfl⟩
  rw [← hQ]
  -- the second run: all scores stand
  have h47 : ∀ r, r ≤ n → ∀ w1, (∀ p, p < 12 → Fp w1 G n p ∧ Bp w1 G (f_sc G n) r p) → (∀ k, (k < 21 ∨ 30 < k) → w1 k = w k) → Go X g 0 0 Q w1 47 [some (.ref (g.1 20)), some (.ref (g.1 1)), some (.int (nI n)), some (.int (nI r)), none] [] := by
    refine lp_up (P := fun r => ∀ w1, (∀ p, p < 12 → Fp w1 G n p ∧ Bp w1 G (f_sc G n) r p) → (∀ k, (k < 21 ∨ 30 < k) → w1 k = w k) → Go X g 0 0 Q w1 47 [some (.ref (g.1 20)), some (.ref (g.1 1)), some (.int (nI n)), some (.int (nI r)), none] []) ?_
    intro r hr ih w1 e1 e2
    refine r_iload_n hc dS_recount_47 rfl ?_
    refine r_iload_n hc dS_recount_48 rfl ?_
    refine r_ic_ge hc dS_recount_49 (tgt := 86) (by decide) (fun h => ?_) (fun h => ?_)
    · have hr2 : r = n := by have := nle_to h (by omega) (by omega); omega
      subst hr2
      subst hQ
      exact r_vret hc dS_recount_86 ⟨rfl, e1, e2⟩
    · have hr2 : r < n := nle_of h (by omega) (by omega)
      have ih := ih hr2
      simp only [← nI_add] at ih
      refine r_iconst hc dS_recount_52 (nI 0) (by decide) ?_
      refine r_istore hc dS_recount_53 (Nat.le_of_ble_eq_true rfl) ?_
      have hin : ∀ p, p ≤ 12 → ∀ w2, (∀ q, q < 12 → Fp w2 G n q ∧ Bp w2 G (f_sc G n) (if q < p then r + 1 else r) q) → (∀ k, (k < 21 ∨ 30 < k) → w2 k = w k) → Go X g 0 0 Q w2 55 [some (.ref (g.1 20)), some (.ref (g.1 1)), some (.int (nI n)), some (.int (nI r)), some (.int (nI p))] [] := by
        refine lp_up (P := fun p => ∀ w2, (∀ q, q < 12 → Fp w2 G n q ∧ Bp w2 G (f_sc G n) (if q < p then r + 1 else r) q) → (∀ k, (k < 21 ∨ 30 < k) → w2 k = w k) → Go X g 0 0 Q w2 55 [some (.ref (g.1 20)), some (.ref (g.1 1)), some (.int (nI n)), some (.int (nI r)), some (.int (nI p))] []) ?_
        intro p hp ihp w2 f1 f2
        refine r_iload hc dS_recount_55 rfl ?_
        refine r_bipush hc dS_recount_57 (nI 12) (by decide) ?_
        refine r_ic_ge hc dS_recount_59 (tgt := 80) (by decide) (fun h2 => ?_) (fun h2 => ?_)
        · have hp2 : p = 12 := by have := nle_to h2 (by omega) (by omega); omega
          subst hp2
          refine r_iinc hc dS_recount_80 rfl ?_
          refine r_goto hc dS_recount_83 (tgt := 47) (by decide) ?_
          refine Go.drop 4 ?_
          exact ih w2 (fun q hq => by have := f1 q hq; rw [if_pos hq] at this; exact this) f2
        · have hp2 : p < 12 := nle_of h2 (by omega) (by omega)
          have ihp := ihp hp2
          simp only [← nI_add] at ihp
          refine r_aload_n hc dS_recount_62 rfl ?_
          refine r_iload hc dS_recount_63 rfl ?_
          refine r_aload_n hc dS_recount_65 rfl ?_
          refine r_iload_n hc dS_recount_66 rfl ?_
          refine r_aaldN hc dS_recount_67 rfl (by first | omega | (show _ < 12; omega) | (show _ < 204; omega) | (show _ < 144; omega) | (show _ < 2048; omega) | (show _ < 4096; omega) | (show _ < 16; omega)) ?_
          refine r_iload hc dS_recount_68 rfl ?_
          rw [show (1 + 1 + r : Nat) = 2 + r by omega]
          refine r_ialdN hc dS_recount_70 rfl (lenR hn hr2 hp2) ?_
          rw [f2 (2 + r) (by omega), hC r hr2 p hp2]
          have hb := (f1 p hp2).2
          rw [if_neg (by omega)] at hb
          refine kS_49r hc dS_recount_71 (cS_countOpponent _ g d w2 G (f_sc G n) r p hp2 (fun q hq => (f1 q hq).1.1) (fun q b k hg => ⟨hO r hr2 p q b k hg, hT r hr2 p hp2 q b k hg⟩) hb) (Nat.le_refl _) (Nat.le_of_ble_eq_true rfl) ?_
          rintro _ w3 ⟨rfl, g1, g2⟩
          refine r_iinc hc dS_recount_74 rfl ?_
          refine r_goto hc dS_recount_77 (tgt := 55) (by decide) ?_
          refine ihp w3 (fun q hq => ⟨(f1 q hq).1.congr (fun k _ _ k3 k4 => g2 k q (Or.inl ⟨k3, k4⟩)), ?_⟩) (fun k hk => ?_)
          · by_cases hqp : q = p
            · subst hqp
              rw [if_pos (by omega)]
              exact g1
            · have hb := (f1 q hq).2.congr (g2 23 q (Or.inr hqp)) (g2 24 q (Or.inr hqp))
              by_cases h9 : q < p
              · rw [if_pos h9] at hb; rw [if_pos (by omega)]; exact hb
              · rw [if_neg h9] at hb; rw [if_neg (by omega)]; exact hb
          · rw [← f2 k hk]
            funext i
            exact g2 k i (Or.inl (by omega))
      exact hin 0 (Nat.zero_le _) w1 (fun q hq => by rw [if_neg (by omega)]; exact e1 q hq) e2
  -- the first run
  have h6 : ∀ r, r ≤ n → ∀ w1, (∀ p, p < 12 → Fp w1 G r p ∧ Bp w1 G (f_sc G n) 0 p) → (∀ k, (k < 21 ∨ 30 < k) → w1 k = w k) → Go X g 0 0 Q w1 6 [some (.ref (g.1 20)), some (.ref (g.1 1)), some (.int (nI n)), some (.int (nI r)), none] [] := by
    refine lp_up (P := fun r => ∀ w1, (∀ p, p < 12 → Fp w1 G r p ∧ Bp w1 G (f_sc G n) 0 p) → (∀ k, (k < 21 ∨ 30 < k) → w1 k = w k) → Go X g 0 0 Q w1 6 [some (.ref (g.1 20)), some (.ref (g.1 1)), some (.int (nI n)), some (.int (nI r)), none] []) ?_
    intro r hr ih w1 e1 e2
    refine r_iload_n hc dS_recount_6 rfl ?_
    refine r_iload_n hc dS_recount_7 rfl ?_
    refine r_ic_ge hc dS_recount_8 (tgt := 45) (by decide) (fun h => ?_) (fun h => ?_)
    · have hr2 : r = n := by have := nle_to h (by omega) (by omega); omega
      subst hr2
      refine r_iconst hc dS_recount_45 (nI 0) (by decide) ?_
      refine r_istore_n hc dS_recount_46 (Nat.le_of_ble_eq_true rfl) ?_
      exact h47 0 (Nat.zero_le _) w1 e1 e2
    · have hr2 : r < n := nle_of h (by omega) (by omega)
      have ih := ih hr2
      simp only [← nI_add] at ih
      refine r_iconst hc dS_recount_11 (nI 0) (by decide) ?_
      refine r_istore hc dS_recount_12 (Nat.le_of_ble_eq_true rfl) ?_
      have hin : ∀ p, p ≤ 12 → ∀ w2, (∀ q, q < 12 → Fp w2 G (if q < p then r + 1 else r) q ∧ Bp w2 G (f_sc G n) 0 q) → (∀ k, (k < 21 ∨ 30 < k) → w2 k = w k) → Go X g 0 0 Q w2 14 [some (.ref (g.1 20)), some (.ref (g.1 1)), some (.int (nI n)), some (.int (nI r)), some (.int (nI p))] [] := by
        refine lp_up (P := fun p => ∀ w2, (∀ q, q < 12 → Fp w2 G (if q < p then r + 1 else r) q ∧ Bp w2 G (f_sc G n) 0 q) → (∀ k, (k < 21 ∨ 30 < k) → w2 k = w k) → Go X g 0 0 Q w2 14 [some (.ref (g.1 20)), some (.ref (g.1 1)), some (.int (nI n)), some (.int (nI r)), some (.int (nI p))] []) ?_
        intro p hp ihp w2 f1 f2
        refine r_iload hc dS_recount_14 rfl ?_
        refine r_bipush hc dS_recount_16 (nI 12) (by decide) ?_
        refine r_ic_ge hc dS_recount_18 (tgt := 39) (by decide) (fun h2 => ?_) (fun h2 => ?_)
        · have hp2 : p = 12 := by have := nle_to h2 (by omega) (by omega); omega
          subst hp2
          refine r_iinc hc dS_recount_39 rfl ?_
          refine r_goto hc dS_recount_42 (tgt := 6) (by decide) ?_
          refine Go.drop 4 ?_
          exact ih w2 (fun q hq => by have := f1 q hq; rw [if_pos hq] at this; exact this) f2
        · have hp2 : p < 12 := nle_of h2 (by omega) (by omega)
          have ihp := ihp hp2
          simp only [← nI_add] at ihp
          refine r_aload_n hc dS_recount_21 rfl ?_
          refine r_iload hc dS_recount_22 rfl ?_
          refine r_aload_n hc dS_recount_24 rfl ?_
          refine r_iload_n hc dS_recount_25 rfl ?_
          refine r_aaldN hc dS_recount_26 rfl (by first | omega | (show _ < 12; omega) | (show _ < 204; omega) | (show _ < 144; omega) | (show _ < 2048; omega) | (show _ < 4096; omega) | (show _ < 16; omega)) ?_
          refine r_iload hc dS_recount_27 rfl ?_
          rw [show (1 + 1 + r : Nat) = 2 + r by omega]
          refine r_ialdN hc dS_recount_29 rfl (lenR hn hr2 hp2) ?_
          rw [f2 (2 + r) (by omega), hC r hr2 p hp2]
          have hb := (f1 p hp2).1
          rw [if_neg (by omega)] at hb
          refine kS_45r hc dS_recount_30 (cS_countCell _ g d w2 G r p hp2 (fun q b k hg => ⟨hO r hr2 p q b k hg, hT r hr2 p hp2 q b k hg⟩) hb) (Nat.le_refl _) (Nat.le_of_ble_eq_true rfl) ?_
          rintro _ w3 ⟨rfl, g1, g2⟩
          refine r_iinc hc dS_recount_33 rfl ?_
          refine r_goto hc dS_recount_36 (tgt := 14) (by decide) ?_
          refine ihp w3 (fun q hq => ⟨?_, (f1 q hq).2.congr (g2 23 q (by omega)) (g2 24 q (by omega))⟩) (fun k hk => ?_)
          · by_cases hqp : q = p
            · subst hqp
              rw [if_pos (by omega)]
              exact g1
            · have hb := (f1 q hq).1.congr (fun k _ _ _ _ => g2 k q (by omega))
              by_cases h9 : q < p
              · rw [if_pos h9] at hb; rw [if_pos (by omega)]; exact hb
              · rw [if_neg h9] at hb; rw [if_neg (by omega)]; exact hb
          · rw [← f2 k hk]
            funext i
            exact g2 k i (by omega)
      exact hin 0 (Nat.zero_le _) w1 (fun q hq => by rw [if_neg (by omega)]; exact e1 q hq) e2
  refine r_aload_n hc dS_recount_0 rfl ?_
  refine kS_42r hc dS_recount_1 (cS_clear _ g d w) (Nat.le_refl _) (Nat.le_of_ble_eq_true rfl) ?_
  rintro _ _ ⟨rfl, rfl⟩
  refine r_iconst hc dS_recount_4 (nI 0) (by decide) ?_
  refine r_istore_n hc dS_recount_5 (Nat.le_of_ble_eq_true rfl) ?_
  have hz : ∀ k p, 21 ≤ k → k ≤ 30 → p < 12 → clW w k p = nI 0 := fun k p a b c => if_pos ⟨a, b, c⟩
  refine h6 0 (Nat.zero_le _) _ (fun p hp => ⟨⟨hz 21 p (by decide) (by decide) hp, hz 22 p (by decide) (by decide) hp, hz 25 p (by decide) (by decide) hp, hz 26 p (by decide) (by decide) hp, hz 27 p (by decide) (by decide) hp, hz 28 p (by decide) (by decide) hp, hz 29 p (by decide) (by decide) hp, hz 30 p (by decide) (by decide) hp⟩, ⟨hz 23 p (by decide) (by decide) hp, hz 24 p (by decide) (by decide) hp⟩⟩) (fun k hk => ?_)
  funext i
  exact if_neg (by omega)
