/-! PairedField.Standing: the count -/
theorem nx_or (a b : Nat) : nI a ||| nI b = nI (a ||| b) := by
  apply Int32.toBitVec_inj.1
  show BitVec.ofNat 32 a ||| BitVec.ofNat 32 b = BitVec.ofNat 32 (a ||| b)
  apply BitVec.eq_of_getLsbD_eq
  intro i hi
  simp [hi]
theorem ce_all : ∀ o, o < 12 → ∀ b : Bool, ∀ k, k < 4 → isG (ce_code (some (some (o, b, k)))) = true ∧ ce_code (some (some (o, b, k))) &&& nI 15 = nI o ∧ colr (ce_code (some (some (o, b, k)))) = Int32.ofInt (ce_col b) ∧ ce_code (some (some (o, b, k))) >>> (nI 5 &&& 31) = nI k ∧ ce_code (some (some (o, b, k))) ≠ -1 := by decide +kernel
/-- the set of those that p has met -/
def mtS (G : Nat → Nat → Ce) : Nat → Nat → Nat
  | 0, _ => 0
  | r + 1, p => match G r p with
    | some (some (o, _, _)) => mtS G r p ||| 2 ^ o
    | _ => mtS G r p
theorem mtS_bit {G : Nat → Nat → Ce} : ∀ (r p q : Nat), (mtS G r p).testBit q = f_mt G r p q
  | 0, _, _ => by simp [mtS, f_mt]
  | r + 1, p, q => by
    have ih := mtS_bit (G := G) r p q
    unfold mtS f_mt
    rcases G r p with _ | _ | ⟨o, b, k⟩
    · exact ih
    · exact ih
    · simp only [Nat.testBit_or, ih, Nat.testBit_two_pow]
      rfl
theorem mtS_lt {G : Nat → Nat → Ce} {p : Nat} : ∀ r, (∀ i, i < r → ∀ q b k, G i p = some (some (q, b, k)) → q < 12) → mtS G r p < 4096
  | 0, _ => (by decide : 0 < 4096)
  | r + 1, h => by
    have ih := mtS_lt (G := G) (p := p) r (fun i hi => h i (by omega))
    unfold mtS
    rcases hg : G r p with _ | _ | ⟨o, b, k⟩
    · exact ih
    · exact ih
    · exact Nat.or_lt_two_pow (n := 12) ih (Nat.pow_lt_pow_right (by decide) (h r (by omega) o b k hg))
/-- the rows hold the first n rounds of G -/
def CRep (w : Wd) (G : Nat → Nat → Ce) (n : Nat) : Prop := ∀ r, r < n → ∀ p, p < 12 → w (2 + r) p = ce_code (G r p)
def GOpp (G : Nat → Nat → Ce) (n : Nat) : Prop := ∀ r, r < n → ∀ p q b k, G r p = some (some (q, b, k)) → q < 12
/-- the figures of p over r rounds that are counted at once -/
def Fp (w : Wd) (G : Nat → Nat → Ce) (r p : Nat) : Prop := w 21 p = nI (f_sc G r p) ∧ w 22 p = Int32.ofInt (f_ba G r p) ∧ w 25 p = nI (f_wi G r p) ∧ w 26 p = nI (f_by G r p) ∧ w 27 p = nI (f_gm G r p) ∧ w 28 p = Int32.ofInt (f_la G r p) ∧ w 29 p = Int32.ofInt (f_lb G r p) ∧ w 30 p = nI (mtS G r p)
def FrP (w w' : Wd) (p : Nat) : Prop := ∀ k i, (k < 21 ∨ 30 < k ∨ k = 23 ∨ k = 24 ∨ i ≠ p) → w' k i = w k i
theorem FrP.rf (w : Wd) (p : Nat) : FrP w w p := fun _ _ _ => rfl
theorem FrP.put {w w' : Wd} {p : Nat} (h : FrP w w' p) (k : Nat) (x : Int32) (hk : 21 ≤ k ∧ k ≤ 30 ∧ k ≠ 23 ∧ k ≠ 24) : FrP w (wu w' k p x) p := by
  intro j i hj
  by_cases hjk : j = k
  · subst hjk
    rw [wu_o2 (by omega)]
    exact h j i hj
  · rw [wu_o1 hjk]
    exact h j i hj
theorem cS_countCell (l : Launch) (g : GG) (d : Nat) (w : Wd) (G : Nat → Nat → Ce) (r p : Nat) (hp : p < 12) (ho : ∀ q b k, G r p = some (some (q, b, k)) → q < 12 ∧ k ≤ 2) (hF : Fp w G r p) : Con l g yS_countCell bS_countCell 4 ((none : Option Jvm.ClassFile.FieldType)) [] (d + 1) 0 0 [.ref (g.1 20), .int (nI p), .int (ce_code (G r p))] w (Rp (fun v w' => v = none ∧ Fp w' G (r + 1) p ∧ FrP w w' p)) := by
  intro X hl ha hm' hk hn' hc
  subst hl
  obtain ⟨a1, a2, a3, a4, a5, a6, a7, a8⟩ := hF
  rcases hg : G r p with _ | _ | ⟨q, b, k⟩
  · refine r_iload_n hc dS_countCell_0 rfl ?_
    refine r_iconst hc dS_countCell_1 (-1) (by decide) ?_
    refine r_ic_ne_f hc dS_countCell_2 (tgt := 6) (by decide) (by decide) ?_
    exact r_vret hc dS_countCell_5 ⟨rfl, by unfold Fp f_sc f_ba f_wi f_by f_gm f_la f_lb mtS; simp only [hg, ce_pts]; exact ⟨a1, a2, a3, a4, a5, a6, a7, a8⟩, FrP.rf w p⟩
  · refine r_iload_n hc dS_countCell_0 rfl ?_
    refine r_iconst hc dS_countCell_1 (-1) (by decide) ?_
    refine r_ic_ne_t hc dS_countCell_2 (tgt := 6) (by decide) (by decide) ?_
    refine r_aload_n hc dS_countCell_6 rfl ?_
    refine gS_9 hc dS_countCell_7 ?_
    refine r_iload_n hc dS_countCell_10 rfl ?_
    refine r_dup2 hc dS_countCell_11 rfl rfl ?_
    refine r_ialdN hc dS_countCell_12 rfl (by first | omega | (show _ < 12; omega) | (show _ < 204; omega) | (show _ < 144; omega) | (show _ < 2048; omega) | (show _ < 4096; omega) | (show _ < 16; omega)) ?_
    refine r_iload_n hc dS_countCell_13 rfl ?_
    refine kS_58r hc dS_countCell_14 (cC_resultIn _ g d w _) (Nat.le_refl _) (Nat.le_of_ble_eq_true rfl) ?_
    rintro _ _ ⟨rfl, rfl⟩
    refine r_iadd hc dS_countCell_17 ?_
    refine r_iastN hc dS_countCell_18 rfl (by first | omega | (show _ < 12; omega) | (show _ < 204; omega) | (show _ < 144; omega) | (show _ < 2048; omega) | (show _ < 4096; omega) | (show _ < 16; omega)) ?_
    refine r_iload_n hc dS_countCell_19 rfl ?_
    refine kS_64r hc dS_countCell_20 (cC_isGame _ g d _ _) (Nat.le_refl _) (Nat.le_of_ble_eq_true rfl) ?_
    rintro _ _ ⟨rfl, rfl⟩
    refine r_if_ne_f hc dS_countCell_23 (tgt := 37) (by decide) (by decide) ?_
    refine r_aload_n hc dS_countCell_26 rfl ?_
    refine gS_27 hc dS_countCell_27 ?_
    refine r_iload_n hc dS_countCell_30 rfl ?_
    refine r_dup2 hc dS_countCell_31 rfl rfl ?_
    refine r_ialdN hc dS_countCell_32 rfl (by first | omega | (show _ < 12; omega) | (show _ < 204; omega) | (show _ < 144; omega) | (show _ < 2048; omega) | (show _ < 4096; omega) | (show _ < 16; omega)) ?_
    refine r_iconst hc dS_countCell_33 (nI 1) (by decide) ?_
    refine r_iadd hc dS_countCell_34 ?_
    refine r_iastN hc dS_countCell_35 rfl (by first | omega | (show _ < 12; omega) | (show _ < 204; omega) | (show _ < 144; omega) | (show _ < 2048; omega) | (show _ < 4096; omega) | (show _ < 16; omega)) ?_
    refine r_vret hc dS_countCell_36 ⟨rfl, ?_, ((FrP.rf w p).put 21 _ (by decide)).put 26 _ (by decide)⟩
    unfold Fp f_sc f_ba f_wi f_by f_gm f_la f_lb mtS
    simp only [hg, ce_pts]
    refine ⟨?_, ?_, ?_, ?_, ?_, ?_, ?_, ?_⟩
    · rw [wu_o1 (by decide), wu_at, a1, ← nI_add]; rfl
    · rw [wu_o1 (by decide), wu_o1 (by decide)]; exact a2
    · rw [wu_o1 (by decide), wu_o1 (by decide)]; exact a3
    · rw [wu_at, wu_o1 (by decide), a4, ← nI_add]
    · rw [wu_o1 (by decide), wu_o1 (by decide)]; exact a5
    · rw [wu_o1 (by decide), wu_o1 (by decide)]; exact a6
    · rw [wu_o1 (by decide), wu_o1 (by decide)]; exact a7
    · rw [wu_o1 (by decide), wu_o1 (by decide)]; exact a8
  · obtain ⟨o1, o2⟩ := ho q b k hg
    obtain ⟨c1, c2, c3, c4, c5⟩ := ce_all q o1 b k (by omega)
    generalize ce_code (some (some (q, b, k))) = C at c1 c2 c3 c4 c5 ⊢
    refine r_iload_n hc dS_countCell_0 rfl ?_
    refine r_iconst hc dS_countCell_1 (-1) (by decide) ?_
    refine r_ic_ne_t hc dS_countCell_2 (tgt := 6) (by decide) c5 ?_
    refine r_aload_n hc dS_countCell_6 rfl ?_
    refine gS_9 hc dS_countCell_7 ?_
    refine r_iload_n hc dS_countCell_10 rfl ?_
    refine r_dup2 hc dS_countCell_11 rfl rfl ?_
    refine r_ialdN hc dS_countCell_12 rfl (by first | omega | (show _ < 12; omega) | (show _ < 204; omega) | (show _ < 144; omega) | (show _ < 2048; omega) | (show _ < 4096; omega) | (show _ < 16; omega)) ?_
    refine r_iload_n hc dS_countCell_13 rfl ?_
    refine kS_58r hc dS_countCell_14 (cC_resultIn _ g d w _) (Nat.le_refl _) (Nat.le_of_ble_eq_true rfl) ?_
    rintro _ _ ⟨rfl, rfl⟩
    rw [c4]
    refine r_iadd hc dS_countCell_17 ?_
    refine r_iastN hc dS_countCell_18 rfl (by first | omega | (show _ < 12; omega) | (show _ < 204; omega) | (show _ < 144; omega) | (show _ < 2048; omega) | (show _ < 4096; omega) | (show _ < 16; omega)) ?_
    refine r_iload_n hc dS_countCell_19 rfl ?_
    rw [a1, nI_add]
    refine kS_64r hc dS_countCell_20 (cC_isGame _ g d _ _) (Nat.le_refl _) (Nat.le_of_ble_eq_true rfl) ?_
    rintro _ _ ⟨rfl, rfl⟩
    rw [c1]
    refine r_if_ne_t hc dS_countCell_23 (tgt := 37) (by decide) (by decide) ?_
    refine r_aload_n hc dS_countCell_37 rfl ?_
    refine gS_30 hc dS_countCell_38 ?_
    refine r_iload_n hc dS_countCell_41 rfl ?_
    refine r_dup2 hc dS_countCell_42 rfl rfl ?_
    refine r_ialdN hc dS_countCell_43 rfl (by first | omega | (show _ < 12; omega) | (show _ < 204; omega) | (show _ < 144; omega) | (show _ < 2048; omega) | (show _ < 4096; omega) | (show _ < 16; omega)) ?_
    refine r_iconst hc dS_countCell_44 (nI 1) (by decide) ?_
    refine r_iadd hc dS_countCell_45 ?_
    refine r_iastN hc dS_countCell_46 rfl (by first | omega | (show _ < 12; omega) | (show _ < 204; omega) | (show _ < 144; omega) | (show _ < 2048; omega) | (show _ < 4096; omega) | (show _ < 16; omega)) ?_
    refine r_iload_n hc dS_countCell_47 rfl ?_
    rw [wu_o1 (by decide), a5, nI_add]
    refine kS_58r hc dS_countCell_48 (cC_resultIn _ g d _ _) (Nat.le_refl _) (Nat.le_of_ble_eq_true rfl) ?_
    rintro _ _ ⟨rfl, rfl⟩
    rw [c4]
    -- the rest, once the wins stand
    have hrest : ∀ w1, w1 21 p = nI (f_sc G (r + 1) p) → w1 22 p = w 22 p → w1 25 p = nI (f_wi G (r + 1) p) → w1 26 p = w 26 p → w1 27 p = nI (f_gm G (r + 1) p) → w1 28 p = w 28 p → w1 30 p = w 30 p → FrP w w1 p → Go X g 0 0 (Fen X g 0 0 (Rp (fun v w' => v = none ∧ Fp w' G (r + 1) p ∧ FrP w w' p))) w1 65 [some (.ref (g.1 20)), some (.int (nI p)), some (.int C), none] [] := by
      intro w1 b1 b2 b3 b4 b5 b6 b8 bF
      refine r_iload_n hc dS_countCell_65 rfl ?_
      refine kS_68r hc dS_countCell_66 (cC_colourIn _ g d _ _) (Nat.le_refl _) (Nat.le_of_ble_eq_true rfl) ?_
      rintro _ _ ⟨rfl, rfl⟩
      rw [c3]
      refine r_istore_n hc dS_countCell_69 (Nat.le_of_ble_eq_true rfl) ?_
      refine r_aload_n hc dS_countCell_70 rfl ?_
      refine gS_15 hc dS_countCell_71 ?_
      refine r_iload_n hc dS_countCell_74 rfl ?_
      refine r_dup2 hc dS_countCell_75 rfl rfl ?_
      refine r_ialdN hc dS_countCell_76 rfl (by first | omega | (show _ < 12; omega) | (show _ < 204; omega) | (show _ < 144; omega) | (show _ < 2048; omega) | (show _ < 4096; omega) | (show _ < 16; omega)) ?_
      refine r_iload_n hc dS_countCell_77 rfl ?_
      refine r_iadd hc dS_countCell_78 ?_
      refine r_iastN hc dS_countCell_79 rfl (by first | omega | (show _ < 12; omega) | (show _ < 204; omega) | (show _ < 144; omega) | (show _ < 2048; omega) | (show _ < 4096; omega) | (show _ < 16; omega)) ?_
      refine r_aload_n hc dS_countCell_80 rfl ?_
      refine gS_36 hc dS_countCell_81 ?_
      refine r_iload_n hc dS_countCell_84 rfl ?_
      refine r_aload_n hc dS_countCell_85 rfl ?_
      refine gS_33 hc dS_countCell_86 ?_
      refine r_iload_n hc dS_countCell_89 rfl ?_
      refine r_ialdN hc dS_countCell_90 rfl (by first | omega | (show _ < 12; omega) | (show _ < 204; omega) | (show _ < 144; omega) | (show _ < 2048; omega) | (show _ < 4096; omega) | (show _ < 16; omega)) ?_
      refine r_iastN hc dS_countCell_91 rfl (by first | omega | (show _ < 12; omega) | (show _ < 204; omega) | (show _ < 144; omega) | (show _ < 2048; omega) | (show _ < 4096; omega) | (show _ < 16; omega)) ?_
      refine r_aload_n hc dS_countCell_92 rfl ?_
      refine gS_33 hc dS_countCell_93 ?_
      refine r_iload_n hc dS_countCell_96 rfl ?_
      refine r_iload_n hc dS_countCell_97 rfl ?_
      refine r_iastN hc dS_countCell_98 rfl (by first | omega | (show _ < 12; omega) | (show _ < 204; omega) | (show _ < 144; omega) | (show _ < 2048; omega) | (show _ < 4096; omega) | (show _ < 16; omega)) ?_
      refine r_aload_n hc dS_countCell_99 rfl ?_
      refine gS_39 hc dS_countCell_100 ?_
      refine r_iload_n hc dS_countCell_103 rfl ?_
      refine r_dup2 hc dS_countCell_104 rfl rfl ?_
      refine r_ialdN hc dS_countCell_105 rfl (by first | omega | (show _ < 12; omega) | (show _ < 204; omega) | (show _ < 144; omega) | (show _ < 2048; omega) | (show _ < 4096; omega) | (show _ < 16; omega)) ?_
      refine r_iconst hc dS_countCell_106 (nI 1) (by decide) ?_
      refine r_iload_n hc dS_countCell_107 rfl ?_
      refine kS_71r hc dS_countCell_108 (cC_opponentIn _ g d _ _) (Nat.le_refl _) (Nat.le_of_ble_eq_true rfl) ?_
      rintro _ _ ⟨rfl, rfl⟩
      rw [c2]
      refine r_ishl hc dS_countCell_111 ?_
      refine r_ior hc dS_countCell_112 ?_
      refine r_iastN hc dS_countCell_113 rfl (by first | omega | (show _ < 12; omega) | (show _ < 204; omega) | (show _ < 144; omega) | (show _ < 2048; omega) | (show _ < 4096; omega) | (show _ < 16; omega)) ?_
      refine r_vret hc dS_countCell_114 ⟨rfl, ?_, (((bF.put 22 _ (by decide)).put 29 _ (by decide)).put 28 _ (by decide)).put 30 _ (by decide)⟩
      refine ⟨?_, ?_, ?_, ?_, ?_, ?_, ?_, ?_⟩
      · rw [wu_o1 (by decide), wu_o1 (by decide), wu_o1 (by decide), wu_o1 (by decide)]; exact b1
      · rw [wu_o1 (by decide), wu_o1 (by decide), wu_o1 (by decide), wu_at, b2, a2, ← Int32.ofInt_add]
        rw [f_ba, hg]
      · rw [wu_o1 (by decide), wu_o1 (by decide), wu_o1 (by decide), wu_o1 (by decide)]; exact b3
      · rw [wu_o1 (by decide), wu_o1 (by decide), wu_o1 (by decide), wu_o1 (by decide), b4, a4]
        rw [f_by, hg]
      · rw [wu_o1 (by decide), wu_o1 (by decide), wu_o1 (by decide), wu_o1 (by decide)]; exact b5
      · rw [wu_o1 (by decide), wu_at]
        rw [f_la, hg]
      · rw [wu_o1 (by decide), wu_o1 (by decide), wu_at, wu_o1 (by decide), b6, a6]
        rw [f_lb, hg]
      · rw [wu_at, wu_o1 (by decide), wu_o1 (by decide), wu_o1 (by decide), b8, a8, shl1 q (by omega), nx_or]
        rw [mtS, hg]
    have e1 : nI (f_sc G r p + k) = nI (f_sc G (r + 1) p) := by rw [f_sc, hg]; rfl
    have e5 : nI (f_gm G r p + 1) = nI (f_gm G (r + 1) p) := by rw [f_gm, hg]
    rw [e1, e5]
    refine r_iconst hc dS_countCell_51 (nI 2) (by decide) ?_
    by_cases hk2 : k = 2
    · subst hk2
      refine r_ic_ne_f hc dS_countCell_52 (tgt := 65) (by decide) (by decide) ?_
      refine r_aload_n hc dS_countCell_55 rfl ?_
      refine gS_24 hc dS_countCell_56 ?_
      refine r_iload_n hc dS_countCell_59 rfl ?_
      refine r_dup2 hc dS_countCell_60 rfl rfl ?_
      refine r_ialdN hc dS_countCell_61 rfl (by first | omega | (show _ < 12; omega) | (show _ < 204; omega) | (show _ < 144; omega) | (show _ < 2048; omega) | (show _ < 4096; omega) | (show _ < 16; omega)) ?_
      refine r_iconst hc dS_countCell_62 (nI 1) (by decide) ?_
      refine r_iadd hc dS_countCell_63 ?_
      refine r_iastN hc dS_countCell_64 rfl (by first | omega | (show _ < 12; omega) | (show _ < 204; omega) | (show _ < 144; omega) | (show _ < 2048; omega) | (show _ < 4096; omega) | (show _ < 16; omega)) ?_
      refine hrest _ ?_ ?_ ?_ ?_ ?_ ?_ ?_ ((((FrP.rf w p).put 21 _ (by decide)).put 27 _ (by decide)).put 25 _ (by decide))
      · rw [wu_o1 (by decide), wu_o1 (by decide), wu_at]
      · rw [wu_o1 (by decide), wu_o1 (by decide), wu_o1 (by decide)]
      · rw [wu_at, wu_o1 (by decide), wu_o1 (by decide), a3, nI_add, f_wi, hg]; rfl
      · rw [wu_o1 (by decide), wu_o1 (by decide), wu_o1 (by decide)]
      · rw [wu_o1 (by decide), wu_at]
      · rw [wu_o1 (by decide), wu_o1 (by decide), wu_o1 (by decide)]
      · rw [wu_o1 (by decide), wu_o1 (by decide), wu_o1 (by decide)]
    · refine r_ic_ne_t hc dS_countCell_52 (tgt := 65) (by decide) (fun z => by rw [nI_eq (by omega) (by decide)] at z; omega) ?_
      refine hrest _ ?_ ?_ ?_ ?_ ?_ ?_ ?_ (((FrP.rf w p).put 21 _ (by decide)).put 27 _ (by decide))
      · rw [wu_o1 (by decide), wu_at]
      · rw [wu_o1 (by decide), wu_o1 (by decide)]
      · rw [wu_o1 (by decide), wu_o1 (by decide), a3, f_wi, hg]; simp only [if_neg hk2]
      · rw [wu_o1 (by decide), wu_o1 (by decide)]
      · rw [wu_at]
      · rw [wu_o1 (by decide), wu_o1 (by decide)]
      · rw [wu_o1 (by decide), wu_o1 (by decide)]
/-- the two figures that need all scores -/
def Bp (w : Wd) (G : Nat → Nat → Ce) (s : Nat → Nat) (r p : Nat) : Prop := w 23 p = nI (f_bu G s r p) ∧ w 24 p = nI (f_be G s r p)
def FrB (w w' : Wd) (p : Nat) : Prop := ∀ k i, ((k ≠ 23 ∧ k ≠ 24) ∨ i ≠ p) → w' k i = w k i
theorem cS_countOpponent (l : Launch) (g : GG) (d : Nat) (w : Wd) (G : Nat → Nat → Ce) (s : Nat → Nat) (r p : Nat) (hp : p < 12) (hs : ∀ q, q < 12 → w 21 q = nI (s q)) (ho : ∀ q b k, G r p = some (some (q, b, k)) → q < 12 ∧ k ≤ 2) (hF : Bp w G s r p) : Con l g yS_countOpponent bS_countOpponent 4 ((none : Option Jvm.ClassFile.FieldType)) [] (d + 1) 0 0 [.ref (g.1 20), .int (nI p), .int (ce_code (G r p))] w (Rp (fun v w' => v = none ∧ Bp w' G s (r + 1) p ∧ FrB w w' p)) := by
  intro X hl ha hm' hk hn' hc
  subst hl
  obtain ⟨a1, a2⟩ := hF
  refine r_iload_n hc dS_countOpponent_0 rfl ?_
  refine kS_64r hc dS_countOpponent_1 (cC_isGame _ g d _ _) (Nat.le_refl _) (Nat.le_of_ble_eq_true rfl) ?_
  rintro _ _ ⟨rfl, rfl⟩
  rcases hg : G r p with _ | _ | ⟨q, b, k⟩
  · refine r_if_eq_t hc dS_countOpponent_4 (tgt := 42) (by decide) (by decide) ?_
    exact r_vret hc dS_countOpponent_42 ⟨rfl, by unfold Bp f_bu f_be; simp only [hg]; exact ⟨a1, a2⟩, fun _ _ _ => rfl⟩
  · refine r_if_eq_t hc dS_countOpponent_4 (tgt := 42) (by decide) (by decide) ?_
    exact r_vret hc dS_countOpponent_42 ⟨rfl, by unfold Bp f_bu f_be; simp only [hg]; exact ⟨a1, a2⟩, fun _ _ _ => rfl⟩
  · obtain ⟨o1, o2⟩ := ho q b k hg
    obtain ⟨c1, c2, c3, c4, c5⟩ := ce_all q o1 b k (by omega)
    generalize ce_code (some (some (q, b, k))) = C at c1 c2 c3 c4 c5 ⊢
    rw [c1]
    refine r_if_eq_f hc dS_countOpponent_4 (tgt := 42) (by decide) (by decide) ?_
    refine r_aload_n hc dS_countOpponent_7 rfl ?_
    refine gS_9 hc dS_countOpponent_8 ?_
    refine r_iload_n hc dS_countOpponent_11 rfl ?_
    refine kS_71r hc dS_countOpponent_12 (cC_opponentIn _ g d _ _) (Nat.le_refl _) (Nat.le_of_ble_eq_true rfl) ?_
    rintro _ _ ⟨rfl, rfl⟩
    rw [c2]
    refine r_ialdN hc dS_countOpponent_15 rfl (by first | omega | (show _ < 12; omega) | (show _ < 204; omega) | (show _ < 144; omega) | (show _ < 2048; omega) | (show _ < 4096; omega) | (show _ < 16; omega)) ?_
    rw [hs q o1]
    refine r_istore_n hc dS_countOpponent_16 (Nat.le_of_ble_eq_true rfl) ?_
    refine r_aload_n hc dS_countOpponent_17 rfl ?_
    refine gS_18 hc dS_countOpponent_18 ?_
    refine r_iload_n hc dS_countOpponent_21 rfl ?_
    refine r_dup2 hc dS_countOpponent_22 rfl rfl ?_
    refine r_ialdN hc dS_countOpponent_23 rfl (by first | omega | (show _ < 12; omega) | (show _ < 204; omega) | (show _ < 144; omega) | (show _ < 2048; omega) | (show _ < 4096; omega) | (show _ < 16; omega)) ?_
    refine r_iload_n hc dS_countOpponent_24 rfl ?_
    refine r_iadd hc dS_countOpponent_25 ?_
    refine r_iastN hc dS_countOpponent_26 rfl (by first | omega | (show _ < 12; omega) | (show _ < 204; omega) | (show _ < 144; omega) | (show _ < 2048; omega) | (show _ < 4096; omega) | (show _ < 16; omega)) ?_
    refine r_aload_n hc dS_countOpponent_27 rfl ?_
    refine gS_21 hc dS_countOpponent_28 ?_
    refine r_iload_n hc dS_countOpponent_31 rfl ?_
    refine r_dup2 hc dS_countOpponent_32 rfl rfl ?_
    refine r_ialdN hc dS_countOpponent_33 rfl (by first | omega | (show _ < 12; omega) | (show _ < 204; omega) | (show _ < 144; omega) | (show _ < 2048; omega) | (show _ < 4096; omega) | (show _ < 16; omega)) ?_
    refine r_iload_n hc dS_countOpponent_34 rfl ?_
    refine kS_58r hc dS_countOpponent_35 (cC_resultIn _ g d _ _) (Nat.le_refl _) (Nat.le_of_ble_eq_true rfl) ?_
    rintro _ _ ⟨rfl, rfl⟩
    rw [c4]
    refine r_iload_n hc dS_countOpponent_38 rfl ?_
    refine r_imul hc dS_countOpponent_39 ?_
    refine r_iadd hc dS_countOpponent_40 ?_
    refine r_iastN hc dS_countOpponent_41 rfl (by first | omega | (show _ < 12; omega) | (show _ < 204; omega) | (show _ < 144; omega) | (show _ < 2048; omega) | (show _ < 4096; omega) | (show _ < 16; omega)) ?_
    refine r_vret hc dS_countOpponent_42 ⟨rfl, ⟨?_, ?_⟩, fun a i h => ?_⟩
    · rw [wu_o1 (by decide), wu_at, a1, nI_add, f_bu, hg]
    · rw [wu_at, wu_o1 (by decide), a2, pk_mul, nI_add, f_be, hg]
    · by_cases h1 : a = 24
      · subst h1
        rw [wu_o2 (by omega), wu_o1 (by decide)]
      · rw [wu_o1 h1]
        by_cases h2 : a = 23
        · subst h2
          rw [wu_o2 (by omega)]
        · rw [wu_o1 h2]
