/-! PairedFieldModel: colours and costs -/
theorem ii_toInt {z : Int} (h1 : -1000 ≤ z) (h2 : z ≤ 1000) : (Int32.ofInt z).toInt = z := by
  rw [Int32.toInt_ofInt, show (Int32.size : Nat) = 4294967296 from rfl, Int.bmod_def]
  omega
theorem ii_eq {a b : Int} (h1 : -1000 ≤ a) (h2 : a ≤ 1000) (h3 : -1000 ≤ b) (h4 : b ≤ 1000) : Int32.ofInt a = Int32.ofInt b ↔ a = b := by
  constructor
  · intro h
    have := congrArg Int32.toInt h
    rw [ii_toInt h1 h2, ii_toInt h3 h4] at this
    exact this
  · intro h
    rw [h]
theorem ii_le {a b : Int} (h1 : -1000 ≤ a) (h2 : a ≤ 1000) (h3 : -1000 ≤ b) (h4 : b ≤ 1000) : Int32.ofInt a ≤ Int32.ofInt b ↔ a ≤ b := by
  rw [Int32.le_iff_toInt_le, ii_toInt h1 h2, ii_toInt h3 h4]
theorem ii_lt {a b : Int} (h1 : -1000 ≤ a) (h2 : a ≤ 1000) (h3 : -1000 ≤ b) (h4 : b ≤ 1000) : Int32.ofInt a < Int32.ofInt b ↔ a < b := by
  rw [Int32.lt_iff_toInt_lt, ii_toInt h1 h2, ii_toInt h3 h4]
theorem f_ba_le {G : Nat → Nat → Ce} : ∀ (n p : Nat), -(n : Int) ≤ f_ba G n p ∧ f_ba G n p ≤ n
  | 0, _ => by simp [f_ba]
  | n + 1, p => by
    have ih := f_ba_le (G := G) n p
    simp only [f_ba]
    split
    · rename_i b _ _
      cases b <;> simp [ce_col] <;> omega
    · omega
theorem f_la_in {G : Nat → Nat → Ce} : ∀ (n p : Nat), f_la G n p = 0 ∨ f_la G n p = 1 ∨ f_la G n p = -1
  | 0, _ => by simp [f_la]
  | n + 1, p => by
    have ih := f_la_in (G := G) n p
    simp only [f_la]
    split
    · rename_i b _ _
      cases b <;> simp [ce_col]
    · exact ih
theorem f_lb_in {G : Nat → Nat → Ce} : ∀ (n p : Nat), f_lb G n p = 0 ∨ f_lb G n p = 1 ∨ f_lb G n p = -1
  | 0, _ => by simp [f_lb]
  | n + 1, p => by
    have ih := f_lb_in (G := G) n p
    simp only [f_lb]
    split
    · exact f_la_in n p
    · exact ih
/-- is the first of the two white -/
def fw (G : Nat → Nat → Ce) (n p q : Nat) : Bool := if f_ba G n p = f_ba G n q then (if f_la G n p = -1 ∧ f_la G n q = 1 then true else if f_la G n p = 1 ∧ f_la G n q = -1 then false else n % 2 == 0) else decide (f_ba G n p < f_ba G n q)
def cla (G : Nat → Nat → Ce) (n p : Nat) (c : Int) : Nat := (if f_la G n p = c ∧ f_lb G n p = c then 1 else 0) + (if 3 ≤ f_ba G n p + c ∨ f_ba G n p + c ≤ -3 then 1 else 0)
/-- what a game costs, p before q in the order -/
def gco (G : Nat → Nat → Ce) (n p q : Nat) : Nat := 64 * (f_sc G n p - f_sc G n q) * (f_sc G n p - f_sc G n q) + cla G n p (ce_col (fw G n p q)) + cla G n q (ce_col (!fw G n p q))
theorem rem2 {n : Nat} (h : n ≤ 100) : nI n - nI n / nI 2 * nI 2 = nI (n % 2) := pk_rem (by omega) (by decide) (by decide)
theorem cM_isFirstWhite (l : Launch) (g : GG) (d : Nat) (w : Wd) (G : Nat → Nat → Ce) (n p q : Nat) (hR : MRep w G n) (hn : n ≤ 16) (hcl : w 48 4 = nI n) (hp : p < 12) (hq : q < 12) : Con l g yM_isFirstWhite bM_isFirstWhite 7 ((some .boolean)) [] (d + 2) 0 0 [.ref (g.1 48), .int (nI p), .int (nI q)] w (Rp (An (some (.int (bI (fw G n p q)))) w)) := by
  intro X hl ha hm hk hn' hc
  subst hl
  have b1 := f_ba_le (G := G) n p
  have b2 := f_ba_le (G := G) n q
  have c1 := f_la_in (G := G) n p
  have c2 := f_la_in (G := G) n q
  refine r_aload_n hc dM_isFirstWhite_0 rfl ?_
  refine r_iload_n hc dM_isFirstWhite_1 rfl ?_
  refine kM_74r hc dM_isFirstWhite_2 (cM_balanceOf _ g d w G n p hR hn hcl hp) (Nat.le_refl _) (Nat.le_of_ble_eq_true rfl) ?_
  rintro _ _ ⟨rfl, rfl⟩
  refine r_istore_n hc dM_isFirstWhite_5 (Nat.le_of_ble_eq_true rfl) ?_
  refine r_aload_n hc dM_isFirstWhite_6 rfl ?_
  refine r_iload_n hc dM_isFirstWhite_7 rfl ?_
  refine kM_74r hc dM_isFirstWhite_8 (cM_balanceOf _ g d w G n q hR hn hcl hq) (Nat.le_refl _) (Nat.le_of_ble_eq_true rfl) ?_
  rintro _ _ ⟨rfl, rfl⟩
  refine r_istore hc dM_isFirstWhite_11 (Nat.le_of_ble_eq_true rfl) ?_
  refine r_iload_n hc dM_isFirstWhite_13 rfl ?_
  refine r_iload hc dM_isFirstWhite_14 rfl ?_
  by_cases hb : f_ba G n p = f_ba G n q
  · refine r_ic_eq_t hc dM_isFirstWhite_16 (tgt := 31) (by decide) (by rw [hb]) ?_
    refine r_aload_n hc dM_isFirstWhite_31 rfl ?_
    refine r_iload_n hc dM_isFirstWhite_32 rfl ?_
    refine r_iconst hc dM_isFirstWhite_33 (nI 0) (by decide) ?_
    refine kM_77r hc dM_isFirstWhite_34 (cM_colourOf0 _ g d w G n p hR hn hcl hp) (Nat.le_refl _) (Nat.le_of_ble_eq_true rfl) ?_
    rintro _ _ ⟨rfl, rfl⟩
    refine r_istore hc dM_isFirstWhite_37 (Nat.le_of_ble_eq_true rfl) ?_
    refine r_aload_n hc dM_isFirstWhite_39 rfl ?_
    refine r_iload_n hc dM_isFirstWhite_40 rfl ?_
    refine r_iconst hc dM_isFirstWhite_41 (nI 0) (by decide) ?_
    refine kM_77r hc dM_isFirstWhite_42 (cM_colourOf0 _ g d w G n q hR hn hcl hq) (Nat.le_refl _) (Nat.le_of_ble_eq_true rfl) ?_
    rintro _ _ ⟨rfl, rfl⟩
    have hend : Go X g 0 0 (Fen X g 0 0 (Rp (An (some (.int (bI (n % 2 == 0)))) w))) w 75 [some (.ref (g.1 48)), some (.int (nI p)), some (.int (nI q)), some (.int (Int32.ofInt (f_ba G n p))), some (.int (Int32.ofInt (f_ba G n q))), some (.int (Int32.ofInt (f_la G n p))), some (.int (Int32.ofInt (f_la G n q)))] [] := by
      refine r_aload_n hc dM_isFirstWhite_75 rfl ?_
      refine gM_63 hc dM_isFirstWhite_76 ?_
      rw [hcl]
      refine r_iconst hc dM_isFirstWhite_79 (nI 2) (by decide) ?_
      refine r_irem hc dM_isFirstWhite_80 (by decide) ?_
      rw [rem2 (by omega)]
      rcases Nat.mod_two_eq_zero_or_one n with h | h
      · rw [h]
        refine r_if_ne_f hc dM_isFirstWhite_81 (tgt := 88) (by decide) rfl ?_
        refine r_iconst hc dM_isFirstWhite_84 (nI 1) (by decide) ?_
        refine r_goto hc dM_isFirstWhite_85 (tgt := 89) (by decide) ?_
        exact r_zret hc dM_isFirstWhite_89 rfl ⟨rfl, rfl⟩
      · rw [h]
        refine r_if_ne_t hc dM_isFirstWhite_81 (tgt := 88) (by decide) (by decide) ?_
        refine r_iconst hc dM_isFirstWhite_88 (nI 0) (by decide) ?_
        exact r_zret hc dM_isFirstWhite_89 rfl ⟨rfl, rfl⟩
    refine r_istore hc dM_isFirstWhite_45 (Nat.le_of_ble_eq_true rfl) ?_
    refine r_iload hc dM_isFirstWhite_47 rfl ?_
    refine r_iconst hc dM_isFirstWhite_49 (-1) (by decide) ?_
    unfold fw
    rw [if_pos hb]
    rcases c1 with h1 | h1 | h1 <;> rcases c2 with h2 | h2 | h2 <;> rw [h1, h2] at hend <;> simp only [h1, h2]
    · refine r_ic_ne_t hc dM_isFirstWhite_50 (tgt := 61) (by decide) (by decide) ?_
      refine r_iload hc dM_isFirstWhite_61 rfl ?_
      refine r_iconst hc dM_isFirstWhite_63 (nI 1) (by decide) ?_
      refine r_ic_ne_t hc dM_isFirstWhite_64 (tgt := 75) (by decide) (by decide) ?_
      exact hend
    · refine r_ic_ne_t hc dM_isFirstWhite_50 (tgt := 61) (by decide) (by decide) ?_
      refine r_iload hc dM_isFirstWhite_61 rfl ?_
      refine r_iconst hc dM_isFirstWhite_63 (nI 1) (by decide) ?_
      refine r_ic_ne_t hc dM_isFirstWhite_64 (tgt := 75) (by decide) (by decide) ?_
      exact hend
    · refine r_ic_ne_t hc dM_isFirstWhite_50 (tgt := 61) (by decide) (by decide) ?_
      refine r_iload hc dM_isFirstWhite_61 rfl ?_
      refine r_iconst hc dM_isFirstWhite_63 (nI 1) (by decide) ?_
      refine r_ic_ne_t hc dM_isFirstWhite_64 (tgt := 75) (by decide) (by decide) ?_
      exact hend
    · refine r_ic_ne_t hc dM_isFirstWhite_50 (tgt := 61) (by decide) (by decide) ?_
      refine r_iload hc dM_isFirstWhite_61 rfl ?_
      refine r_iconst hc dM_isFirstWhite_63 (nI 1) (by decide) ?_
      refine r_ic_ne_f hc dM_isFirstWhite_64 (tgt := 75) (by decide) (by decide) ?_
      refine r_iload hc dM_isFirstWhite_67 rfl ?_
      refine r_iconst hc dM_isFirstWhite_69 (-1) (by decide) ?_
      refine r_ic_ne_t hc dM_isFirstWhite_70 (tgt := 75) (by decide) (by decide) ?_
      exact hend
    · refine r_ic_ne_t hc dM_isFirstWhite_50 (tgt := 61) (by decide) (by decide) ?_
      refine r_iload hc dM_isFirstWhite_61 rfl ?_
      refine r_iconst hc dM_isFirstWhite_63 (nI 1) (by decide) ?_
      refine r_ic_ne_f hc dM_isFirstWhite_64 (tgt := 75) (by decide) (by decide) ?_
      refine r_iload hc dM_isFirstWhite_67 rfl ?_
      refine r_iconst hc dM_isFirstWhite_69 (-1) (by decide) ?_
      refine r_ic_ne_t hc dM_isFirstWhite_70 (tgt := 75) (by decide) (by decide) ?_
      exact hend
    · refine r_ic_ne_t hc dM_isFirstWhite_50 (tgt := 61) (by decide) (by decide) ?_
      refine r_iload hc dM_isFirstWhite_61 rfl ?_
      refine r_iconst hc dM_isFirstWhite_63 (nI 1) (by decide) ?_
      refine r_ic_ne_f hc dM_isFirstWhite_64 (tgt := 75) (by decide) (by decide) ?_
      refine r_iload hc dM_isFirstWhite_67 rfl ?_
      refine r_iconst hc dM_isFirstWhite_69 (-1) (by decide) ?_
      refine r_ic_ne_f hc dM_isFirstWhite_70 (tgt := 75) (by decide) (by decide) ?_
      refine r_iconst hc dM_isFirstWhite_73 (nI 0) (by decide) ?_
      exact r_zret hc dM_isFirstWhite_74 rfl ⟨rfl, rfl⟩
    · refine r_ic_ne_f hc dM_isFirstWhite_50 (tgt := 61) (by decide) (by decide) ?_
      refine r_iload hc dM_isFirstWhite_53 rfl ?_
      refine r_iconst hc dM_isFirstWhite_55 (nI 1) (by decide) ?_
      refine r_ic_ne_t hc dM_isFirstWhite_56 (tgt := 61) (by decide) (by decide) ?_
      refine r_iload hc dM_isFirstWhite_61 rfl ?_
      refine r_iconst hc dM_isFirstWhite_63 (nI 1) (by decide) ?_
      refine r_ic_ne_t hc dM_isFirstWhite_64 (tgt := 75) (by decide) (by decide) ?_
      exact hend
    · refine r_ic_ne_f hc dM_isFirstWhite_50 (tgt := 61) (by decide) (by decide) ?_
      refine r_iload hc dM_isFirstWhite_53 rfl ?_
      refine r_iconst hc dM_isFirstWhite_55 (nI 1) (by decide) ?_
      refine r_ic_ne_f hc dM_isFirstWhite_56 (tgt := 61) (by decide) (by decide) ?_
      refine r_iconst hc dM_isFirstWhite_59 (nI 1) (by decide) ?_
      exact r_zret hc dM_isFirstWhite_60 rfl ⟨rfl, rfl⟩
    · refine r_ic_ne_f hc dM_isFirstWhite_50 (tgt := 61) (by decide) (by decide) ?_
      refine r_iload hc dM_isFirstWhite_53 rfl ?_
      refine r_iconst hc dM_isFirstWhite_55 (nI 1) (by decide) ?_
      refine r_ic_ne_t hc dM_isFirstWhite_56 (tgt := 61) (by decide) (by decide) ?_
      refine r_iload hc dM_isFirstWhite_61 rfl ?_
      refine r_iconst hc dM_isFirstWhite_63 (nI 1) (by decide) ?_
      refine r_ic_ne_t hc dM_isFirstWhite_64 (tgt := 75) (by decide) (by decide) ?_
      exact hend
  · refine r_ic_eq_f hc dM_isFirstWhite_16 (tgt := 31) (by decide) (fun z => hb ((ii_eq (by omega) (by omega) (by omega) (by omega)).mp z)) ?_
    refine r_iload_n hc dM_isFirstWhite_19 rfl ?_
    refine r_iload hc dM_isFirstWhite_20 rfl ?_
    unfold fw
    rw [if_neg hb]
    by_cases h : f_ba G n p < f_ba G n q
    · refine r_ic_ge_f hc dM_isFirstWhite_22 (tgt := 29) (by decide) (fun z => by rw [ii_le (by omega) (by omega) (by omega) (by omega)] at z; omega) ?_
      refine r_iconst hc dM_isFirstWhite_25 (nI 1) (by decide) ?_
      refine r_goto hc dM_isFirstWhite_26 (tgt := 30) (by decide) ?_
      exact r_zret hc dM_isFirstWhite_30 rfl ⟨by rw [decide_eq_true h]; rfl, rfl⟩
    · refine r_ic_ge_t hc dM_isFirstWhite_22 (tgt := 29) (by decide) ((ii_le (by omega) (by omega) (by omega) (by omega)).mpr (by omega)) ?_
      refine r_iconst hc dM_isFirstWhite_29 (nI 0) (by decide) ?_
      exact r_zret hc dM_isFirstWhite_30 rfl ⟨by rw [decide_eq_false h]; rfl, rfl⟩
theorem cM_clashes (l : Launch) (g : GG) (d : Nat) (w : Wd) (G : Nat → Nat → Ce) (n p : Nat) (b : Bool) (hR : MRep w G n) (hn : n ≤ 16) (hcl : w 48 4 = nI n) (hp : p < 12) : Con l g yM_clashes bM_clashes 5 ((some .int)) [] (d + 2) 0 0 [.ref (g.1 48), .int (nI p), .int (Int32.ofInt (ce_col b))] w (Rp (An (some (.int (nI (cla G n p (ce_col b))))) w)) := by
  intro X hl ha hm hk hn' hc
  subst hl
  have b1 := f_ba_le (G := G) n p
  have c1 := f_la_in (G := G) n p
  have c2 := f_lb_in (G := G) n p
  have cb : ce_col b = 1 ∨ ce_col b = -1 := by cases b <;> simp [ce_col]
  generalize ce_col b = c at cb ⊢
  have hend : ∀ a : Nat, a ≤ 1 → (if f_la G n p = c ∧ f_lb G n p = c then 1 else 0) = a → Go X g 0 0 (Fen X g 0 0 (Rp (An (some (.int (nI (cla G n p c)))) w))) w 25 [some (.ref (g.1 48)), some (.int (nI p)), some (.int (Int32.ofInt c)), none, none] [.int (nI a)] := by
    intro a ha1 ha2
    refine r_istore_n hc dM_clashes_25 (Nat.le_of_ble_eq_true rfl) ?_
    refine r_aload_n hc dM_clashes_26 rfl ?_
    refine r_iload_n hc dM_clashes_27 rfl ?_
    refine kM_74r hc dM_clashes_28 (cM_balanceOf _ g d w G n p hR hn hcl hp) (by omega) (Nat.le_of_ble_eq_true rfl) ?_
    rintro _ _ ⟨rfl, rfl⟩
    refine r_iload_n hc dM_clashes_31 rfl ?_
    refine r_iadd hc dM_clashes_32 ?_
    rw [← Int32.ofInt_add]
    refine r_istore hc dM_clashes_33 (Nat.le_of_ble_eq_true rfl) ?_
    refine r_iload hc dM_clashes_35 rfl ?_
    refine r_iconst hc dM_clashes_37 (nI 3) (by decide) ?_
    by_cases h3 : 3 ≤ f_ba G n p + c
    · refine r_ic_ge_t hc dM_clashes_38 (tgt := 48) (by decide) ((ii_le (a := 3) (by omega) (by omega) (by omega) (by omega)).mpr h3) ?_
      refine r_iload_n hc dM_clashes_48 rfl ?_
      refine r_iconst hc dM_clashes_49 (nI 1) (by decide) ?_
      refine r_iadd hc dM_clashes_50 ?_
      refine r_goto hc dM_clashes_51 (tgt := 55) (by decide) ?_
      rw [nI_add]
      exact r_iret hc dM_clashes_55 ⟨by rw [cla, ha2, if_pos (Or.inl h3)], rfl⟩
    · refine r_ic_ge_f hc dM_clashes_38 (tgt := 48) (by decide) (fun z => h3 ((ii_le (a := 3) (by omega) (by omega) (by omega) (by omega)).mp z)) ?_
      refine r_iload hc dM_clashes_41 rfl ?_
      refine r_bipush hc dM_clashes_43 (Int32.ofInt (-3)) (by decide) ?_
      by_cases h4 : f_ba G n p + c ≤ -3
      · refine r_ic_gt_f hc dM_clashes_45 (tgt := 54) (by decide) (fun z => by have z := (ii_lt (a := -3) (by omega) (by omega) (by omega) (by omega)).mp z; omega) ?_
        refine r_iload_n hc dM_clashes_48 rfl ?_
        refine r_iconst hc dM_clashes_49 (nI 1) (by decide) ?_
        refine r_iadd hc dM_clashes_50 ?_
        refine r_goto hc dM_clashes_51 (tgt := 55) (by decide) ?_
        rw [nI_add]
        exact r_iret hc dM_clashes_55 ⟨by rw [cla, ha2, if_pos (Or.inr h4)], rfl⟩
      · refine r_ic_gt_t hc dM_clashes_45 (tgt := 54) (by decide) ((ii_lt (a := -3) (by omega) (by omega) (by omega) (by omega)).mpr (by omega)) ?_
        refine r_iload_n hc dM_clashes_54 rfl ?_
        exact r_iret hc dM_clashes_55 ⟨by rw [cla, ha2, if_neg (by omega)]; rfl, rfl⟩
  refine r_aload_n hc dM_clashes_0 rfl ?_
  refine r_iload_n hc dM_clashes_1 rfl ?_
  refine r_iconst hc dM_clashes_2 (nI 0) (by decide) ?_
  refine kM_77r hc dM_clashes_3 (cM_colourOf0 _ g d w G n p hR hn hcl hp) (by omega) (Nat.le_of_ble_eq_true rfl) ?_
  rintro _ _ ⟨rfl, rfl⟩
  refine r_iload_n hc dM_clashes_6 rfl ?_
  by_cases h1 : f_la G n p = c
  · refine r_ic_ne_f hc dM_clashes_7 (tgt := 24) (by decide) (by rw [h1]) ?_
    refine r_aload_n hc dM_clashes_10 rfl ?_
    refine r_iload_n hc dM_clashes_11 rfl ?_
    refine r_iconst hc dM_clashes_12 (nI 1) (by decide) ?_
    refine kM_77r hc dM_clashes_13 (cM_colourOf1 _ g d w G n p hR hn hcl hp) (by omega) (Nat.le_of_ble_eq_true rfl) ?_
    rintro _ _ ⟨rfl, rfl⟩
    refine r_iload_n hc dM_clashes_16 rfl ?_
    by_cases h2 : f_lb G n p = c
    · refine r_ic_ne_f hc dM_clashes_17 (tgt := 24) (by decide) (by rw [h2]) ?_
      refine r_iconst hc dM_clashes_20 (nI 1) (by decide) ?_
      refine r_goto hc dM_clashes_21 (tgt := 25) (by decide) ?_
      exact hend 1 (by omega) (if_pos ⟨h1, h2⟩)
    · refine r_ic_ne_t hc dM_clashes_17 (tgt := 24) (by decide) (fun z => h2 ((ii_eq (by omega) (by omega) (by omega) (by omega)).mp z)) ?_
      refine r_iconst hc dM_clashes_24 (nI 0) (by decide) ?_
      exact hend 0 (by omega) (if_neg (fun z => h2 z.2))
  · refine r_ic_ne_t hc dM_clashes_7 (tgt := 24) (by decide) (fun z => h1 ((ii_eq (by omega) (by omega) (by omega) (by omega)).mp z)) ?_
    refine r_iconst hc dM_clashes_24 (nI 0) (by decide) ?_
    exact hend 0 (by omega) (if_neg (fun z => h1 z.1))
theorem cM_costOf (l : Launch) (g : GG) (d : Nat) (w : Wd) (G : Nat → Nat → Ce) (n p q : Nat) (hR : MRep w G n) (hT : GTold G n) (hn : n ≤ 16) (hcl : w 48 4 = nI n) (hp : p < 12) (hq : q < 12) (hs : f_sc G n q ≤ f_sc G n p) : Con l g yM_costOf bM_costOf 5 ((some .int)) [] (d + 3) 0 0 [.ref (g.1 48), .int (nI p), .int (nI q)] w (Rp (An (some (.int (nI (gco G n p q)))) w)) := by
  intro X hl ha hm hk hn' hc
  subst hl
  refine r_aload_n hc dM_costOf_0 rfl ?_
  refine r_iload_n hc dM_costOf_1 rfl ?_
  refine kM_70r hc dM_costOf_2 (cM_scoreOf _ g d w G n p hR hT hn hcl hp) (by omega) (Nat.le_of_ble_eq_true rfl) ?_
  rintro _ _ ⟨rfl, rfl⟩
  refine r_aload_n hc dM_costOf_5 rfl ?_
  refine r_iload_n hc dM_costOf_6 rfl ?_
  refine kM_70r hc dM_costOf_7 (cM_scoreOf _ g d w G n q hR hT hn hcl hq) (by omega) (Nat.le_of_ble_eq_true rfl) ?_
  rintro _ _ ⟨rfl, rfl⟩
  refine r_isub hc dM_costOf_10 ?_
  rw [pk_sub hs]
  refine r_istore_n hc dM_costOf_11 (Nat.le_of_ble_eq_true rfl) ?_
  refine r_aload_n hc dM_costOf_12 rfl ?_
  refine r_iload_n hc dM_costOf_13 rfl ?_
  refine r_iload_n hc dM_costOf_14 rfl ?_
  refine kM_81r hc dM_costOf_15 (cM_isFirstWhite _ g d w G n p q hR hn hcl hp hq) (by omega) (Nat.le_of_ble_eq_true rfl) ?_
  rintro _ _ ⟨rfl, rfl⟩
  have hend : Go X g 0 0 (Fen X g 0 0 (Rp (An (some (.int (nI (gco G n p q)))) w))) w 26 [some (.ref (g.1 48)), some (.int (nI p)), some (.int (nI q)), some (.int (nI (f_sc G n p - f_sc G n q))), none] [.int (Int32.ofInt (ce_col (fw G n p q)))] := by
    refine r_istore hc dM_costOf_26 (Nat.le_of_ble_eq_true rfl) ?_
    refine r_bipush hc dM_costOf_28 (nI 64) (by decide) ?_
    refine r_iload_n hc dM_costOf_30 rfl ?_
    refine r_imul hc dM_costOf_31 ?_
    refine r_iload_n hc dM_costOf_32 rfl ?_
    refine r_imul hc dM_costOf_33 ?_
    refine r_aload_n hc dM_costOf_34 rfl ?_
    refine r_iload_n hc dM_costOf_35 rfl ?_
    refine r_iload hc dM_costOf_36 rfl ?_
    refine kM_84r hc dM_costOf_38 (cM_clashes _ g d w G n p (fw G n p q) hR hn hcl hp) (by omega) (Nat.le_of_ble_eq_true rfl) ?_
    rintro _ _ ⟨rfl, rfl⟩
    refine r_iadd hc dM_costOf_41 ?_
    refine r_aload_n hc dM_costOf_42 rfl ?_
    refine r_iload_n hc dM_costOf_43 rfl ?_
    refine r_iload hc dM_costOf_44 rfl ?_
    refine r_ineg hc dM_costOf_46 ?_
    rw [show -Int32.ofInt (ce_col (fw G n p q)) = Int32.ofInt (ce_col (!fw G n p q)) by cases fw G n p q <;> decide]
    refine kM_84r hc dM_costOf_47 (cM_clashes _ g d w G n q (!fw G n p q) hR hn hcl hq) (by omega) (Nat.le_of_ble_eq_true rfl) ?_
    rintro _ _ ⟨rfl, rfl⟩
    refine r_iadd hc dM_costOf_50 ?_
    rw [pk_mul, pk_mul, nI_add, nI_add]
    exact r_iret hc dM_costOf_51 ⟨rfl, rfl⟩
  cases hb : fw G n p q with
  | true =>
    rw [hb] at hend
    refine r_if_eq_f hc dM_costOf_18 (tgt := 25) (by decide) (by decide) ?_
    refine r_iconst hc dM_costOf_21 (nI 1) (by decide) ?_
    refine r_goto hc dM_costOf_22 (tgt := 26) (by decide) ?_
    exact hend
  | false =>
    rw [hb] at hend
    refine r_if_eq_t hc dM_costOf_18 (tgt := 25) (by decide) rfl ?_
    refine r_iconst hc dM_costOf_25 (-1) (by decide) ?_
    exact hend
