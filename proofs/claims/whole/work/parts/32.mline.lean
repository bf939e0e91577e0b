/-! PairedFieldModel: who is in, the bye, the order -/
def oI : Option Nat → Int32
  | none => -1
  | some p => nI p
def f_in (inn : Nat → Bool) : Nat → Nat
  | 0 => 0
  | p + 1 => if inn p then f_in inn p + 1 else f_in inn p
def bet (G : Nat → Nat → Ce) (n p c : Nat) : Bool := decide (f_by G n p < f_by G n c) || (decide (f_by G n p = f_by G n c) && decide (f_sc G n p ≤ f_sc G n c))
/-- who has the bye, among the first players -/
def f_fb (G : Nat → Nat → Ce) (n : Nat) (inn : Nat → Bool) : Nat → Option Nat
  | 0 => none
  | p + 1 => if inn p then (match f_fb G n inn p with
    | none => some p
    | some c => if bet G n p c then some p else some c) else f_fb G n inn p
theorem f_fb_lt {G : Nat → Nat → Ce} {n : Nat} {inn : Nat → Bool} : ∀ {m c : Nat}, f_fb G n inn m = some c → c < m ∧ inn c = true
  | 0, c, h => by cases h
  | m + 1, c, h => by
    simp only [f_fb] at h
    split at h
    · rename_i hi
      split at h
      · have : m = c := by simpa using h
        subst this
        exact ⟨by omega, hi⟩
      · rename_i c2 h2
        split at h
        · have : m = c := by simpa using h
          subst this
          exact ⟨by omega, hi⟩
        · have : c2 = c := by simpa using h
          subst this
          have := f_fb_lt h2
          exact ⟨by omega, this.2⟩
    · have := f_fb_lt h
      exact ⟨by omega, this.2⟩
theorem f_in_le (inn : Nat → Bool) : ∀ m, f_in inn m ≤ m
  | 0 => Nat.le_refl _
  | m + 1 => by
    have := f_in_le inn m
    simp only [f_in]
    split <;> omega
def MIn (w : Wd) (inn : Nat → Bool) (m : Nat) : Prop := ∀ p, p < m → w 49 p = bI (inn p)
theorem cM_inMany (l : Launch) (g : GG) (d : Nat) (w : Wd) (inn : Nat → Bool) (m : Nat) (hI : MIn w inn m) (hm : m ≤ 12) (hpl : w 48 1 = nI m) : Con l g yM_inMany bM_inMany 3 ((some .int)) [] d 0 0 [.ref (g.1 48)] w (Rp (An (some (.int (nI (f_in inn m)))) w)) := by
  intro X hl ha hm' hk hn' hc
  subst hl
  refine r_iconst hc dM_inMany_0 (nI 0) (by decide) ?_
  refine r_istore_n hc dM_inMany_1 (Nat.le_of_ble_eq_true rfl) ?_
  refine r_iconst hc dM_inMany_2 (nI 0) (by decide) ?_
  refine r_istore_n hc dM_inMany_3 (Nat.le_of_ble_eq_true rfl) ?_
  refine lp_up (P := fun r => Go X g 0 0 _ w 4 [some (.ref (g.1 48)), some (.int (nI (f_in inn r))), some (.int (nI r))] []) (n := m) ?_ 0 (Nat.zero_le _)
  intro r hr ih
  refine r_iload_n hc dM_inMany_4 rfl ?_
  refine r_aload_n hc dM_inMany_5 rfl ?_
  refine gM_44 hc dM_inMany_6 ?_
  rw [hpl]
  refine r_ic_ge hc dM_inMany_9 (tgt := 35) (by decide) (fun h => ?_) (fun h => ?_)
  · have hr2 : r = m := by have := nle_to h (by omega) (by omega); omega
    subst hr2
    refine r_iload_n hc dM_inMany_35 rfl ?_
    exact r_iret hc dM_inMany_36 ⟨rfl, rfl⟩
  · have hr2 : r < m := nle_of h (by omega) (by omega)
    have ih := ih hr2
    refine r_aload_n hc dM_inMany_12 rfl ?_
    refine gM_7 hc dM_inMany_13 ?_
    refine r_iload_n hc dM_inMany_16 rfl ?_
    refine r_zaldN hc dM_inMany_17 rfl (by first | omega | (show _ < 12; omega) | (show _ < 204; omega) | (show _ < 144; omega) | (show _ < 2048; omega) | (show _ < 4096; omega) | (show _ < 16; omega)) ?_
    rw [hI r hr2]
    cases hi : inn r with
    | true =>
      simp only [f_in, hi, if_true, ← nI_add] at ih
      refine r_if_eq_f hc dM_inMany_18 (tgt := 27) (by decide) (by decide) ?_
      refine r_iload_n hc dM_inMany_21 rfl ?_
      refine r_iconst hc dM_inMany_22 (nI 1) (by decide) ?_
      refine r_iadd hc dM_inMany_23 ?_
      refine r_goto hc dM_inMany_24 (tgt := 28) (by decide) ?_
      refine r_istore_n hc dM_inMany_28 (Nat.le_of_ble_eq_true rfl) ?_
      refine r_iinc hc dM_inMany_29 rfl ?_
      refine r_goto hc dM_inMany_32 (tgt := 4) (by decide) ?_
      exact ih
    | false =>
      simp only [f_in, hi, Bool.false_eq_true, if_false, ← nI_add] at ih
      refine r_if_eq_t hc dM_inMany_18 (tgt := 27) (by decide) rfl ?_
      refine r_iload_n hc dM_inMany_27 rfl ?_
      refine r_istore_n hc dM_inMany_28 (Nat.le_of_ble_eq_true rfl) ?_
      refine r_iinc hc dM_inMany_29 rfl ?_
      refine r_goto hc dM_inMany_32 (tgt := 4) (by decide) ?_
      exact ih
theorem f_by_le {G : Nat → Nat → Ce} : ∀ (n p : Nat), f_by G n p ≤ n
  | 0, _ => Nat.le_refl _
  | n + 1, p => by
    have := f_by_le (G := G) n p
    simp only [f_by]
    split <;> omega
theorem nsub_lt {a b : Nat} (ha : a < 2 ^ 30) (hb : b < 2 ^ 30) : nI a - nI b < 0 ↔ a < b := by
  rw [Int32.lt_iff_toInt_lt, pk_sub_toInt ha hb, Int32.toInt_zero]
  omega
theorem nsub_gt {a b : Nat} (ha : a < 2 ^ 30) (hb : b < 2 ^ 30) : 0 < nI a - nI b ↔ b < a := by
  rw [Int32.lt_iff_toInt_lt, pk_sub_toInt ha hb, Int32.toInt_zero]
  omega
theorem nsub_z {a b : Nat} (ha : a < 2 ^ 30) (hb : b < 2 ^ 30) : nI a - nI b = 0 ↔ a = b := by
  rw [← Int32.toInt_inj, pk_sub_toInt ha hb, Int32.toInt_zero]
  omega
theorem f_sc_le2 {G : Nat → Nat → Ce} {n p : Nat} (hT : GTold G n) (hp : p < 12) : f_sc G n p ≤ 2 * n := by
  have key : ∀ r, r ≤ n → f_sc G r p ≤ 2 * r := by
    intro r
    induction r with
    | zero => intro _; exact Nat.le_refl _
    | succ r ih =>
      intro hr
      have h1 := ih (by omega)
      have : ce_pts (G r p) ≤ 2 := by
        rcases hg : G r p with _ | _ | ⟨q, b, k⟩
        · simp [ce_pts]
        · simp [ce_pts]
        · exact hT r (by omega) p hp q b k hg
      simp only [f_sc]
      omega
  exact key n (Nat.le_refl _)
theorem cM_findBye (l : Launch) (g : GG) (d : Nat) (w : Wd) (G : Nat → Nat → Ce) (n : Nat) (inn : Nat → Bool) (m : Nat) (hR : MRep w G n) (hT : GTold G n) (hn : n ≤ 16) (hcl : w 48 4 = nI n) (hI : MIn w inn m) (hm : m ≤ 12) (hpl : w 48 1 = nI m) : Con l g yM_findBye bM_findBye 6 ((some .int)) [] (d + 1) 0 0 [.ref (g.1 48)] w (Rp (An (some (.int (oI (f_fb G n inn m)))) w)) := by
  intro X hl ha hm' hk hn' hc
  subst hl
  refine r_iconst hc dM_findBye_0 (-1) (by decide) ?_
  refine r_istore_n hc dM_findBye_1 (Nat.le_of_ble_eq_true rfl) ?_
  refine r_iconst hc dM_findBye_2 (nI 0) (by decide) ?_
  refine r_istore_n hc dM_findBye_3 (Nat.le_of_ble_eq_true rfl) ?_
  refine lp_up (P := fun r => Go X g 0 0 _ w 4 [some (.ref (g.1 48)), some (.int (oI (f_fb G n inn r))), some (.int (nI r)), none, none, none] []) (n := m) ?_ 0 (Nat.zero_le _)
  intro r hr ih
  refine r_iload_n hc dM_findBye_4 rfl ?_
  refine r_aload_n hc dM_findBye_5 rfl ?_
  refine gM_44 hc dM_findBye_6 ?_
  rw [hpl]
  refine r_ic_ge hc dM_findBye_9 (tgt := 107) (by decide) (fun h => ?_) (fun h => ?_)
  · have hr2 : r = m := by have := nle_to h (by omega) (by omega); omega
    subst hr2
    refine r_iload_n hc dM_findBye_107 rfl ?_
    exact r_iret hc dM_findBye_108 ⟨rfl, rfl⟩
  · have hr2 : r < m := nle_of h (by omega) (by omega)
    have ih := ih hr2
    have hir := hI r hr2
    refine r_iload_n hc dM_findBye_12 rfl ?_
    cases hi : inn r with
    | false =>
      simp only [f_fb, hi, Bool.false_eq_true, if_false, ← nI_add] at ih
      rw [hi] at hir
      have hend : ∀ v : Int32, Go X g 0 0 (Fen X g 0 0 (Rp (An (some (.int (oI (f_fb G n inn m)))) w))) w 21 [some (.ref (g.1 48)), some (.int (oI (f_fb G n inn r))), some (.int (nI r)), none, none, none] [.int v] := by
        intro v
        refine r_istore_n hc dM_findBye_21 (Nat.le_of_ble_eq_true rfl) ?_
        refine r_aload_n hc dM_findBye_22 rfl ?_
        refine gM_7 hc dM_findBye_23 ?_
        refine r_iload_n hc dM_findBye_26 rfl ?_
        refine r_zaldN hc dM_findBye_27 rfl (by first | omega | (show _ < 12; omega) | (show _ < 204; omega) | (show _ < 144; omega) | (show _ < 2048; omega) | (show _ < 4096; omega) | (show _ < 16; omega)) ?_
        rw [hir]
        refine r_if_eq_t hc dM_findBye_28 (tgt := 82) (by decide) rfl ?_
        refine r_aload_n hc dM_findBye_82 rfl ?_
        refine gM_7 hc dM_findBye_83 ?_
        refine r_iload_n hc dM_findBye_86 rfl ?_
        refine r_zaldN hc dM_findBye_87 rfl (by first | omega | (show _ < 12; omega) | (show _ < 204; omega) | (show _ < 144; omega) | (show _ < 2048; omega) | (show _ < 4096; omega) | (show _ < 16; omega)) ?_
        rw [hir]
        refine r_if_eq_t hc dM_findBye_88 (tgt := 99) (by decide) rfl ?_
        refine r_iload_n hc dM_findBye_99 rfl ?_
        refine r_istore_n hc dM_findBye_100 (Nat.le_of_ble_eq_true rfl) ?_
        refine r_iinc hc dM_findBye_101 rfl ?_
        refine r_goto hc dM_findBye_104 (tgt := 4) (by decide) ?_
        refine Go.drop 3 ?_
        exact ih
      refine r_if_ge hc dM_findBye_13 (tgt := 20) (by decide) (fun h9 => ?_) (fun h9 => ?_)
      · refine r_iconst hc dM_findBye_20 (nI 0) (by decide) ?_
        exact hend _
      · refine r_iconst hc dM_findBye_16 (nI 1) (by decide) ?_
        refine r_goto hc dM_findBye_17 (tgt := 21) (by decide) ?_
        exact hend _
    | true =>
      rw [hi] at hir
      cases hf : f_fb G n inn r with
      | none =>
        simp only [f_fb, hi, if_true, hf, oI, ← nI_add] at ih
        refine r_if_ge_f hc dM_findBye_13 (tgt := 20) (by decide) (by decide) ?_
        refine r_iconst hc dM_findBye_16 (nI 1) (by decide) ?_
        refine r_goto hc dM_findBye_17 (tgt := 21) (by decide) ?_
        refine r_istore_n hc dM_findBye_21 (Nat.le_of_ble_eq_true rfl) ?_
        refine r_aload_n hc dM_findBye_22 rfl ?_
        refine gM_7 hc dM_findBye_23 ?_
        refine r_iload_n hc dM_findBye_26 rfl ?_
        refine r_zaldN hc dM_findBye_27 rfl (by first | omega | (show _ < 12; omega) | (show _ < 204; omega) | (show _ < 144; omega) | (show _ < 2048; omega) | (show _ < 4096; omega) | (show _ < 16; omega)) ?_
        rw [hir]
        refine r_if_eq_f hc dM_findBye_28 (tgt := 82) (by decide) (by decide) ?_
        refine r_iload_n hc dM_findBye_31 rfl ?_
        refine r_if_lt_t hc dM_findBye_32 (tgt := 82) (by decide) (by decide) ?_
        refine r_aload_n hc dM_findBye_82 rfl ?_
        refine gM_7 hc dM_findBye_83 ?_
        refine r_iload_n hc dM_findBye_86 rfl ?_
        refine r_zaldN hc dM_findBye_87 rfl (by first | omega | (show _ < 12; omega) | (show _ < 204; omega) | (show _ < 144; omega) | (show _ < 2048; omega) | (show _ < 4096; omega) | (show _ < 16; omega)) ?_
        rw [hir]
        refine r_if_eq_f hc dM_findBye_88 (tgt := 99) (by decide) (by decide) ?_
        refine r_iload_n hc dM_findBye_91 rfl ?_
        refine r_if_eq_f hc dM_findBye_92 (tgt := 99) (by decide) (by decide) ?_
        refine r_iload_n hc dM_findBye_95 rfl ?_
        refine r_goto hc dM_findBye_96 (tgt := 100) (by decide) ?_
        refine r_istore_n hc dM_findBye_100 (Nat.le_of_ble_eq_true rfl) ?_
        refine r_iinc hc dM_findBye_101 rfl ?_
        refine r_goto hc dM_findBye_104 (tgt := 4) (by decide) ?_
        refine Go.drop 3 ?_
        exact ih
      | some c =>
        have hc1 := f_fb_lt hf
        have l1 := f_by_le (G := G) n r
        have l2 := f_by_le (G := G) n c
        have l3 := f_sc_le2 (p := r) hT (by omega)
        have l4 := f_sc_le2 (p := c) hT (by omega)
        simp only [oI]
        refine r_if_ge_t hc dM_findBye_13 (tgt := 20) (by decide) (nI_pos' (by omega)) ?_
        refine r_iconst hc dM_findBye_20 (nI 0) (by decide) ?_
        refine r_istore_n hc dM_findBye_21 (Nat.le_of_ble_eq_true rfl) ?_
        refine r_aload_n hc dM_findBye_22 rfl ?_
        refine gM_7 hc dM_findBye_23 ?_
        refine r_iload_n hc dM_findBye_26 rfl ?_
        refine r_zaldN hc dM_findBye_27 rfl (by first | omega | (show _ < 12; omega) | (show _ < 204; omega) | (show _ < 144; omega) | (show _ < 2048; omega) | (show _ < 4096; omega) | (show _ < 16; omega)) ?_
        rw [hir]
        refine r_if_eq_f hc dM_findBye_28 (tgt := 82) (by decide) (by decide) ?_
        refine r_iload_n hc dM_findBye_31 rfl ?_
        refine r_if_lt_f hc dM_findBye_32 (tgt := 82) (by decide) (nI_pos (by omega)) ?_
        refine r_aload_n hc dM_findBye_35 rfl ?_
        refine r_iload_n hc dM_findBye_36 rfl ?_
        refine kM_87r hc dM_findBye_37 (cM_byesOf _ g d w G n r hR hn hcl (by omega)) (Nat.le_refl _) (Nat.le_of_ble_eq_true rfl) ?_
        rintro _ _ ⟨rfl, rfl⟩
        refine r_aload_n hc dM_findBye_40 rfl ?_
        refine r_iload_n hc dM_findBye_41 rfl ?_
        refine kM_87r hc dM_findBye_42 (cM_byesOf _ g d w G n c hR hn hcl (by omega)) (Nat.le_refl _) (Nat.le_of_ble_eq_true rfl) ?_
        rintro _ _ ⟨rfl, rfl⟩
        refine r_isub hc dM_findBye_45 ?_
        refine r_istore hc dM_findBye_46 (Nat.le_of_ble_eq_true rfl) ?_
        refine r_aload_n hc dM_findBye_48 rfl ?_
        refine r_iload_n hc dM_findBye_49 rfl ?_
        refine kM_70r hc dM_findBye_50 (cM_scoreOf _ g d w G n r hR hT hn hcl (by omega)) (Nat.le_refl _) (Nat.le_of_ble_eq_true rfl) ?_
        rintro _ _ ⟨rfl, rfl⟩
        refine r_aload_n hc dM_findBye_53 rfl ?_
        refine r_iload_n hc dM_findBye_54 rfl ?_
        refine kM_70r hc dM_findBye_55 (cM_scoreOf _ g d w G n c hR hT hn hcl (by omega)) (Nat.le_refl _) (Nat.le_of_ble_eq_true rfl) ?_
        rintro _ _ ⟨rfl, rfl⟩
        refine r_isub hc dM_findBye_58 ?_
        refine r_istore hc dM_findBye_59 (Nat.le_of_ble_eq_true rfl) ?_
        refine r_iload hc dM_findBye_61 rfl ?_
        have hyes : bet G n r c = true → Go X g 0 0 (Fen X g 0 0 (Rp (An (some (.int (oI (f_fb G n inn m)))) w))) w 76 [some (.ref (g.1 48)), some (.int (nI c)), some (.int (nI r)), none, none, none] [] := by
          intro hb
          simp only [f_fb, hi, if_true, hf, hb, oI, ← nI_add] at ih
          refine r_iconst hc dM_findBye_76 (nI 1) (by decide) ?_
          refine r_goto hc dM_findBye_77 (tgt := 81) (by decide) ?_
          refine r_istore_n hc dM_findBye_81 (Nat.le_of_ble_eq_true rfl) ?_
          refine r_aload_n hc dM_findBye_82 rfl ?_
          refine gM_7 hc dM_findBye_83 ?_
          refine r_iload_n hc dM_findBye_86 rfl ?_
          refine r_zaldN hc dM_findBye_87 rfl (by first | omega | (show _ < 12; omega) | (show _ < 204; omega) | (show _ < 144; omega) | (show _ < 2048; omega) | (show _ < 4096; omega) | (show _ < 16; omega)) ?_
          rw [hir]
          refine r_if_eq_f hc dM_findBye_88 (tgt := 99) (by decide) (by decide) ?_
          refine r_iload_n hc dM_findBye_91 rfl ?_
          refine r_if_eq_f hc dM_findBye_92 (tgt := 99) (by decide) (by decide) ?_
          refine r_iload_n hc dM_findBye_95 rfl ?_
          refine r_goto hc dM_findBye_96 (tgt := 100) (by decide) ?_
          refine r_istore_n hc dM_findBye_100 (Nat.le_of_ble_eq_true rfl) ?_
          refine r_iinc hc dM_findBye_101 rfl ?_
          refine r_goto hc dM_findBye_104 (tgt := 4) (by decide) ?_
          refine Go.drop 3 ?_
          exact ih
        have hno : bet G n r c = false → Go X g 0 0 (Fen X g 0 0 (Rp (An (some (.int (oI (f_fb G n inn m)))) w))) w 80 [some (.ref (g.1 48)), some (.int (nI c)), some (.int (nI r)), none, none, none] [] := by
          intro hb
          simp only [f_fb, hi, if_true, hf, hb, Bool.false_eq_true, if_false, oI, ← nI_add] at ih
          refine r_iconst hc dM_findBye_80 (nI 0) (by decide) ?_
          refine r_istore_n hc dM_findBye_81 (Nat.le_of_ble_eq_true rfl) ?_
          refine r_aload_n hc dM_findBye_82 rfl ?_
          refine gM_7 hc dM_findBye_83 ?_
          refine r_iload_n hc dM_findBye_86 rfl ?_
          refine r_zaldN hc dM_findBye_87 rfl (by first | omega | (show _ < 12; omega) | (show _ < 204; omega) | (show _ < 144; omega) | (show _ < 2048; omega) | (show _ < 4096; omega) | (show _ < 16; omega)) ?_
          rw [hir]
          refine r_if_eq_f hc dM_findBye_88 (tgt := 99) (by decide) (by decide) ?_
          refine r_iload_n hc dM_findBye_91 rfl ?_
          refine r_if_eq_t hc dM_findBye_92 (tgt := 99) (by decide) rfl ?_
          refine r_iload_n hc dM_findBye_99 rfl ?_
          refine r_istore_n hc dM_findBye_100 (Nat.le_of_ble_eq_true rfl) ?_
          refine r_iinc hc dM_findBye_101 rfl ?_
          refine r_goto hc dM_findBye_104 (tgt := 4) (by decide) ?_
          refine Go.drop 3 ?_
          exact ih
        by_cases h1 : f_by G n r < f_by G n c
        · refine r_if_lt_t hc dM_findBye_63 (tgt := 76) (by decide) ((nsub_lt (by omega) (by omega)).mpr h1) ?_
          refine Go.drop 3 (Go.drop 4 (Go.drop 5 ?_))
          exact hyes (by simp [bet, h1])
        · refine r_if_lt_f hc dM_findBye_63 (tgt := 76) (by decide) (fun z => h1 ((nsub_lt (by omega) (by omega)).mp z)) ?_
          refine r_iload hc dM_findBye_66 rfl ?_
          by_cases h2 : f_by G n r = f_by G n c
          · refine r_if_ne_f hc dM_findBye_68 (tgt := 80) (by decide) ((nsub_z (by omega) (by omega)).mpr h2) ?_
            refine r_iload hc dM_findBye_71 rfl ?_
            by_cases h3 : f_sc G n r ≤ f_sc G n c
            · refine r_if_gt_f hc dM_findBye_73 (tgt := 80) (by decide) (fun z => by have := (nsub_gt (by omega) (by omega)).mp z; omega) ?_
              refine Go.drop 3 (Go.drop 4 (Go.drop 5 ?_))
              exact hyes (by simp [bet, h2, h3])
            · refine r_if_gt_t hc dM_findBye_73 (tgt := 80) (by decide) ((nsub_gt (by omega) (by omega)).mpr (by omega)) ?_
              refine Go.drop 3 (Go.drop 4 (Go.drop 5 ?_))
              exact hno (by simp [bet, h2, h3])
          · refine r_if_ne_t hc dM_findBye_68 (tgt := 80) (by decide) (fun z => h2 ((nsub_z (by omega) (by omega)).mp z)) ?_
            refine Go.drop 3 (Go.drop 4 (Go.drop 5 ?_))
            exact hno (by simp [bet, h1, h2])
