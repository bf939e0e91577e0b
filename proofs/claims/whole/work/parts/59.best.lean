/-! PairedField.Pairing: the best partner, the round's row -/
theorem dp_min {cst : Nat → Nat → Option Nat} {B Y : Nat → Nat} {S f : Nat} : ∀ t j c, j < t → f < j → S.testBit j = true → cst f j = some c → (dp cst B Y S f t).1 ≤ c + B (clr (clr S f) j)
  | 0, j, c, h, _, _, _ => absurd h (Nat.not_lt_zero _)
  | t + 1, j, c, h, h1, h2, h3 => by
    have ih := dp_min (cst := cst) (B := B) (Y := Y) (S := S) (f := f) t j c
    by_cases hj : j = t
    · subst hj
      simp only [dp, if_pos (show f < j ∧ S.testBit j = true from ⟨h1, h2⟩), h3]
      split
      · exact Nat.le_refl _
      · show (dp cst B Y S f j).1 ≤ _
        omega
    · have ih := ih (by omega) h1 h2 h3
      cases hx : (if f < t ∧ S.testBit t = true then cst f t else none) with
      | none => simp only [dp, hx]; exact ih
      | some c2 =>
        simp only [dp, hx]
        split
        · show c2 + _ ≤ _
          omega
        · exact ih
theorem dp_first {cst : Nat → Nat → Option Nat} {B Y : Nat → Nat} {S f : Nat} : ∀ t j0 j c, (dp cst B Y S f t).2.1 = some j0 → j < j0 → f < j → S.testBit j = true → cst f j = some c → (dp cst B Y S f t).1 < c + B (clr (clr S f) j)
  | 0, j0, j, c, h, _, _, _, _ => by cases h
  | t + 1, j0, j, c, h, hj, h1, h2, h3 => by
    have ih := dp_first (cst := cst) (B := B) (Y := Y) (S := S) (f := f) t j0 j c
    cases hx : (if f < t ∧ S.testBit t = true then cst f t else none) with
    | none =>
      simp only [dp, hx] at h ⊢
      exact ih h hj h1 h2 h3
    | some c2 =>
      simp only [dp, hx] at h ⊢
      by_cases hlt : c2 + B (clr (clr S f) t) < (dp cst B Y S f t).1
      · rw [if_pos hlt] at h ⊢
        have : t = j0 := by simpa using h
        subst this
        have := dp_min (cst := cst) (B := B) (Y := Y) (S := S) (f := f) t j c hj h1 h2 h3
        show c2 + _ < _
        omega
      · rw [if_neg hlt] at h ⊢
        exact ih h hj h1 h2 h3
set_option maxHeartbeats 1000000 in
theorem cP_bestPartner (l : Launch) (g : GG) (d : Nat) (w : Wd) (m S : Nat) (cst : Nat → Nat → Option Nat) (hm : m ≤ 12) (hs : w 31 1 = nI m) (hcb : ∀ a b c, cst a b = some c → c ≤ 65540) (hP : ∀ a b, a < b → b < m → w (34 + a) b = prI (cst a b)) (h0 : 0 < S) (hT : Tok m S) (hD : DpI w cst m (nSets m)) (hlt : (sol cst m S).1 < dpE) : Con l g yP_bestPartner bP_bestPartner 5 ((some .int)) [] (d + 1) 0 0 [.ref (g.1 31), .int (nI S), .int (nI (lowb S))] w (Rp (An (some (.int (nI ((sol cst m S).2.1.getD 0)))) w)) := by
  intro X hl ha hm' hk hn' hc
  subst hl
  have h12 := pow12 hm
  have hS : S < 4096 := Nat.lt_of_lt_of_le hT.2.1 h12
  obtain ⟨l1, l2, l3⟩ := lowb_spec h0 hS
  have hlm := bit_lt l1 hT.2.1
  obtain ⟨j0, c0, p1, p2, p3, p4, p5, p6⟩ := sol_pick h0 hS hlt
  obtain ⟨s1, s2⟩ := hD S hT (half_lt hT.2.1)
  have scnt := sol_cnt (cst := cst) (m := m) hm hcb hS
  have s2 : w 46 (S / 2) = nI (sol cst m S).1 := s2 (by
    rcases scnt with h | h
    · omega
    · exact h.2.1)
  have sle : (sol cst m S).1 ≤ 393240 := by
    rcases scnt with h | h
    · omega
    · exact h.1
  rw [p1]
  obtain ⟨Q, hQ⟩ : ∃ Q, Q = Fen X g 0 0 (Rp (An (some (.int (nI ((some j0).getD 0)))) w)) := ⟨_, rfl⟩
  rw [← hQ]
  refine r_iload_n hc dP_bestPartner_0 rfl ?_
  refine r_iconst hc dP_bestPartner_1 (nI 1) (by decide) ?_
  refine r_iadd hc dP_bestPartner_2 ?_
  rw [nI_add]
  refine r_istore_n hc dP_bestPartner_3 (Nat.le_of_ble_eq_true rfl) ?_
  have hgen : ∀ t, t ≤ j0 → lowb S + 1 ≤ t → Go X g 0 0 Q w 4 [some (.ref (g.1 31)), some (.int (nI S)), some (.int (nI (lowb S))), some (.int (nI t)), none] [] := by
    refine lp_up (P := fun t => lowb S + 1 ≤ t → Go X g 0 0 Q w 4 [some (.ref (g.1 31)), some (.int (nI S)), some (.int (nI (lowb S))), some (.int (nI t)), none] []) ?_
    intro t ht ih hlt2
    have ht2 : t < m := by omega
    simp only [← nI_add] at ih
    refine r_iload_n hc dP_bestPartner_4 rfl ?_
    refine r_aload_n hc dP_bestPartner_5 rfl ?_
    refine gP_44 hc dP_bestPartner_6 ?_
    rw [hs]
    refine r_ic_ge_f hc dP_bestPartner_9 (tgt := 79) (by decide) (nI_ge ht2 (by omega)) ?_
    refine r_iload_n hc dP_bestPartner_12 rfl ?_
    refine r_iload_n hc dP_bestPartner_13 rfl ?_
    refine r_iload_n hc dP_bestPartner_14 rfl ?_
    refine kP_87r hc dP_bestPartner_15 (cP_without _ g d w S (lowb S) t (by omega) (by omega)) (by omega) (Nat.le_of_ble_eq_true rfl) ?_
    rintro _ _ ⟨rfl, rfl⟩
    have hcl : clr (clr S (lowb S)) t ≤ S := Nat.le_trans (clr_le _ _) (clr_le _ _)
    refine kP_54r hc dP_bestPartner_18 (cP_indexOf _ g d w _ (by omega)) (by omega) (Nat.le_of_ble_eq_true rfl) ?_
    rintro _ _ ⟨rfl, rfl⟩
    refine r_istore hc dP_bestPartner_21 (Nat.le_of_ble_eq_true rfl) ?_
    refine r_aload_n hc dP_bestPartner_23 rfl ?_
    refine r_iload_n hc dP_bestPartner_24 rfl ?_
    refine r_iload_n hc dP_bestPartner_25 rfl ?_
    refine r_iload_n hc dP_bestPartner_26 rfl ?_
    refine kP_118r hc dP_bestPartner_27 (cP_mayPlay _ g d w m S (lowb S) t cst hm hS (by omega) ht2 hcb hP) (by omega) (Nat.le_of_ble_eq_true rfl) ?_
    rintro _ _ ⟨rfl, rfl⟩
    have hskip : t ≠ j0 → Go X g 0 0 Q w 73 [some (.ref (g.1 31)), some (.int (nI S)), some (.int (nI (lowb S))), some (.int (nI t)), some (.int (nI (clr (clr S (lowb S)) t / 2)))] [] := by
      intro hne
      refine r_iinc hc dP_bestPartner_73 rfl ?_
      refine r_goto hc dP_bestPartner_76 (tgt := 4) (by decide) ?_
      refine Go.drop 4 ?_
      exact ih (by omega) (by omega)
    cases hb : S.testBit t with
    | false =>
      refine r_if_eq_t hc dP_bestPartner_30 (tgt := 73) (by decide) rfl ?_
      exact hskip (fun z => by rw [z, p4] at hb; cases hb)
    | true =>
      cases hcs : cst (lowb S) t with
      | none =>
        refine r_if_eq_t hc dP_bestPartner_30 (tgt := 73) (by decide) rfl ?_
        exact hskip (fun z => by rw [z, p5] at hcs; cases hcs)
      | some c =>
        have hcc := hcb _ _ _ hcs
        obtain ⟨r1, r2, -⟩ := hT.rest hm h0 (by omega) hb
        obtain ⟨d1, d2⟩ := hD _ r1 (half_lt r1.2.1)
        refine r_if_eq_f hc dP_bestPartner_30 (tgt := 73) (by decide) (show ¬ bI true = 0 by decide) ?_
        refine r_aload_n hc dP_bestPartner_33 rfl ?_
        refine gP_27 hc dP_bestPartner_34 ?_
        refine r_iload hc dP_bestPartner_37 rfl ?_
        refine r_ialdN hc dP_bestPartner_39 rfl (by first | omega | (show _ < 12; omega) | (show _ < 204; omega) | (show _ < 144; omega) | (show _ < 2048; omega) | (show _ < 4096; omega) | (show _ < 16; omega)) ?_
        rw [d1]
        rcases sol_cnt (cst := cst) (m := m) (S := clr (clr S (lowb S)) t) hm hcb (by omega) with ⟨y1, y2⟩ | ⟨y1, y2, y3⟩
        · rw [y2]
          refine r_if_le_t hc dP_bestPartner_40 (tgt := 73) (by decide) (by decide) ?_
          refine hskip (fun z => ?_)
          rw [z] at y1
          rw [y1] at p6
          omega
        · have d2 := d2 y2
          refine r_if_le_f hc dP_bestPartner_40 (tgt := 73) (by decide) (nI_ge (a := 0) y2 (by omega)) ?_
          refine r_aload_n hc dP_bestPartner_43 rfl ?_
          refine gP_21 hc dP_bestPartner_44 ?_
          refine r_iload_n hc dP_bestPartner_47 rfl ?_
          refine r_aaldN hc dP_bestPartner_48 rfl (by first | omega | (show _ < 12; omega) | (show _ < 204; omega) | (show _ < 144; omega) | (show _ < 2048; omega) | (show _ < 4096; omega) | (show _ < 16; omega)) ?_
          refine r_iload_n hc dP_bestPartner_49 rfl ?_
          rw [show (33 + 1 + lowb S : Nat) = 34 + lowb S by omega]
          refine r_ialdN hc dP_bestPartner_50 rfl (lenPr (by omega) (by omega)) ?_
          rw [hP (lowb S) t (by omega) ht2, hcs]
          refine r_aload_n hc dP_bestPartner_51 rfl ?_
          refine gP_24 hc dP_bestPartner_52 ?_
          refine r_iload hc dP_bestPartner_55 rfl ?_
          refine r_ialdN hc dP_bestPartner_57 rfl (by first | omega | (show _ < 12; omega) | (show _ < 204; omega) | (show _ < 144; omega) | (show _ < 2048; omega) | (show _ < 4096; omega) | (show _ < 16; omega)) ?_
          rw [d2]
          change Go X g 0 0 Q w 58 _ [.int (nI (sol cst m (clr (clr S (lowb S)) t)).1), .int (nI c)]
          refine r_iadd hc dP_bestPartner_58 ?_
          rw [nI_add]
          refine r_aload_n hc dP_bestPartner_59 rfl ?_
          refine gP_24 hc dP_bestPartner_60 ?_
          refine r_iload_n hc dP_bestPartner_63 rfl ?_
          refine kP_54r hc dP_bestPartner_64 (cP_indexOf _ g d w S hS) (by omega) (Nat.le_of_ble_eq_true rfl) ?_
          rintro _ _ ⟨rfl, rfl⟩
          refine r_ialdN hc dP_bestPartner_67 rfl (by first | omega | (show _ < 12; omega) | (show _ < 204; omega) | (show _ < 144; omega) | (show _ < 2048; omega) | (show _ < 4096; omega) | (show _ < 16; omega)) ?_
          rw [s2]
          by_cases htj : t = j0
          · subst htj
            have hcc0 : c = c0 := by rw [hcs] at p5; exact Option.some.inj p5
            subst hcc0
            refine r_ic_ne_f hc dP_bestPartner_68 (tgt := 73) (by decide) (by rw [p6]) ?_
            refine r_iload_n hc dP_bestPartner_71 rfl ?_
            subst hQ
            exact r_iret hc dP_bestPartner_72 ⟨rfl, rfl⟩
          · have hfst : (sol cst m S).1 < c + (sol cst m (clr (clr S (lowb S)) t)).1 := by
              rw [sol_eq cst m h0 hS] at p1 ⊢
              exact dp_first m j0 t c p1 (by omega) (by omega) hb hcs
            refine r_ic_ne_t hc dP_bestPartner_68 (tgt := 73) (by decide) (fun z => by rw [nI_eq (by omega) (by omega)] at z; omega) ?_
            exact hskip htj
  exact hgen (lowb S + 1) (by omega) (Nat.le_refl _)
theorem unto_all : ∀ q, q < 12 → ∀ b : Bool, unto (nI q) (Int32.ofInt (ce_col b)) = ce_code (some (some (q, b, 3))) := by decide +kernel
theorem neg_col (b : Bool) : -Int32.ofInt (ce_col b) = Int32.ofInt (ce_col (!b)) := by cases b <;> decide
section RST
variable {G : Nat → Nat → Ce} {n : Nat} {ap : Nat → Nat → Bool} {i : Nat → Bool}
theorem rs_skip : ∀ k a, (∀ b, a ≤ b → b < a + k → (rsT G n ap i 12 a).1.testBit b = false) → rsT G n ap i 12 (a + k) = rsT G n ap i 12 a
  | 0, _, _ => rfl
  | k + 1, a, h => by
    have ih := rs_skip k a (fun b h1 h2 => h b h1 (by omega))
    show rsT G n ap i 12 (a + k + 1) = _
    simp only [rsT]
    rw [ih, h (a + k) (by omega) (by omega)]
    simp
/-- so far: the set that is left can be left, and the games are counted -/
theorem rs_ok (hT : GTold G n) (hn : n ≤ 16) (hcan : (solT G n ap i 12 (topS G n i 12)).1 < dpE) : ∀ a, Tok (ordOf G n i 12).length (rsT G n ap i 12 a).1 ∧ pop (rsT G n ap i 12 a).1 + 2 * (rsT G n ap i 12 a).2.2 = (ordOf G n i 12).length
  | 0 => by
    have hl := ord_len G n i
    have he := (ord_even (G := G) (i := i) (m := 12) hT hn (Nat.le_refl _)).1
    refine ⟨top_Tok hl he, ?_⟩
    show pop (2 ^ (ordOf G n i 12).length - 1) + 2 * 0 = _
    generalize (ordOf G n i 12).length = m at hl he
    have : m = 0 ∨ m = 2 ∨ m = 4 ∨ m = 6 ∨ m = 8 ∨ m = 10 ∨ m = 12 := by omega
    rcases this with h | h | h | h | h | h | h <;> subst h <;> decide
  | a + 1 => by
    have hl := ord_len G n i
    obtain ⟨h1, h2⟩ := rs_ok hT hn hcan a
    obtain ⟨r1, r2, r3⟩ := rsT_ok (G := G) (n := n) (ap := ap) (inn := i) (m := 12) (Nat.le_refl _) hcan a
    simp only [rsT]
    cases hb : (rsT G n ap i 12 a).1.testBit a with
    | false => simp only [Bool.false_eq_true, if_false]; exact ⟨h1, h2⟩
    | true =>
      simp only [if_true]
      have hS : (rsT G n ap i 12 a).1 < 4096 := Nat.lt_of_lt_of_le r1 (pow12 hl)
      have h0 : 0 < (rsT G n ap i 12 a).1 := Nat.pos_of_ne_zero (fun z => by rw [z] at hb; simp at hb)
      obtain ⟨l1, l2, l3⟩ := lowb_spec h0 hS
      have hla : lowb (rsT G n ap i 12 a).1 = a := by
        rcases Nat.lt_trichotomy (lowb (rsT G n ap i 12 a).1) a with q | q | q
        · rw [r3 _ q] at l1; cases l1
        · exact q
        · rw [l3 a q] at hb; cases hb
      obtain ⟨j, c, p1, p2, p3, p4, p5, p6⟩ := sol_pick h0 hS r2
      have hg : (solT G n ap i 12 (rsT G n ap i 12 a).1).2.1.getD 0 = j := by
        show (sol _ _ _).2.1.getD 0 = j
        rw [p1]; rfl
      rw [hg]
      obtain ⟨t1, -, t3⟩ := h1.rest hl h0 p3 p4
      rw [hla] at t1
      have hp := pop_clr2 (S := (rsT G n ap i 12 a).1) (f := a) (j := j) (by omega) (by omega) (by omega) hb p4
      exact ⟨t1, by omega⟩
end RST
