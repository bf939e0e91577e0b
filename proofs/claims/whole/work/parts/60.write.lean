/-! PairedField.Pairing: the round's row is written -/
theorem pop_0 {S : Nat} (h : S < 4096) (hp : pop S = 0) : S = 0 := by
  rcases Nat.eq_zero_or_pos S with q | q
  · exact q
  · obtain ⟨l1, l2, -⟩ := lowb_spec q h
    have := pop_clr l2 l1
    omega
theorem lenRow {n : Nat} (hn : n < 16) : lenI (2 + n) = 12 := by
  have : ∀ r, r < 16 → lenI (2 + r) = 12 := by decide
  exact this n hn
theorem newGames_half {G : Nat → Nat → Ce} {n : Nat} {ap : Nat → Nat → Bool} {i : Nat → Bool} (hT : GTold G n) (hn : n ≤ 16) (hcan : (solT G n ap i 12 (topS G n i 12)).1 < dpE) : newGames G n ap i 12 = (ordOf G n i 12).length / 2 := by
  have hl := ord_len G n i
  obtain ⟨h1, h2⟩ := rs_ok hT hn hcan (ordOf G n i 12).length
  obtain ⟨r1, r2, r3⟩ := rsT_ok (G := G) (n := n) (ap := ap) (inn := i) (m := 12) (Nat.le_refl _) hcan (ordOf G n i 12).length
  have hS : (rsT G n ap i 12 (ordOf G n i 12).length).1 < 4096 := Nat.lt_of_lt_of_le r1 (pow12 hl)
  have h0 : (rsT G n ap i 12 (ordOf G n i 12).length).1 = 0 := by
    rcases Nat.eq_zero_or_pos (rsT G n ap i 12 (ordOf G n i 12).length).1 with q | q
    · exact q
    · obtain ⟨l1, -, -⟩ := lowb_spec q hS
      have := bit_lt l1 r1
      rw [r3 _ this] at l1
      cases l1
  rw [h0] at h2
  have : pop 0 = 0 := by decide
  unfold newGames
  omega
theorem byes_in {G : Nat → Nat → Ce} {n : Nat} {i : Nat → Bool} {c : Nat} (h : byeOf G n i 12 = some c) : c < 12 := byeOf_lt h
set_option maxHeartbeats 2000000 in
theorem cP_writeTo (l : Launch) (g : GG) (d : Nat) (w : Wd) (G : Nat → Nat → Ce) (n : Nat) (ap : Nat → Nat → Bool) (i : Nat → Bool) (hS : SRep w G n) (hT : GTold G n) (hn : n < 16) (hW : WkC w G n ap i) (hcan : (solT G n ap i 12 (topS G n i 12)).1 < dpE) : Con l g yP_writeTo bP_writeTo 11 ((none : Option Jvm.ClassFile.FieldType)) [] (d + 2) 0 0 [.ref (g.1 31), .ref (g.1 (2 + n)), .ref (g.1 20), .int (nI n)] w (Rp (fun v w' => v = none ∧ (∀ p, p < 12 → w' (2 + n) p = ce_code (newRow G n ap i 12 p)) ∧ ∀ k, k ≠ 2 + n → w' k = w k)) := by
  intro X hl ha hm' hk hn' hc
  subst hl
  have hlen := ord_len G n i
  have h12 := pow12 hlen
  have hlr := lenRow hn
  obtain ⟨Q, hQ⟩ : ∃ Q, Q = Fen X g 0 0 (Rp (fun v w' => v = none ∧ (∀ p, p < 12 → w' (2 + n) p = ce_code (newRow G n ap i 12 p)) ∧ ∀ k, k ≠ 2 + n → w' k = w k)) := ⟨_, rfl⟩
  rw [← hQ]
  have hgen : ∀ k a, (rsT G n ap i 12 a).2.2 + k = (ordOf G n i 12).length / 2 → a ≤ (ordOf G n i 12).length → ∀ w1, (∀ p, p < 12 → w1 (2 + n) p = ce_code ((rsT G n ap i 12 a).2.1 p)) → (∀ k, k ≠ 2 + n → w1 k = w k) → Go X g 0 0 Q w1 30 [some (.ref (g.1 31)), some (.ref (g.1 (2 + n))), some (.ref (g.1 20)), some (.int (nI n)), some (.int (nI (rsT G n ap i 12 a).1)), some (.int (nI (rsT G n ap i 12 a).2.2)), none, none, none, none, none] [] := by
    intro k
    induction k with
    | zero =>
      intro a e1 e2 w1 e3 e4
      obtain ⟨h1, h2⟩ := rs_ok hT (by omega) hcan a
      have he := (ord_even (G := G) (i := i) (m := 12) hT (by omega) (Nat.le_refl _)).1
      have hz : (rsT G n ap i 12 a).1 = 0 := pop_0 (Nat.lt_of_lt_of_le h1.2.1 h12) (by omega)
      have hsame : rsT G n ap i 12 (ordOf G n i 12).length = rsT G n ap i 12 a := by
        have := rs_skip (G := G) (n := n) (ap := ap) (i := i) ((ordOf G n i 12).length - a) a (fun b _ _ => by rw [hz]; simp)
        rw [show a + ((ordOf G n i 12).length - a) = (ordOf G n i 12).length by omega] at this
        exact this
      refine r_iload hc dP_writeTo_30 rfl ?_
      refine r_aload_n hc dP_writeTo_32 rfl ?_
      refine kP_66r hc dP_writeTo_33 (cP_games _ g d w1 _ hlen (by rw [e4 31 (by omega)]; exact hW.1.1)) (by omega) (Nat.le_of_ble_eq_true rfl) ?_
      rintro _ _ ⟨rfl, rfl⟩
      refine r_ic_ge_t hc dP_writeTo_36 (tgt := 125) (by decide) (nI_le (by omega) (by omega)) ?_
      subst hQ
      refine r_vret hc dP_writeTo_125 ⟨rfl, fun p hp => ?_, e4⟩
      unfold newRow
      rw [hsame]
      exact e3 p hp
    | succ k ih =>
      intro a e1 e2 w1 e3 e4
      obtain ⟨h1, h2⟩ := rs_ok hT (by omega) hcan a
      obtain ⟨r1, r2, r3⟩ := rsT_ok (G := G) (n := n) (ap := ap) (inn := i) (m := 12) (Nat.le_refl _) hcan a
      have hSl : (rsT G n ap i 12 a).1 < 4096 := Nat.lt_of_lt_of_le r1 h12
      have h0 : 0 < (rsT G n ap i 12 a).1 := Nat.pos_of_ne_zero (fun z => by
        rw [z, show pop 0 = 0 by decide] at h2
        omega)
      obtain ⟨l1, l2, l3⟩ := lowb_spec h0 hSl
      have hlm := bit_lt l1 r1
      have hla : a ≤ lowb (rsT G n ap i 12 a).1 := by
        rcases Nat.lt_or_ge (lowb (rsT G n ap i 12 a).1) a with q | q
        · rw [r3 _ q] at l1; cases l1
        · exact q
      obtain ⟨f, hf⟩ : ∃ f, f = lowb (rsT G n ap i 12 a).1 := ⟨_, rfl⟩
      have hsame : rsT G n ap i 12 f = rsT G n ap i 12 a := by
        have := rs_skip (G := G) (n := n) (ap := ap) (i := i) (f - a) a (fun b h1 h2 => l3 b (by omega))
        rw [show a + (f - a) = f by omega] at this
        exact this
      obtain ⟨j, c, p1, p2, p3, p4, p5, p6⟩ := sol_pick h0 hSl r2
      have hg : (solT G n ap i 12 (rsT G n ap i 12 a).1).2.1.getD 0 = j := by
        show (sol _ _ _).2.1.getD 0 = j
        rw [p1]; rfl
      -- the next step of the row
      have hstep : rsT G n ap i 12 (f + 1) = (clr (clr (rsT G n ap i 12 a).1 f) j, fun x => if x = (ordOf G n i 12).getD j 0 then some (some ((ordOf G n i 12).getD f 0, !fw G n ((ordOf G n i 12).getD f 0) ((ordOf G n i 12).getD j 0), 3)) else if x = (ordOf G n i 12).getD f 0 then some (some ((ordOf G n i 12).getD j 0, fw G n ((ordOf G n i 12).getD f 0) ((ordOf G n i 12).getD j 0), 3)) else (rsT G n ap i 12 a).2.1 x, (rsT G n ap i 12 a).2.2 + 1) := by
        simp only [rsT]
        rw [hsame, hf, l1]
        simp only [if_true]
        rw [hg]
      have ih := ih (f + 1) (by rw [hstep]; show _ + 1 + k = _; omega) (by omega)
      rw [hstep] at ih
      simp only [← nI_add] at ih
      have hLf := hW.1.2 f (by omega)
      have hLj := hW.1.2 j p2
      have hmf := ord_m (G := G) (n := n) (i := i) f
      have hmj := ord_m (G := G) (n := n) (i := i) j
      refine r_iload hc dP_writeTo_30 rfl ?_
      refine r_aload_n hc dP_writeTo_32 rfl ?_
      refine kP_66r hc dP_writeTo_33 (cP_games _ g d w1 _ hlen (by rw [e4 31 (by omega)]; exact hW.1.1)) (by omega) (Nat.le_of_ble_eq_true rfl) ?_
      rintro _ _ ⟨rfl, rfl⟩
      refine r_ic_ge_f hc dP_writeTo_36 (tgt := 125) (by decide) (nI_ge (by omega) (by omega)) ?_
      refine r_iload hc dP_writeTo_39 rfl ?_
      refine kP_69r hc dP_writeTo_41 (cI_ntz _ g d w1 _ h0 hSl) (by omega) (Nat.le_of_ble_eq_true rfl) ?_
      rintro _ _ ⟨rfl, rfl⟩
      refine r_istore hc dP_writeTo_44 (Nat.le_of_ble_eq_true rfl) ?_
      refine r_aload_n hc dP_writeTo_46 rfl ?_
      refine r_iload hc dP_writeTo_47 rfl ?_
      refine r_iload hc dP_writeTo_49 rfl ?_
      refine kP_74r hc dP_writeTo_51 (cP_bestPartner _ g d w1 (ordOf G n i 12).length (rsT G n ap i 12 a).1 (csOf G n ap (ordOf G n i 12)) hlen (by rw [e4 31 (by omega)]; exact hW.1.1) (cs_le hT (by omega) (fun x => ord_m x)) (fun x y h1 h2 => by rw [e4 (34 + x) (by omega)]; exact hW.2.2.1 x y h1 h2 trivial) h0 h1 (fun T hT1 hT2 => by rw [e4 47 (by omega), e4 46 (by omega)]; exact hW.2.2.2 T hT1 hT2) r2) (by omega) (Nat.le_of_ble_eq_true rfl) ?_
      rintro _ _ ⟨rfl, rfl⟩
      rw [show (sol (csOf G n ap (ordOf G n i 12)) (ordOf G n i 12).length (rsT G n ap i 12 a).1).2.1.getD 0 = j from hg, ← hf]
      refine r_istore hc dP_writeTo_54 (Nat.le_of_ble_eq_true rfl) ?_
      refine r_aload_n hc dP_writeTo_56 rfl ?_
      refine gP_9 hc dP_writeTo_57 ?_
      refine r_iload hc dP_writeTo_60 rfl ?_
      refine r_ialdN hc dP_writeTo_62 rfl (by first | omega | (show _ < 12; omega) | (show _ < 204; omega) | (show _ < 144; omega) | (show _ < 2048; omega) | (show _ < 4096; omega) | (show _ < 16; omega)) ?_
      rw [e4 32 (by omega), hLf]
      refine r_istore hc dP_writeTo_63 (Nat.le_of_ble_eq_true rfl) ?_
      refine r_aload_n hc dP_writeTo_65 rfl ?_
      refine gP_9 hc dP_writeTo_66 ?_
      refine r_iload hc dP_writeTo_69 rfl ?_
      refine r_ialdN hc dP_writeTo_71 rfl (by first | omega | (show _ < 12; omega) | (show _ < 204; omega) | (show _ < 144; omega) | (show _ < 2048; omega) | (show _ < 4096; omega) | (show _ < 16; omega)) ?_
      rw [e4 32 (by omega), hLj]
      refine r_istore hc dP_writeTo_72 (Nat.le_of_ble_eq_true rfl) ?_
      refine r_aload_n hc dP_writeTo_74 rfl ?_
      refine r_iload hc dP_writeTo_75 rfl ?_
      refine r_iload hc dP_writeTo_77 rfl ?_
      refine r_iload_n hc dP_writeTo_79 rfl ?_
      generalize hpf : (ordOf G n i 12).getD f 0 = P at *
      generalize hqj : (ordOf G n i 12).getD j 0 = R at *
      refine kP_78r hc dP_writeTo_80 (cS_colourOfFirst _ g d w1 G n P R (hS.congr (fun k k1 k2 => e4 k (by omega))) (by omega) hmf hmj) (by omega) (Nat.le_of_ble_eq_true rfl) ?_
      rintro _ _ ⟨rfl, rfl⟩
      refine r_istore hc dP_writeTo_83 (Nat.le_of_ble_eq_true rfl) ?_
      refine r_aload_n hc dP_writeTo_85 rfl ?_
      refine r_iload hc dP_writeTo_86 rfl ?_
      refine r_iload hc dP_writeTo_88 rfl ?_
      refine r_iload hc dP_writeTo_90 rfl ?_
      refine kP_84r hc dP_writeTo_92 (cC_untoldGame _ g d w1 _ _) (by omega) (Nat.le_of_ble_eq_true rfl) ?_
      rintro _ _ ⟨rfl, rfl⟩
      rw [unto_all R hmj]
      refine r_iastN hc dP_writeTo_95 rfl (by rw [hlr]; exact hmf) ?_
      refine r_aload_n hc dP_writeTo_96 rfl ?_
      refine r_iload hc dP_writeTo_97 rfl ?_
      refine r_iload hc dP_writeTo_99 rfl ?_
      refine r_iload hc dP_writeTo_101 rfl ?_
      refine r_ineg hc dP_writeTo_103 ?_
      rw [neg_col]
      refine kP_84r hc dP_writeTo_104 (cC_untoldGame _ g d _ _ _) (by omega) (Nat.le_of_ble_eq_true rfl) ?_
      rintro _ _ ⟨rfl, rfl⟩
      rw [unto_all P hmf]
      refine r_iastN hc dP_writeTo_107 rfl (by rw [hlr]; exact hmj) ?_
      refine r_iload hc dP_writeTo_108 rfl ?_
      refine r_iload hc dP_writeTo_110 rfl ?_
      refine r_iload hc dP_writeTo_112 rfl ?_
      refine kP_87r hc dP_writeTo_114 (cP_without _ g d _ _ f j (by omega) (by omega)) (by omega) (Nat.le_of_ble_eq_true rfl) ?_
      rintro _ _ ⟨rfl, rfl⟩
      refine r_istore hc dP_writeTo_117 (Nat.le_of_ble_eq_true rfl) ?_
      refine r_iinc hc dP_writeTo_119 rfl ?_
      refine r_goto hc dP_writeTo_122 (tgt := 30) (by decide) ?_
      refine Go.drop 6 (Go.drop 7 (Go.drop 8 (Go.drop 9 (Go.drop 10 ?_))))
      refine ih _ (fun p hp => ?_) (fun k hk => by rw [wu_ne hk, wu_ne hk]; exact e4 k hk)
      by_cases h9 : p = R
      · subst h9
        rw [wu_at, if_pos rfl]
      · rw [wu_o2 h9, if_neg h9]
        by_cases h8 : p = P
        · subst h8
          rw [wu_at, if_pos rfl]
        · rw [wu_o2 h8, if_neg h8]
          exact e3 p hp
  have h21 : ∀ w1, (∀ p, p < 12 → w1 (2 + n) p = ce_code ((rsT G n ap i 12 0).2.1 p)) → (∀ k, k ≠ 2 + n → w1 k = w k) → Go X g 0 0 Q w1 21 [some (.ref (g.1 31)), some (.ref (g.1 (2 + n))), some (.ref (g.1 20)), some (.int (nI n)), none, none, none, none, none, none, none] [] := by
    intro w1 e3 e4
    refine r_aload_n hc dP_writeTo_21 rfl ?_
    refine kP_51r hc dP_writeTo_22 (cP_allSeats _ g d w1 _ hlen (by rw [e4 31 (by omega)]; exact hW.1.1)) (by omega) (Nat.le_of_ble_eq_true rfl) ?_
    rintro _ _ ⟨rfl, rfl⟩
    refine r_istore hc dP_writeTo_25 (Nat.le_of_ble_eq_true rfl) ?_
    refine r_iconst hc dP_writeTo_27 (nI 0) (by decide) ?_
    refine r_istore hc dP_writeTo_28 (Nat.le_of_ble_eq_true rfl) ?_
    exact hgen ((ordOf G n i 12).length / 2) 0 (Nat.zero_add _) (Nat.zero_le _) w1 e3 e4
  refine r_aload_n hc dP_writeTo_0 rfl ?_
  refine r_iconst hc dP_writeTo_1 (-1) (by decide) ?_
  refine kP_58r hc dP_writeTo_2 (cA_fill _ g d w (2 + n) 12 (-1) hlr (by decide)) (by omega) (Nat.le_of_ble_eq_true rfl) ?_
  rintro _ _ ⟨rfl, rfl⟩
  refine r_aload_n hc dP_writeTo_5 rfl ?_
  refine gP_15 hc dP_writeTo_6 ?_
  rw [fl_ne (show 31 ≠ 2 + n by omega), hW.2.1]
  refine r_iconst hc dP_writeTo_9 (-1) (by decide) ?_
  cases hb : byeOf G n i 12 with
  | none =>
    refine r_ic_eq_t hc dP_writeTo_10 (tgt := 21) (by decide) rfl ?_
    refine h21 _ (fun p hp => ?_) (fun k hk => fl_ne hk)
    rw [fl_at hp]
    simp only [rsT, hb]
    rfl
  | some c =>
    have hc12 := byes_in hb
    refine r_ic_eq_f hc dP_writeTo_10 (tgt := 21) (by decide) (nI_nm1 (by omega)) ?_
    refine r_aload_n hc dP_writeTo_13 rfl ?_
    refine r_aload_n hc dP_writeTo_14 rfl ?_
    refine gP_15 hc dP_writeTo_15 ?_
    rw [fl_ne (show 31 ≠ 2 + n by omega), hW.2.1, hb]
    refine r_bipush hc dP_writeTo_18 (nI 76) (by decide) ?_
    refine r_iastN hc dP_writeTo_20 rfl (by rw [hlr]; exact hc12) ?_
    refine h21 _ (fun p hp => ?_) (fun k hk => by rw [wu_ne hk]; exact fl_ne hk)
    simp only [rsT, hb]
    by_cases hp9 : p = c
    · subst hp9
      rw [wu_at, if_pos rfl]
      rfl
    · rw [wu_o2 hp9, fl_at hp, if_neg (fun z => hp9 (Option.some.inj z).symm)]
      rfl
