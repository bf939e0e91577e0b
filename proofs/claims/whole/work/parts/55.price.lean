/-! PairedField.Pairing: all seats, the prices -/
theorem byeOf_lt {G : Nat → Nat → Ce} {n : Nat} {i : Nat → Bool} {m c : Nat} (h : byeOf G n i m = some c) : c < m := by
  unfold byeOf at h
  split at h
  · exact (f_fb_lt h).1
  · cases h
def FrS.rf (w : Wd) : FrS w w := ⟨fun _ _ _ => rfl, fun _ _ => rfl⟩
theorem FrS.tr {w w1 w2 : Wd} (h : FrS w w1) (h2 : FrS w1 w2) : FrS w w2 := ⟨fun k k1 k2 => (h2.1 k k1 k2).trans (h.1 k k1 k2), fun j hj => (h2.2 j hj).trans (h.2 j hj)⟩
theorem cP_seatPlayers (l : Launch) (g : GG) (d : Nat) (w : Wd) (G : Nat → Nat → Ce) (n : Nat) (i : Nat → Bool) (hS : SRep w G n) (hT : GTold G n) (hn : n ≤ 16) (hI : PIn w i) (hb : w 31 2 = oI (byeOf G n i 12)) : Con l g yP_seatPlayers bP_seatPlayers 4 ((none : Option Jvm.ClassFile.FieldType)) [] (d + 2) 0 0 [.ref (g.1 31), .ref (g.1 20), .ref (g.1 18)] w (Rp (fun v w' => v = none ∧ LsI w' (ordOf G n i 12) ∧ FrS w w')) := by
  intro X hl ha hm' hk hn' hc
  subst hl
  obtain ⟨Q, hQ⟩ : ∃ Q, Q = Fen X g 0 0 (Rp (fun v w' => v = none ∧ LsI w' (ordOf G n i 12) ∧ FrS w w')) := ⟨_, rfl⟩
  rw [← hQ]
  refine r_aload_n hc dP_seatPlayers_0 rfl ?_
  refine r_iconst hc dP_seatPlayers_1 (nI 0) (by decide) ?_
  refine pP_44 hc dP_seatPlayers_2 ?_
  refine r_iconst hc dP_seatPlayers_5 (nI 0) (by decide) ?_
  refine r_istore_n hc dP_seatPlayers_6 (Nat.le_of_ble_eq_true rfl) ?_
  suffices hgen : ∀ p, p ≤ 12 → ∀ w1, LsI w1 (bk (f_sc G n) (elOf G n i 12) p 33) → FrS w w1 → Go X g 0 0 Q w1 7 [some (.ref (g.1 31)), some (.ref (g.1 20)), some (.ref (g.1 18)), some (.int (nI p))] [] by
    refine hgen 0 (Nat.zero_le _) _ ⟨?_, fun x hx => ?_⟩ ⟨fun k k1 k2 => by rw [wu_ne k1], fun j hj => by rw [wu_o2 hj]⟩
    · have h := bk_len (f_sc G n) (elOf G n i 12) 33 0
      rw [wu_at, show (bk (f_sc G n) (elOf G n i 12) 0 33).length = 0 by omega]
    · have h := bk_len (f_sc G n) (elOf G n i 12) 33 0
      omega
  refine lp_up (P := fun p => ∀ w1, LsI w1 (bk (f_sc G n) (elOf G n i 12) p 33) → FrS w w1 → Go X g 0 0 Q w1 7 [some (.ref (g.1 31)), some (.ref (g.1 20)), some (.ref (g.1 18)), some (.int (nI p))] []) ?_
  intro p hp ih w1 e1 e2
  refine r_iload_n hc dP_seatPlayers_7 rfl ?_
  refine r_bipush hc dP_seatPlayers_8 (nI 12) (by decide) ?_
  refine r_ic_ge hc dP_seatPlayers_10 (tgt := 39) (by decide) (fun h => ?_) (fun h => ?_)
  · have hp2 : p = 12 := by have := nle_to h (by omega) (by omega); omega
    subst hp2
    subst hQ
    exact r_vret hc dP_seatPlayers_39 ⟨rfl, e1, e2⟩
  · have hp2 : p < 12 := nle_of h (by omega) (by omega)
    have ih := ih hp2
    simp only [← nI_add] at ih
    have hskip : elOf G n i 12 p = false → Go X g 0 0 Q w1 33 [some (.ref (g.1 31)), some (.ref (g.1 20)), some (.ref (g.1 18)), some (.int (nI p))] [] := by
      intro he
      refine r_iinc hc dP_seatPlayers_33 rfl ?_
      refine r_goto hc dP_seatPlayers_36 (tgt := 7) (by decide) ?_
      refine ih w1 ?_ e2
      rw [bk_skip (Or.inl he)]
      exact e1
    refine r_aload_n hc dP_seatPlayers_13 rfl ?_
    refine r_iload_n hc dP_seatPlayers_14 rfl ?_
    refine r_zaldN hc dP_seatPlayers_15 rfl (by first | omega | (show _ < 12; omega) | (show _ < 204; omega) | (show _ < 144; omega) | (show _ < 2048; omega) | (show _ < 4096; omega) | (show _ < 16; omega)) ?_
    rw [e2.1 18 (by decide) (by decide), hI p hp2]
    cases hi : i p with
    | false =>
      refine r_if_eq_t hc dP_seatPlayers_16 (tgt := 33) (by decide) rfl ?_
      exact hskip (by unfold elOf; rw [hi]; rfl)
    | true =>
      refine r_if_eq_f hc dP_seatPlayers_16 (tgt := 33) (by decide) (by decide) ?_
      refine r_iload_n hc dP_seatPlayers_19 rfl ?_
      refine r_aload_n hc dP_seatPlayers_20 rfl ?_
      refine gP_15 hc dP_seatPlayers_21 ?_
      rw [e2.2 2 (by decide), hb]
      by_cases hbp : byeOf G n i 12 = some p
      · refine r_ic_eq_t hc dP_seatPlayers_24 (tgt := 33) (by decide) ((oI_some (by omega) (fun c hc => by have := byeOf_lt hc; omega)).mpr hbp) ?_
        exact hskip (by unfold elOf; rw [hbp]; simp)
      · refine r_ic_eq_f hc dP_seatPlayers_24 (tgt := 33) (by decide) (fun z => hbp ((oI_some (by omega) (fun c hc => by have := byeOf_lt hc; omega)).mp z)) ?_
        have hel : elOf G n i 12 p = true := by unfold elOf; rw [hi]; simp [hbp]
        have hsc := f_sc_le2 hT hp2
        obtain ⟨A, B, h1, h2, h3, h4⟩ := bk_ins (s := f_sc G n) hel (K := 33) (by omega)
        have hln := bk_len (f_sc G n) (elOf G n i 12) 33 p
        rw [h1, List.length_append] at hln
        have hmem : ∀ q ∈ A ++ B, q < p := fun q hq => by rw [← h1] at hq; exact (bk_mem.mp hq).1
        rw [h1] at e1
        refine r_aload_n hc dP_seatPlayers_27 rfl ?_
        refine r_aload_n hc dP_seatPlayers_28 rfl ?_
        refine r_iload_n hc dP_seatPlayers_29 rfl ?_
        refine kP_94r hc dP_seatPlayers_30 (cP_seatOne _ g d w1 G n p A B (hS.congr (fun k k1 k2 => e2.1 k (by omega) (by omega))) hT hn hp2 e1 (by omega) (fun q hq => ⟨hmem q (List.mem_append.mpr (Or.inl hq)), h3 q hq⟩) (fun q hq => ⟨hmem q (List.mem_append.mpr (Or.inr hq)), h4 q hq⟩)) (Nat.le_refl _) (Nat.le_of_ble_eq_true rfl) ?_
        rintro _ w2 ⟨rfl, f1, f2⟩
        refine r_iinc hc dP_seatPlayers_33 rfl ?_
        refine r_goto hc dP_seatPlayers_36 (tgt := 7) (by decide) ?_
        refine ih w2 ?_ (e2.tr f2)
        rw [h2]
        exact f1
/-- a bit for each other from whom p is kept -/
def CAp (w : Wd) (ap : Nat → Nat → Bool) : Prop := ∀ p, p < 12 → ∃ a, a < 4096 ∧ w 19 p = nI a ∧ ∀ q, q < 12 → a.testBit q = ap p q
def prI : Option Nat → Int32
  | none => -1
  | some c => nI c
theorem lenPr {a b : Nat} (ha : a < 12) (hb : b < 12) : b < lenI (34 + a) := by
  have : ∀ r, r < 12 → lenI (34 + r) = 12 := by decide
  rw [this a ha]
  exact hb
/-- the prices of the games of L -/
def PrI (w : Wd) (G : Nat → Nat → Ce) (n : Nat) (ap : Nat → Nat → Bool) (L : List Nat) (D : Nat → Nat → Prop) : Prop := ∀ a b, a < b → b < L.length → D a b → w (34 + a) b = prI (csOf G n ap L a b)
set_option maxHeartbeats 2000000 in
theorem cP_priceGames (l : Launch) (g : GG) (d : Nat) (w : Wd) (G : Nat → Nat → Ce) (n : Nat) (ap : Nat → Nat → Bool) (L : List Nat) (hS : SRep w G n) (hO : GOpp G n) (hn : n ≤ 16) (hA : CAp w ap) (hL : LsI w L) (hlen : L.length ≤ 12) (hmem : ∀ x, x < L.length → L.getD x 0 < 12) (hsort : ∀ a b, a < b → b < L.length → f_sc G n (L.getD b 0) ≤ f_sc G n (L.getD a 0)) : Con l g yP_priceGames bP_priceGames 10 ((none : Option Jvm.ClassFile.FieldType)) [] (d + 2) 0 0 [.ref (g.1 31), .ref (g.1 20), .ref (g.1 19), .int (nI n)] w (Rp (fun v w' => v = none ∧ PrI w' G n ap L (fun _ _ => True) ∧ ∀ k, (k < 34 ∨ 45 < k) → w' k = w k)) := by
  intro X hl ha hm' hk hn' hc
  subst hl
  obtain ⟨Q, hQ⟩ : ∃ Q, Q = Fen X g 0 0 (Rp (fun v w' => v = none ∧ PrI w' G n ap L (fun _ _ => True) ∧ ∀ k, (k < 34 ∨ 45 < k) → w' k = w k)) := ⟨_, rfl⟩
  rw [← hQ]
  refine r_iconst hc dP_priceGames_0 (nI 0) (by decide) ?_
  refine r_istore hc dP_priceGames_1 (Nat.le_of_ble_eq_true rfl) ?_
  suffices hgen : ∀ a, a ≤ L.length → ∀ w1, PrI w1 G n ap L (fun x _ => x < a) → (∀ k, (k < 34 ∨ 45 < k) → w1 k = w k) → Go X g 0 0 Q w1 3 [some (.ref (g.1 31)), some (.ref (g.1 20)), some (.ref (g.1 19)), some (.int (nI n)), some (.int (nI a)), none, none, none, none, none] [] from hgen 0 (Nat.zero_le _) w (fun x y _ _ h => absurd h (Nat.not_lt_zero _)) (fun _ _ => rfl)
  refine lp_up (P := fun a => ∀ w1, PrI w1 G n ap L (fun x _ => x < a) → (∀ k, (k < 34 ∨ 45 < k) → w1 k = w k) → Go X g 0 0 Q w1 3 [some (.ref (g.1 31)), some (.ref (g.1 20)), some (.ref (g.1 19)), some (.int (nI n)), some (.int (nI a)), none, none, none, none, none] []) ?_
  intro a hal ih w1 e1 e2
  refine r_iload hc dP_priceGames_3 rfl ?_
  refine r_aload_n hc dP_priceGames_5 rfl ?_
  refine gP_44 hc dP_priceGames_6 ?_
  rw [e2 31 (by decide), hL.1]
  refine r_ic_ge hc dP_priceGames_9 (tgt := 116) (by decide) (fun h => ?_) (fun h => ?_)
  · have ha2 : a = L.length := by have := nle_to h (by omega) (by omega); omega
    subst ha2
    subst hQ
    exact r_vret hc dP_priceGames_116 ⟨rfl, fun x y h1 h2 _ => e1 x y h1 h2 (by omega), e2⟩
  · have ha2 : a < L.length := nle_of h (by omega) (by omega)
    have ih := ih ha2
    simp only [← nI_add] at ih
    have hp := hmem a ha2
    refine r_aload_n hc dP_priceGames_12 rfl ?_
    refine gP_9 hc dP_priceGames_13 ?_
    refine r_iload hc dP_priceGames_16 rfl ?_
    refine r_ialdN hc dP_priceGames_18 rfl (by first | omega | (show _ < 12; omega) | (show _ < 204; omega) | (show _ < 144; omega) | (show _ < 2048; omega) | (show _ < 4096; omega) | (show _ < 16; omega)) ?_
    rw [e2 32 (by decide), hL.2 a ha2]
    refine r_istore hc dP_priceGames_19 (Nat.le_of_ble_eq_true rfl) ?_
    refine r_aload_n hc dP_priceGames_21 rfl ?_
    refine gP_101 hc dP_priceGames_22 ?_
    refine r_iload hc dP_priceGames_25 rfl ?_
    refine r_ialdN hc dP_priceGames_27 rfl (by first | omega | (show _ < 12; omega) | (show _ < 204; omega) | (show _ < 144; omega) | (show _ < 2048; omega) | (show _ < 4096; omega) | (show _ < 16; omega)) ?_
    rw [e2 30 (by decide), (hS _ hp).1.2.2.2.2.2.2.2]
    refine r_aload_n hc dP_priceGames_28 rfl ?_
    refine r_iload hc dP_priceGames_29 rfl ?_
    refine r_ialdN hc dP_priceGames_31 rfl (by first | omega | (show _ < 12; omega) | (show _ < 204; omega) | (show _ < 144; omega) | (show _ < 2048; omega) | (show _ < 4096; omega) | (show _ < 16; omega)) ?_
    obtain ⟨av, hav, hw19, hbits⟩ := hA _ hp
    rw [e2 19 (by decide), hw19]
    refine r_ior hc dP_priceGames_32 ?_
    rw [nx_or]
    have hmt : mtS G n (L.getD a 0) < 4096 := mtS_lt n (fun i hi => hO i hi _)
    have hbr : mtS G n (L.getD a 0) ||| av < 4096 := Nat.or_lt_two_pow (n := 12) hmt hav
    have hbt : ∀ q, q < 12 → (mtS G n (L.getD a 0) ||| av).testBit q = bar G n ap (L.getD a 0) q := fun q hq => by rw [Nat.testBit_or, mtS_bit, hbits q hq, bar, Bool.or_comm]
    generalize mtS G n (L.getD a 0) ||| av = Z at hbr hbt ⊢
    refine r_istore hc dP_priceGames_33 (Nat.le_of_ble_eq_true rfl) ?_
    refine r_iload hc dP_priceGames_35 rfl ?_
    refine r_iconst hc dP_priceGames_37 (nI 1) (by decide) ?_
    refine r_iadd hc dP_priceGames_38 ?_
    rw [nI_add]
    refine r_istore hc dP_priceGames_39 (Nat.le_of_ble_eq_true rfl) ?_
    suffices hin : ∀ b, a + 1 ≤ b → b ≤ L.length → ∀ w2, PrI w2 G n ap L (fun x y => x < a ∨ (x = a ∧ y < b)) → (∀ k, (k < 34 ∨ 45 < k) → w2 k = w k) → Go X g 0 0 Q w2 41 [some (.ref (g.1 31)), some (.ref (g.1 20)), some (.ref (g.1 19)), some (.int (nI n)), some (.int (nI a)), some (.int (nI (L.getD a 0))), some (.int (nI Z)), some (.int (nI b)), none, none] [] from hin (a + 1) (Nat.le_refl _) ha2 w1 (fun x y h1 h2 h3 => e1 x y h1 h2 (by omega)) e2
    intro b hb1 hb2
    refine lp_up (P := fun b => a + 1 ≤ b → ∀ w2, PrI w2 G n ap L (fun x y => x < a ∨ (x = a ∧ y < b)) → (∀ k, (k < 34 ∨ 45 < k) → w2 k = w k) → Go X g 0 0 Q w2 41 [some (.ref (g.1 31)), some (.ref (g.1 20)), some (.ref (g.1 19)), some (.int (nI n)), some (.int (nI a)), some (.int (nI (L.getD a 0))), some (.int (nI Z)), some (.int (nI b)), none, none] []) (n := L.length) ?_ b hb2 hb1
    intro b hbl ihb hab w2 f1 f2
    refine r_iload hc dP_priceGames_41 rfl ?_
    refine r_aload_n hc dP_priceGames_43 rfl ?_
    refine gP_44 hc dP_priceGames_44 ?_
    rw [f2 31 (by decide), hL.1]
    refine r_ic_ge hc dP_priceGames_47 (tgt := 110) (by decide) (fun h2 => ?_) (fun h2 => ?_)
    · have hb2 : b = L.length := by have := nle_to h2 (by omega) (by omega); omega
      subst hb2
      refine r_iinc hc dP_priceGames_110 rfl ?_
      refine r_goto hc dP_priceGames_113 (tgt := 3) (by decide) ?_
      refine Go.drop 5 (Go.drop 6 (Go.drop 7 ?_))
      exact ih w2 (fun x y h1 h2 h3 => f1 x y h1 h2 (by omega)) f2
    · have hb2 : b < L.length := nle_of h2 (by omega) (by omega)
      have ihb := ihb hb2 (by omega)
      simp only [← nI_add] at ihb
      have hq := hmem b hb2
      have hput : ∀ c, c = prI (csOf G n ap L a b) → ∀ v, Go X g 0 0 Q w2 103 [some (.ref (g.1 31)), some (.ref (g.1 20)), some (.ref (g.1 19)), some (.int (nI n)), some (.int (nI a)), some (.int (nI (L.getD a 0))), some (.int (nI Z)), some (.int (nI b)), some (.int (nI (L.getD b 0))), some (.int v)] [.int c, .int (nI b), .ref (g.1 (34 + a))] := by
        intro c hcc v
        refine r_iastN hc dP_priceGames_103 rfl (lenPr (by omega) (by omega)) ?_
        refine r_iinc hc dP_priceGames_104 rfl ?_
        refine r_goto hc dP_priceGames_107 (tgt := 41) (by decide) ?_
        refine Go.drop 8 (Go.drop 9 ?_)
        refine ihb _ (fun x y h1 h2 h3 => ?_) (fun k hk => ?_)
        · by_cases hx : x = a
          · subst hx
            by_cases hy : y = b
            · subst hy
              rw [wu_at, hcc]
            · rw [wu_o2 hy]
              exact f1 x y h1 h2 (by omega)
          · rw [wu_o1 (by omega)]
            exact f1 x y h1 h2 (by omega)
        · rw [wu_ne (by omega)]
          exact f2 k hk
      refine r_aload_n hc dP_priceGames_50 rfl ?_
      refine gP_9 hc dP_priceGames_51 ?_
      refine r_iload hc dP_priceGames_54 rfl ?_
      refine r_ialdN hc dP_priceGames_56 rfl (by first | omega | (show _ < 12; omega) | (show _ < 204; omega) | (show _ < 144; omega) | (show _ < 2048; omega) | (show _ < 4096; omega) | (show _ < 16; omega)) ?_
      rw [f2 32 (by decide), hL.2 b hb2]
      refine r_istore hc dP_priceGames_57 (Nat.le_of_ble_eq_true rfl) ?_
      refine r_iload hc dP_priceGames_59 rfl ?_
      refine r_iload hc dP_priceGames_61 rfl ?_
      refine r_ishr hc dP_priceGames_63 ?_
      refine r_iconst hc dP_priceGames_64 (nI 1) (by decide) ?_
      refine r_iand hc dP_priceGames_65 ?_
      rw [bitI (by omega) (by omega)]
      cases hbar : bar G n ap (L.getD a 0) (L.getD b 0) with
      | true =>
        rw [bit_t ((hbt _ hq).trans hbar)]
        refine r_if_ne_t hc dP_priceGames_66 (tgt := 73) (by decide) (by decide) ?_
        refine r_iconst hc dP_priceGames_73 (nI 0) (by decide) ?_
        refine r_istore hc dP_priceGames_74 (Nat.le_of_ble_eq_true rfl) ?_
        refine r_aload_n hc dP_priceGames_76 rfl ?_
        refine gP_21 hc dP_priceGames_77 ?_
        refine r_iload hc dP_priceGames_80 rfl ?_
        refine r_aaldN hc dP_priceGames_82 rfl (by first | omega | (show _ < 12; omega) | (show _ < 204; omega) | (show _ < 144; omega) | (show _ < 2048; omega) | (show _ < 4096; omega) | (show _ < 16; omega)) ?_
        rw [show (33 + 1 + a : Nat) = 34 + a by omega]
        refine r_iload hc dP_priceGames_83 rfl ?_
        refine r_iload hc dP_priceGames_85 rfl ?_
        refine r_if_eq_t hc dP_priceGames_87 (tgt := 102) (by decide) rfl ?_
        refine r_iconst hc dP_priceGames_102 (-1) (by decide) ?_
        exact hput _ (by unfold csOf; rw [if_pos hbar]; rfl) _
      | false =>
        rw [bit_f ((hbt _ hq).trans hbar)]
        refine r_if_ne_f hc dP_priceGames_66 (tgt := 73) (by decide) (by decide) ?_
        refine r_iconst hc dP_priceGames_69 (nI 1) (by decide) ?_
        refine r_goto hc dP_priceGames_70 (tgt := 74) (by decide) ?_
        refine r_istore hc dP_priceGames_74 (Nat.le_of_ble_eq_true rfl) ?_
        refine r_aload_n hc dP_priceGames_76 rfl ?_
        refine gP_21 hc dP_priceGames_77 ?_
        refine r_iload hc dP_priceGames_80 rfl ?_
        refine r_aaldN hc dP_priceGames_82 rfl (by first | omega | (show _ < 12; omega) | (show _ < 204; omega) | (show _ < 144; omega) | (show _ < 2048; omega) | (show _ < 4096; omega) | (show _ < 16; omega)) ?_
        rw [show (33 + 1 + a : Nat) = 34 + a by omega]
        refine r_iload hc dP_priceGames_83 rfl ?_
        refine r_iload hc dP_priceGames_85 rfl ?_
        refine r_if_eq_f hc dP_priceGames_87 (tgt := 102) (by decide) (by decide) ?_
        refine r_aload_n hc dP_priceGames_90 rfl ?_
        refine r_iload hc dP_priceGames_91 rfl ?_
        refine r_iload hc dP_priceGames_93 rfl ?_
        refine r_iload_n hc dP_priceGames_95 rfl ?_
        refine kP_104r hc dP_priceGames_96 (cS_costOfGame _ g d w2 G n _ _ (hS.congr (fun k k1 k2 => f2 k (by omega))) hn hp hq (hsort a b (by omega) hb2)) (Nat.le_refl _) (Nat.le_of_ble_eq_true rfl) ?_
        rintro _ _ ⟨rfl, rfl⟩
        refine r_goto hc dP_priceGames_99 (tgt := 103) (by decide) ?_
        exact hput _ (by unfold csOf; rw [hbar]; rfl) _
