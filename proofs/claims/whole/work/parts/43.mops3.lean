/-! the reference: apart, enter, untold, missing, close, report -/
def apUp (ap : Nat → Nat → Bool) (p q : Nat) (b : Bool) : Nat → Nat → Bool := fun i j => if (i = p ∧ j = q) ∨ (i = q ∧ j = p) then b else ap i j
def apOk (m : Nat) (op : Bool) (x y : Int32) : Bool := isP m x && isP m y && !decide (x = y) && !op
theorem cM_apart (l : Launch) (g : GG) (d : Nat) (w : Wd) (m : Nat) (inn : Nat → Bool) (ap : Nat → Nat → Bool) (n : Nat) (op : Bool) (G : Nat → Nat → Ce) (x y : Int32) (b : Bool) (hF : FOk m inn ap n op G) (hS : MS w m inn ap n op G) : Con l g yM_apart bM_apart 5 ((some .boolean)) [] (d + 1) 0 0 [.ref (g.1 48), .int x, .int y, .int (bI b)] w (Rp (MPost w (rfK (!(isP m x && isP m y)) (decide (x = y)) op) (if apOk m op x y then vIs (bI (ap (pN x) (pN y) != b)) else vAny) m inn (if apOk m op x y then apUp ap (pN x) (pN y) b else ap) n op G)) := by
  intro X hl ha hm' hk hn' hc
  subst hl
  have hm := hF.1.2
  obtain ⟨Q, hQ⟩ : ∃ Q, Q = Fen X g 0 0 (Rp (MPost w (rfK (!(isP m x && isP m y)) (decide (x = y)) op) (if apOk m op x y then vIs (bI (ap (pN x) (pN y) != b)) else vAny) m inn (if apOk m op x y then apUp ap (pN x) (pN y) b else ap) n op G)) := ⟨_, rfl⟩
  rw [← hQ]
  generalize hKK : rfK (!(isP m x && isP m y)) (decide (x = y)) op = K at hQ
  have hS1 := hS.thr (nI K)
  have h39 : Go X g 0 0 Q (wu w 48 0 (nI K)) 39 [some (.ref (g.1 48)), some (.int x), some (.int y), some (.int (bI b)), none] [.int (bI (!(isP m x && isP m y) || decide (x = y) || op))] := by
    cases hb : apOk m op x y with
    | false =>
      rw [hb] at hQ
      rw [show (!(isP m x && isP m y) || decide (x = y) || op) = true by unfold apOk at hb; revert hb; cases isP m x <;> cases isP m y <;> cases decide (x = y) <;> cases op <;> simp]
      refine r_if_eq_f hc dM_apart_39 (tgt := 44) (by decide) (by decide) ?_
      refine r_iconst hc dM_apart_42 (nI 0) (by decide) ?_
      subst hQ
      exact r_zret hc dM_apart_43 rfl ⟨⟨_, rfl⟩, wu_at _ _ _ _, hS1, (FrM.rf w).put 48 0 _ (by decide)⟩
    | true =>
      rw [hb, if_pos rfl, if_pos rfl] at hQ
      rw [show (!(isP m x && isP m y) || decide (x = y) || op) = false by unfold apOk at hb; revert hb; cases isP m x <;> cases isP m y <;> cases decide (x = y) <;> cases op <;> simp]
      unfold apOk at hb
      simp only [Bool.and_eq_true, Bool.not_eq_true', decide_eq_false_iff_not] at hb
      obtain ⟨⟨⟨b1, b2⟩, b3⟩, b4⟩ := hb
      obtain ⟨p, hp, rfl⟩ := isP_t b1 hm
      obtain ⟨q, hq, rfl⟩ := isP_t b2 hm
      rw [pN_nI (by omega), pN_nI (by omega)] at hQ
      have hpq : p ≠ q := fun z => b3 (by rw [z])
      refine r_if_eq_t hc dM_apart_39 (tgt := 44) (by decide) rfl ?_
      refine r_aload_n hc dM_apart_44 rfl ?_
      refine gM_13 hc dM_apart_45 ?_
      refine r_bipush hc dM_apart_48 (nI 12) (by decide) ?_
      refine r_iload_n hc dM_apart_50 rfl ?_
      refine r_imul hc dM_apart_51 ?_
      refine r_iload_n hc dM_apart_52 rfl ?_
      refine r_iadd hc dM_apart_53 ?_
      rw [ix12]
      refine r_zaldN hc dM_apart_54 rfl (by first | omega | (show _ < 12; omega) | (show _ < 204; omega) | (show _ < 144; omega) | (show _ < 2048; omega) | (show _ < 4096; omega) | (show _ < 16; omega)) ?_
      rw [hS1.2.2.2.2.1 p q (by omega) (by omega)]
      refine r_istore hc dM_apart_55 (Nat.le_of_ble_eq_true rfl) ?_
      refine r_aload_n hc dM_apart_57 rfl ?_
      refine gM_13 hc dM_apart_58 ?_
      refine r_bipush hc dM_apart_61 (nI 12) (by decide) ?_
      refine r_iload_n hc dM_apart_63 rfl ?_
      refine r_imul hc dM_apart_64 ?_
      refine r_iload_n hc dM_apart_65 rfl ?_
      refine r_iadd hc dM_apart_66 ?_
      rw [ix12]
      refine r_iload_n hc dM_apart_67 rfl ?_
      refine r_zastN hc dM_apart_68 rfl (show _ < 144 by omega) (bI_01 _) ?_
      refine r_aload_n hc dM_apart_69 rfl ?_
      refine gM_13 hc dM_apart_70 ?_
      refine r_bipush hc dM_apart_73 (nI 12) (by decide) ?_
      refine r_iload_n hc dM_apart_75 rfl ?_
      refine r_imul hc dM_apart_76 ?_
      refine r_iload_n hc dM_apart_77 rfl ?_
      refine r_iadd hc dM_apart_78 ?_
      rw [ix12]
      refine r_iload_n hc dM_apart_79 rfl ?_
      refine r_zastN hc dM_apart_80 rfl (show _ < 144 by omega) (bI_01 _) ?_
      refine r_iload hc dM_apart_81 rfl ?_
      refine r_iload_n hc dM_apart_83 rfl ?_
      have hpost : ∀ v, v = bI (ap p q != b) → MPost w K (vIs (bI (ap p q != b))) m inn (apUp ap p q b) n op G (some (.int v)) (wu (wu (wu w 48 0 (nI K)) 50 (12 * p + q) (bI b)) 50 (12 * q + p) (bI b)) := by
        intro v hv
        refine ⟨by rw [hv]; rfl, ?_, ⟨?_, ?_, ?_, fun a ha1 => ?_, fun i j hi hj => ?_, fun r hr a ha1 => ?_⟩, (((FrM.rf w).put 48 0 _ (by decide)).put 50 _ _ (by decide)).put 50 _ _ (by decide)⟩
        · rw [wu_o1 (by decide), wu_o1 (by decide), wu_at]
        · rw [wu_o1 (by decide), wu_o1 (by decide)]; exact hS1.1
        · rw [wu_o1 (by decide), wu_o1 (by decide)]; exact hS1.2.1
        · rw [wu_o1 (by decide), wu_o1 (by decide)]; exact hS1.2.2.1
        · rw [wu_o1 (by decide), wu_o1 (by decide)]; exact hS1.2.2.2.1 a ha1
        · by_cases c1 : i = q ∧ j = p
          · obtain ⟨rfl, rfl⟩ := c1
            rw [wu_at]
            simp [apUp]
          · rw [wu_o2 (by omega)]
            by_cases c2 : i = p ∧ j = q
            · obtain ⟨rfl, rfl⟩ := c2
              rw [wu_at]
              simp [apUp]
            · rw [wu_o2 (by omega), show apUp ap p q b i j = ap i j by unfold apUp; rw [if_neg (by omega)]]
              exact hS1.2.2.2.2.1 i j hi hj
        · rw [wu_o1 (by decide), wu_o1 (by decide), wu_o1 (by decide), wu_o1 (by decide), wu_o1 (by decide), wu_o1 (by decide)]; exact hS1.2.2.2.2.2 r hr a ha1
      subst hQ
      cases hap : ap p q <;> cases b <;> rw [hap] at hpost
      · refine r_ic_eq_t hc dM_apart_84 (tgt := 91) (by decide) rfl ?_
        refine r_iconst hc dM_apart_91 (nI 0) (by decide) ?_
        exact r_zret hc dM_apart_92 rfl (hpost _ rfl)
      · refine r_ic_eq_f hc dM_apart_84 (tgt := 91) (by decide) (by decide) ?_
        refine r_iconst hc dM_apart_87 (nI 1) (by decide) ?_
        refine r_goto hc dM_apart_88 (tgt := 92) (by decide) ?_
        exact r_zret hc dM_apart_92 rfl (hpost _ rfl)
      · refine r_ic_eq_f hc dM_apart_84 (tgt := 91) (by decide) (by decide) ?_
        refine r_iconst hc dM_apart_87 (nI 1) (by decide) ?_
        refine r_goto hc dM_apart_88 (tgt := 92) (by decide) ?_
        exact r_zret hc dM_apart_92 rfl (hpost _ rfl)
      · refine r_ic_eq_t hc dM_apart_84 (tgt := 91) (by decide) rfl ?_
        refine r_iconst hc dM_apart_91 (nI 0) (by decide) ?_
        exact r_zret hc dM_apart_92 rfl (hpost _ rfl)
  have h32 : Go X g 0 0 Q w 32 [some (.ref (g.1 48)), some (.int x), some (.int y), some (.int (bI b)), none] [.int (bI (decide (x = y))), .int (bI (!(isP m x && isP m y))), .ref (g.1 48)] := by
    refine r_aload_n hc dM_apart_32 rfl ?_
    refine gM_51 hc dM_apart_33 ?_
    rw [hS.2.2.1]
    refine kM_55r hc dM_apart_36 (cM_refused _ g d w _ _ _) (by omega) (Nat.le_of_ble_eq_true rfl) ?_
    rintro _ _ ⟨rfl, rfl⟩
    rw [hKK]
    exact h39
  have h22 : Go X g 0 0 Q w 22 [some (.ref (g.1 48)), some (.int x), some (.int y), some (.int (bI b)), none] [.int (bI (!(isP m x && isP m y))), .ref (g.1 48)] := by
    refine r_iload_n hc dM_apart_22 rfl ?_
    refine r_iload_n hc dM_apart_23 rfl ?_
    by_cases hxy : x = y
    · rw [show decide (x = y) = true from decide_eq_true hxy] at h32
      refine r_ic_ne_f hc dM_apart_24 (tgt := 31) (by decide) hxy ?_
      refine r_iconst hc dM_apart_27 (nI 1) (by decide) ?_
      refine r_goto hc dM_apart_28 (tgt := 32) (by decide) ?_
      exact h32
    · rw [show decide (x = y) = false from decide_eq_false hxy] at h32
      refine r_ic_ne_t hc dM_apart_24 (tgt := 31) (by decide) hxy ?_
      refine r_iconst hc dM_apart_31 (nI 0) (by decide) ?_
      exact h32
  refine r_aload_n hc dM_apart_0 rfl ?_
  refine r_aload_n hc dM_apart_1 rfl ?_
  refine r_iload_n hc dM_apart_2 rfl ?_
  refine kM_59r hc dM_apart_3 (cM_isPlayer _ g d w m x hS.1) (by omega) (Nat.le_of_ble_eq_true rfl) ?_
  rintro _ _ ⟨rfl, rfl⟩
  cases hx : isP m x with
  | false =>
    rw [hx] at h22
    refine r_if_eq_t hc dM_apart_6 (tgt := 17) (by decide) rfl ?_
    refine r_iconst hc dM_apart_17 (nI 1) (by decide) ?_
    refine r_goto hc dM_apart_18 (tgt := 22) (by decide) ?_
    exact h22
  | true =>
    rw [hx] at h22
    refine r_if_eq_f hc dM_apart_6 (tgt := 17) (by decide) (by decide) ?_
    refine r_aload_n hc dM_apart_9 rfl ?_
    refine r_iload_n hc dM_apart_10 rfl ?_
    refine kM_59r hc dM_apart_11 (cM_isPlayer _ g d w m y hS.1) (by omega) (Nat.le_of_ble_eq_true rfl) ?_
    rintro _ _ ⟨rfl, rfl⟩
    cases hy : isP m y with
    | false =>
      rw [hy] at h22
      refine r_if_ne_f hc dM_apart_14 (tgt := 21) (by decide) rfl ?_
      refine r_iconst hc dM_apart_17 (nI 1) (by decide) ?_
      refine r_goto hc dM_apart_18 (tgt := 22) (by decide) ?_
      exact h22
    | true =>
      rw [hy] at h22
      refine r_if_ne_t hc dM_apart_14 (tgt := 21) (by decide) (by decide) ?_
      refine r_iconst hc dM_apart_21 (nI 0) (by decide) ?_
      exact h22
theorem cM_enter (l : Launch) (g : GG) (d : Nat) (w : Wd) (m : Nat) (inn : Nat → Bool) (ap : Nat → Nat → Bool) (n : Nat) (op : Bool) (G : Nat → Nat → Ce) (hF : FOk m inn ap n op G) (hS : MS w m inn ap n op G) : Con l g yM_enter bM_enter 3 ((some .int)) [] (d + 1) 0 0 [.ref (g.1 48)] w (Rp (MPost w (rfK (op || decide (m = 12)) false false) (if op || decide (m = 12) then vAny else vIs (nI m)) (if op || decide (m = 12) then m else m + 1) (if op || decide (m = 12) then inn else fun p => if p = m then true else inn p) ap n op G)) := by
  intro X hl ha hm' hk hn' hc
  subst hl
  have hm := hF.1.2
  have hn16 := hF.2.1
  obtain ⟨Q, hQ⟩ : ∃ Q, Q = Fen X g 0 0 (Rp (MPost w (rfK (op || decide (m = 12)) false false) (if op || decide (m = 12) then vAny else vIs (nI m)) (if op || decide (m = 12) then m else m + 1) (if op || decide (m = 12) then inn else fun p => if p = m then true else inn p) ap n op G)) := ⟨_, rfl⟩
  rw [← hQ]
  generalize hKK : rfK (op || decide (m = 12)) false false = K at hQ
  have hS1 := hS.thr (nI K)
  have h27 : Go X g 0 0 Q (wu w 48 0 (nI K)) 27 [some (.ref (g.1 48)), none, none] [.int (bI ((op || decide (m = 12)) || false || false))] := by
    cases hb : (op || decide (m = 12)) with
    | true =>
      simp only [hb, if_true] at hQ
      refine r_if_eq_f hc dM_enter_27 (tgt := 32) (by decide) (by decide) ?_
      refine r_iconst hc dM_enter_30 (nI 0) (by decide) ?_
      subst hQ
      exact r_iret hc dM_enter_31 ⟨⟨_, rfl⟩, wu_at _ _ _ _, hS1, (FrM.rf w).put 48 0 _ (by decide)⟩
    | false =>
      simp only [hb, Bool.false_eq_true, if_false] at hQ
      rw [Bool.or_eq_false_iff, decide_eq_false_iff_not] at hb
      obtain ⟨hop, h12⟩ := hb
      have hmlt : m < 12 := by omega
      have hrow : ∀ r, r < n → G r m = none := fun r hr => (hF.2.2.2.2.2.2.1 r (by unfold rnd; rw [hop]; exact hr)).1 m (Nat.le_refl _)
      have hapz : ∀ q, ap m q = false := fun q => hF.2.2.2.2.2.1 m q (Nat.le_refl _)
      have hapz2 : ∀ q, ap q m = false := fun q => by rw [hF.2.2.2.2.1 q m]; exact hapz q
      -- a state that has the new player, whatever of its rows is cleared
      have hst : ∀ w1, w1 48 0 = nI K → MS w1 (m + 1) (fun p => if p = m then true else inn p) ap n op G → FrM w w1 → Go X g 0 0 Q w1 82 [some (.ref (g.1 48)), some (.int (nI m)), some (.int (nI 0))] [] := by
        intro w1 e0 hw1 hfr
        have hgen : ∀ q, q ≤ 12 → ∀ w1, w1 48 0 = nI K → MS w1 (m + 1) (fun p => if p = m then true else inn p) ap n op G → FrM w w1 → Go X g 0 0 Q w1 82 [some (.ref (g.1 48)), some (.int (nI m)), some (.int (nI q))] [] := by
          refine lp_up (P := fun q => ∀ w1, w1 48 0 = nI K → MS w1 (m + 1) (fun p => if p = m then true else inn p) ap n op G → FrM w w1 → Go X g 0 0 Q w1 82 [some (.ref (g.1 48)), some (.int (nI m)), some (.int (nI q))] []) ?_
          intro q hq ih w1 e0 hw1 hfr
          refine r_iload_n hc dM_enter_82 rfl ?_
          refine r_bipush hc dM_enter_83 (nI 12) (by decide) ?_
          refine r_ic_ge hc dM_enter_85 (tgt := 118) (by decide) (fun h => ?_) (fun h => ?_)
          · refine r_iload_n hc dM_enter_118 rfl ?_
            subst hQ
            exact r_iret hc dM_enter_119 ⟨rfl, e0, hw1, hfr⟩
          · have hq2 : q < 12 := nle_of h (by decide) (by omega)
            have ih := ih hq2
            simp only [← nI_add] at ih
            refine r_aload_n hc dM_enter_88 rfl ?_
            refine gM_13 hc dM_enter_89 ?_
            refine r_bipush hc dM_enter_92 (nI 12) (by decide) ?_
            refine r_iload_n hc dM_enter_94 rfl ?_
            refine r_imul hc dM_enter_95 ?_
            refine r_iload_n hc dM_enter_96 rfl ?_
            refine r_iadd hc dM_enter_97 ?_
            rw [ix12]
            refine r_iconst hc dM_enter_98 (nI 0) (by decide) ?_
            refine r_zastN hc dM_enter_99 rfl (by first | omega | (show _ < 12; omega) | (show _ < 204; omega) | (show _ < 144; omega) | (show _ < 2048; omega) | (show _ < 4096; omega) | (show _ < 16; omega)) (by first | exact Or.inl rfl | exact Or.inr rfl | assumption) ?_
            refine r_aload_n hc dM_enter_100 rfl ?_
            refine gM_13 hc dM_enter_101 ?_
            refine r_bipush hc dM_enter_104 (nI 12) (by decide) ?_
            refine r_iload_n hc dM_enter_106 rfl ?_
            refine r_imul hc dM_enter_107 ?_
            refine r_iload_n hc dM_enter_108 rfl ?_
            refine r_iadd hc dM_enter_109 ?_
            rw [ix12]
            refine r_iconst hc dM_enter_110 (nI 0) (by decide) ?_
            refine r_zastN hc dM_enter_111 rfl (by first | omega | (show _ < 12; omega) | (show _ < 204; omega) | (show _ < 144; omega) | (show _ < 2048; omega) | (show _ < 4096; omega) | (show _ < 16; omega)) (by first | exact Or.inl rfl | exact Or.inr rfl | assumption) ?_
            refine r_iinc hc dM_enter_112 rfl ?_
            refine r_goto hc dM_enter_115 (tgt := 82) (by decide) ?_
            refine ih _ ?_ ⟨?_, ?_, ?_, fun a ha1 => ?_, fun i j hi hj => ?_, fun r hr a ha1 => ?_⟩ ((hfr.put 50 _ _ (by decide)).put 50 _ _ (by decide))
            · rw [wu_o1 (by decide), wu_o1 (by decide)]; exact e0
            · rw [wu_o1 (by decide), wu_o1 (by decide)]; exact hw1.1
            · rw [wu_o1 (by decide), wu_o1 (by decide)]; exact hw1.2.1
            · rw [wu_o1 (by decide), wu_o1 (by decide)]; exact hw1.2.2.1
            · rw [wu_o1 (by decide), wu_o1 (by decide)]; exact hw1.2.2.2.1 a ha1
            · by_cases c1 : i = q ∧ j = m
              · obtain ⟨rfl, rfl⟩ := c1
                rw [wu_at, hapz2]
                rfl
              · rw [wu_o2 (by omega)]
                by_cases c2 : i = m ∧ j = q
                · obtain ⟨rfl, rfl⟩ := c2
                  rw [wu_at, hapz]
                  rfl
                · rw [wu_o2 (by omega)]
                  exact hw1.2.2.2.2.1 i j hi hj
            · rw [wu_o1 (by decide), wu_o1 (by decide), wu_o1 (by decide), wu_o1 (by decide), wu_o1 (by decide), wu_o1 (by decide)]; exact hw1.2.2.2.2.2 r hr a ha1
        exact hgen 0 (Nat.zero_le _) w1 e0 hw1 hfr
      have hst2 : ∀ r, r ≤ 17 → ∀ w1, w1 48 0 = nI K → MS w1 (m + 1) (fun p => if p = m then true else inn p) ap n op G → FrM w w1 → Go X g 0 0 Q w1 56 [some (.ref (g.1 48)), some (.int (nI m)), some (.int (nI r))] [] := by
        refine lp_up (P := fun r => ∀ w1, w1 48 0 = nI K → MS w1 (m + 1) (fun p => if p = m then true else inn p) ap n op G → FrM w w1 → Go X g 0 0 Q w1 56 [some (.ref (g.1 48)), some (.int (nI m)), some (.int (nI r))] []) ?_
        intro r hr ih w1 e0 hw1 hfr
        refine r_iload_n hc dM_enter_56 rfl ?_
        refine r_bipush hc dM_enter_57 (nI 17) (by decide) ?_
        refine r_ic_ge hc dM_enter_59 (tgt := 80) (by decide) (fun h => ?_) (fun h => ?_)
        · refine r_iconst hc dM_enter_80 (nI 0) (by decide) ?_
          refine r_istore_n hc dM_enter_81 (Nat.le_of_ble_eq_true rfl) ?_
          exact hst w1 e0 hw1 hfr
        · have hr2 : r < 17 := nle_of h (by decide) (by omega)
          have ih := ih hr2
          simp only [← nI_add] at ih
          refine r_aload_n hc dM_enter_62 rfl ?_
          refine gM_16 hc dM_enter_63 ?_
          refine r_bipush hc dM_enter_66 (nI 12) (by decide) ?_
          refine r_iload_n hc dM_enter_68 rfl ?_
          refine r_imul hc dM_enter_69 ?_
          refine r_iload_n hc dM_enter_70 rfl ?_
          refine r_iadd hc dM_enter_71 ?_
          rw [ix12]
          refine r_iconst hc dM_enter_72 (-1) (by decide) ?_
          refine r_iastN hc dM_enter_73 rfl (by first | omega | (show _ < 12; omega) | (show _ < 204; omega) | (show _ < 144; omega) | (show _ < 2048; omega) | (show _ < 4096; omega) | (show _ < 16; omega)) ?_
          refine r_iinc hc dM_enter_74 rfl ?_
          refine r_goto hc dM_enter_77 (tgt := 56) (by decide) ?_
          refine ih _ ?_ ⟨?_, ?_, ?_, fun a ha1 => ?_, fun i j hi hj => ?_, fun s hs a ha1 => ?_⟩ (hfr.put 51 _ _ (by decide))
          · rw [wu_o1 (by decide)]; exact e0
          · rw [wu_o1 (by decide)]; exact hw1.1
          · rw [wu_o1 (by decide)]; exact hw1.2.1
          · rw [wu_o1 (by decide)]; exact hw1.2.2.1
          · rw [wu_o1 (by decide)]; exact hw1.2.2.2.1 a ha1
          · rw [wu_o1 (by decide)]; exact hw1.2.2.2.2.1 i j hi hj
          · rw [wu_o1 (k' := 52) (by decide), wu_o1 (k' := 53) (by decide)]
            by_cases c1 : s = r ∧ a = m
            · obtain ⟨rfl, rfl⟩ := c1
              rw [wu_at, hrow s (by unfold rnd at hs; rw [hop] at hs; exact hs)]
              rfl
            · rw [wu_o2 (by omega)]
              exact hw1.2.2.2.2.2 s hs a ha1
      refine r_if_eq_t hc dM_enter_27 (tgt := 32) (by decide) rfl ?_
      refine r_aload_n hc dM_enter_32 rfl ?_
      refine gM_44 hc dM_enter_33 ?_
      rw [hS1.1]
      refine r_istore_n hc dM_enter_36 (Nat.le_of_ble_eq_true rfl) ?_
      refine r_aload_n hc dM_enter_37 rfl ?_
      refine r_dup hc dM_enter_38 rfl ?_
      refine gM_44 hc dM_enter_39 ?_
      rw [hS1.1]
      refine r_iconst hc dM_enter_42 (nI 1) (by decide) ?_
      refine r_iadd hc dM_enter_43 ?_
      rw [nI_add]
      refine pM_44 hc dM_enter_44 ?_
      refine r_aload_n hc dM_enter_47 rfl ?_
      refine gM_7 hc dM_enter_48 ?_
      refine r_iload_n hc dM_enter_51 rfl ?_
      refine r_iconst hc dM_enter_52 (nI 1) (by decide) ?_
      refine r_zastN hc dM_enter_53 rfl (by first | omega | (show _ < 12; omega) | (show _ < 204; omega) | (show _ < 144; omega) | (show _ < 2048; omega) | (show _ < 4096; omega) | (show _ < 16; omega)) (by first | exact Or.inl rfl | exact Or.inr rfl | assumption) ?_
      refine r_iconst hc dM_enter_54 (nI 0) (by decide) ?_
      refine r_istore_n hc dM_enter_55 (Nat.le_of_ble_eq_true rfl) ?_
      refine hst2 0 (Nat.zero_le _) _ ?_ ⟨?_, ?_, ?_, fun a ha1 => ?_, fun i j hi hj => ?_, fun s hs a ha1 => ?_⟩ ((((FrM.rf w).put 48 0 _ (by decide)).put 48 1 _ (by decide)).put 49 _ _ (by decide))
      · rw [wu_o1 (by decide), wu_o2 (by decide), wu_at]
      · rw [wu_o1 (by decide), wu_at]
      · rw [wu_o1 (by decide), wu_o2 (by decide)]; exact hS1.2.1
      · rw [wu_o1 (by decide), wu_o2 (by decide)]; exact hS1.2.2.1
      · show _ = bI (if a = m then true else inn a)
        by_cases ham : a = m
        · subst ham
          rw [wu_at, if_pos rfl]
          rfl
        · rw [wu_o2 ham, wu_o1 (by decide), if_neg ham]
          exact hS1.2.2.2.1 a (by omega)
      · rw [wu_o1 (by decide), wu_o1 (by decide)]; exact hS1.2.2.2.2.1 i j hi hj
      · rw [wu_o1 (by decide), wu_o1 (by decide), wu_o1 (by decide), wu_o1 (by decide), wu_o1 (by decide), wu_o1 (by decide)]; exact hS1.2.2.2.2.2 s hs a ha1
  have h22 : Go X g 0 0 Q w 22 [some (.ref (g.1 48)), none, none] [.int (bI (op || decide (m = 12))), .ref (g.1 48)] := by
    refine r_iconst hc dM_enter_22 (nI 0) (by decide) ?_
    refine r_iconst hc dM_enter_23 (nI 0) (by decide) ?_
    refine kM_55r hc dM_enter_24 (cM_refused _ g d w _ false false) (by omega) (Nat.le_of_ble_eq_true rfl) ?_
    rintro _ _ ⟨rfl, rfl⟩
    rw [hKK]
    exact h27
  refine r_aload_n hc dM_enter_0 rfl ?_
  refine r_aload_n hc dM_enter_1 rfl ?_
  refine gM_51 hc dM_enter_2 ?_
  rw [hS.2.2.1]
  cases op with
  | true =>
    refine r_if_ne_t hc dM_enter_5 (tgt := 17) (by decide) (by decide) ?_
    refine r_iconst hc dM_enter_17 (nI 1) (by decide) ?_
    refine r_goto hc dM_enter_18 (tgt := 22) (by decide) ?_
    exact h22
  | false =>
    refine r_if_ne_f hc dM_enter_5 (tgt := 17) (by decide) rfl ?_
    refine r_aload_n hc dM_enter_8 rfl ?_
    refine gM_44 hc dM_enter_9 ?_
    refine r_bipush hc dM_enter_12 (nI 12) (by decide) ?_
    rw [hS.1]
    by_cases h12 : m = 12
    · rw [show decide (m = 12) = true from decide_eq_true h12] at h22
      refine r_ic_ne_f hc dM_enter_14 (tgt := 21) (by decide) (by rw [h12]) ?_
      refine r_iconst hc dM_enter_17 (nI 1) (by decide) ?_
      refine r_goto hc dM_enter_18 (tgt := 22) (by decide) ?_
      exact h22
    · rw [show decide (m = 12) = false from decide_eq_false h12] at h22
      refine r_ic_ne_t hc dM_enter_14 (tgt := 21) (by decide) (fun z => h12 ((nI_eq (by omega) (by decide)).mp z)) ?_
      refine r_iconst hc dM_enter_21 (nI 0) (by decide) ?_
      exact h22
