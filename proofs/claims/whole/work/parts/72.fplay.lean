/-! PairedField: play, report -/
theorem cF_play_nA (l : Launch) (g : GG) (d : Nat) (w : Wd) (m : Nat) (inn : Nat → Bool) (ap : Nat → Nat → Bool) (n : Nat) (op : Bool) (G : Nat → Nat → Ce) (x : Int32) (hF : FOk m inn ap n op G) (hS : CS w m inn ap n op G) (h : inR x 16 = false) : Con l g yF_play bF_play 3 ((some .int)) [] (d + 6) 1 6 [.ref (g.1 0), .int x] w (Tp tIAE (fun z => w = z)) := by
  intro X hl ha hm' hk hn' hc
  subst hl
  have hm := hF.1.2
  have h := of_decide_eq_false h
  refine r_iload_n hc dF_play_0 rfl ?_
  refine r_if_lt hc dF_play_1 (tgt := 10) (by decide) (fun h1 => ?_) (fun h1 => ?_)
  · exact r_throw (cls := "java/lang/IllegalArgumentException") hc (by omega) (Nat.le_of_ble_eq_true rfl) (by decide +kernel) own_IAE (t2_mem 136 rfl rfl) (t2_mem 137 rfl rfl) (t1_mem 12 rfl rfl) (t3_mem 72 rfl rfl) dF_play_10 dF_play_13 dF_play_14 dF_play_16 dF_play_19 hk hn' ⟨rfl, rfl⟩
  · refine r_iload_n hc dF_play_4 rfl ?_
    refine r_bipush hc dF_play_5 (nI 16) (by decide) ?_
    refine r_ic_le_f hc dF_play_7 (tgt := 20) (by decide) (fun z => h ⟨Int32.not_lt.mp h1, z⟩) ?_
    exact r_throw (cls := "java/lang/IllegalArgumentException") hc (by omega) (Nat.le_of_ble_eq_true rfl) (by decide +kernel) own_IAE (t2_mem 136 rfl rfl) (t2_mem 137 rfl rfl) (t1_mem 12 rfl rfl) (t3_mem 72 rfl rfl) dF_play_10 dF_play_13 dF_play_14 dF_play_16 dF_play_19 hk hn' ⟨rfl, rfl⟩
theorem cF_play_nO (l : Launch) (g : GG) (d : Nat) (w : Wd) (m : Nat) (inn : Nat → Bool) (ap : Nat → Nat → Bool) (n : Nat) (G : Nat → Nat → Ce) (x : Int32) (hF : FOk m inn ap n true G) (hS : CS w m inn ap n true G) (h : inR x 16 = true) : Con l g yF_play bF_play 3 ((some .int)) [] (d + 7) 1 6 [.ref (g.1 0), .int x] w (Tp tISE (fun z => w = z)) := by
  intro X hl ha hm' hk hn' hc
  subst hl
  have hm := hF.1.2
  obtain ⟨N, hN, rfl⟩ := inR_t h (by decide)
  refine r_iload_n hc dF_play_0 rfl ?_
  refine r_if_lt_f hc dF_play_1 (tgt := 10) (by decide) (nI_pos (by omega)) ?_
  refine r_iload_n hc dF_play_4 rfl ?_
  refine r_bipush hc dF_play_5 (nI 16) (by decide) ?_
  refine r_ic_le_t hc dF_play_7 (tgt := 20) (by decide) (nI_le hN (by omega)) ?_
  refine r_aload_n hc dF_play_20 rfl ?_
  exact kF_49t hc dF_play_21 (cF_refuseOpenRound_n _ g d w hS.2.2.1) (by omega) (Nat.le_of_ble_eq_true rfl) hk hn' (fun w' h => ⟨rfl, h⟩)
set_option maxHeartbeats 1000000 in
theorem cF_play_y (l : Launch) (g : GG) (d : Nat) (w : Wd) (m : Nat) (inn : Nat → Bool) (ap : Nat → Nat → Bool) (n : Nat) (G : Nat → Nat → Ce) (x : Int32) (hF : FOk m inn ap n false G) (hS : CS w m inn ap n false G) (h : inR x 16 = true) : Con l g yF_play bF_play 3 ((some .int)) [] (d + 6) 0 0 [.ref (g.1 0), .int x] w (Rp (fun v w' => v = some (.int (nI ((plS ap inn m (pN x) n G).1 - n))) ∧ CS w' m inn ap (plS ap inn m (pN x) n G).1 false (plS ap inn m (pN x) n G).2 ∧ FrC w w')) := by
  intro X hl ha hm' hk hn' hc
  subst hl
  have hm := hF.1.2
  obtain ⟨N, hN, rfl⟩ := inR_t h (by decide)
  rw [pN_nI (by omega)]
  obtain ⟨Q, hQ⟩ : ∃ Q, Q = Fen X g 0 0 (Rp (fun v w' => v = some (.int (nI ((plS ap inn m N n G).1 - n))) ∧ CS w' m inn ap (plS ap inn m N n G).1 false (plS ap inn m N n G).2 ∧ FrC w w')) := ⟨_, rfl⟩
  rw [← hQ]
  have hgen : ∀ k j n1 G1 w1, j + k = N → FOk m inn ap n1 false G1 → CS w1 m inn ap n1 false G1 → FrC w w1 → plS ap inn m k n1 G1 = plS ap inn m N n G → n1 = n + j → Go X g 0 0 Q w1 26 [some (.ref (g.1 0)), some (.int (nI N)), some (.int (nI j))] [] := by
    intro k
    induction k with
    | zero =>
      intro j n1 G1 w1 e1 e2 e3 e5 e6 e7
      refine r_iload_n hc dF_play_26 rfl ?_
      refine r_iload_n hc dF_play_27 rfl ?_
      refine r_ic_ge_t hc dF_play_28 (tgt := 61) (by decide) (nI_le (by omega) (by omega)) ?_
      refine r_iload_n hc dF_play_61 rfl ?_
      subst hQ
      simp only [plS] at e6
      refine r_iret hc dF_play_62 ⟨?_, ?_, e5⟩
      · rw [← e6, e7]
        show _ = some (Value.int (nI (n + j - n)))
        rw [show n + j - n = j by omega]
      · rw [← e6]; exact e3
    | succ k ih =>
      intro j n1 G1 w1 e1 e2 e3 e5 e6 e7
      have hstop : plS ap inn m (k + 1) n1 G1 = (n1, G1) → ∀ w2, CS w2 m inn ap n1 false G1 → FrC w w2 → Go X g 0 0 Q w2 61 [some (.ref (g.1 0)), some (.int (nI N)), some (.int (nI j))] [] := by
        intro hs w2 s2 f2
        refine r_iload_n hc dF_play_61 rfl ?_
        subst hQ
        rw [hs] at e6
        refine r_iret hc dF_play_62 ⟨?_, ?_, f2⟩
        · rw [← e6, e7]
          show _ = some (Value.int (nI (n + j - n)))
          rw [show n + j - n = j by omega]
        · rw [← e6]; exact s2
      have hn1 := e2.2.1
      refine r_iload_n hc dF_play_26 rfl ?_
      refine r_iload_n hc dF_play_27 rfl ?_
      refine r_ic_ge_f hc dF_play_28 (tgt := 61) (by decide) (nI_ge (by omega) (by omega)) ?_
      refine r_aload_n hc dF_play_31 rfl ?_
      refine gF_73 hc dF_play_32 ?_
      refine r_bipush hc dF_play_35 (nI 16) (by decide) ?_
      rw [e3.2.1]
      by_cases h16 : n1 < 16
      · refine r_ic_ge_f hc dF_play_37 (tgt := 61) (by decide) (nI_ge h16 (by decide)) ?_
        refine r_aload_n hc dF_play_40 rfl ?_
        refine kF_78r hc dF_play_41 (cF_openNextRound _ g d w1 m inn ap n1 G1 e2 h16 e3) (by omega) (Nat.le_of_ble_eq_true rfl) ?_
        rintro _ w2 ⟨rfl, s2, -, f2⟩
        cases hcan : canP G1 n1 ap inn m with
        | false =>
          rw [hcan] at s2
          refine r_if_eq_t hc dF_play_44 (tgt := 61) (by decide) rfl ?_
          exact hstop (by simp only [plS]; rw [if_neg (fun z => by rw [hcan] at z; exact absurd z.2 (by decide))]) w2 s2 (e5.tr f2)
        | true =>
          rw [hcan] at s2
          simp only [if_true] at s2
          have hps : plS ap inn m (k + 1) n1 G1 = plS ap inn m k (n1 + 1) (gUp G1 n1 (toldRow (newRow G1 n1 ap inn m) m)) := by simp only [plS]; rw [if_pos ⟨h16, hcan⟩]
          rw [hps] at e6
          have hF2 := e2.played h16 hcan
          refine r_if_eq_f hc dF_play_44 (tgt := 61) (by decide) (by decide) ?_
          refine r_aload_n hc dF_play_47 rfl ?_
          refine kF_147r hc dF_play_48 (cF_noteResultsByNumber _ g d w2 m n1 (newRow G1 n1 ap inn m) hm h16 (newRow_new hm hcan) s2.1 s2.2.1 (fun i hi => by have := s2.2.2.2.2.2.2 n1 (by simp [rnd]) i hi; rw [gUp_at] at this; exact this)) (by omega) (Nat.le_of_ble_eq_true rfl) ?_
          rintro _ w3 ⟨rfl, g1, g2⟩
          have s3 : CS w3 m inn ap n1 true (gUp G1 n1 (toldRow (newRow G1 n1 ap inn m) m)) := by
            refine ⟨?_, ?_, ?_, fun p hp => ?_, fun p hp => ?_, ?_, fun r hr p hp => ?_⟩
            · rw [g2 0 (by omega)]; exact s2.1
            · rw [g2 0 (by omega)]; exact s2.2.1
            · rw [g2 0 (by omega)]; exact s2.2.2.1
            · rw [g2 18 (by omega)]; exact s2.2.2.2.1 p hp
            · rw [g2 19 (by omega)]; exact s2.2.2.2.2.1 p hp
            · exact (s2.2.2.2.2.2.1.congr (fun k k1 k2 => g2 k (by omega))).rows (fun r hr => by rw [gUp_lt (by omega), gUp_lt (by omega)])
            · by_cases hrn : r = n1
              · subst hrn
                rw [gUp_at]
                exact g1 p hp
              · rw [g2 (2 + r) (by omega)]
                have := s2.2.2.2.2.2.2 r hr p hp
                rw [gUp_lt hrn] at this ⊢
                exact this
          refine r_aload_n hc dF_play_51 rfl ?_
          refine kF_132r hc dF_play_52 (cF_closeRound _ g d w3 m inn ap n1 _ h16 hF2.2.2.2.1 (fun r hr p q b k h => hF2.opp r hr p q b k h) s3) (by omega) (Nat.le_of_ble_eq_true rfl) ?_
          rintro _ w4 ⟨rfl, s4, f4⟩
          refine r_iinc hc dF_play_55 rfl ?_
          refine r_goto hc dF_play_58 (tgt := 26) (by decide) ?_
          have ih := ih (j + 1) (n1 + 1) _ w4 (by omega) hF2 s4 (((e5.tr f2).tr (fun k hk => g2 k (by omega))).tr f4) e6 (by omega)
          simp only [← nI_add] at ih
          exact ih
      · refine r_ic_ge_t hc dF_play_37 (tgt := 61) (by decide) (nI_le (by omega) (by omega)) ?_
        exact hstop (by simp only [plS]; rw [if_neg (fun z => h16 z.1)]) w1 e3 e5
  refine r_iload_n hc dF_play_0 rfl ?_
  refine r_if_lt_f hc dF_play_1 (tgt := 10) (by decide) (nI_pos (by omega)) ?_
  refine r_iload_n hc dF_play_4 rfl ?_
  refine r_bipush hc dF_play_5 (nI 16) (by decide) ?_
  refine r_ic_le_t hc dF_play_7 (tgt := 20) (by decide) (nI_le hN (by omega)) ?_
  refine r_aload_n hc dF_play_20 rfl ?_
  refine kF_49r hc dF_play_21 (cF_refuseOpenRound_y _ g d w hS.2.2.1) (by omega) (Nat.le_of_ble_eq_true rfl) ?_
  rintro _ _ ⟨rfl, rfl⟩
  refine r_iconst hc dF_play_24 (nI 0) (by decide) ?_
  refine r_istore_n hc dF_play_25 (Nat.le_of_ble_eq_true rfl) ?_
  exact hgen N 0 n G w (by omega) hF hS (FrC.rf w) rfl rfl
theorem cF_report_nP (l : Launch) (g : GG) (d : Nat) (w : Wd) (m : Nat) (inn : Nat → Bool) (ap : Nat → Nat → Bool) (n : Nat) (op : Bool) (G : Nat → Nat → Ce) (x y : Int32) (hF : FOk m inn ap n op G) (hS : CS w m inn ap n op G) (h : isP m x = false) : Con l g yF_report bF_report 3 ((none : Option Jvm.ClassFile.FieldType)) [] (d + 7) 1 6 [.ref (g.1 0), .int x, .int y] w (Tp tIOB (fun z => w = z)) := by
  intro X hl ha hm' hk hn' hc
  subst hl
  have hm := hF.1.2
  refine r_aload_n hc dF_report_0 rfl ?_
  refine r_iload_n hc dF_report_1 rfl ?_
  exact kF_59t hc dF_report_2 (cF_refuseNoPlayer_n _ g d w m x hS.1 h) (by omega) (Nat.le_of_ble_eq_true rfl) hk hn' (fun w' h => ⟨rfl, h⟩)
theorem cF_report_nA (l : Launch) (g : GG) (d : Nat) (w : Wd) (m : Nat) (inn : Nat → Bool) (ap : Nat → Nat → Bool) (n : Nat) (op : Bool) (G : Nat → Nat → Ce) (x y : Int32) (hF : FOk m inn ap n op G) (hS : CS w m inn ap n op G) (h : isP m x = true) (h2 : inR y 2 = false) : Con l g yF_report bF_report 3 ((none : Option Jvm.ClassFile.FieldType)) [] (d + 6) 1 6 [.ref (g.1 0), .int x, .int y] w (Tp tIAE (fun z => w = z)) := by
  intro X hl ha hm' hk hn' hc
  subst hl
  have hm := hF.1.2
  have h2 := of_decide_eq_false h2
  refine r_aload_n hc dF_report_0 rfl ?_
  refine r_iload_n hc dF_report_1 rfl ?_
  refine kF_59r hc dF_report_2 (cF_refuseNoPlayer_y _ g d w m x hS.1 h) (by omega) (Nat.le_of_ble_eq_true rfl) ?_
  rintro _ _ ⟨rfl, rfl⟩
  refine r_iload_n hc dF_report_5 rfl ?_
  refine r_if_lt hc dF_report_6 (tgt := 14) (by decide) (fun h1 => ?_) (fun h1 => ?_)
  · exact r_throw (cls := "java/lang/IllegalArgumentException") hc (by omega) (Nat.le_of_ble_eq_true rfl) (by decide +kernel) own_IAE (t2_mem 136 rfl rfl) (t2_mem 137 rfl rfl) (t1_mem 12 rfl rfl) (t2_mem 239 rfl rfl) dF_report_14 dF_report_17 dF_report_18 dF_report_20 dF_report_23 hk hn' ⟨rfl, rfl⟩
  · refine r_iload_n hc dF_report_9 rfl ?_
    refine r_iconst hc dF_report_10 (nI 2) (by decide) ?_
    refine r_ic_le_f hc dF_report_11 (tgt := 24) (by decide) (fun z => h2 ⟨Int32.not_lt.mp h1, z⟩) ?_
    exact r_throw (cls := "java/lang/IllegalArgumentException") hc (by omega) (Nat.le_of_ble_eq_true rfl) (by decide +kernel) own_IAE (t2_mem 136 rfl rfl) (t2_mem 137 rfl rfl) (t1_mem 12 rfl rfl) (t2_mem 239 rfl rfl) dF_report_14 dF_report_17 dF_report_18 dF_report_20 dF_report_23 hk hn' ⟨rfl, rfl⟩
theorem cF_report_nS (l : Launch) (g : GG) (d : Nat) (w : Wd) (m : Nat) (inn : Nat → Bool) (ap : Nat → Nat → Bool) (n : Nat) (op : Bool) (G : Nat → Nat → Ce) (x y : Int32) (hF : FOk m inn ap n op G) (hS : CS w m inn ap n op G) (h : isP m x = true) (h2 : inR y 2 = true) (h3 : rpOk m n op G x = false) : Con l g yF_report bF_report 3 ((none : Option Jvm.ClassFile.FieldType)) [] (d + 7) 1 6 [.ref (g.1 0), .int x, .int y] w (Tp tISE (fun z => w = z)) := by
  intro X hl ha hm' hk hn' hc
  subst hl
  have hm := hF.1.2
  obtain ⟨k, hk2, rfl⟩ := inR_t h2 (by decide)
  refine r_aload_n hc dF_report_0 rfl ?_
  refine r_iload_n hc dF_report_1 rfl ?_
  refine kF_59r hc dF_report_2 (cF_refuseNoPlayer_y _ g d w m x hS.1 h) (by omega) (Nat.le_of_ble_eq_true rfl) ?_
  rintro _ _ ⟨rfl, rfl⟩
  refine r_iload_n hc dF_report_5 rfl ?_
  refine r_if_lt_f hc dF_report_6 (tgt := 14) (by decide) (nI_pos (by omega)) ?_
  refine r_iload_n hc dF_report_9 rfl ?_
  refine r_iconst hc dF_report_10 (nI 2) (by decide) ?_
  refine r_ic_le_t hc dF_report_11 (tgt := 24) (by decide) (nI_le hk2 (by omega)) ?_
  refine r_aload_n hc dF_report_24 rfl ?_
  cases op with
  | false => exact kF_100t hc dF_report_25 (cF_refuseNoRound_n _ g d w hS.2.2.1) (by omega) (Nat.le_of_ble_eq_true rfl) hk hn' (fun w' h => ⟨rfl, h⟩)
  | true =>
    have hn : n < 16 := hF.2.2.1 rfl
    have hlr := lenRow hn
    have hrow := hF.2.2.2.2.2.2.1 n (by simp [rnd])
    refine kF_100r hc dF_report_25 (cF_refuseNoRound_y _ g d w hS.2.2.1) (by omega) (Nat.le_of_ble_eq_true rfl) ?_
    rintro _ _ ⟨rfl, rfl⟩
    have hP := h
    obtain ⟨p, hp, rfl⟩ := isP_t h hm
    unfold rpOk at h3
    rw [hP, pN_nI (by omega)] at h3
    have h3 : ceU (G n p) = false := h3
    refine r_aload_n hc dF_report_28 rfl ?_
    refine gF_11 hc dF_report_29 ?_
    refine r_aload_n hc dF_report_32 rfl ?_
    refine gF_73 hc dF_report_33 ?_
    rw [hS.2.1]
    refine r_aaldN hc dF_report_36 rfl (by first | omega | (show _ < 12; omega) | (show _ < 204; omega) | (show _ < 144; omega) | (show _ < 2048; omega) | (show _ < 4096; omega) | (show _ < 16; omega)) ?_
    refine r_iload_n hc dF_report_37 rfl ?_
    rw [show (1 + 1 + n : Nat) = 2 + n by omega]
    refine r_ialdN hc dF_report_38 rfl (by rw [hlr]; omega) ?_
    rw [hS.2.2.2.2.2.2 n (by simp [rnd]) p (by omega)]
    refine kF_118r hc dF_report_39 (cC_isUntold _ g d w _) (by omega) (Nat.le_of_ble_eq_true rfl) ?_
    rintro _ _ ⟨rfl, rfl⟩
    rw [isUn_ce (fun o b k hg => by have := hrow.2 p o b k hg; omega), h3]
    refine r_if_ne_f hc dF_report_42 (tgt := 55) (by decide) (by decide) ?_
    exact r_throw (cls := "java/lang/IllegalStateException") hc (by omega) (Nat.le_of_ble_eq_true rfl) (by decide +kernel) own_ISE (t2_mem 13 rfl rfl) (t2_mem 14 rfl rfl) (t1_mem 9 rfl rfl) (t3_mem 7 rfl rfl) dF_report_45 dF_report_48 dF_report_49 dF_report_51 dF_report_54 hk hn' ⟨rfl, rfl⟩
theorem cF_report_y (l : Launch) (g : GG) (d : Nat) (w : Wd) (m : Nat) (inn : Nat → Bool) (ap : Nat → Nat → Bool) (n : Nat) (G : Nat → Nat → Ce) (x y : Int32) (hF : FOk m inn ap n true G) (hS : CS w m inn ap n true G) (h : isP m x = true) (h2 : inR y 2 = true) (h3 : ceU (G n (pN x)) = true) : Con l g yF_report bF_report 3 ((none : Option Jvm.ClassFile.FieldType)) [] (d + 3) 0 0 [.ref (g.1 0), .int x, .int y] w (Rp (fun v w' => v = none ∧ CS w' m inn ap n true (gUp G n (rowTold (G n) (pN x) (pN y))) ∧ FrC w w')) := by
  intro X hl ha hm' hk hn' hc
  subst hl
  have hm := hF.1.2
  obtain ⟨k, hk2, rfl⟩ := inR_t h2 (by decide)
  have hn : n < 16 := hF.2.2.1 rfl
  have hlr := lenRow hn
  have hrow := hF.2.2.2.2.2.2.1 n (by simp [rnd])
  refine r_aload_n hc dF_report_0 rfl ?_
  refine r_iload_n hc dF_report_1 rfl ?_
  refine kF_59r hc dF_report_2 (cF_refuseNoPlayer_y _ g d w m x hS.1 h) (by omega) (Nat.le_of_ble_eq_true rfl) ?_
  rintro _ _ ⟨rfl, rfl⟩
  refine r_iload_n hc dF_report_5 rfl ?_
  refine r_if_lt_f hc dF_report_6 (tgt := 14) (by decide) (nI_pos (by omega)) ?_
  refine r_iload_n hc dF_report_9 rfl ?_
  refine r_iconst hc dF_report_10 (nI 2) (by decide) ?_
  refine r_ic_le_t hc dF_report_11 (tgt := 24) (by decide) (nI_le hk2 (by omega)) ?_
  refine r_aload_n hc dF_report_24 rfl ?_
  refine kF_100r hc dF_report_25 (cF_refuseNoRound_y _ g d w hS.2.2.1) (by omega) (Nat.le_of_ble_eq_true rfl) ?_
  rintro _ _ ⟨rfl, rfl⟩
  obtain ⟨p, hp, rfl⟩ := isP_t h hm
  rw [pN_nI (by omega), pN_nI (by omega)]
  rw [pN_nI (by omega)] at h3
  have hcr : ∀ i, i < 12 → w (2 + n) i = ce_code (G n i) := fun i hi => hS.2.2.2.2.2.2 n (by simp [rnd]) i hi
  refine r_aload_n hc dF_report_28 rfl ?_
  refine gF_11 hc dF_report_29 ?_
  refine r_aload_n hc dF_report_32 rfl ?_
  refine gF_73 hc dF_report_33 ?_
  rw [hS.2.1]
  refine r_aaldN hc dF_report_36 rfl (by first | omega | (show _ < 12; omega) | (show _ < 204; omega) | (show _ < 144; omega) | (show _ < 2048; omega) | (show _ < 4096; omega) | (show _ < 16; omega)) ?_
  refine r_iload_n hc dF_report_37 rfl ?_
  rw [show (1 + 1 + n : Nat) = 2 + n by omega]
  refine r_ialdN hc dF_report_38 rfl (by rw [hlr]; omega) ?_
  rw [hcr p (by omega)]
  refine kF_118r hc dF_report_39 (cC_isUntold _ g d w _) (by omega) (Nat.le_of_ble_eq_true rfl) ?_
  rintro _ _ ⟨rfl, rfl⟩
  rw [isUn_ce (fun o b k hg => by have := hrow.2 p o b k hg; omega), h3]
  refine r_if_ne_t hc dF_report_42 (tgt := 55) (by decide) (by decide) ?_
  rcases hg : G n p with _ | _ | ⟨q, b, k0⟩
  · rw [hg] at h3; cases h3
  · rw [hg] at h3; cases h3
  · have hr := hrow.2 p q b k0 hg
    have hk0 : k0 = 3 := by rw [hg] at h3; simpa [ceU] using h3
    subst hk0
    have h4 : G n q = some (some (p, !b, 3)) := hr.2.2.2
    refine r_aload_n hc dF_report_55 rfl ?_
    refine r_iload_n hc dF_report_56 rfl ?_
    refine r_iload_n hc dF_report_57 rfl ?_
    refine kF_123r hc dF_report_58 (cF_noteResult _ g d w n p q k 3 3 b (G n) hn (by omega) (by omega) hr.2.1 hk2 (by decide) (by decide) hS.2.1 hcr hg h4) (by omega) (Nat.le_of_ble_eq_true rfl) ?_
    rintro _ w' ⟨rfl, e1, e2⟩
    refine r_vret hc dF_report_61 ⟨rfl, ⟨?_, ?_, ?_, fun p hp => ?_, fun p hp => ?_, ?_, fun r hr p hp => ?_⟩, fun j hj => e2 j (by omega)⟩
    · rw [e2 0 (by omega)]; exact hS.1
    · rw [e2 0 (by omega)]; exact hS.2.1
    · rw [e2 0 (by omega)]; exact hS.2.2.1
    · rw [e2 18 (by omega)]; exact hS.2.2.2.1 p hp
    · rw [e2 19 (by omega)]; exact hS.2.2.2.2.1 p hp
    · exact (hS.2.2.2.2.2.1.congr (fun k k1 k2 => e2 k (by omega))).rows (fun r hr => (gUp_lt (by omega)).symm)
    · by_cases hrn : r = n
      · subst hrn
        rw [gUp_at]
        exact e1 p hp
      · rw [e2 (2 + r) (by omega), gUp_lt hrn]
        exact hS.2.2.2.2.2.2 r hr p hp
