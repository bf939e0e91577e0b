/-! PairedField: tell -/
theorem cF_tell_y (l : Launch) (g : GG) (d : Nat) (w : Wd) (m : Nat) (inn : Nat → Bool) (ap : Nat → Nat → Bool) (n : Nat) (op : Bool) (G : Nat → Nat → Ce) (x y : Int32) (hF : FOk m inn ap n op G) (hS : CS w m inn ap n op G) (h : isP m x = true) (h2 : inR y 6 = true) : Con l g yF_tell bF_tell 3 ((some .int)) [] (d + 2) 0 0 [.ref (g.1 0), .int x, .int y] w (Rp (An (some (.int (figI G n (pN x) (pN y)))) w)) := by
  intro X hl ha hm' hk hn' hc
  subst hl
  have hm := hF.1.2
  refine r_aload_n hc dF_tell_0 rfl ?_
  refine r_iload_n hc dF_tell_1 rfl ?_
  refine kF_59r hc dF_tell_2 (cF_refuseNoPlayer_y _ g d w m x hS.1 h) (by omega) (Nat.le_of_ble_eq_true rfl) ?_
  rintro _ _ ⟨rfl, rfl⟩
  obtain ⟨p, hp, rfl⟩ := isP_t h hm
  obtain ⟨j, hj, rfl⟩ := inR_t h2 (by decide)
  rw [pN_nI (by omega), pN_nI (by omega)]
  have hs := hS.2.2.2.2.2.1 p (by omega)
  refine r_iload_n hc dF_tell_5 rfl ?_
  rcases (show j = 0 ∨ j = 1 ∨ j = 2 ∨ j = 3 ∨ j = 4 ∨ j = 5 ∨ j = 6 by omega) with rfl | rfl | rfl | rfl | rfl | rfl | rfl
  · refine r_tin hc dF_tell_6 (tgt := 48) (by decide) (by decide) rfl (by decide) ?_
    refine r_aload_n hc dF_tell_48 rfl ?_
    refine gF_25 hc dF_tell_49 ?_
    refine gF_153 hc dF_tell_52 ?_
    refine r_iload_n hc dF_tell_55 rfl ?_
    refine r_ialdN hc dF_tell_56 rfl (by first | omega | (show _ < 12; omega) | (show _ < 204; omega) | (show _ < 144; omega) | (show _ < 2048; omega) | (show _ < 4096; omega) | (show _ < 16; omega)) ?_
    rw [hs.1.1]
    exact r_iret hc dF_tell_57 ⟨rfl, rfl⟩
  · refine r_tin hc dF_tell_6 (tgt := 58) (by decide) (by decide) rfl (by decide) ?_
    refine r_aload_n hc dF_tell_58 rfl ?_
    refine gF_25 hc dF_tell_59 ?_
    refine gF_156 hc dF_tell_62 ?_
    refine r_iload_n hc dF_tell_65 rfl ?_
    refine r_ialdN hc dF_tell_66 rfl (by first | omega | (show _ < 12; omega) | (show _ < 204; omega) | (show _ < 144; omega) | (show _ < 2048; omega) | (show _ < 4096; omega) | (show _ < 16; omega)) ?_
    rw [hs.1.2.1]
    exact r_iret hc dF_tell_67 ⟨rfl, rfl⟩
  · refine r_tin hc dF_tell_6 (tgt := 68) (by decide) (by decide) rfl (by decide) ?_
    refine r_aload_n hc dF_tell_68 rfl ?_
    refine gF_25 hc dF_tell_69 ?_
    refine gF_159 hc dF_tell_72 ?_
    refine r_iload_n hc dF_tell_75 rfl ?_
    refine r_ialdN hc dF_tell_76 rfl (by first | omega | (show _ < 12; omega) | (show _ < 204; omega) | (show _ < 144; omega) | (show _ < 2048; omega) | (show _ < 4096; omega) | (show _ < 16; omega)) ?_
    rw [hs.2.1]
    exact r_iret hc dF_tell_77 ⟨rfl, rfl⟩
  · refine r_tin hc dF_tell_6 (tgt := 78) (by decide) (by decide) rfl (by decide) ?_
    refine r_aload_n hc dF_tell_78 rfl ?_
    refine gF_25 hc dF_tell_79 ?_
    refine gF_162 hc dF_tell_82 ?_
    refine r_iload_n hc dF_tell_85 rfl ?_
    refine r_ialdN hc dF_tell_86 rfl (by first | omega | (show _ < 12; omega) | (show _ < 204; omega) | (show _ < 144; omega) | (show _ < 2048; omega) | (show _ < 4096; omega) | (show _ < 16; omega)) ?_
    rw [hs.2.2]
    exact r_iret hc dF_tell_87 ⟨rfl, rfl⟩
  · refine r_tin hc dF_tell_6 (tgt := 88) (by decide) (by decide) rfl (by decide) ?_
    refine r_aload_n hc dF_tell_88 rfl ?_
    refine gF_25 hc dF_tell_89 ?_
    refine gF_165 hc dF_tell_92 ?_
    refine r_iload_n hc dF_tell_95 rfl ?_
    refine r_ialdN hc dF_tell_96 rfl (by first | omega | (show _ < 12; omega) | (show _ < 204; omega) | (show _ < 144; omega) | (show _ < 2048; omega) | (show _ < 4096; omega) | (show _ < 16; omega)) ?_
    rw [hs.1.2.2.1]
    exact r_iret hc dF_tell_97 ⟨rfl, rfl⟩
  · refine r_tin hc dF_tell_6 (tgt := 98) (by decide) (by decide) rfl (by decide) ?_
    refine r_aload_n hc dF_tell_98 rfl ?_
    refine gF_25 hc dF_tell_99 ?_
    refine gF_168 hc dF_tell_102 ?_
    refine r_iload_n hc dF_tell_105 rfl ?_
    refine r_ialdN hc dF_tell_106 rfl (by first | omega | (show _ < 12; omega) | (show _ < 204; omega) | (show _ < 144; omega) | (show _ < 2048; omega) | (show _ < 4096; omega) | (show _ < 16; omega)) ?_
    rw [hs.1.2.2.2.1]
    exact r_iret hc dF_tell_107 ⟨rfl, rfl⟩
  · refine r_tin hc dF_tell_6 (tgt := 108) (by decide) (by decide) rfl (by decide) ?_
    refine r_aload_n hc dF_tell_108 rfl ?_
    refine gF_25 hc dF_tell_109 ?_
    refine gF_171 hc dF_tell_112 ?_
    refine r_iload_n hc dF_tell_115 rfl ?_
    refine r_ialdN hc dF_tell_116 rfl (by first | omega | (show _ < 12; omega) | (show _ < 204; omega) | (show _ < 144; omega) | (show _ < 2048; omega) | (show _ < 4096; omega) | (show _ < 16; omega)) ?_
    rw [hs.1.2.2.2.2.1]
    exact r_iret hc dF_tell_117 ⟨rfl, rfl⟩
theorem cF_tell_n (l : Launch) (g : GG) (d : Nat) (w : Wd) (m : Nat) (inn : Nat → Bool) (ap : Nat → Nat → Bool) (n : Nat) (op : Bool) (G : Nat → Nat → Ce) (x y : Int32) (hF : FOk m inn ap n op G) (hS : CS w m inn ap n op G) (h : (isP m x && inR y 6) = false) : Con l g yF_tell bF_tell 3 ((some .int)) [] (d + 7) 1 6 [.ref (g.1 0), .int x, .int y] w (Tp tIOB (fun z => w = z)) := by
  intro X hl ha hm' hk hn' hc
  subst hl
  have hm := hF.1.2
  refine r_aload_n hc dF_tell_0 rfl ?_
  refine r_iload_n hc dF_tell_1 rfl ?_
  cases hx : isP m x with
  | false => exact kF_59t hc dF_tell_2 (cF_refuseNoPlayer_n _ g d w m x hS.1 hx) (by omega) (Nat.le_of_ble_eq_true rfl) hk hn' (fun w' h => ⟨rfl, h⟩)
  | true =>
    rw [hx, Bool.true_and] at h
    have h := of_decide_eq_false h
    refine kF_59r hc dF_tell_2 (cF_refuseNoPlayer_y _ g d w m x hS.1 hx) (by omega) (Nat.le_of_ble_eq_true rfl) ?_
    rintro _ _ ⟨rfl, rfl⟩
    refine r_iload_n hc dF_tell_5 rfl ?_
    refine r_tout hc dF_tell_6 (tgt := 118) ?_ (by decide) ?_
    · rcases Classical.em (y.toInt < 0) with z | z
      · exact Or.inl z
      · refine Or.inr (Int.not_le.mp (fun z2 => h ⟨?_, ?_⟩))
        · rw [Int32.le_iff_toInt_le]
          show (0 : Int) ≤ _
          omega
        · rw [Int32.le_iff_toInt_le]
          show _ ≤ (6 : Int)
          exact z2
    · exact r_throw (cls := "java/lang/IndexOutOfBoundsException") hc (by omega) (Nat.le_of_ble_eq_true rfl) (by decide +kernel) own_IOB (t2_mem 96 rfl rfl) (t2_mem 97 rfl rfl) (t1_mem 10 rfl rfl) (t3_mem 84 rfl rfl) dF_tell_118 dF_tell_121 dF_tell_122 dF_tell_124 dF_tell_127 hk hn' ⟨rfl, rfl⟩
