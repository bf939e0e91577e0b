/-! PairedField: apart -/
theorem nx_xor (a b : Nat) : nI a ^^^ nI b = nI (a ^^^ b) := by
  apply Int32.toBitVec_inj.1
  show BitVec.ofNat 32 a ^^^ BitVec.ofNat 32 b = BitVec.ofNat 32 (a ^^^ b)
  apply BitVec.eq_of_getLsbD_eq
  intro i hi
  simp [hi]
theorem cF_apart_nP (l : Launch) (g : GG) (d : Nat) (w : Wd) (m : Nat) (inn : Nat → Bool) (ap : Nat → Nat → Bool) (n : Nat) (op : Bool) (G : Nat → Nat → Ce) (x y : Int32) (b : Bool) (hF : FOk m inn ap n op G) (hS : CS w m inn ap n op G) (h : (isP m x && isP m y) = false) : Con l g yF_apart bF_apart 5 ((some .boolean)) [] (d + 7) 1 6 [.ref (g.1 0), .int x, .int y, .int (bI b)] w (Tp tIOB (fun z => w = z)) := by
  intro X hl ha hm' hk hn' hc
  subst hl
  have hm := hF.1.2
  refine r_aload_n hc dF_apart_0 rfl ?_
  refine r_iload_n hc dF_apart_1 rfl ?_
  cases hx : isP m x with
  | false => exact kF_59t hc dF_apart_2 (cF_refuseNoPlayer_n _ g d w m x hS.1 hx) (by omega) (Nat.le_of_ble_eq_true rfl) hk hn' (fun w' h => ⟨rfl, h⟩)
  | true =>
    rw [hx, Bool.true_and] at h
    refine kF_59r hc dF_apart_2 (cF_refuseNoPlayer_y _ g d w m x hS.1 hx) (by omega) (Nat.le_of_ble_eq_true rfl) ?_
    rintro _ _ ⟨rfl, rfl⟩
    refine r_aload_n hc dF_apart_5 rfl ?_
    refine r_iload_n hc dF_apart_6 rfl ?_
    exact kF_59t hc dF_apart_7 (cF_refuseNoPlayer_n _ g d w m y hS.1 h) (by omega) (Nat.le_of_ble_eq_true rfl) hk hn' (fun w' h => ⟨rfl, h⟩)
theorem cF_apart_nS (l : Launch) (g : GG) (d : Nat) (w : Wd) (m : Nat) (inn : Nat → Bool) (ap : Nat → Nat → Bool) (n : Nat) (op : Bool) (G : Nat → Nat → Ce) (x y : Int32) (b : Bool) (hF : FOk m inn ap n op G) (hS : CS w m inn ap n op G) (h : isP m x = true) (h2 : isP m y = true) (h3 : x = y) : Con l g yF_apart bF_apart 5 ((some .boolean)) [] (d + 6) 1 6 [.ref (g.1 0), .int x, .int y, .int (bI b)] w (Tp tIAE (fun z => w = z)) := by
  intro X hl ha hm' hk hn' hc
  subst hl
  have hm := hF.1.2
  refine r_aload_n hc dF_apart_0 rfl ?_
  refine r_iload_n hc dF_apart_1 rfl ?_
  refine kF_59r hc dF_apart_2 (cF_refuseNoPlayer_y _ g d w m x hS.1 h) (by omega) (Nat.le_of_ble_eq_true rfl) ?_
  rintro _ _ ⟨rfl, rfl⟩
  refine r_aload_n hc dF_apart_5 rfl ?_
  refine r_iload_n hc dF_apart_6 rfl ?_
  refine kF_59r hc dF_apart_7 (cF_refuseNoPlayer_y _ g d w m y hS.1 h2) (by omega) (Nat.le_of_ble_eq_true rfl) ?_
  rintro _ _ ⟨rfl, rfl⟩
  refine r_iload_n hc dF_apart_10 rfl ?_
  refine r_iload_n hc dF_apart_11 rfl ?_
  refine r_ic_ne_f hc dF_apart_12 (tgt := 25) (by decide) (by rw [h3]) ?_
  exact r_throw (cls := "java/lang/IllegalArgumentException") hc (by omega) (Nat.le_of_ble_eq_true rfl) (by decide +kernel) own_IAE (t2_mem 136 rfl rfl) (t2_mem 137 rfl rfl) (t1_mem 12 rfl rfl) (t2_mem 145 rfl rfl) dF_apart_15 dF_apart_18 dF_apart_19 dF_apart_21 dF_apart_24 hk hn' ⟨rfl, rfl⟩
theorem cF_apart_nO (l : Launch) (g : GG) (d : Nat) (w : Wd) (m : Nat) (inn : Nat → Bool) (ap : Nat → Nat → Bool) (n : Nat) (G : Nat → Nat → Ce) (x y : Int32) (b : Bool) (hF : FOk m inn ap n true G) (hS : CS w m inn ap n true G) (h : isP m x = true) (h2 : isP m y = true) (h3 : x ≠ y) : Con l g yF_apart bF_apart 5 ((some .boolean)) [] (d + 7) 1 6 [.ref (g.1 0), .int x, .int y, .int (bI b)] w (Tp tISE (fun z => w = z)) := by
  intro X hl ha hm' hk hn' hc
  subst hl
  have hm := hF.1.2
  refine r_aload_n hc dF_apart_0 rfl ?_
  refine r_iload_n hc dF_apart_1 rfl ?_
  refine kF_59r hc dF_apart_2 (cF_refuseNoPlayer_y _ g d w m x hS.1 h) (by omega) (Nat.le_of_ble_eq_true rfl) ?_
  rintro _ _ ⟨rfl, rfl⟩
  refine r_aload_n hc dF_apart_5 rfl ?_
  refine r_iload_n hc dF_apart_6 rfl ?_
  refine kF_59r hc dF_apart_7 (cF_refuseNoPlayer_y _ g d w m y hS.1 h2) (by omega) (Nat.le_of_ble_eq_true rfl) ?_
  rintro _ _ ⟨rfl, rfl⟩
  refine r_iload_n hc dF_apart_10 rfl ?_
  refine r_iload_n hc dF_apart_11 rfl ?_
  refine r_ic_ne_t hc dF_apart_12 (tgt := 25) (by decide) h3 ?_
  refine r_aload_n hc dF_apart_25 rfl ?_
  exact kF_49t hc dF_apart_26 (cF_refuseOpenRound_n _ g d w hS.2.2.1) (by omega) (Nat.le_of_ble_eq_true rfl) hk hn' (fun w' h => ⟨rfl, h⟩)
set_option maxHeartbeats 1000000 in
theorem cF_apart_y (l : Launch) (g : GG) (d : Nat) (w : Wd) (m : Nat) (inn : Nat → Bool) (ap : Nat → Nat → Bool) (n : Nat) (G : Nat → Nat → Ce) (x y : Int32) (b : Bool) (hF : FOk m inn ap n false G) (hS : CS w m inn ap n false G) (h : isP m x = true) (h2 : isP m y = true) (h3 : x ≠ y) : Con l g yF_apart bF_apart 5 ((some .boolean)) [] (d + 2) 0 0 [.ref (g.1 0), .int x, .int y, .int (bI b)] w (Rp (fun v w' => v = some (.int (bI (ap (pN x) (pN y) != b))) ∧ CS w' m inn (apUp ap (pN x) (pN y) b) n false G ∧ FrC w w')) := by
  intro X hl ha hm' hk hn' hc
  subst hl
  have hm := hF.1.2
  refine r_aload_n hc dF_apart_0 rfl ?_
  refine r_iload_n hc dF_apart_1 rfl ?_
  refine kF_59r hc dF_apart_2 (cF_refuseNoPlayer_y _ g d w m x hS.1 h) (by omega) (Nat.le_of_ble_eq_true rfl) ?_
  rintro _ _ ⟨rfl, rfl⟩
  refine r_aload_n hc dF_apart_5 rfl ?_
  refine r_iload_n hc dF_apart_6 rfl ?_
  refine kF_59r hc dF_apart_7 (cF_refuseNoPlayer_y _ g d w m y hS.1 h2) (by omega) (Nat.le_of_ble_eq_true rfl) ?_
  rintro _ _ ⟨rfl, rfl⟩
  refine r_iload_n hc dF_apart_10 rfl ?_
  refine r_iload_n hc dF_apart_11 rfl ?_
  refine r_ic_ne_t hc dF_apart_12 (tgt := 25) (by decide) h3 ?_
  refine r_aload_n hc dF_apart_25 rfl ?_
  refine kF_49r hc dF_apart_26 (cF_refuseOpenRound_y _ g d w hS.2.2.1) (by omega) (Nat.le_of_ble_eq_true rfl) ?_
  rintro _ _ ⟨rfl, rfl⟩
  obtain ⟨p, hp, rfl⟩ := isP_t h hm
  obtain ⟨q, hq, rfl⟩ := isP_t h2 hm
  have hne : p ≠ q := fun z => h3 (by rw [z])
  rw [pN_nI (by omega), pN_nI (by omega)]
  have hCA := hS.2.2.2.2.1
  have hsym := hF.2.2.2.2.1
  obtain ⟨a, a1, a2, a3⟩ := hCA p (by omega)
  obtain ⟨c, c1, c2, c3⟩ := hCA q (by omega)
  have hbit : a.testBit q = ap p q := a3 q (by omega)
  have hpo : 2 ^ q < 4096 := (Nat.pow_lt_pow_right (by decide) (by omega) : 2 ^ q < 2 ^ 12)
  have hpp : 2 ^ p < 4096 := (Nat.pow_lt_pow_right (by decide) (by omega) : 2 ^ p < 2 ^ 12)
  have h48 : Go X g 0 0 (Fen X g 0 0 (Rp (fun v w' => v = some (.int (bI (ap p q != b))) ∧ CS w' m inn (apUp ap p q b) n false G ∧ FrC w w'))) w 48 [some (.ref (g.1 0)), some (.int (nI p)), some (.int (nI q)), some (.int (bI b)), none] [.int (bI (ap p q))] := by
    refine r_istore hc dF_apart_48 (Nat.le_of_ble_eq_true rfl) ?_
    refine r_iload hc dF_apart_50 rfl ?_
    refine r_iload_n hc dF_apart_52 rfl ?_
    by_cases hwb : ap p q = b
    · refine r_ic_ne_f hc dF_apart_53 (tgt := 58) (by decide) (by rw [hwb]) ?_
      refine r_iconst hc dF_apart_56 (nI 0) (by decide) ?_
      refine r_zret hc dF_apart_57 rfl ⟨by rw [hwb]; simp [bI]; rfl, ⟨hS.1, hS.2.1, hS.2.2.1, hS.2.2.2.1, fun i hi => ?_, hS.2.2.2.2.2.1, hS.2.2.2.2.2.2⟩, FrC.rf w⟩
      obtain ⟨z, z1, z2, z3⟩ := hCA i hi
      refine ⟨z, z1, z2, fun j hj => ?_⟩
      rw [z3 j hj]
      unfold apUp
      split
      · rename_i hcond
        rcases hcond with ⟨rfl, rfl⟩ | ⟨rfl, rfl⟩
        · exact hwb
        · rw [hsym]; exact hwb
      · rfl
    · have hnb : (!ap p q) = b := by cases hh : ap p q <;> cases b <;> simp_all
      refine r_ic_ne_t hc dF_apart_53 (tgt := 58) (by decide) (fun z => hwb (by cases hh : ap p q <;> cases b <;> simp_all [bI])) ?_
      refine r_aload_n hc dF_apart_58 rfl ?_
      refine gF_18 hc dF_apart_59 ?_
      refine r_iload_n hc dF_apart_62 rfl ?_
      refine r_dup2 hc dF_apart_63 rfl rfl ?_
      refine r_ialdN hc dF_apart_64 rfl (by first | omega | (show _ < 12; omega) | (show _ < 204; omega) | (show _ < 144; omega) | (show _ < 2048; omega) | (show _ < 4096; omega) | (show _ < 16; omega)) ?_
      rw [a2]
      refine r_iconst hc dF_apart_65 (nI 1) (by decide) ?_
      refine r_iload_n hc dF_apart_66 rfl ?_
      refine r_ishl hc dF_apart_67 ?_
      rw [shl1 q (by omega)]
      refine r_ixor hc dF_apart_68 ?_
      rw [nx_xor]
      refine r_iastN hc dF_apart_69 rfl (by first | omega | (show _ < 12; omega) | (show _ < 204; omega) | (show _ < 144; omega) | (show _ < 2048; omega) | (show _ < 4096; omega) | (show _ < 16; omega)) ?_
      refine r_aload_n hc dF_apart_70 rfl ?_
      refine gF_18 hc dF_apart_71 ?_
      refine r_iload_n hc dF_apart_74 rfl ?_
      refine r_dup2 hc dF_apart_75 rfl rfl ?_
      refine r_ialdN hc dF_apart_76 rfl (by first | omega | (show _ < 12; omega) | (show _ < 204; omega) | (show _ < 144; omega) | (show _ < 2048; omega) | (show _ < 4096; omega) | (show _ < 16; omega)) ?_
      rw [wu_o2 (Ne.symm hne), c2]
      refine r_iconst hc dF_apart_77 (nI 1) (by decide) ?_
      refine r_iload_n hc dF_apart_78 rfl ?_
      refine r_ishl hc dF_apart_79 ?_
      rw [shl1 p (by omega)]
      refine r_ixor hc dF_apart_80 ?_
      rw [nx_xor]
      refine r_iastN hc dF_apart_81 rfl (by first | omega | (show _ < 12; omega) | (show _ < 204; omega) | (show _ < 144; omega) | (show _ < 2048; omega) | (show _ < 4096; omega) | (show _ < 16; omega)) ?_
      refine r_iconst hc dF_apart_82 (nI 1) (by decide) ?_
      refine r_zret hc dF_apart_83 rfl ⟨by rw [show (ap p q != b) = true by simp [hwb]]; rfl, ⟨?_, ?_, ?_, fun i hi => ?_, fun i hi => ?_, ?_, fun r hr i hi => ?_⟩, ((FrC.rf w).put 19 _ _ (by decide)).put 19 _ _ (by decide)⟩
      · rw [wu_o1 (by decide), wu_o1 (by decide)]; exact hS.1
      · rw [wu_o1 (by decide), wu_o1 (by decide)]; exact hS.2.1
      · rw [wu_o1 (by decide), wu_o1 (by decide)]; exact hS.2.2.1
      · rw [wu_o1 (by decide), wu_o1 (by decide)]; exact hS.2.2.2.1 i hi
      · by_cases hiq : i = q
        · subst hiq
          refine ⟨c ^^^ 2 ^ p, Nat.xor_lt_two_pow (n := 12) c1 hpp, wu_at _ _ _ _, fun j hj => ?_⟩
          rw [Nat.testBit_xor, c3 j hj, Nat.testBit_two_pow]
          unfold apUp
          by_cases hjp : p = j
          · subst hjp
            rw [if_pos (Or.inr ⟨rfl, rfl⟩), ← hnb, hsym i p]
            simp
          · rw [if_neg (by omega)]
            simp [hjp]
        · rw [wu_o2 hiq]
          by_cases hip : i = p
          · subst hip
            refine ⟨a ^^^ 2 ^ q, Nat.xor_lt_two_pow (n := 12) a1 hpo, wu_at _ _ _ _, fun j hj => ?_⟩
            rw [Nat.testBit_xor, a3 j hj, Nat.testBit_two_pow]
            unfold apUp
            by_cases hjq : q = j
            · subst hjq
              rw [if_pos (Or.inl ⟨rfl, rfl⟩), ← hnb]
              simp
            · rw [if_neg (by omega)]
              simp [hjq]
          · rw [wu_o2 hip]
            obtain ⟨z, z1, z2, z3⟩ := hCA i hi
            refine ⟨z, z1, z2, fun j hj => ?_⟩
            rw [z3 j hj]
            unfold apUp
            rw [if_neg (by omega)]
      · exact hS.2.2.2.2.2.1.congr (fun k k1 k2 => by rw [wu_ne (by omega), wu_ne (by omega)])
      · have hr2 : r < n := hr
        have := hF.2.1
        rw [wu_o1 (by omega), wu_o1 (by omega)]; exact hS.2.2.2.2.2.2 r hr i hi
  refine r_aload_n hc dF_apart_29 rfl ?_
  refine gF_18 hc dF_apart_30 ?_
  refine r_iload_n hc dF_apart_33 rfl ?_
  refine r_ialdN hc dF_apart_34 rfl (by first | omega | (show _ < 12; omega) | (show _ < 204; omega) | (show _ < 144; omega) | (show _ < 2048; omega) | (show _ < 4096; omega) | (show _ < 16; omega)) ?_
  rw [a2]
  refine r_iload_n hc dF_apart_35 rfl ?_
  refine r_ishr hc dF_apart_36 ?_
  refine r_iconst hc dF_apart_37 (nI 1) (by decide) ?_
  refine r_iand hc dF_apart_38 ?_
  rw [bitI (by omega) (by omega)]
  refine r_iconst hc dF_apart_39 (nI 1) (by decide) ?_
  cases hb2 : ap p q with
  | true =>
    rw [hb2] at h48
    rw [bit_t (hbit.trans hb2)]
    refine r_ic_ne_f hc dF_apart_40 (tgt := 47) (by decide) (by decide) ?_
    refine r_iconst hc dF_apart_43 (nI 1) (by decide) ?_
    refine r_goto hc dF_apart_44 (tgt := 48) (by decide) ?_
    exact h48
  | false =>
    rw [hb2] at h48
    rw [bit_f (hbit.trans hb2)]
    refine r_ic_ne_t hc dF_apart_40 (tgt := 47) (by decide) (by decide) ?_
    refine r_iconst hc dF_apart_47 (nI 0) (by decide) ?_
    exact h48
