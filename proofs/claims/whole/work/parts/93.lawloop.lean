/-! the law's loop over its script -/
theorem and31 (x : Int32) : ∃ j, j < 32 ∧ x &&& nI 31 = nI j := by
  refine ⟨x.toBitVec.toNat &&& 31, ?_, ?_⟩
  · exact Nat.lt_of_le_of_lt Nat.and_le_right (by decide)
  · apply Int32.toBitVec_inj.mp
    apply BitVec.eq_of_toNat_eq
    rw [Int32.toBitVec_and, BitVec.toNat_and]
    show x.toBitVec.toNat &&& (BitVec.ofNat 32 31).toNat = (BitVec.ofNat 32 (x.toBitVec.toNat &&& 31)).toNat
    rw [BitVec.toNat_ofNat, BitVec.toNat_ofNat]
    have h1 : x.toBitVec.toNat &&& 31 ≤ 31 := Nat.and_le_right
    rw [Nat.mod_eq_of_lt (show 31 < 2 ^ 32 by decide), Nat.mod_eq_of_lt (show x.toBitVec.toNat &&& 31 < 2 ^ 32 by omega)]
theorem len4 {L i : Nat} (hL : L < 2 ^ 31) (hi1 : 1 ≤ i) (hi : i < 2 ^ 31) (h : ¬ nI L - nI 4 < nI i) : i + 3 < L := by
  by_cases h4 : 4 ≤ L
  · obtain ⟨a, rfl⟩ : ∃ a, L = a + 4 := ⟨L - 4, by omega⟩
    rw [← nI_add, Int32.add_sub_cancel, nI_ltI (by omega) hi] at h
    omega
  · exfalso
    apply h
    have h0 : nI L - nI 4 < 0 := by
      have : L = 0 ∨ L = 1 ∨ L = 2 ∨ L = 3 := by omega
      rcases this with rfl | rfl | rfl | rfl <;> decide
    exact Int32.lt_of_lt_of_le h0 (nI_pos' hi)
theorem law_loop {X : Cxt} {g : GG} {Q : State → Prop} {b L C S : Nat} {xs : Nat → Int32} {hx : List (Nat × Nat × Nat × Nat)} (hc : Ok X g code "PairedFieldLaw" (some .boolean) hx 11) (hX : SX g b L xs X.2.2.2.2.1) (hL2 : L ≤ 2049) (hC9 : C ≤ X.2.2.2.1.cells) (hS9 : S ≤ X.2.2.2.1.slots)
    (hend : ∀ (w : Wd) (i kc ks : Nat), kc ≤ C → ks ≤ S → Go X g kc ks Q w 1028 (LPl g b i) []) :
    ∀ (k i kc ks : Nat) (w : Wd) (m : Nat) (inn : Nat → Bool) (ap : Nat → Nat → Bool) (n : Nat) (op : Bool) (G : Nat → Nat → Ce), L ≤ i + k → 1 ≤ i → i ≤ L + 4 → LwInv w m inn ap n op G → kc + k ≤ C → ks + 6 * k ≤ S → Go X g kc ks Q w 33 (LPl g b i) [] := by
  intro k
  induction k using Nat.strongRecOn with
  | ind k ih =>
    intro i kc ks w m inn ap n op G h1 h2 h2b hI h3 h4
    have hL : L < 2 ^ 31 := by omega
    refine r_iload hc dL_law_33 rfl ?_
    refine r_aload_n hc dL_law_35 rfl ?_
    refine r_slen hc hX dL_law_36 ?_
    refine r_iconst hc dL_law_37 (nI 4) (by decide) ?_
    refine r_isub hc dL_law_38 ?_
    refine r_ic_gt hc dL_law_39 (tgt := 1028) (by decide) (fun h => hend w i kc ks (by omega) (by omega)) (fun h => ?_)
    have hi3 := len4 hL h2 (by omega) h
    have hk1 : kc + 1 ≤ X.2.2.2.1.cells := by omega
    have hs1 : ks + 6 ≤ X.2.2.2.1.slots := by omega
    have hnext : ∀ (w : Wd) (m : Nat) (inn : Nat → Bool) (ap : Nat → Nat → Bool) (n : Nat) (op : Bool) (G : Nat → Nat → Ce), LwInv w m inn ap n op G → Go X g (kc + 1) (ks + 6) Q w 1022 (LPl g b i) [] := by
      intro w m inn ap n op G hI
      have ih2 := ih (k - 4) (by omega) (i + 4) (kc + 1) (ks + 6) w m inn ap n op G (by omega) (by omega) (by omega) hI (by omega) (by omega)
      unfold LPl at ih2
      rw [← nI_add] at ih2
      refine r_iinc hc dL_law_1022 rfl ?_
      refine r_goto hc dL_law_1025 (tgt := 33) (by decide) ?_
      exact ih2
    refine r_aload_n hc dL_law_42 rfl ?_
    refine r_iload hc dL_law_43 rfl ?_
    refine r_sld hc hX (vp_in_nI (by omega) hL) dL_law_45 ?_
    rw [nI_clamp (show i < 2 ^ 31 by omega)]
    refine r_bipush hc dL_law_46 (nI 31) (by decide) ?_
    refine r_iand hc dL_law_48 ?_
    obtain ⟨j, hj, e⟩ := and31 (xs i)
    rw [e]
    by_cases h18 : j ≤ 18
    · have hjj : j = 0 ∨ j = 1 ∨ j = 2 ∨ j = 3 ∨ j = 4 ∨ j = 5 ∨ j = 6 ∨ j = 7 ∨ j = 8 ∨ j = 9 ∨ j = 10 ∨ j = 11 ∨ j = 12 ∨ j = 13 ∨ j = 14 ∨ j = 15 ∨ j = 16 ∨ j = 17 ∨ j = 18 := by omega
      rcases hjj with rfl | rfl | rfl | rfl | rfl | rfl | rfl | rfl | rfl | rfl | rfl | rfl | rfl | rfl | rfl | rfl | rfl | rfl | rfl
      · exact r_tin hc dL_law_49 (by decide) (by decide) (off := 91) rfl (tgt := 140) (by decide) (law_0 hc hX hL hi3 hI hk1 hs1 hnext)
      · exact r_tin hc dL_law_49 (by decide) (by decide) (off := 135) rfl (tgt := 184) (by decide) (law_1 hc hX hL hi3 hI hk1 hs1 hnext)
      · exact r_tin hc dL_law_49 (by decide) (by decide) (off := 171) rfl (tgt := 220) (by decide) (law_2 hc hX hL hi3 hI hk1 hs1 hnext)
      · exact r_tin hc dL_law_49 (by decide) (by decide) (off := 274) rfl (tgt := 323) (by decide) (law_3 hc hX hL hi3 hI hk1 hs1 hnext)
      · exact r_tin hc dL_law_49 (by decide) (by decide) (off := 318) rfl (tgt := 367) (by decide) (law_4 hc hX hL hi3 hI hk1 hs1 hnext)
      · exact r_tin hc dL_law_49 (by decide) (by decide) (off := 362) rfl (tgt := 411) (by decide) (law_5 hc hX hL hi3 hI hk1 hs1 hnext)
      · exact r_tin hc dL_law_49 (by decide) (by decide) (off := 375) rfl (tgt := 424) (by decide) (law_6 hc hX hL hi3 hI hk1 hs1 hnext)
      · exact r_tin hc dL_law_49 (by decide) (by decide) (off := 431) rfl (tgt := 480) (by decide) (law_7 hc hX hL hi3 hI hk1 hs1 hnext)
      · exact r_tin hc dL_law_49 (by decide) (by decide) (off := 494) rfl (tgt := 543) (by decide) (law_8 hc hX hL hi3 hI hk1 hs1 hnext)
      · exact r_tin hc dL_law_49 (by decide) (by decide) (off := 542) rfl (tgt := 591) (by decide) (law_9 hc hX hL hi3 hI hk1 hs1 hnext)
      · exact r_tin hc dL_law_49 (by decide) (by decide) (off := 586) rfl (tgt := 635) (by decide) (law_10 hc hX hL hi3 hI hk1 hs1 hnext)
      · exact r_tin hc dL_law_49 (by decide) (by decide) (off := 630) rfl (tgt := 679) (by decide) (law_11 hc hX hL hi3 hI hk1 hs1 hnext)
      · exact r_tin hc dL_law_49 (by decide) (by decide) (off := 674) rfl (tgt := 723) (by decide) (law_12 hc hX hL hi3 hI hk1 hs1 hnext)
      · exact r_tin hc dL_law_49 (by decide) (by decide) (off := 730) rfl (tgt := 779) (by decide) (law_13 hc hX hL hi3 hI hk1 hs1 hnext)
      · exact r_tin hc dL_law_49 (by decide) (by decide) (off := 743) rfl (tgt := 792) (by decide) (law_14 hc hX hL hi3 hI hk1 hs1 hnext)
      · exact r_tin hc dL_law_49 (by decide) (by decide) (off := 756) rfl (tgt := 805) (by decide) (law_15 hc hX hL hi3 hI hk1 hs1 hnext)
      · exact r_tin hc dL_law_49 (by decide) (by decide) (off := 781) rfl (tgt := 830) (by decide) (law_16 hc hX hL hi3 hI hk1 hs1 hnext)
      · exact r_tin hc dL_law_49 (by decide) (by decide) (off := 849) rfl (tgt := 898) (by decide) (law_17 hc hX hL hi3 hI hk1 hs1 hnext)
      · exact r_tin hc dL_law_49 (by decide) (by decide) (off := 917) rfl (tgt := 966) (by decide) (law_18 hc hX hL hi3 hI hk1 hs1 hnext)
    · exact r_tout hc dL_law_49 (Or.inr (by rw [nI_toInt (by omega)]; omega)) (tgt := 1022) (by decide) (Go.widen (Nat.le_succ _) (Nat.le_add_right _ _) (hnext w m inn ap n op G hI))
