/-! PairedField.Pairing: the bye, the seats -/
theorem nI_nm1 {c : Nat} (h : c < 2 ^ 31) : nI c ≠ -1 := fun z => absurd (z ▸ (by decide : (-1 : Int32) < 0) : nI c < 0) (nI_pos h)
theorem oI_some {o : Option Nat} {p : Nat} (hp : p < 2 ^ 31) (ho : ∀ c, o = some c → c < 2 ^ 31) : nI p = oI o ↔ o = some p := by
  rcases o with _ | c
  · refine ⟨fun z => absurd z (nI_nm1 hp), fun z => by cases z⟩
  · have hc := ho c rfl
    refine ⟨fun z => ?_, fun z => by cases z; rfl⟩
    have : p = c := (nI_eq hp hc).mp z
    rw [this]
theorem SRep.congr {w w' : Wd} {G : Nat → Nat → Ce} {n : Nat} (h : SRep w G n) (hk : ∀ k, 21 ≤ k → k ≤ 30 → w' k = w k) : SRep w' G n := fun p hp => ⟨(h p hp).1.congr (fun k k1 k2 _ _ => by rw [hk k k1 k2]), (h p hp).2.congr (by rw [hk 23 (by decide) (by decide)]) (by rw [hk 24 (by decide) (by decide)])⟩
def PIn (w : Wd) (i : Nat → Bool) : Prop := ∀ p, p < 12 → w 18 p = bI (i p)
theorem cP_chooseBye (l : Launch) (g : GG) (d : Nat) (w : Wd) (G : Nat → Nat → Ce) (n : Nat) (i : Nat → Bool) (hS : SRep w G n) (hT : GTold G n) (hn : n ≤ 16) (hI : PIn w i) : Con l g yP_chooseBye bP_chooseBye 6 ((none : Option Jvm.ClassFile.FieldType)) [] (d + 1) 0 0 [.ref (g.1 31), .ref (g.1 20), .ref (g.1 18)] w (Rp (An none (wu w 31 2 (oI (byeOf G n i 12))))) := by
  intro X hl ha hm' hk hn' hc
  subst hl
  refine r_iconst hc dP_chooseBye_0 (nI 0) (by decide) ?_
  refine r_istore_n hc dP_chooseBye_1 (Nat.le_of_ble_eq_true rfl) ?_
  refine r_iconst hc dP_chooseBye_2 (-1) (by decide) ?_
  refine r_istore hc dP_chooseBye_3 (Nat.le_of_ble_eq_true rfl) ?_
  refine r_iconst hc dP_chooseBye_5 (nI 0) (by decide) ?_
  refine r_istore hc dP_chooseBye_6 (Nat.le_of_ble_eq_true rfl) ?_
  refine lp_up (P := fun p => Go X g 0 0 _ w 8 [some (.ref (g.1 31)), some (.ref (g.1 20)), some (.ref (g.1 18)), some (.int (nI (f_in i p))), some (.int (oI (f_fb G n i p))), some (.int (nI p))] []) (n := 12) ?_ 0 (Nat.zero_le _)
  intro p hp ih
  refine r_iload hc dP_chooseBye_8 rfl ?_
  refine r_bipush hc dP_chooseBye_10 (nI 12) (by decide) ?_
  refine r_ic_ge hc dP_chooseBye_12 (tgt := 52) (by decide) (fun h => ?_) (fun h => ?_)
  · have hp2 : p = 12 := by have := nle_to h (by omega) (by omega); omega
    subst hp2
    have hle := f_in_le i 12
    refine r_aload_n hc dP_chooseBye_52 rfl ?_
    refine r_iload_n hc dP_chooseBye_53 rfl ?_
    refine r_iconst hc dP_chooseBye_54 (nI 2) (by decide) ?_
    refine r_irem hc dP_chooseBye_55 (by decide) ?_
    rw [rem2 (by omega)]
    refine r_iconst hc dP_chooseBye_56 (nI 1) (by decide) ?_
    rcases Nat.mod_two_eq_zero_or_one (f_in i 12) with h9 | h9
    · rw [h9]
      refine r_ic_ne_t hc dP_chooseBye_57 (tgt := 65) (by decide) (by decide) ?_
      refine r_iconst hc dP_chooseBye_65 (-1) (by decide) ?_
      refine pP_15 hc dP_chooseBye_66 ?_
      exact r_vret hc dP_chooseBye_69 ⟨rfl, by rw [byeOf, if_neg (by omega)]; rfl⟩
    · rw [h9]
      refine r_ic_ne_f hc dP_chooseBye_57 (tgt := 65) (by decide) (by decide) ?_
      refine r_iload hc dP_chooseBye_60 rfl ?_
      refine r_goto hc dP_chooseBye_62 (tgt := 66) (by decide) ?_
      refine pP_15 hc dP_chooseBye_66 ?_
      exact r_vret hc dP_chooseBye_69 ⟨rfl, by rw [byeOf, if_pos h9]⟩
  · have hp2 : p < 12 := nle_of h (by omega) (by omega)
    have ih := ih hp2
    simp only [f_in, f_fb] at ih
    refine r_aload_n hc dP_chooseBye_15 rfl ?_
    refine r_iload hc dP_chooseBye_16 rfl ?_
    refine r_zaldN hc dP_chooseBye_18 rfl (by first | omega | (show _ < 12; omega) | (show _ < 204; omega) | (show _ < 144; omega) | (show _ < 2048; omega) | (show _ < 4096; omega) | (show _ < 16; omega)) ?_
    rw [hI p hp2]
    cases hi : i p with
    | false =>
      simp only [hi, Bool.false_eq_true, if_false, ← nI_add] at ih
      refine r_if_eq_t hc dP_chooseBye_19 (tgt := 46) (by decide) rfl ?_
      refine r_iinc hc dP_chooseBye_46 rfl ?_
      refine r_goto hc dP_chooseBye_49 (tgt := 8) (by decide) ?_
      exact ih
    | true =>
      simp only [hi, if_true, ← nI_add] at ih
      refine r_if_eq_f hc dP_chooseBye_19 (tgt := 46) (by decide) (by decide) ?_
      refine r_iinc hc dP_chooseBye_22 rfl ?_
      refine r_iload hc dP_chooseBye_25 rfl ?_
      refine r_iconst hc dP_chooseBye_27 (-1) (by decide) ?_
      cases hf : f_fb G n i p with
      | none =>
        simp only [hf] at ih
        refine r_ic_eq_t hc dP_chooseBye_28 (tgt := 42) (by decide) rfl ?_
        refine r_iload hc dP_chooseBye_42 rfl ?_
        refine r_istore hc dP_chooseBye_44 (Nat.le_of_ble_eq_true rfl) ?_
        refine r_iinc hc dP_chooseBye_46 rfl ?_
        refine r_goto hc dP_chooseBye_49 (tgt := 8) (by decide) ?_
        exact ih
      | some c =>
        obtain ⟨hc1, -⟩ := f_fb_lt hf
        simp only [hf] at ih
        refine r_ic_eq_f hc dP_chooseBye_28 (tgt := 42) (by decide) (nI_nm1 (by omega)) ?_
        refine r_aload_n hc dP_chooseBye_31 rfl ?_
        refine r_iload hc dP_chooseBye_32 rfl ?_
        refine r_iload hc dP_chooseBye_34 rfl ?_
        refine kP_90r hc dP_chooseBye_36 (cS_getsByeBefore _ g d w G n p c hS hT hn hp2 hc1) (Nat.le_refl _) (Nat.le_of_ble_eq_true rfl) ?_
        rintro _ _ ⟨rfl, rfl⟩
        cases hb : bet G n p c with
        | false =>
          simp only [hb, Bool.false_eq_true, if_false] at ih
          refine r_if_eq_t hc dP_chooseBye_39 (tgt := 46) (by decide) rfl ?_
          refine r_iinc hc dP_chooseBye_46 rfl ?_
          refine r_goto hc dP_chooseBye_49 (tgt := 8) (by decide) ?_
          exact ih
        | true =>
          simp only [hb, if_true] at ih
          refine r_if_eq_f hc dP_chooseBye_39 (tgt := 46) (by decide) (by decide) ?_
          refine r_iload hc dP_chooseBye_42 rfl ?_
          refine r_istore hc dP_chooseBye_44 (Nat.le_of_ble_eq_true rfl) ?_
          refine r_iinc hc dP_chooseBye_46 rfl ?_
          refine r_goto hc dP_chooseBye_49 (tgt := 8) (by decide) ?_
          exact ih
/-- the seats hold L -/
def LsI (w : Wd) (L : List Nat) : Prop := w 31 1 = nI L.length ∧ ∀ x, x < L.length → w 32 x = nI (L.getD x 0)
def FrS (w w' : Wd) : Prop := (∀ k, k ≠ 31 → k ≠ 32 → w' k = w k) ∧ ∀ j, j ≠ 1 → w' 31 j = w 31 j
theorem gd_l {A B : List Nat} {x : Nat} (h : x < A.length) : (A ++ B).getD x 0 = A.getD x 0 ∧ A.getD x 0 ∈ A := by
  rw [List.getD_eq_getElem?_getD, List.getD_eq_getElem?_getD, List.getElem?_append_left h, List.getElem?_eq_getElem h]
  exact ⟨rfl, List.getElem_mem h⟩
theorem gd_r {A B : List Nat} {x : Nat} (h : A.length ≤ x) : (A ++ B).getD x 0 = B.getD (x - A.length) 0 := by
  rw [List.getD_eq_getElem?_getD, List.getD_eq_getElem?_getD, List.getElem?_append_right h]
theorem gd_mem {B : List Nat} {x : Nat} (h : x < B.length) : B.getD x 0 ∈ B := by
  rw [List.getD_eq_getElem?_getD, List.getElem?_eq_getElem h]
  exact List.getElem_mem h
theorem cP_seatOne (l : Launch) (g : GG) (d : Nat) (w : Wd) (G : Nat → Nat → Ce) (n p : Nat) (A B : List Nat) (hS : SRep w G n) (hT : GTold G n) (hn : n ≤ 16) (hp : p < 12) (hL : LsI w (A ++ B)) (hlen : A.length + B.length < 12) (hA : ∀ q ∈ A, q < p ∧ f_sc G n p ≤ f_sc G n q) (hB : ∀ q ∈ B, q < p ∧ f_sc G n q < f_sc G n p) : Con l g yP_seatOne bP_seatOne 4 ((none : Option Jvm.ClassFile.FieldType)) [] (d + 1) 0 0 [.ref (g.1 31), .ref (g.1 20), .int (nI p)] w (Rp (fun v w' => v = none ∧ LsI w' (A ++ p :: B) ∧ FrS w w')) := by
  intro X hl ha hm' hk hn' hc
  subst hl
  obtain ⟨Q, hQ⟩ : ∃ Q, Q = Fen X g 0 0 (Rp (fun v w' => v = none ∧ LsI w' (A ++ p :: B) ∧ FrS w w')) := ⟨_, rfl⟩
  rw [← hQ]
  have hgen : ∀ j, j ≤ B.length → ∀ w1, (∀ k, k ≠ 32 → w1 k = w k) → (∀ x, x < A.length + j → w1 32 x = nI ((A ++ B).getD x 0)) → (∀ x, A.length + j < x → x ≤ A.length + B.length → w1 32 x = nI ((A ++ B).getD (x - 1) 0)) → Go X g 0 0 Q w1 5 [some (.ref (g.1 31)), some (.ref (g.1 20)), some (.int (nI p)), some (.int (nI (A.length + j)))] [] := by
    intro j
    induction j with
    | zero =>
      intro _ w1 e1 e2 e3
      have h45 : Go X g 0 0 Q w1 45 [some (.ref (g.1 31)), some (.ref (g.1 20)), some (.int (nI p)), some (.int (nI (A.length + 0)))] [] := by
        refine r_aload_n hc dP_seatOne_45 rfl ?_
        refine gP_9 hc dP_seatOne_46 ?_
        refine r_iload_n hc dP_seatOne_49 rfl ?_
        refine r_iload_n hc dP_seatOne_50 rfl ?_
        refine r_iastN hc dP_seatOne_51 rfl (by first | omega | (show _ < 12; omega) | (show _ < 204; omega) | (show _ < 144; omega) | (show _ < 2048; omega) | (show _ < 4096; omega) | (show _ < 16; omega)) ?_
        refine r_aload_n hc dP_seatOne_52 rfl ?_
        refine r_dup hc dP_seatOne_53 rfl ?_
        refine gP_44 hc dP_seatOne_54 ?_
        rw [wu_o1 (by decide), e1 31 (by decide), hL.1]
        refine r_iconst hc dP_seatOne_57 (nI 1) (by decide) ?_
        refine r_iadd hc dP_seatOne_58 ?_
        rw [nI_add]
        refine pP_44 hc dP_seatOne_59 ?_
        subst hQ
        refine r_vret hc dP_seatOne_62 ⟨rfl, ⟨?_, fun x hx => ?_⟩, fun k k1 k2 => ?_, fun j2 hj => ?_⟩
        · rw [wu_at, List.length_append, List.length_append, List.length_cons, Nat.add_assoc]
        · rw [wu_o1 (by decide)]
          simp only [List.length_append, List.length_cons] at hx
          by_cases h1 : x = A.length + 0
          · subst h1
            rw [wu_at, gd_r (by omega)]
            simp
          · rw [wu_o2 h1]
            by_cases h2 : x < A.length
            · rw [e2 x (by omega), (gd_l h2).1, (gd_l h2).1]
            · rw [e3 x (by omega) (by omega), gd_r (by omega), gd_r (by omega)]
              rw [show x - A.length = (x - 1 - A.length) + 1 by omega]
              simp
        · rw [wu_ne k1, wu_ne k2, e1 k k2]
        · rw [wu_o2 hj, wu_o1 (by decide), e1 31 (by decide)]
      refine r_iload_n hc dP_seatOne_5 rfl ?_
      by_cases hz : A.length = 0
      · refine r_if_le_t hc dP_seatOne_6 (tgt := 45) (by decide) (by rw [hz]; decide) ?_
        exact h45
      · refine r_if_le_f hc dP_seatOne_6 (tgt := 45) (by decide) (nI_ge (a := 0) (by omega) (by omega)) ?_
        refine r_aload_n hc dP_seatOne_9 rfl ?_
        refine r_iload_n hc dP_seatOne_10 rfl ?_
        refine r_aload_n hc dP_seatOne_11 rfl ?_
        refine gP_9 hc dP_seatOne_12 ?_
        refine r_iload_n hc dP_seatOne_15 rfl ?_
        refine r_iconst hc dP_seatOne_16 (nI 1) (by decide) ?_
        refine r_isub hc dP_seatOne_17 ?_
        rw [pk_sub (by omega)]
        refine r_ialdN hc dP_seatOne_18 rfl (by first | omega | (show _ < 12; omega) | (show _ < 204; omega) | (show _ < 144; omega) | (show _ < 2048; omega) | (show _ < 4096; omega) | (show _ < 16; omega)) ?_
        rw [e2 (A.length + 0 - 1) (by omega)]
        obtain ⟨g1, g2⟩ := gd_l (A := A) (B := B) (x := A.length + 0 - 1) (by omega)
        rw [g1]
        obtain ⟨q1, q2⟩ := hA _ g2
        refine kP_98r hc dP_seatOne_19 (cS_isBeforeInOrder _ g d w1 G n p _ (hS.congr (fun k k1 k2 => e1 k (by omega))) hT hn hp (by omega)) (Nat.le_refl _) (Nat.le_of_ble_eq_true rfl) ?_
        rintro _ _ ⟨rfl, rfl⟩
        rw [show obB G n p (A.getD (A.length + 0 - 1) 0) = false by simp [obB] at *; omega]
        refine r_if_eq_t hc dP_seatOne_22 (tgt := 45) (by decide) rfl ?_
        exact h45
    | succ j ih =>
      intro hj w1 e1 e2 e3
      have ih := ih (by omega)
      have hlen2 : A.length + (j + 1) < 13 := by omega
      refine r_iload_n hc dP_seatOne_5 rfl ?_
      refine r_if_le_f hc dP_seatOne_6 (tgt := 45) (by decide) (nI_ge (a := 0) (by omega) (by omega)) ?_
      refine r_aload_n hc dP_seatOne_9 rfl ?_
      refine r_iload_n hc dP_seatOne_10 rfl ?_
      refine r_aload_n hc dP_seatOne_11 rfl ?_
      refine gP_9 hc dP_seatOne_12 ?_
      refine r_iload_n hc dP_seatOne_15 rfl ?_
      refine r_iconst hc dP_seatOne_16 (nI 1) (by decide) ?_
      refine r_isub hc dP_seatOne_17 ?_
      rw [pk_sub (by omega)]
      refine r_ialdN hc dP_seatOne_18 rfl (by first | omega | (show _ < 12; omega) | (show _ < 204; omega) | (show _ < 144; omega) | (show _ < 2048; omega) | (show _ < 4096; omega) | (show _ < 16; omega)) ?_
      rw [e2 (A.length + (j + 1) - 1) (by omega)]
      have g1 : (A ++ B).getD (A.length + (j + 1) - 1) 0 = B.getD j 0 := by
        rw [gd_r (by omega)]
        congr 1
        omega
      obtain ⟨q1, q2⟩ := hB _ (gd_mem (B := B) (x := j) (by omega))
      rw [g1]
      refine kP_98r hc dP_seatOne_19 (cS_isBeforeInOrder _ g d w1 G n p _ (hS.congr (fun k k1 k2 => e1 k (by omega))) hT hn hp (by omega)) (Nat.le_refl _) (Nat.le_of_ble_eq_true rfl) ?_
      rintro _ _ ⟨rfl, rfl⟩
      rw [show obB G n p (B.getD j 0) = true by unfold obB; rw [decide_eq_true q2]; rfl]
      refine r_if_eq_f hc dP_seatOne_22 (tgt := 45) (by decide) (by decide) ?_
      refine r_aload_n hc dP_seatOne_25 rfl ?_
      refine gP_9 hc dP_seatOne_26 ?_
      refine r_iload_n hc dP_seatOne_29 rfl ?_
      refine r_aload_n hc dP_seatOne_30 rfl ?_
      refine gP_9 hc dP_seatOne_31 ?_
      refine r_iload_n hc dP_seatOne_34 rfl ?_
      refine r_iconst hc dP_seatOne_35 (nI 1) (by decide) ?_
      refine r_isub hc dP_seatOne_36 ?_
      rw [pk_sub (by omega)]
      refine r_ialdN hc dP_seatOne_37 rfl (by first | omega | (show _ < 12; omega) | (show _ < 204; omega) | (show _ < 144; omega) | (show _ < 2048; omega) | (show _ < 4096; omega) | (show _ < 16; omega)) ?_
      refine r_iastN hc dP_seatOne_38 rfl (by first | omega | (show _ < 12; omega) | (show _ < 204; omega) | (show _ < 144; omega) | (show _ < 2048; omega) | (show _ < 4096; omega) | (show _ < 16; omega)) ?_
      refine r_iinc hc dP_seatOne_39 rfl ?_
      rw [ii_m1, pk_sub (by omega)]
      refine r_goto hc dP_seatOne_42 (tgt := 5) (by decide) ?_
      rw [show A.length + (j + 1) - 1 = A.length + j by omega]
      refine ih _ (fun k k1 => by rw [wu_ne k1]; exact e1 k k1) (fun x hx => by rw [wu_o2 (by omega)]; exact e2 x (by omega)) (fun x hx hx2 => ?_)
      by_cases h1 : x = A.length + (j + 1)
      · subst h1
        rw [wu_at, e2 (A.length + j) (by omega)]
        rfl
      · rw [wu_o2 h1]
        exact e3 x (by omega) hx2
  refine r_aload_n hc dP_seatOne_0 rfl ?_
  refine gP_44 hc dP_seatOne_1 ?_
  rw [hL.1]
  refine r_istore_n hc dP_seatOne_4 (Nat.le_of_ble_eq_true rfl) ?_
  rw [List.length_append]
  refine hgen B.length (Nat.le_refl _) w (fun _ _ => rfl) (fun x hx => hL.2 x (by rw [List.length_append]; exact hx)) (fun x h1 h2 => by omega)
