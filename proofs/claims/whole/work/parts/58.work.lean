/-! PairedField.Pairing: solve, and what is asked of it -/
def nSets (m : Nat) : Nat := if m = 0 then 1 else 2 ^ (m - 1)
theorem nSets_le {m : Nat} (hm : m ≤ 12) : nSets m ≤ 2048 := by
  unfold nSets
  split
  · decide
  · exact (Nat.pow_le_pow_right (by decide) (by omega) : 2 ^ (m - 1) ≤ 2 ^ 11)
theorem half_lt {m T : Nat} (h : T < 2 ^ m) : T / 2 < nSets m := by
  unfold nSets
  split
  · rename_i h0
    subst h0
    omega
  · rename_i h0
    obtain ⟨k, rfl⟩ : ∃ k, m = k + 1 := ⟨m - 1, by omega⟩
    rw [Nat.pow_succ] at h
    show T / 2 < 2 ^ k
    omega
theorem dbl_lt {m i : Nat} (h1 : 1 ≤ i) (h : i < nSets m) : 2 * i + 1 < 2 ^ m := by
  unfold nSets at h
  split at h
  · omega
  · rename_i h0
    obtain ⟨k, rfl⟩ : ∃ k, m = k + 1 := ⟨m - 1, by omega⟩
    rw [Nat.pow_succ]
    have : i < 2 ^ k := h
    omega
set_option maxHeartbeats 1000000 in
theorem cP_solve (l : Launch) (g : GG) (d : Nat) (w : Wd) (m : Nat) (cst : Nat → Nat → Option Nat) (hm : m ≤ 12) (hs : w 31 1 = nI m) (hcb : ∀ a b c, cst a b = some c → c ≤ 65540) (hP : ∀ a b, a < b → b < m → w (34 + a) b = prI (cst a b)) : Con l g yP_solve bP_solve 4 ((none : Option Jvm.ClassFile.FieldType)) [] (d + 2) 0 0 [.ref (g.1 31)] w (Rp (fun v w' => v = none ∧ DpI w' cst m (nSets m) ∧ ∀ k, k ≠ 46 → k ≠ 47 → w' k = w k)) := by
  intro X hl ha hm' hk hn' hc
  subst hl
  have h12 := pow12 hm
  have hns := nSets_le hm
  obtain ⟨Q, hQ⟩ : ∃ Q, Q = Fen X g 0 0 (Rp (fun v w' => v = none ∧ DpI w' cst m (nSets m) ∧ ∀ k, k ≠ 46 → k ≠ 47 → w' k = w k)) := ⟨_, rfl⟩
  rw [← hQ]
  have hgen : ∀ i, i ≤ nSets m → 1 ≤ i → ∀ w1, DpI w1 cst m i → (∀ k, k ≠ 46 → k ≠ 47 → w1 k = w k) → Go X g 0 0 Q w1 36 [some (.ref (g.1 31)), some (.int (nI (nSets m))), some (.int (nI i)), none] [] := by
    refine lp_up (P := fun i => 1 ≤ i → ∀ w1, DpI w1 cst m i → (∀ k, k ≠ 46 → k ≠ 47 → w1 k = w k) → Go X g 0 0 Q w1 36 [some (.ref (g.1 31)), some (.int (nI (nSets m))), some (.int (nI i)), none] []) ?_
    intro i hi ih h1 w1 e1 e2
    refine r_iload_n hc dP_solve_36 rfl ?_
    refine r_iload_n hc dP_solve_37 rfl ?_
    refine r_ic_ge hc dP_solve_38 (tgt := 65) (by decide) (fun h => ?_) (fun h => ?_)
    · have hi2 : i = nSets m := by have := nle_to h (by omega) (by omega); omega
      subst hi2
      subst hQ
      exact r_vret hc dP_solve_65 ⟨rfl, e1, e2⟩
    · have hi2 : i < nSets m := nle_of h (by omega) (by omega)
      have ih := ih hi2 (by omega)
      simp only [← nI_add] at ih
      have hS := dbl_lt h1 hi2
      have hpar := (even_all (i := i) (by omega)).2
      obtain ⟨S, hSe⟩ : ∃ S, S = 2 * i + pop i % 2 := ⟨_, rfl⟩
      have hS2 : S < 2 ^ m := by omega
      have hSi : S / 2 = i := by omega
      have huni : ∀ T, Tok m T → T / 2 = i → T = S := fun T hT hTi => by
        have := (pop_all (S := T) (by have := hT.2.1; omega)).1 hT.1
        rw [hTi] at this
        omega
      refine r_iload_n hc dP_solve_41 rfl ?_
      refine kP_107r hc dP_solve_42 (cP_evenSet _ g d w1 i (by omega)) (by omega) (Nat.le_of_ble_eq_true rfl) ?_
      rintro _ _ ⟨rfl, rfl⟩
      rw [← hSe] at hpar ⊢
      refine r_istore_n hc dP_solve_45 (Nat.le_of_ble_eq_true rfl) ?_
      refine r_aload_n hc dP_solve_46 rfl ?_
      refine r_iload_n hc dP_solve_47 rfl ?_
      refine kP_110r hc dP_solve_48 (cP_canBeLeft _ g d w1 m S hm (by rw [e2 31 (by decide) (by decide)]; exact hs) (by omega) hS2) (by omega) (Nat.le_of_ble_eq_true rfl) ?_
      rintro _ _ ⟨rfl, rfl⟩
      by_cases hcl : (m - pop S) / 2 ≤ lowb S
      · rw [decide_eq_true hcl]
        refine r_if_eq_f hc dP_solve_51 (tgt := 59) (by decide) (by decide) ?_
        refine r_aload_n hc dP_solve_54 rfl ?_
        refine r_iload_n hc dP_solve_55 rfl ?_
        refine kP_114r hc dP_solve_56 (cP_solveSet _ g d w1 m S cst hm (by rw [e2 31 (by decide) (by decide)]; exact hs) hcb (fun a b h1 h2 => by rw [e2 (34 + a) (by omega) (by omega)]; exact hP a b h1 h2) (by omega) ⟨hpar, hS2, Or.inr hcl⟩ (by rw [hSi]; exact e1)) (by omega) (Nat.le_of_ble_eq_true rfl) ?_
        rintro _ _ ⟨rfl, b, hb, rfl⟩
        refine r_iinc hc dP_solve_59 rfl ?_
        refine r_goto hc dP_solve_62 (tgt := 36) (by decide) ?_
        refine Go.drop 3 ?_
        rw [hSi]
        refine ih _ (fun T hT hTi => ?_) (fun k k1 k2 => by rw [wu_ne k2, wu_ne k1]; exact e2 k k1 k2)
        by_cases hTe : T / 2 = i
        · rw [huni T hT hTe, hSi]
          exact ⟨wu_at _ _ _ _, fun z => by rw [wu_o1 (by decide), wu_at]; exact hb z⟩
        · rw [wu_o2 hTe, wu_o1 (by decide), wu_o1 (by decide), wu_o2 hTe]
          exact e1 T hT (by omega)
      · rw [decide_eq_false hcl]
        refine r_if_eq_t hc dP_solve_51 (tgt := 59) (by decide) rfl ?_
        refine r_iinc hc dP_solve_59 rfl ?_
        refine r_goto hc dP_solve_62 (tgt := 36) (by decide) ?_
        refine Go.drop 3 ?_
        refine ih _ (fun T hT hTi => ?_) e2
        by_cases hTe : T / 2 = i
        · exfalso
          have := huni T hT hTe
          subst this
          rcases hT.2.2 with z | z
          · omega
          · exact hcl z
        · exact e1 T hT (by omega)
  refine r_aload_n hc dP_solve_0 rfl ?_
  refine gP_24 hc dP_solve_1 ?_
  refine r_iconst hc dP_solve_4 (nI 0) (by decide) ?_
  refine r_iconst hc dP_solve_5 (nI 0) (by decide) ?_
  refine r_iastN hc dP_solve_6 rfl (by first | omega | (show _ < 12; omega) | (show _ < 204; omega) | (show _ < 144; omega) | (show _ < 2048; omega) | (show _ < 4096; omega) | (show _ < 16; omega)) ?_
  refine r_aload_n hc dP_solve_7 rfl ?_
  refine gP_27 hc dP_solve_8 ?_
  refine r_iconst hc dP_solve_11 (nI 0) (by decide) ?_
  refine r_iconst hc dP_solve_12 (nI 1) (by decide) ?_
  refine r_iastN hc dP_solve_13 rfl (by first | omega | (show _ < 12; omega) | (show _ < 204; omega) | (show _ < 144; omega) | (show _ < 2048; omega) | (show _ < 4096; omega) | (show _ < 16; omega)) ?_
  refine r_aload_n hc dP_solve_14 rfl ?_
  refine gP_44 hc dP_solve_15 ?_
  rw [wu_o1 (by decide), wu_o1 (by decide), hs]
  have hstart : Go X g 0 0 Q (wu (wu w 46 0 (nI 0)) 47 0 (nI 1)) 33 [some (.ref (g.1 31)), none, none, none] [.int (nI (nSets m))] := by
    refine r_istore_n hc dP_solve_33 (Nat.le_of_ble_eq_true rfl) ?_
    refine r_iconst hc dP_solve_34 (nI 1) (by decide) ?_
    refine r_istore_n hc dP_solve_35 (Nat.le_of_ble_eq_true rfl) ?_
    refine hgen 1 (by unfold nSets; split; exact Nat.le_refl _; exact Nat.one_le_two_pow) (Nat.le_refl _) _ (fun T hT hT1 => ?_) (fun k k1 k2 => by rw [wu_ne k2, wu_ne k1])
    have : T = 0 := by
      have h1 := hT.1
      have : T = 0 ∨ T = 1 := by omega
      rcases this with z | z
      · exact z
      · rw [z] at h1
        exact absurd h1 (by decide)
    subst this
    rw [sol_0]
    exact ⟨wu_at _ _ _ _, fun _ => by rw [wu_o1 (by decide)]; exact wu_at _ _ _ _⟩
  by_cases hm0 : m = 0
  · rw [hm0]
    refine r_if_ne_f hc dP_solve_18 (tgt := 25) (by decide) (by decide) ?_
    refine r_iconst hc dP_solve_21 (nI 1) (by decide) ?_
    refine r_goto hc dP_solve_22 (tgt := 33) (by decide) ?_
    rw [hm0] at hstart
    exact hstart
  · refine r_if_ne_t hc dP_solve_18 (tgt := 25) (by decide) (nI_ne0 (by omega) (by omega)) ?_
    refine r_iconst hc dP_solve_25 (nI 1) (by decide) ?_
    refine r_aload_n hc dP_solve_26 rfl ?_
    refine gP_44 hc dP_solve_27 ?_
    rw [wu_o1 (by decide), wu_o1 (by decide), hs]
    refine r_iconst hc dP_solve_30 (nI 1) (by decide) ?_
    refine r_isub hc dP_solve_31 ?_
    rw [pk_sub (by omega)]
    refine r_ishl hc dP_solve_32 ?_
    rw [shl1 (m - 1) (by omega)]
    rw [show nSets m = 2 ^ (m - 1) by unfold nSets; rw [if_neg hm0]] at hstart
    exact hstart
theorem cP_allSeats (l : Launch) (g : GG) (d : Nat) (w : Wd) (m : Nat) (hm : m ≤ 12) (hs : w 31 1 = nI m) : Con l g yP_allSeats bP_allSeats 1 ((some .int)) [] d 0 0 [.ref (g.1 31)] w (Rp (An (some (.int (nI (2 ^ m - 1)))) w)) := by
  intro X hl ha hm' hk hn' hc
  subst hl
  refine r_iconst hc dP_allSeats_0 (nI 1) (by decide) ?_
  refine r_aload_n hc dP_allSeats_1 rfl ?_
  refine gP_44 hc dP_allSeats_2 ?_
  rw [hs]
  refine r_ishl hc dP_allSeats_5 ?_
  rw [shl1 m (by omega)]
  refine r_iconst hc dP_allSeats_6 (nI 1) (by decide) ?_
  refine r_isub hc dP_allSeats_7 ?_
  rw [pk_sub Nat.one_le_two_pow]
  exact r_iret hc dP_allSeats_8 ⟨rfl, rfl⟩
theorem cP_count (l : Launch) (g : GG) (d : Nat) (w : Wd) (m : Nat) (hm : m ≤ 12) (hs : w 31 1 = nI m) : Con l g yP_count bP_count 1 ((some .int)) [] (d + 1) 0 0 [.ref (g.1 31)] w (Rp (An (some (.int (w 47 ((2 ^ m - 1) / 2)))) w)) := by
  intro X hl ha hm' hk hn' hc
  subst hl
  have h12 := pow12 hm
  refine r_aload_n hc dP_count_0 rfl ?_
  refine gP_27 hc dP_count_1 ?_
  refine r_aload_n hc dP_count_4 rfl ?_
  refine kP_51r hc dP_count_5 (cP_allSeats _ g d w m hm hs) (Nat.le_refl _) (Nat.le_of_ble_eq_true rfl) ?_
  rintro _ _ ⟨rfl, rfl⟩
  refine kP_54r hc dP_count_8 (cP_indexOf _ g d w _ (by omega)) (Nat.le_refl _) (Nat.le_of_ble_eq_true rfl) ?_
  rintro _ _ ⟨rfl, rfl⟩
  refine r_ialdN hc dP_count_11 rfl (by first | omega | (show _ < 12; omega) | (show _ < 204; omega) | (show _ < 144; omega) | (show _ < 2048; omega) | (show _ < 4096; omega) | (show _ < 16; omega)) ?_
  exact r_iret hc dP_count_12 ⟨rfl, rfl⟩
theorem cP_leastCost (l : Launch) (g : GG) (d : Nat) (w : Wd) (m : Nat) (hm : m ≤ 12) (hs : w 31 1 = nI m) : Con l g yP_leastCost bP_leastCost 1 ((some .int)) [] (d + 1) 0 0 [.ref (g.1 31)] w (Rp (An (some (.int (w 46 ((2 ^ m - 1) / 2)))) w)) := by
  intro X hl ha hm' hk hn' hc
  subst hl
  have h12 := pow12 hm
  refine r_aload_n hc dP_leastCost_0 rfl ?_
  refine gP_24 hc dP_leastCost_1 ?_
  refine r_aload_n hc dP_leastCost_4 rfl ?_
  refine kP_51r hc dP_leastCost_5 (cP_allSeats _ g d w m hm hs) (Nat.le_refl _) (Nat.le_of_ble_eq_true rfl) ?_
  rintro _ _ ⟨rfl, rfl⟩
  refine kP_54r hc dP_leastCost_8 (cP_indexOf _ g d w _ (by omega)) (Nat.le_refl _) (Nat.le_of_ble_eq_true rfl) ?_
  rintro _ _ ⟨rfl, rfl⟩
  refine r_ialdN hc dP_leastCost_11 rfl (by first | omega | (show _ < 12; omega) | (show _ < 204; omega) | (show _ < 144; omega) | (show _ < 2048; omega) | (show _ < 4096; omega) | (show _ < 16; omega)) ?_
  exact r_iret hc dP_leastCost_12 ⟨rfl, rfl⟩
theorem cP_games (l : Launch) (g : GG) (d : Nat) (w : Wd) (m : Nat) (hm : m ≤ 12) (hs : w 31 1 = nI m) : Con l g yP_games bP_games 1 ((some .int)) [] d 0 0 [.ref (g.1 31)] w (Rp (An (some (.int (nI (m / 2)))) w)) := by
  intro X hl ha hm' hk hn' hc
  subst hl
  refine r_aload_n hc dP_games_0 rfl ?_
  refine gP_44 hc dP_games_1 ?_
  rw [hs]
  refine r_iconst hc dP_games_4 (nI 2) (by decide) ?_
  refine r_idiv hc dP_games_5 (by decide) ?_
  rw [pk_div (by omega) (by decide) (by decide)]
  exact r_iret hc dP_games_6 ⟨rfl, rfl⟩
/-! how many are seated -/
theorem f_in_pos {i : Nat → Bool} : ∀ {m : Nat}, 0 < f_in i m ↔ ∃ p, p < m ∧ i p = true
  | 0 => by simp [f_in]
  | m + 1 => by
    have ih := f_in_pos (i := i) (m := m)
    simp only [f_in]
    cases hi : i m with
    | true => simp only [if_true]; exact ⟨fun _ => ⟨m, by omega, hi⟩, fun _ => by omega⟩
    | false =>
      simp only [Bool.false_eq_true, if_false]
      rw [ih]
      refine ⟨fun ⟨p, h1, h2⟩ => ⟨p, by omega, h2⟩, fun ⟨p, h1, h2⟩ => ⟨p, ?_, h2⟩⟩
      rcases Nat.lt_or_ge p m with q | q
      · exact q
      · have : p = m := by omega
        rw [this, hi] at h2
        cases h2
theorem bk_cnt {s : Nat → Nat} {el : Nat → Bool} {K : Nat} : ∀ p, (∀ q, q < p → s q < K) → (bk s el p K).length = f_in el p
  | 0, _ => by have := bk_len s el K 0; simp [f_in]; exact List.eq_nil_of_length_eq_zero (by omega)
  | p + 1, h => by
    have ih := bk_cnt (s := s) (el := el) (K := K) p (fun q hq => h q (by omega))
    simp only [f_in]
    cases he : el p with
    | true =>
      obtain ⟨A, B, h1, h2, -, -⟩ := bk_ins (s := s) he (h p (by omega))
      rw [h2, if_pos rfl, ← ih, h1]
      simp
      omega
    | false =>
      rw [bk_skip (Or.inl he), ih]
      rfl
theorem f_in_el {i el : Nat → Bool} {c : Nat} (hi : i c = true) (he : ∀ q, el q = (i q && !decide (c = q))) : ∀ p, f_in el p + (if c < p then 1 else 0) = f_in i p
  | 0 => by simp [f_in]
  | p + 1 => by
    have ih := f_in_el hi he p
    by_cases hp : c = p
    · subst hp
      have e : el c = false := by rw [he]; simp
      rw [if_neg (Nat.lt_irrefl _)] at ih
      simp only [f_in, e, hi, Bool.false_eq_true, if_false, if_true]
      rw [if_pos (by omega)]
      omega
    · have e : el p = i p := by rw [he]; simp [hp]
      have h2 : (if c < p + 1 then 1 else 0) = (if c < p then 1 else 0) := by
        by_cases h9 : c < p
        · rw [if_pos h9, if_pos (by omega)]
        · rw [if_neg h9, if_neg (by omega)]
      simp only [f_in, e]
      rw [h2]
      cases i p <;> simp only [Bool.false_eq_true, if_false, if_true] <;> omega
theorem f_fb_none {G : Nat → Nat → Ce} {n : Nat} {i : Nat → Bool} : ∀ {m : Nat}, f_fb G n i m = none → f_in i m = 0
  | 0, _ => rfl
  | m + 1, h => by
    simp only [f_fb] at h
    simp only [f_in]
    cases hi : i m with
    | true =>
      rw [hi] at h
      simp only [if_true] at h
      split at h
      · cases h
      · split at h <;> cases h
    | false =>
      rw [hi] at h
      simp only [Bool.false_eq_true, if_false] at h ⊢
      exact f_fb_none h
theorem ord_even {G : Nat → Nat → Ce} {n : Nat} {i : Nat → Bool} {m : Nat} (hT : GTold G n) (hn : n ≤ 16) (hm : m ≤ 12) : (ordOf G n i m).length % 2 = 0 ∧ (0 < f_in i m ↔ 0 < (ordOf G n i m).length ∨ byeOf G n i m ≠ none) := by
  have hl : (ordOf G n i m).length = f_in (elOf G n i m) m := bk_cnt m (fun q hq => by have := f_sc_le2 hT (show q < 12 by omega); omega)
  rw [hl]
  cases hb : byeOf G n i m with
  | none =>
    have he : elOf G n i m = i := by funext p; unfold elOf; rw [hb]; simp
    rw [he]
    refine ⟨?_, by simp⟩
    unfold byeOf at hb
    by_cases h1 : f_in i m % 2 = 1
    · rw [if_pos h1] at hb
      have := f_fb_none hb
      omega
    · omega
  | some c =>
    have h1 : f_in i m % 2 = 1 ∧ f_fb G n i m = some c := by
      unfold byeOf at hb
      by_cases h1 : f_in i m % 2 = 1
      · rw [if_pos h1] at hb; exact ⟨h1, hb⟩
      · rw [if_neg h1] at hb; cases hb
    obtain ⟨hc, hi⟩ := f_fb_lt h1.2
    have h2 := f_in_el (el := elOf G n i m) hi (fun q => by unfold elOf; rw [hb]; simp) m
    rw [if_pos hc] at h2
    refine ⟨by omega, fun _ => Or.inr (by simp), fun _ => by omega⟩
/-- the pairing is worked out -/
def WkC (w : Wd) (G : Nat → Nat → Ce) (n : Nat) (ap : Nat → Nat → Bool) (i : Nat → Bool) : Prop := LsI w (ordOf G n i 12) ∧ w 31 2 = oI (byeOf G n i 12) ∧ PrI w G n ap (ordOf G n i 12) (fun _ _ => True) ∧ DpI w (csOf G n ap (ordOf G n i 12)) (ordOf G n i 12).length (nSets (ordOf G n i 12).length)
theorem cs_le {G : Nat → Nat → Ce} {n : Nat} {ap : Nat → Nat → Bool} {L : List Nat} (hT : GTold G n) (hn : n ≤ 16) (hmem : ∀ x, L.getD x 0 < 12) : ∀ a b c, csOf G n ap L a b = some c → c ≤ 65540 := by
  intro a b c h
  unfold csOf at h
  split at h
  · cases h
  · cases h
    exact gco_le hT hn (hmem a)
theorem ord_len (G : Nat → Nat → Ce) (n : Nat) (i : Nat → Bool) : (ordOf G n i 12).length ≤ 12 := bk_len _ _ _ _
theorem ord_m {G : Nat → Nat → Ce} {n : Nat} {i : Nat → Bool} (x : Nat) : (ordOf G n i 12).getD x 0 < 12 := by
  rcases Nat.lt_or_ge x (ordOf G n i 12).length with q | q
  · exact (ord_mem q).1
  · rw [List.getD_eq_getElem?_getD, List.getElem?_eq_none q]
    decide
theorem cP_workOut (l : Launch) (g : GG) (d : Nat) (w : Wd) (G : Nat → Nat → Ce) (n : Nat) (ap : Nat → Nat → Bool) (i : Nat → Bool) (hS : SRep w G n) (hT : GTold G n) (hO : GOpp G n) (hn : n ≤ 16) (hI : PIn w i) (hA : CAp w ap) : Con l g yP_workOut bP_workOut 5 ((none : Option Jvm.ClassFile.FieldType)) [] (d + 3) 0 0 [.ref (g.1 31), .ref (g.1 20), .ref (g.1 18), .ref (g.1 19), .int (nI n)] w (Rp (fun v w' => v = none ∧ WkC w' G n ap i ∧ ∀ k, (k < 31 ∨ 47 < k) → w' k = w k)) := by
  intro X hl ha hm' hk hn' hc
  subst hl
  refine r_aload_n hc dP_workOut_0 rfl ?_
  refine r_aload_n hc dP_workOut_1 rfl ?_
  refine r_aload_n hc dP_workOut_2 rfl ?_
  refine kP_30r hc dP_workOut_3 (cP_chooseBye _ g d w G n i hS hT hn hI) (by omega) (Nat.le_of_ble_eq_true rfl) ?_
  rintro _ _ ⟨rfl, rfl⟩
  have hf1 : ∀ k, k ≠ 31 → wu w 31 2 (oI (byeOf G n i 12)) k = w k := fun k hk => wu_ne hk
  generalize hw1 : wu w 31 2 (oI (byeOf G n i 12)) = w1 at hf1
  have hbye : w1 31 2 = oI (byeOf G n i 12) := by rw [← hw1, wu_at]
  refine r_aload_n hc dP_workOut_6 rfl ?_
  refine r_aload_n hc dP_workOut_7 rfl ?_
  refine r_aload_n hc dP_workOut_8 rfl ?_
  refine kP_34r hc dP_workOut_9 (cP_seatPlayers _ g d w1 G n i (hS.congr (fun k k1 k2 => hf1 k (by omega))) hT hn (fun p hp => by rw [hf1 18 (by decide)]; exact hI p hp) hbye) (by omega) (Nat.le_of_ble_eq_true rfl) ?_
  rintro _ w2 ⟨rfl, e1, e2⟩
  have hf2 : ∀ k, (k < 31 ∨ 32 < k) → w2 k = w k := fun k hk => by rw [e2.1 k (by omega) (by omega)]; exact hf1 k (by omega)
  refine r_aload_n hc dP_workOut_12 rfl ?_
  refine r_aload_n hc dP_workOut_13 rfl ?_
  refine r_aload_n hc dP_workOut_14 rfl ?_
  refine r_iload hc dP_workOut_15 rfl ?_
  refine kP_37r hc dP_workOut_17 (cP_priceGames _ g d w2 G n ap (ordOf G n i 12) (hS.congr (fun k k1 k2 => hf2 k (by omega))) hO hn (fun p hp => by rw [hf2 19 (by decide)]; exact hA p hp) e1 (ord_len G n i) (fun x _ => ord_m x) (fun a b h1 h2 => ord_sorted h1 h2)) (by omega) (Nat.le_of_ble_eq_true rfl) ?_
  rintro _ w3 ⟨rfl, f1, f2⟩
  refine r_aload_n hc dP_workOut_20 rfl ?_
  refine kP_41r hc dP_workOut_21 (cP_solve _ g d w3 (ordOf G n i 12).length (csOf G n ap (ordOf G n i 12)) (ord_len G n i) (by rw [f2 31 (by decide)]; exact e1.1) (cs_le hT hn (fun x => ord_m x)) (fun a b h1 h2 => f1 a b h1 h2 trivial)) (by omega) (Nat.le_of_ble_eq_true rfl) ?_
  rintro _ w4 ⟨rfl, g1, g2⟩
  refine r_vret hc dP_workOut_24 ⟨rfl, ⟨⟨?_, fun x hx => ?_⟩, ?_, fun a b h1 h2 h3 => ?_, g1⟩, fun k hk => ?_⟩
  · rw [g2 31 (by decide) (by decide), f2 31 (by decide)]; exact e1.1
  · rw [g2 32 (by decide) (by decide), f2 32 (by decide)]; exact e1.2 x hx
  · rw [g2 31 (by decide) (by decide), f2 31 (by decide), e2.2 2 (by decide)]; exact hbye
  · have := ord_len G n i
    rw [g2 (34 + a) (by omega) (by omega)]; exact f1 a b h1 h2 h3
  · rw [g2 k (by omega) (by omega), f2 k (by omega)]; exact hf2 k (by omega)
theorem top_Tok {m : Nat} (hm : m ≤ 12) (he : m % 2 = 0) : Tok m (2 ^ m - 1) := by
  have : m = 0 ∨ m = 2 ∨ m = 4 ∨ m = 6 ∨ m = 8 ∨ m = 10 ∨ m = 12 := by omega
  rcases this with h | h | h | h | h | h | h <;> subst h <;> exact ⟨by decide, by decide, by decide⟩
theorem WkC.top {w : Wd} {G : Nat → Nat → Ce} {n : Nat} {ap : Nat → Nat → Bool} {i : Nat → Bool} (h : WkC w G n ap i) (hT : GTold G n) (hn : n ≤ 16) : w 47 ((2 ^ (ordOf G n i 12).length - 1) / 2) = nI (solT G n ap i 12 (topS G n i 12)).2.2 ∧ (0 < (solT G n ap i 12 (topS G n i 12)).2.2 → w 46 ((2 ^ (ordOf G n i 12).length - 1) / 2) = nI (solT G n ap i 12 (topS G n i 12)).1) ∧ (0 < (solT G n ap i 12 (topS G n i 12)).2.2 ↔ (solT G n ap i 12 (topS G n i 12)).1 < dpE) ∧ (solT G n ap i 12 (topS G n i 12)).2.2 ≤ 2985984 := by
  have hl := ord_len G n i
  have ht := top_Tok hl (ord_even (G := G) (i := i) (m := 12) hT hn (Nat.le_refl _)).1
  have hc := sol_cnt (cst := csOf G n ap (ordOf G n i 12)) (m := (ordOf G n i 12).length) (S := 2 ^ (ordOf G n i 12).length - 1) hl (cs_le hT hn (fun x => ord_m x)) (by have := pow12 hl; omega)
  obtain ⟨h1, h2⟩ := h.2.2.2 _ ht (half_lt ht.2.1)
  refine ⟨h1, h2, ?_, ?_⟩
  · show 0 < (sol _ _ _).2.2 ↔ (sol _ _ _).1 < dpE
    unfold topS
    rcases hc with ⟨a, b⟩ | ⟨a, b, c⟩
    · rw [a, b]
      simp
    · exact ⟨fun _ => by unfold dpE; omega, fun _ => b⟩
  · show (sol _ _ _).2.2 ≤ _
    unfold topS
    rcases hc with ⟨a, b⟩ | ⟨a, b, c⟩
    · omega
    · exact c
theorem cP_isPossible (l : Launch) (g : GG) (d : Nat) (w : Wd) (G : Nat → Nat → Ce) (n : Nat) (ap : Nat → Nat → Bool) (i : Nat → Bool) (hT : GTold G n) (hn : n ≤ 16) (hW : WkC w G n ap i) : Con l g yP_isPossible bP_isPossible 1 ((some .boolean)) [] (d + 2) 0 0 [.ref (g.1 31)] w (Rp (An (some (.int (bI (canP G n ap i 12)))) w)) := by
  intro X hl ha hm' hk hn' hc
  subst hl
  have hl := ord_len G n i
  obtain ⟨t1, -, t3, t4⟩ := hW.top hT hn
  obtain ⟨-, o2⟩ := ord_even (G := G) (i := i) (m := 12) hT hn (Nat.le_refl _)
  have h15 : 0 < f_in i 12 → Go X g 0 0 (Fen X g 0 0 (Rp (An (some (.int (bI (canP G n ap i 12)))) w))) w 15 [some (.ref (g.1 31))] [] := by
    intro hpos
    unfold canP
    rw [decide_eq_true hpos]
    refine r_aload_n hc dP_isPossible_15 rfl ?_
    refine kP_47r hc dP_isPossible_16 (cP_count _ g d w _ hl hW.1.1) (by omega) (Nat.le_of_ble_eq_true rfl) ?_
    rintro _ _ ⟨rfl, rfl⟩
    rw [t1]
    by_cases h : (solT G n ap i 12 (topS G n i 12)).1 < dpE
    · rw [decide_eq_true h]
      refine r_if_le_f hc dP_isPossible_19 (tgt := 26) (by decide) (nI_ge (a := 0) (t3.mpr h) (by omega)) ?_
      refine r_iconst hc dP_isPossible_22 (nI 1) (by decide) ?_
      refine r_goto hc dP_isPossible_23 (tgt := 27) (by decide) ?_
      exact r_zret hc dP_isPossible_27 rfl ⟨rfl, rfl⟩
    · rw [decide_eq_false h]
      have : (solT G n ap i 12 (topS G n i 12)).2.2 = 0 := Nat.eq_zero_of_not_pos (fun z => h (t3.mp z))
      rw [this]
      refine r_if_le_t hc dP_isPossible_19 (tgt := 26) (by decide) (by decide) ?_
      refine r_iconst hc dP_isPossible_26 (nI 0) (by decide) ?_
      exact r_zret hc dP_isPossible_27 rfl ⟨rfl, rfl⟩
  refine r_aload_n hc dP_isPossible_0 rfl ?_
  refine gP_44 hc dP_isPossible_1 ?_
  rw [hW.1.1]
  by_cases hz : 0 < (ordOf G n i 12).length
  · refine r_if_gt_t hc dP_isPossible_4 (tgt := 15) (by decide) (nI_lt (a := 0) hz (by omega)) ?_
    exact h15 (o2.mpr (Or.inl hz))
  · refine r_if_gt_f hc dP_isPossible_4 (tgt := 15) (by decide) (by rw [show (ordOf G n i 12).length = 0 by omega]; decide) ?_
    refine r_aload_n hc dP_isPossible_7 rfl ?_
    refine gP_15 hc dP_isPossible_8 ?_
    refine r_iconst hc dP_isPossible_11 (-1) (by decide) ?_
    rw [hW.2.1]
    cases hb : byeOf G n i 12 with
    | none =>
      have hno : ¬ 0 < f_in i 12 := fun z => by
        rcases o2.mp z with q | q
        · exact hz q
        · exact q hb
      refine r_ic_eq_t hc dP_isPossible_12 (tgt := 26) (by decide) rfl ?_
      refine r_iconst hc dP_isPossible_26 (nI 0) (by decide) ?_
      exact r_zret hc dP_isPossible_27 rfl ⟨by unfold canP; rw [decide_eq_false hno]; rfl, rfl⟩
    | some c =>
      have := byeOf_lt hb
      refine r_ic_eq_f hc dP_isPossible_12 (tgt := 26) (by decide) (nI_nm1 (by omega)) ?_
      exact h15 (o2.mpr (Or.inr (by rw [hb]; simp)))
