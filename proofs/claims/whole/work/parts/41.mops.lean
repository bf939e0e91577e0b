/-! the reference: opponent, isWhite, back, had, tell -/
def oppI : Ce → Int32
  | none => -1
  | some none => nI 12
  | some (some (q, _, _)) => nI q
def whB : Ce → Bool
  | some (some (_, b, _)) => b
  | _ => false
theorem McOk.opp {c : Ce} {o h k : Int32} (hM : McOk c o h k) : o = oppI c := by
  rcases c with _ | _ | ⟨q, b, r⟩
  · exact hM
  · exact hM
  · exact hM.2.1
theorem cM_opponent (l : Launch) (g : GG) (d : Nat) (w : Wd) (m : Nat) (inn : Nat → Bool) (ap : Nat → Nat → Bool) (n : Nat) (op : Bool) (G : Nat → Nat → Ce) (x : Int32) (hF : FOk m inn ap n op G) (hS : MS w m inn ap n op G) : Con l g yM_opponent bM_opponent 2 ((some .int)) [] (d + 1) 0 0 [.ref (g.1 48), .int x] w (Rp (MPost w (rfK (!isP m x) (!op) false) (if isP m x && op then vIs (oppI (G n (pN x))) else vAny) m inn ap n op G)) := by
  intro X hl ha hm' hk hn' hc
  subst hl
  have hm := hF.1.2
  obtain ⟨Q, hQ⟩ : ∃ Q, Q = Fen X g 0 0 (Rp (MPost w (rfK (!isP m x) (!op) false) (if isP m x && op then vIs (oppI (G n (pN x))) else vAny) m inn ap n op G)) := ⟨_, rfl⟩
  rw [← hQ]
  generalize hKK : rfK (!isP m x) (!op) false = K at hQ
  have hS1 := hS.thr (nI K)
  have h30 : Go X g 0 0 Q (wu w 48 0 (nI K)) 30 [some (.ref (g.1 48)), some (.int x)] [.int (bI (!isP m x || !op || false))] := by
    cases hb : (isP m x && op) with
    | false =>
      rw [show (!isP m x || !op || false) = true by revert hb; cases isP m x <;> cases op <;> simp]
      refine r_if_eq_f hc dM_opponent_30 (tgt := 37) (by decide) (by decide) ?_
      refine r_iconst hc dM_opponent_33 (nI 0) (by decide) ?_
      refine r_goto hc dM_opponent_34 (tgt := 51) (by decide) ?_
      subst hQ
      refine r_iret hc dM_opponent_51 ⟨?_, wu_at _ _ _ _, hS1, (FrM.rf w).put 48 0 _ (by decide)⟩
      rw [hb, if_neg (by decide)]
      exact ⟨_, rfl⟩
    | true =>
      rw [show (!isP m x || !op || false) = false by revert hb; cases isP m x <;> cases op <;> simp]
      rw [Bool.and_eq_true] at hb
      obtain ⟨b1, b2⟩ := hb
      obtain ⟨p, hp, rfl⟩ := isP_t b1 hm
      have hn16 := hF.2.2.1 b2
      refine r_if_eq_t hc dM_opponent_30 (tgt := 37) (by decide) rfl ?_
      refine r_aload_n hc dM_opponent_37 rfl ?_
      refine gM_16 hc dM_opponent_38 ?_
      refine r_bipush hc dM_opponent_41 (nI 12) (by decide) ?_
      refine r_aload_n hc dM_opponent_43 rfl ?_
      refine gM_63 hc dM_opponent_44 ?_
      rw [hS1.2.1]
      refine r_imul hc dM_opponent_47 ?_
      refine r_iload_n hc dM_opponent_48 rfl ?_
      refine r_iadd hc dM_opponent_49 ?_
      rw [ix12]
      refine r_ialdN hc dM_opponent_50 rfl (by first | omega | (show _ < 12; omega) | (show _ < 204; omega) | (show _ < 144; omega) | (show _ < 2048; omega) | (show _ < 4096; omega) | (show _ < 16; omega)) ?_
      subst hQ
      have hM := hS1.2.2.2.2.2 n (by simp [rnd, b2]) p (by omega)
      refine r_iret hc dM_opponent_51 ⟨?_, wu_at _ _ _ _, hS1, (FrM.rf w).put 48 0 _ (by decide)⟩
      rw [b1, b2, if_pos (by decide), pN_nI (by omega), hM.opp]
      rfl
  have h14 : Go X g 0 0 Q w 14 [some (.ref (g.1 48)), some (.int x)] [.int (bI (!isP m x)), .ref (g.1 48)] := by
    have h26 : Go X g 0 0 Q w 26 [some (.ref (g.1 48)), some (.int x)] [.int (bI (!op)), .int (bI (!isP m x)), .ref (g.1 48)] := by
      refine r_iconst hc dM_opponent_26 (nI 0) (by decide) ?_
      refine kM_55r hc dM_opponent_27 (cM_refused _ g d w (!isP m x) (!op) false) (Nat.le_refl _) (Nat.le_of_ble_eq_true rfl) ?_
      rintro _ _ ⟨rfl, rfl⟩
      rw [hKK]
      exact h30
    refine r_aload_n hc dM_opponent_14 rfl ?_
    refine gM_51 hc dM_opponent_15 ?_
    rw [hS.2.2.1]
    cases op with
    | true =>
      refine r_if_ne_t hc dM_opponent_18 (tgt := 25) (by decide) (by decide) ?_
      refine r_iconst hc dM_opponent_25 (nI 0) (by decide) ?_
      exact h26
    | false =>
      refine r_if_ne_f hc dM_opponent_18 (tgt := 25) (by decide) rfl ?_
      refine r_iconst hc dM_opponent_21 (nI 1) (by decide) ?_
      refine r_goto hc dM_opponent_22 (tgt := 26) (by decide) ?_
      exact h26
  refine r_aload_n hc dM_opponent_0 rfl ?_
  refine r_aload_n hc dM_opponent_1 rfl ?_
  refine r_iload_n hc dM_opponent_2 rfl ?_
  refine kM_59r hc dM_opponent_3 (cM_isPlayer _ g d w m x hS.1) (Nat.le_refl _) (Nat.le_of_ble_eq_true rfl) ?_
  rintro _ _ ⟨rfl, rfl⟩
  cases hx : isP m x with
  | false =>
    rw [hx] at h14
    refine r_if_ne_f hc dM_opponent_6 (tgt := 13) (by decide) rfl ?_
    refine r_iconst hc dM_opponent_9 (nI 1) (by decide) ?_
    refine r_goto hc dM_opponent_10 (tgt := 14) (by decide) ?_
    exact h14
  | true =>
    rw [hx] at h14
    refine r_if_ne_t hc dM_opponent_6 (tgt := 13) (by decide) (by decide) ?_
    refine r_iconst hc dM_opponent_13 (nI 0) (by decide) ?_
    exact h14
theorem cM_isWhite (l : Launch) (g : GG) (d : Nat) (w : Wd) (m : Nat) (inn : Nat → Bool) (ap : Nat → Nat → Bool) (n : Nat) (op : Bool) (G : Nat → Nat → Ce) (x : Int32) (hF : FOk m inn ap n op G) (hS : MS w m inn ap n op G) : Con l g yM_isWhite bM_isWhite 2 ((some .boolean)) [] (d + 1) 0 0 [.ref (g.1 48), .int x] w (Rp (MPost w (rfK (!isP m x) (!op) false) (if isP m x && op then vIs (bI (whB (G n (pN x)))) else vAny) m inn ap n op G)) := by
  intro X hl ha hm' hk hn' hc
  subst hl
  have hm := hF.1.2
  obtain ⟨Q, hQ⟩ : ∃ Q, Q = Fen X g 0 0 (Rp (MPost w (rfK (!isP m x) (!op) false) (if isP m x && op then vIs (bI (whB (G n (pN x)))) else vAny) m inn ap n op G)) := ⟨_, rfl⟩
  rw [← hQ]
  generalize hKK : rfK (!isP m x) (!op) false = K at hQ
  have hS1 := hS.thr (nI K)
  have h30 : Go X g 0 0 Q (wu w 48 0 (nI K)) 30 [some (.ref (g.1 48)), some (.int x)] [.int (bI (!isP m x || !op || false))] := by
    cases hb : (isP m x && op) with
    | false =>
      rw [show (!isP m x || !op || false) = true by revert hb; cases isP m x <;> cases op <;> simp]
      refine r_if_ne_t hc dM_isWhite_30 (tgt := 66) (by decide) (by decide) ?_
      refine r_iconst hc dM_isWhite_66 (nI 0) (by decide) ?_
      subst hQ
      refine r_zret hc dM_isWhite_67 rfl ⟨?_, wu_at _ _ _ _, hS1, (FrM.rf w).put 48 0 _ (by decide)⟩
      rw [hb, if_neg (by decide)]
      exact ⟨_, rfl⟩
    | true =>
      rw [show (!isP m x || !op || false) = false by revert hb; cases isP m x <;> cases op <;> simp]
      rw [Bool.and_eq_true] at hb
      obtain ⟨b1, b2⟩ := hb
      obtain ⟨p, hp, rfl⟩ := isP_t b1 hm
      have hn16 := hF.2.2.1 b2
      have hM := hS1.2.2.2.2.2 n (by simp [rnd, b2]) p (by omega)
      rw [b1, if_pos (by rw [b2]; rfl), pN_nI (by omega)] at hQ
      refine r_if_ne_f hc dM_isWhite_30 (tgt := 66) (by decide) rfl ?_
      refine r_aload_n hc dM_isWhite_33 rfl ?_
      refine r_aload_n hc dM_isWhite_34 rfl ?_
      refine gM_63 hc dM_isWhite_35 ?_
      rw [hS1.2.1]
      refine r_iload_n hc dM_isWhite_38 rfl ?_
      refine kM_66r hc dM_isWhite_39 (cM_hadGame _ g d _ G (n + 1) n p (hS1.2.2.2.2.2.mono (by simp [rnd, b2])) (by omega) (by omega) (by omega)) (Nat.le_refl _) (Nat.le_of_ble_eq_true rfl) ?_
      rintro _ _ ⟨rfl, rfl⟩
      rcases hg : G n p with _ | _ | ⟨q, b, k⟩ <;> rw [hg] at hM <;> simp only [McOk] at hM <;> rw [hg] at hQ
      · refine r_if_eq_t hc dM_isWhite_42 (tgt := 66) (by decide) rfl ?_
        refine r_iconst hc dM_isWhite_66 (nI 0) (by decide) ?_
        subst hQ
        exact r_zret hc dM_isWhite_67 rfl ⟨rfl, wu_at _ _ _ _, hS1, (FrM.rf w).put 48 0 _ (by decide)⟩
      · refine r_if_eq_t hc dM_isWhite_42 (tgt := 66) (by decide) rfl ?_
        refine r_iconst hc dM_isWhite_66 (nI 0) (by decide) ?_
        subst hQ
        exact r_zret hc dM_isWhite_67 rfl ⟨rfl, wu_at _ _ _ _, hS1, (FrM.rf w).put 48 0 _ (by decide)⟩
      · refine r_if_eq_f hc dM_isWhite_42 (tgt := 66) (by decide) (show ¬ bI true = 0 by decide) ?_
        refine r_aload_n hc dM_isWhite_45 rfl ?_
        refine gM_20 hc dM_isWhite_46 ?_
        refine r_bipush hc dM_isWhite_49 (nI 12) (by decide) ?_
        refine r_aload_n hc dM_isWhite_51 rfl ?_
        refine gM_63 hc dM_isWhite_52 ?_
        rw [hS1.2.1]
        refine r_imul hc dM_isWhite_55 ?_
        refine r_iload_n hc dM_isWhite_56 rfl ?_
        refine r_iadd hc dM_isWhite_57 ?_
        rw [ix12]
        refine r_zaldN hc dM_isWhite_58 rfl (by first | omega | (show _ < 12; omega) | (show _ < 204; omega) | (show _ < 144; omega) | (show _ < 2048; omega) | (show _ < 4096; omega) | (show _ < 16; omega)) ?_
        rw [hM.2.2.1]
        cases b with
        | false =>
          refine r_if_eq_t hc dM_isWhite_59 (tgt := 66) (by decide) rfl ?_
          refine r_iconst hc dM_isWhite_66 (nI 0) (by decide) ?_
          subst hQ
          exact r_zret hc dM_isWhite_67 rfl ⟨rfl, wu_at _ _ _ _, hS1, (FrM.rf w).put 48 0 _ (by decide)⟩
        | true =>
          refine r_if_eq_f hc dM_isWhite_59 (tgt := 66) (by decide) (by decide) ?_
          refine r_iconst hc dM_isWhite_62 (nI 1) (by decide) ?_
          refine r_goto hc dM_isWhite_63 (tgt := 67) (by decide) ?_
          subst hQ
          exact r_zret hc dM_isWhite_67 rfl ⟨rfl, wu_at _ _ _ _, hS1, (FrM.rf w).put 48 0 _ (by decide)⟩
  have h14 : Go X g 0 0 Q w 14 [some (.ref (g.1 48)), some (.int x)] [.int (bI (!isP m x)), .ref (g.1 48)] := by
    have h26 : Go X g 0 0 Q w 26 [some (.ref (g.1 48)), some (.int x)] [.int (bI (!op)), .int (bI (!isP m x)), .ref (g.1 48)] := by
      refine r_iconst hc dM_isWhite_26 (nI 0) (by decide) ?_
      refine kM_55r hc dM_isWhite_27 (cM_refused _ g d w (!isP m x) (!op) false) (Nat.le_refl _) (Nat.le_of_ble_eq_true rfl) ?_
      rintro _ _ ⟨rfl, rfl⟩
      rw [hKK]
      exact h30
    refine r_aload_n hc dM_isWhite_14 rfl ?_
    refine gM_51 hc dM_isWhite_15 ?_
    rw [hS.2.2.1]
    cases op with
    | true =>
      refine r_if_ne_t hc dM_isWhite_18 (tgt := 25) (by decide) (by decide) ?_
      refine r_iconst hc dM_isWhite_25 (nI 0) (by decide) ?_
      exact h26
    | false =>
      refine r_if_ne_f hc dM_isWhite_18 (tgt := 25) (by decide) rfl ?_
      refine r_iconst hc dM_isWhite_21 (nI 1) (by decide) ?_
      refine r_goto hc dM_isWhite_22 (tgt := 26) (by decide) ?_
      exact h26
  refine r_aload_n hc dM_isWhite_0 rfl ?_
  refine r_aload_n hc dM_isWhite_1 rfl ?_
  refine r_iload_n hc dM_isWhite_2 rfl ?_
  refine kM_59r hc dM_isWhite_3 (cM_isPlayer _ g d w m x hS.1) (Nat.le_refl _) (Nat.le_of_ble_eq_true rfl) ?_
  rintro _ _ ⟨rfl, rfl⟩
  cases hx : isP m x with
  | false =>
    rw [hx] at h14
    refine r_if_ne_f hc dM_isWhite_6 (tgt := 13) (by decide) rfl ?_
    refine r_iconst hc dM_isWhite_9 (nI 1) (by decide) ?_
    refine r_goto hc dM_isWhite_10 (tgt := 14) (by decide) ?_
    exact h14
  | true =>
    rw [hx] at h14
    refine r_if_ne_t hc dM_isWhite_6 (tgt := 13) (by decide) (by decide) ?_
    refine r_iconst hc dM_isWhite_13 (nI 0) (by decide) ?_
    exact h14
theorem cM_back (l : Launch) (g : GG) (d : Nat) (w : Wd) (m : Nat) (inn : Nat → Bool) (ap : Nat → Nat → Bool) (n : Nat) (op : Bool) (G : Nat → Nat → Ce) (hF : FOk m inn ap n op G) (hS : MS w m inn ap n op G) : Con l g yM_back bM_back 1 ((some .int)) [] (d + 1) 0 0 [.ref (g.1 48)] w (Rp (MPost w (rfK (!op && decide (n = 0)) false false) (if op || decide (0 < n) then vIs (nI (if op then n else n - 1)) else vAny) m inn ap (if op then n else n - 1) false G)) := by
  intro X hl ha hm' hk hn' hc
  subst hl
  have hn16 := hF.2.1
  obtain ⟨Q, hQ⟩ : ∃ Q, Q = Fen X g 0 0 (Rp (MPost w (rfK (!op && decide (n = 0)) false false) (if op || decide (0 < n) then vIs (nI (if op then n else n - 1)) else vAny) m inn ap (if op then n else n - 1) false G)) := ⟨_, rfl⟩
  rw [← hQ]
  have hS1 := hS.thr (nI (rfK (!op && decide (n = 0)) false false))
  have h25 : Go X g 0 0 Q (wu w 48 0 (nI (rfK (!op && decide (n = 0)) false false))) 25 [some (.ref (g.1 48))] [.int (bI ((!op && decide (n = 0)) || false || false))] := by
    have hput : ∀ k : Nat, k = (if op then n else n - 1) → (op || decide (0 < n)) = true → Go X g 0 0 Q (wu w 48 0 (nI (rfK (!op && decide (n = 0)) false false))) 51 [some (.ref (g.1 48))] [.int (nI k), .ref (g.1 48)] := by
      intro k hk hb
      refine pM_63 hc dM_back_51 ?_
      refine r_aload_n hc dM_back_54 rfl ?_
      refine r_iconst hc dM_back_55 (nI 0) (by decide) ?_
      refine pM_51 hc dM_back_56 (by first | exact Or.inl rfl | exact Or.inr rfl | assumption) ?_
      refine r_aload_n hc dM_back_59 rfl ?_
      refine gM_63 hc dM_back_60 ?_
      subst hQ
      refine r_iret hc dM_back_63 ⟨?_, ?_, ⟨?_, ?_, ?_, fun p hp => ?_, fun p q h1 h2 => ?_, fun r hr p hp => ?_⟩, (((FrM.rf w).put 48 0 _ (by decide)).put 48 4 _ (by decide)).put 48 5 _ (by decide)⟩
      · rw [if_pos hb, wu_o2 (by decide), wu_at, hk]; rfl
      · rw [wu_o2 (by decide), wu_o2 (by decide), wu_at]
      · rw [wu_o2 (by decide), wu_o2 (by decide)]; exact hS1.1
      · rw [wu_o2 (by decide), wu_at, hk]
      · rw [wu_at]; rfl
      · rw [wu_o1 (by decide), wu_o1 (by decide)]; exact hS1.2.2.2.1 p hp
      · rw [wu_o1 (by decide), wu_o1 (by decide)]; exact hS1.2.2.2.2.1 p q h1 h2
      · rw [wu_o1 (by decide), wu_o1 (by decide), wu_o1 (by decide), wu_o1 (by decide), wu_o1 (by decide), wu_o1 (by decide)]
        refine hS1.2.2.2.2.2 r ?_ p hp
        revert hr
        unfold rnd
        cases op <;> simp <;> omega
    cases op with
    | true =>
      refine r_if_eq_t hc dM_back_25 (tgt := 30) (by decide) rfl ?_
      refine r_aload_n hc dM_back_30 rfl ?_
      refine r_aload_n hc dM_back_31 rfl ?_
      refine gM_51 hc dM_back_32 ?_
      rw [hS1.2.2.1]
      refine r_if_eq_f hc dM_back_35 (tgt := 45) (by decide) (by decide) ?_
      refine r_aload_n hc dM_back_38 rfl ?_
      refine gM_63 hc dM_back_39 ?_
      rw [hS1.2.1]
      refine r_goto hc dM_back_42 (tgt := 51) (by decide) ?_
      exact hput n rfl rfl
    | false =>
      by_cases h0 : n = 0
      · subst h0
        refine r_if_eq_f hc dM_back_25 (tgt := 30) (by decide) (by decide) ?_
        refine r_iconst hc dM_back_28 (nI 0) (by decide) ?_
        subst hQ
        exact r_iret hc dM_back_29 ⟨⟨_, rfl⟩, wu_at _ _ _ _, hS1, (FrM.rf w).put 48 0 _ (by decide)⟩
      · have hd : decide (n = 0) = false := by simp [h0]
        rw [hd] at hQ hput hS1 ⊢
        refine r_if_eq_t hc dM_back_25 (tgt := 30) (by decide) rfl ?_
        refine r_aload_n hc dM_back_30 rfl ?_
        refine r_aload_n hc dM_back_31 rfl ?_
        refine gM_51 hc dM_back_32 ?_
        rw [hS1.2.2.1]
        refine r_if_eq_t hc dM_back_35 (tgt := 45) (by decide) rfl ?_
        refine r_aload_n hc dM_back_45 rfl ?_
        refine gM_63 hc dM_back_46 ?_
        rw [hS1.2.1]
        refine r_iconst hc dM_back_49 (nI 1) (by decide) ?_
        refine r_isub hc dM_back_50 ?_
        rw [pk_sub (by omega)]
        exact hput (n - 1) rfl (by simp; omega)
  have h20 : Go X g 0 0 Q w 20 [some (.ref (g.1 48))] [.int (bI (!op && decide (n = 0))), .ref (g.1 48)] := by
    refine r_iconst hc dM_back_20 (nI 0) (by decide) ?_
    refine r_iconst hc dM_back_21 (nI 0) (by decide) ?_
    refine kM_55r hc dM_back_22 (cM_refused _ g d w (!op && decide (n = 0)) false false) (Nat.le_refl _) (Nat.le_of_ble_eq_true rfl) ?_
    rintro _ _ ⟨rfl, rfl⟩
    exact h25
  refine r_aload_n hc dM_back_0 rfl ?_
  refine r_aload_n hc dM_back_1 rfl ?_
  refine gM_51 hc dM_back_2 ?_
  rw [hS.2.2.1]
  cases op with
  | true =>
    refine r_if_ne_t hc dM_back_5 (tgt := 19) (by decide) (by decide) ?_
    refine r_iconst hc dM_back_19 (nI 0) (by decide) ?_
    exact h20
  | false =>
    refine r_if_ne_f hc dM_back_5 (tgt := 19) (by decide) rfl ?_
    refine r_aload_n hc dM_back_8 rfl ?_
    refine gM_63 hc dM_back_9 ?_
    rw [hS.2.1]
    by_cases h0 : n = 0
    · subst h0
      refine r_if_ne_f hc dM_back_12 (tgt := 19) (by decide) rfl ?_
      refine r_iconst hc dM_back_15 (nI 1) (by decide) ?_
      refine r_goto hc dM_back_16 (tgt := 20) (by decide) ?_
      exact h20
    · rw [show decide (n = 0) = false by simp [h0]] at h20
      refine r_if_ne_t hc dM_back_12 (tgt := 19) (by decide) (nI_ne0 (by omega) (by omega)) ?_
      refine r_iconst hc dM_back_19 (nI 0) (by decide) ?_
      exact h20
