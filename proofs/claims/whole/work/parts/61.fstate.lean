/-! PairedField: its state, and the calls that refuse nothing -/
section TR2
variable {n : Nat} {G : Nat → Nat → Ce}
theorem wi_tr : ∀ k, k ≤ n → ∀ p, f_wi G k p = f_wi (tr n G) k p
  | 0, _, _ => rfl
  | k + 1, h, p => by simp only [f_wi, wi_tr k (by omega) p, tr_lt (show k < n by omega)]
theorem gm_tr : ∀ k, k ≤ n → ∀ p, f_gm G k p = f_gm (tr n G) k p
  | 0, _, _ => rfl
  | k + 1, h, p => by simp only [f_gm, gm_tr k (by omega) p, tr_lt (show k < n by omega)]
theorem mtS_tr : ∀ k, k ≤ n → ∀ p, mtS G k p = mtS (tr n G) k p
  | 0, _, _ => rfl
  | k + 1, h, p => by simp only [mtS, mtS_tr k (by omega) p, tr_lt (show k < n by omega)]
theorem bu_tr (s : Nat → Nat) : ∀ k, k ≤ n → ∀ p, f_bu G s k p = f_bu (tr n G) s k p
  | 0, _, _ => rfl
  | k + 1, h, p => by simp only [f_bu, bu_tr s k (by omega) p, tr_lt (show k < n by omega)]
theorem be_tr (s : Nat → Nat) : ∀ k, k ≤ n → ∀ p, f_be G s k p = f_be (tr n G) s k p
  | 0, _, _ => rfl
  | k + 1, h, p => by simp only [f_be, be_tr s k (by omega) p, tr_lt (show k < n by omega)]
theorem SRep_tr (w : Wd) : SRep w G n ↔ SRep w (tr n G) n := by
  unfold SRep Fp Bp
  rw [← sc_tr', ← ba_tr', ← la_tr', ← lb_tr', ← by_tr']
  constructor
  · intro h p hp
    have := h p hp
    rw [wi_tr n (Nat.le_refl _), gm_tr n (Nat.le_refl _), mtS_tr n (Nat.le_refl _), bu_tr _ n (Nat.le_refl _), be_tr _ n (Nat.le_refl _)] at this
    exact this
  · intro h p hp
    rw [wi_tr n (Nat.le_refl _), gm_tr n (Nat.le_refl _), mtS_tr n (Nat.le_refl _), bu_tr _ n (Nat.le_refl _), be_tr _ n (Nat.le_refl _)]
    exact h p hp
end TR2
theorem SRep.rows {w : Wd} {G G' : Nat → Nat → Ce} {n : Nat} (h : SRep w G n) (hG : ∀ r, r < n → G r = G' r) : SRep w G' n := by
  rw [SRep_tr, ← tr_eq hG, ← SRep_tr]
  exact h
/-! those in, by all twelve places -/
def inM (inn : Nat → Bool) (m : Nat) : Nat → Bool := fun p => inn p && decide (p < m)
section INM
variable {G : Nat → Nat → Ce} {n m : Nat} {inn : Nat → Bool} {ap : Nat → Nat → Bool}
theorem inM_lt {p : Nat} (h : p < m) : inM inn m p = inn p := by simp [inM, h]
theorem inM_ge {p : Nat} (h : m ≤ p) : inM inn m p = false := by simp [inM]; omega
theorem in_a : ∀ k, k ≤ m → f_in (inM inn m) k = f_in inn k
  | 0, _ => rfl
  | k + 1, h => by simp only [f_in, in_a k (by omega), inM_lt (show k < m by omega)]
theorem in_b : ∀ k, f_in (inM inn m) (m + k) = f_in inn m
  | 0 => in_a m (Nat.le_refl _)
  | k + 1 => by
    show f_in (inM inn m) (m + k + 1) = _
    simp only [f_in, inM_ge (show m ≤ m + k by omega), Bool.false_eq_true, if_false]
    exact in_b k
theorem fb_a : ∀ k, k ≤ m → f_fb G n (inM inn m) k = f_fb G n inn k
  | 0, _ => rfl
  | k + 1, h => by simp only [f_fb, fb_a k (by omega), inM_lt (show k < m by omega)]
theorem fb_b : ∀ k, f_fb G n (inM inn m) (m + k) = f_fb G n inn m
  | 0 => fb_a m (Nat.le_refl _)
  | k + 1 => by
    show f_fb G n (inM inn m) (m + k + 1) = _
    simp only [f_fb, inM_ge (show m ≤ m + k by omega), Bool.false_eq_true, if_false]
    exact fb_b k
theorem t_in (hm : m ≤ 12) : f_in (inM inn m) 12 = f_in inn m := by
  have := in_b (m := m) (inn := inn) (12 - m)
  rw [show m + (12 - m) = 12 by omega] at this
  exact this
theorem t_bye (hm : m ≤ 12) : byeOf G n (inM inn m) 12 = byeOf G n inn m := by
  have := fb_b (G := G) (n := n) (m := m) (inn := inn) (12 - m)
  rw [show m + (12 - m) = 12 by omega] at this
  unfold byeOf
  rw [t_in hm, this]
theorem bk_b {s : Nat → Nat} {el : Nat → Bool} {K : Nat} (h : ∀ p, m ≤ p → el p = false) : ∀ k, bk s el (m + k) K = bk s el m K
  | 0 => rfl
  | k + 1 => by
    show bk s el (m + k + 1) K = _
    rw [bk_skip (Or.inl (h _ (by omega)))]
    exact bk_b h k
theorem bk_el {s : Nat → Nat} {el el' : Nat → Bool} (h : ∀ p, p < m → el p = el' p) : ∀ K, bk s el m K = bk s el' m K
  | 0 => rfl
  | K + 1 => by
    simp only [bk, bk_el h K]
    congr 1
    apply List.filter_congr
    intro p hp
    rw [h p (List.mem_range.mp hp)]
theorem t_ord (hm : m ≤ 12) : ordOf G n (inM inn m) 12 = ordOf G n inn m := by
  have h1 := bk_b (m := m) (s := f_sc G n) (el := elOf G n (inM inn m) 12) (K := 33) (fun p hp => by unfold elOf; rw [inM_ge hp]; rfl) (12 - m)
  rw [show m + (12 - m) = 12 by omega] at h1
  unfold ordOf
  rw [h1]
  refine bk_el (fun p hp => ?_) 33
  unfold elOf
  rw [inM_lt hp, t_bye hm]
theorem t_sol (hm : m ≤ 12) : solT G n ap (inM inn m) 12 = solT G n ap inn m := by
  funext S
  unfold solT
  rw [t_ord hm]
theorem t_top (hm : m ≤ 12) : topS G n (inM inn m) 12 = topS G n inn m := by
  unfold topS
  rw [t_ord hm]
theorem t_can (hm : m ≤ 12) : canP G n ap (inM inn m) 12 = canP G n ap inn m := by
  unfold canP
  rw [t_sol hm, t_top hm, t_in hm]
theorem t_rs (hm : m ≤ 12) : ∀ k, rsT G n ap (inM inn m) 12 k = rsT G n ap inn m k
  | 0 => by simp only [rsT, t_top hm, t_bye hm]
  | k + 1 => by simp only [rsT, t_rs hm k, t_sol hm, t_ord hm]
theorem t_row (hm : m ≤ 12) : newRow G n ap (inM inn m) 12 = newRow G n ap inn m := by
  unfold newRow
  rw [t_rs hm, t_ord hm]
theorem t_games (hm : m ≤ 12) : newGames G n ap (inM inn m) 12 = newGames G n ap inn m := by
  unfold newGames
  rw [t_rs hm, t_ord hm]
end INM
/-- the field's cells hold the state -/
def CS (w : Wd) (m : Nat) (inn : Nat → Bool) (ap : Nat → Nat → Bool) (n : Nat) (op : Bool) (G : Nat → Nat → Ce) : Prop :=
  w 0 5 = nI m ∧ w 0 6 = nI n ∧ w 0 7 = bI op ∧ PIn w (inM inn m) ∧ CAp w ap ∧ SRep w G n ∧ CRep w G (rnd n op)
def FrC (w w' : Wd) : Prop := ∀ k, 47 < k → w' k = w k
theorem FrC.rf (w : Wd) : FrC w w := fun _ _ => rfl
theorem FrC.tr {w w1 w2 : Wd} (h : FrC w w1) (h2 : FrC w1 w2) : FrC w w2 := fun k hk => (h2 k hk).trans (h k hk)
theorem FrC.put {w w1 : Wd} (h : FrC w w1) (k i : Nat) (x : Int32) (hk : k ≤ 47) : FrC w (wu w1 k i x) := fun j hj => by rw [wu_ne (by omega)]; exact h j hj
section CST
variable {w w' : Wd} {m : Nat} {inn : Nat → Bool} {ap : Nat → Nat → Bool} {n : Nat} {op : Bool} {G : Nat → Nat → Ce}
theorem CS.congr (hr16 : rnd n op ≤ 17) (h : CS w m inn ap n op G) (hk : ∀ k, k < 31 → w' k = w k) : CS w' m inn ap n op G := by
  obtain ⟨a1, a2, a3, a4, a5, a6, a7⟩ := h
  refine ⟨by rw [hk 0 (by decide)]; exact a1, by rw [hk 0 (by decide)]; exact a2, by rw [hk 0 (by decide)]; exact a3, fun p hp => by rw [hk 18 (by decide)]; exact a4 p hp, fun p hp => by rw [hk 19 (by decide)]; exact a5 p hp, a6.congr (fun k _ h2 => hk k (by omega)), fun r hr p hp => ?_⟩
  by_cases h9 : 2 + r < 31
  · rw [hk (2 + r) h9]; exact a7 r hr p hp
  · exact absurd hr (by omega)
end CST
theorem cF_players (l : Launch) (g : GG) (d : Nat) (w : Wd) : Con l g yF_players bF_players 1 ((some .int)) [] d 0 0 [.ref (g.1 0)] w (Rp (An (some (.int (w 0 5))) w)) := by
  intro X hl ha hm' hk hn' hc
  subst hl
  refine r_aload_n hc dF_players_0 rfl ?_
  refine gF_45 hc dF_players_1 ?_
  exact r_iret hc dF_players_4 ⟨rfl, rfl⟩
theorem cF_rounds (l : Launch) (g : GG) (d : Nat) (w : Wd) : Con l g yF_rounds bF_rounds 1 ((some .int)) [] d 0 0 [.ref (g.1 0)] w (Rp (An (some (.int (w 0 6))) w)) := by
  intro X hl ha hm' hk hn' hc
  subst hl
  refine r_aload_n hc dF_rounds_0 rfl ?_
  refine gF_73 hc dF_rounds_1 ?_
  exact r_iret hc dF_rounds_4 ⟨rfl, rfl⟩
theorem cF_isPlayer (l : Launch) (g : GG) (d : Nat) (w : Wd) (m : Nat) (x : Int32) (hpl : w 0 5 = nI m) : Con l g yF_isPlayer bF_isPlayer 2 ((some .boolean)) [] d 0 0 [.ref (g.1 0), .int x] w (Rp (An (some (.int (bI (isP m x)))) w)) := by
  intro X hl ha hm' hk hn' hc
  subst hl
  refine r_iload_n hc dF_isPlayer_0 rfl ?_
  refine r_if_lt hc dF_isPlayer_1 (tgt := 16) (by decide) (fun h => ?_) (fun h => ?_)
  · refine r_iconst hc dF_isPlayer_16 (nI 0) (by decide) ?_
    exact r_zret hc dF_isPlayer_17 rfl ⟨by rw [show isP m x = false from decide_eq_false (fun z => absurd h (Int32.not_lt.mpr z.1))]; rfl, rfl⟩
  · refine r_iload_n hc dF_isPlayer_4 rfl ?_
    refine r_aload_n hc dF_isPlayer_5 rfl ?_
    refine gF_45 hc dF_isPlayer_6 ?_
    rw [hpl]
    refine r_ic_ge hc dF_isPlayer_9 (tgt := 16) (by decide) (fun h2 => ?_) (fun h2 => ?_)
    · refine r_iconst hc dF_isPlayer_16 (nI 0) (by decide) ?_
      exact r_zret hc dF_isPlayer_17 rfl ⟨by rw [show isP m x = false from decide_eq_false (fun z => absurd z.2 (Int32.not_lt.mpr h2))]; rfl, rfl⟩
    · refine r_iconst hc dF_isPlayer_12 (nI 1) (by decide) ?_
      refine r_goto hc dF_isPlayer_13 (tgt := 17) (by decide) ?_
      exact r_zret hc dF_isPlayer_17 rfl ⟨by rw [show isP m x = true from decide_eq_true ⟨Int32.not_lt.mp h, Int32.not_le.mp h2⟩]; rfl, rfl⟩
theorem cF_isIn (l : Launch) (g : GG) (d : Nat) (w : Wd) (m : Nat) (inn : Nat → Bool) (ap : Nat → Nat → Bool) (n : Nat) (op : Bool) (G : Nat → Nat → Ce) (x : Int32) (hm : m ≤ 12) (hS : CS w m inn ap n op G) : Con l g yF_isIn bF_isIn 2 ((some .boolean)) [] (d + 1) 0 0 [.ref (g.1 0), .int x] w (Rp (An (some (.int (bI (isP m x && inn (pN x))))) w)) := by
  intro X hl ha hm' hk hn' hc
  subst hl
  refine r_aload_n hc dF_isIn_0 rfl ?_
  refine r_iload_n hc dF_isIn_1 rfl ?_
  refine kF_150r hc dF_isIn_2 (cF_isPlayer _ g d w m x hS.1) (Nat.le_refl _) (Nat.le_of_ble_eq_true rfl) ?_
  rintro _ _ ⟨rfl, rfl⟩
  cases hx : isP m x with
  | false =>
    refine r_if_eq_t hc dF_isIn_5 (tgt := 21) (by decide) rfl ?_
    refine r_iconst hc dF_isIn_21 (nI 0) (by decide) ?_
    exact r_zret hc dF_isIn_22 rfl ⟨rfl, rfl⟩
  | true =>
    obtain ⟨p, hp, rfl⟩ := isP_t hx hm
    rw [pN_nI (by omega)]
    refine r_if_eq_f hc dF_isIn_5 (tgt := 21) (by decide) (by decide) ?_
    refine r_aload_n hc dF_isIn_8 rfl ?_
    refine gF_14 hc dF_isIn_9 ?_
    refine r_iload_n hc dF_isIn_12 rfl ?_
    refine r_zaldN hc dF_isIn_13 rfl (by first | omega | (show _ < 12; omega) | (show _ < 204; omega) | (show _ < 144; omega) | (show _ < 2048; omega) | (show _ < 4096; omega) | (show _ < 16; omega)) ?_
    rw [hS.2.2.2.1 p (by omega), inM_lt hp]
    cases hi : inn p with
    | false =>
      refine r_if_eq_t hc dF_isIn_14 (tgt := 21) (by decide) rfl ?_
      refine r_iconst hc dF_isIn_21 (nI 0) (by decide) ?_
      exact r_zret hc dF_isIn_22 rfl ⟨rfl, rfl⟩
    | true =>
      refine r_if_eq_f hc dF_isIn_14 (tgt := 21) (by decide) (by decide) ?_
      refine r_iconst hc dF_isIn_17 (nI 1) (by decide) ?_
      refine r_goto hc dF_isIn_18 (tgt := 22) (by decide) ?_
      exact r_zret hc dF_isIn_22 rfl ⟨rfl, rfl⟩
