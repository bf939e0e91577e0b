/-! rows below n alone count -/
def tr (n : Nat) (G : Nat → Nat → Ce) : Nat → Nat → Ce := fun r => if r < n then G r else fun _ => none
theorem tr_lt {n r : Nat} {G : Nat → Nat → Ce} (h : r < n) : tr n G r = G r := if_pos h
theorem tr_eq {n : Nat} {G G' : Nat → Nat → Ce} (h : ∀ r, r < n → G r = G' r) : tr n G = tr n G' := by
  funext r
  unfold tr
  split
  · exact h r (by assumption)
  · rfl
section TRN
variable {n : Nat} {G : Nat → Nat → Ce}
theorem sc_tr : ∀ k, k ≤ n → ∀ p, f_sc G k p = f_sc (tr n G) k p
  | 0, _, _ => rfl
  | k + 1, h, p => by simp only [f_sc, sc_tr k (by omega) p, tr_lt (show k < n by omega)]
theorem ba_tr : ∀ k, k ≤ n → ∀ p, f_ba G k p = f_ba (tr n G) k p
  | 0, _, _ => rfl
  | k + 1, h, p => by simp only [f_ba, ba_tr k (by omega) p, tr_lt (show k < n by omega)]
theorem la_tr : ∀ k, k ≤ n → ∀ p, f_la G k p = f_la (tr n G) k p
  | 0, _, _ => rfl
  | k + 1, h, p => by simp only [f_la, la_tr k (by omega) p, tr_lt (show k < n by omega)]
theorem lb_tr : ∀ k, k ≤ n → ∀ p, f_lb G k p = f_lb (tr n G) k p
  | 0, _, _ => rfl
  | k + 1, h, p => by simp only [f_lb, lb_tr k (by omega) p, la_tr (n := n) (G := G) k (show k ≤ n by omega) p, tr_lt (show k < n by omega)]
theorem by_tr : ∀ k, k ≤ n → ∀ p, f_by G k p = f_by (tr n G) k p
  | 0, _, _ => rfl
  | k + 1, h, p => by simp only [f_by, by_tr k (by omega) p, tr_lt (show k < n by omega)]
theorem mt_tr : ∀ k, k ≤ n → ∀ p q, f_mt G k p q = f_mt (tr n G) k p q
  | 0, _, _, _ => rfl
  | k + 1, h, p, q => by simp only [f_mt, mt_tr k (by omega) p q, tr_lt (show k < n by omega)]
theorem sc_tr' : f_sc G n = f_sc (tr n G) n := funext (sc_tr n (Nat.le_refl _))
theorem ba_tr' : f_ba G n = f_ba (tr n G) n := funext (ba_tr n (Nat.le_refl _))
theorem la_tr' : f_la G n = f_la (tr n G) n := funext (la_tr n (Nat.le_refl _))
theorem lb_tr' : f_lb G n = f_lb (tr n G) n := funext (lb_tr n (Nat.le_refl _))
theorem by_tr' : f_by G n = f_by (tr n G) n := funext (by_tr n (Nat.le_refl _))
theorem mt_tr' : f_mt G n = f_mt (tr n G) n := funext fun p => funext (mt_tr n (Nat.le_refl _) p)
theorem fw_tr' : fw G n = fw (tr n G) n := by
  funext p q
  unfold fw
  rw [ba_tr', la_tr']
theorem cla_tr' : cla G n = cla (tr n G) n := by
  funext p c
  unfold cla
  rw [ba_tr', la_tr', lb_tr']
theorem gco_tr' : gco G n = gco (tr n G) n := by
  funext p q
  unfold gco
  rw [sc_tr', cla_tr', fw_tr']
theorem bet_tr' : bet G n = bet (tr n G) n := by
  funext p q
  unfold bet
  rw [sc_tr', by_tr']
theorem fb_tr' (inn : Nat → Bool) : ∀ m, f_fb G n inn m = f_fb (tr n G) n inn m
  | 0 => rfl
  | m + 1 => by simp only [f_fb, fb_tr' inn m, bet_tr' (G := G)]
theorem bye_tr' (inn : Nat → Bool) (m : Nat) : byeOf G n inn m = byeOf (tr n G) n inn m := by
  unfold byeOf
  rw [fb_tr']
theorem ord_tr' (inn : Nat → Bool) (m : Nat) : ordOf G n inn m = ordOf (tr n G) n inn m := by
  unfold ordOf
  rw [sc_tr', show elOf G n inn m = elOf (tr n G) n inn m by funext p; unfold elOf; rw [bye_tr']]
theorem bar_tr' (ap : Nat → Nat → Bool) : bar G n ap = bar (tr n G) n ap := by
  funext p q
  unfold bar
  rw [mt_tr']
theorem cs_tr' (ap : Nat → Nat → Bool) (L : List Nat) : csOf G n ap L = csOf (tr n G) n ap L := by
  funext i j
  unfold csOf
  rw [bar_tr', gco_tr']
theorem solT_tr' (ap : Nat → Nat → Bool) (inn : Nat → Bool) (m : Nat) : solT G n ap inn m = solT (tr n G) n ap inn m := by
  funext S
  unfold solT
  rw [cs_tr', ord_tr']
theorem top_tr' (inn : Nat → Bool) (m : Nat) : topS G n inn m = topS (tr n G) n inn m := by
  unfold topS
  rw [ord_tr']
theorem canP_tr' (ap : Nat → Nat → Bool) (inn : Nat → Bool) (m : Nat) : canP G n ap inn m = canP (tr n G) n ap inn m := by
  unfold canP
  rw [solT_tr', top_tr']
end TRN
theorem canP_congr {n : Nat} {G G' : Nat → Nat → Ce} (h : ∀ r, r < n → G r = G' r) (ap : Nat → Nat → Bool) (inn : Nat → Bool) (m : Nat) : canP G n ap inn m = canP G' n ap inn m := by
  rw [canP_tr', canP_tr' (G := G'), tr_eq h]
/-- the round's row -/
def newRow (G : Nat → Nat → Ce) (n : Nat) (ap : Nat → Nat → Bool) (inn : Nat → Bool) (m : Nat) : Nat → Ce := (rsT G n ap inn m (ordOf G n inn m).length).2.1
def newGames (G : Nat → Nat → Ce) (n : Nat) (ap : Nat → Nat → Bool) (inn : Nat → Bool) (m : Nat) : Nat := (rsT G n ap inn m (ordOf G n inn m).length).2.2
def RowNew (m : Nat) (R : Nat → Ce) : Prop := (∀ p, m ≤ p → R p = none) ∧ ∀ p q b k, R p = some (some (q, b, k)) → k = 3 ∧ q < m ∧ q ≠ p ∧ R q = some (some (p, !b, 3))
theorem rsT_row {G : Nat → Nat → Ce} {n : Nat} {ap : Nat → Nat → Bool} {inn : Nat → Bool} {m : Nat} (hm : m ≤ 12) (hcan : (solT G n ap inn m (topS G n inn m)).1 < dpE) : ∀ i, i ≤ (ordOf G n inn m).length → RowNew m (rsT G n ap inn m i).2.1 ∧ ∀ s, s < (ordOf G n inn m).length → (rsT G n ap inn m i).1.testBit s = true → (rsT G n ap inn m i).2.1 ((ordOf G n inn m).getD s 0) = none
  | 0, _ => by
    refine ⟨⟨fun p hp => ?_, fun p q b k h => ?_⟩, fun s hs _ => ?_⟩
    · simp only [rsT]
      rw [if_neg]
      intro hb
      unfold byeOf at hb
      split at hb
      · have := (f_fb_lt hb).1
        omega
      · cases hb
    · simp only [rsT] at h
      split at h <;> cases h
    · simp only [rsT]
      rw [if_neg]
      intro hb
      have := (ord_mem hs).2
      unfold elOf at this
      rw [hb] at this
      simp at this
  | i + 1, hi => by
    obtain ⟨⟨h1, h2⟩, h3⟩ := rsT_row hm hcan i (by omega)
    obtain ⟨r1, r2, r3⟩ := rsT_ok hm hcan i
    have hlen : (ordOf G n inn m).length ≤ m := bk_len _ _ _ _
    have hp12 : 2 ^ (ordOf G n inn m).length ≤ 4096 := pow12 (by omega)
    simp only [rsT]
    cases hb : (rsT G n ap inn m i).1.testBit i with
    | false =>
      simp only [Bool.false_eq_true, if_false]
      exact ⟨⟨h1, h2⟩, h3⟩
    | true =>
      simp only [if_true]
      have hS0 : 0 < (rsT G n ap inn m i).1 := Nat.pos_of_ne_zero (fun q => by rw [q] at hb; simp at hb)
      obtain ⟨f1, f2, f3⟩ := lowb_spec hS0 (by omega)
      have hlow : lowb (rsT G n ap inn m i).1 = i := by
        rcases Nat.lt_trichotomy (lowb (rsT G n ap inn m i).1) i with q | q | q
        · have := r3 _ q
          rw [f1] at this
          cases this
        · exact q
        · have := f3 _ q
          rw [hb] at this
          cases this
      obtain ⟨j, c, s1, s2, s3, s4, s5, s6⟩ := sol_pick hS0 (by omega) r2
      rw [hlow] at s3
      have s1' : (solT G n ap inn m (rsT G n ap inn m i).1).2.1 = some j := s1
      rw [s1']
      simp only [Option.getD_some]
      have hpq : (ordOf G n inn m).getD i 0 ≠ (ordOf G n inn m).getD j 0 := fun q => by have := ord_inj (show i < (ordOf G n inn m).length by omega) s2 q; omega
      have hpn := h3 i (by omega) hb
      have hqn := h3 j s2 s4
      have p1 := (ord_mem (show i < (ordOf G n inn m).length by omega)).1
      have p2 := (ord_mem s2).1
      refine ⟨⟨fun p hp => ?_, fun p q b k h => ?_⟩, fun s hs hsb => ?_⟩
      · dsimp only
        rw [if_neg (by omega), if_neg (by omega)]
        exact h1 p hp
      · dsimp only at h ⊢
        by_cases c1 : p = (ordOf G n inn m).getD j 0
        · rw [if_pos c1] at h
          simp only [Option.some.injEq, Prod.mk.injEq] at h
          obtain ⟨rfl, rfl, rfl⟩ := h
          refine ⟨rfl, p1, by rw [c1]; exact hpq, ?_⟩
          rw [if_neg hpq, if_pos rfl, c1]
          simp
        · rw [if_neg c1] at h
          by_cases c2 : p = (ordOf G n inn m).getD i 0
          · rw [if_pos c2] at h
            simp only [Option.some.injEq, Prod.mk.injEq] at h
            obtain ⟨rfl, rfl, rfl⟩ := h
            refine ⟨rfl, p2, by rw [c2]; exact Ne.symm hpq, ?_⟩
            rw [if_pos rfl, c2]
          · rw [if_neg c2] at h
            obtain ⟨k1, k2, k3, k4⟩ := h2 p q b k h
            refine ⟨k1, k2, k3, ?_⟩
            rw [if_neg (fun z => by rw [z, hqn] at k4; cases k4), if_neg (fun z => by rw [z, hpn] at k4; cases k4)]
            exact k4
      · rw [clr_bit _ (by omega) (by omega), clr_bit _ (by omega) (by omega)] at hsb
        simp only [Bool.and_eq_true, Bool.not_eq_true', decide_eq_false_iff_not] at hsb
        obtain ⟨⟨t1, t2⟩, t3⟩ := hsb
        rw [if_neg (fun z => t3 (ord_inj hs s2 z).symm), if_neg (fun z => t2 (ord_inj hs (by omega) z).symm)]
        exact h3 s hs t1
theorem newRow_new {G : Nat → Nat → Ce} {n : Nat} {ap : Nat → Nat → Bool} {inn : Nat → Bool} {m : Nat} (hm : m ≤ 12) (hcan : canP G n ap inn m = true) : RowNew m (newRow G n ap inn m) := by
  unfold canP at hcan
  rw [Bool.and_eq_true] at hcan
  exact (rsT_row hm (of_decide_eq_true hcan.2) _ (Nat.le_refl _)).1
theorem RowNew.ok {m : Nat} {R : Nat → Ce} (h : RowNew m R) : RowOk m R := ⟨h.1, fun p q b k hp => by
  obtain ⟨rfl, h2, h3, h4⟩ := h.2 p q b k hp
  exact ⟨h2, h3, Nat.le_refl _, h4⟩⟩
section MWK
variable {w w' : Wd} {m : Nat} {inn : Nat → Bool} {ap : Nat → Nat → Bool} {n : Nat} {op : Bool} {G : Nat → Nat → Ce} {S : Nat}
theorem MS.wk (h : MS w m inn ap n op G) (hW : WkUp w w' G n ap inn m S) : MS w' m inn ap n op G := h.congr (hW.2.1 1 (by decide) (by decide)) (hW.2.1 4 (by decide) (by decide)) (hW.2.1 5 (by decide) (by decide)) (fun k h1 h2 => hW.1 k (by omega) (by omega) (by omega) (by omega) (by omega) (by omega))
theorem FrM.wk (hW : WkUp w w' G n ap inn m S) : FrM w w' := fun k hk => hW.1 k (by omega) (by omega) (by omega) (by omega) (by omega) (by omega)
theorem MS.opened (h : MS w m inn ap n false G) (hO : OpIn w w' n (newRow G n ap inn m) (fun _ => True)) (ho : w' 48 5 = 1) : MS w' m inn ap n true (gUp G n (newRow G n ap inn m)) := by
  refine ⟨(hO.2.1 1 (by decide)).trans h.1, (hO.2.1 4 (by decide)).trans h.2.1, ho, fun p hp => ?_, fun p q h1 h2 => ?_, fun r hr p hp => ?_⟩
  · rw [hO.1 49 (by decide) (by decide) (by decide) (by decide)]; exact h.2.2.2.1 p hp
  · rw [hO.1 50 (by decide) (by decide) (by decide) (by decide)]; exact h.2.2.2.2.1 p q h1 h2
  · by_cases hrn : r = n
    · subst hrn
      rw [show gUp G r (newRow G r ap inn m) r = newRow G r ap inn m by simp [gUp]]
      exact (hO.2.2.2 p hp trivial).1
    · have hr' : r < n := by simp [rnd] at hr; omega
      rw [show gUp G n (newRow G n ap inn m) r = G r by simp [gUp, hrn]]
      obtain ⟨e1, e2, e3⟩ := hO.2.2.1 (12 * r + p) (by omega)
      rw [e1, e2, e3]
      exact h.2.2.2.2.2 r (by simpa [rnd] using hr') p hp
theorem FrM.opened {R : Nat → Ce} {D : Nat → Prop} (hO : OpIn w w' n R D) : FrM w w' := fun k hk => hO.1 k (by omega) (by omega) (by omega) (by omega)
end MWK
theorem cM_ways (l : Launch) (g : GG) (d : Nat) (w : Wd) (m : Nat) (inn : Nat → Bool) (ap : Nat → Nat → Bool) (n : Nat) (op : Bool) (G : Nat → Nat → Ce) (hF : FOk m inn ap n op G) (hS : MS w m inn ap n op G) : Con l g yM_ways bM_ways 1 ((some .int)) [] (d + 6) 0 0 [.ref (g.1 48)] w (Rp (MPost w 0 (vIs (nI (solT G n ap inn m (topS G n inn m)).2.2)) m inn ap n op G)) := by
  intro X hl ha hm' hk hn' hc
  subst hl
  have hm := hF.1.2
  have hlen : (ordOf G n inn m).length ≤ m := bk_len _ _ _ _
  have hp12 : 2 ^ (ordOf G n inn m).length ≤ 4096 := pow12 (by omega)
  have htop := topS_lt G n inn m
  have hS1 := hS.thr (nI 0)
  refine r_aload_n hc dM_ways_0 rfl ?_
  refine r_iconst hc dM_ways_1 (nI 0) (by decide) ?_
  refine pM_48 hc dM_ways_2 ?_
  refine r_aload_n hc dM_ways_5 rfl ?_
  refine kM_113r hc dM_ways_6 (cM_work _ g d _ G n ap inn m hS1.rep hF.2.2.2.1 hF.2.1 hS1.2.1 hS1.2.2.2.1 hm hS1.1 hS1.2.2.2.2.1) (by omega) (Nat.le_of_ble_eq_true rfl) ?_
  rintro _ w1 ⟨rfl, hw1⟩
  refine r_aload_n hc dM_ways_9 rfl ?_
  refine gM_38 hc dM_ways_10 ?_
  refine r_aload_n hc dM_ways_13 rfl ?_
  refine kM_116r hc dM_ways_14 (cM_whole _ g d w1 (ordOf G n inn m).length (by omega) hw1.2.2.2.1) (by omega) (Nat.le_of_ble_eq_true rfl) ?_
  rintro _ _ ⟨rfl, rfl⟩
  refine r_ialdN hc dM_ways_17 (j := topS G n inn m) rfl (show _ < 4096 by omega) ?_
  refine r_iret hc dM_ways_18 ⟨?_, ?_, hS1.wk hw1, ((FrM.rf w).put 48 0 _ (by decide)).tr (FrM.wk hw1)⟩
  · rw [(hw1.2.2.2.2.2.2 _ htop).2.1]; rfl
  · rw [hw1.2.1 0 (by decide) (by decide), wu_at]
theorem cM_cost (l : Launch) (g : GG) (d : Nat) (w : Wd) (m : Nat) (inn : Nat → Bool) (ap : Nat → Nat → Bool) (n : Nat) (op : Bool) (G : Nat → Nat → Ce) (hF : FOk m inn ap n op G) (hS : MS w m inn ap n op G) : Con l g yM_cost bM_cost 2 ((some .int)) [] (d + 7) 0 0 [.ref (g.1 48)] w (Rp (MPost w (rfK (!canP G n ap inn m) false false) (if canP G n ap inn m then vIs (nI (solT G n ap inn m (topS G n inn m)).1) else vAny) m inn ap n op G)) := by
  intro X hl ha hm' hk hn' hc
  subst hl
  have hm := hF.1.2
  have hlen : (ordOf G n inn m).length ≤ m := bk_len _ _ _ _
  have hp12 : 2 ^ (ordOf G n inn m).length ≤ 4096 := pow12 (by omega)
  have htop := topS_lt G n inn m
  refine r_aload_n hc dM_cost_0 rfl ?_
  refine kM_119r hc dM_cost_1 (cM_canPair _ g d w G n ap inn m hS.rep hF.2.2.2.1 hF.2.1 hS.2.1 hS.2.2.2.1 hm hS.1 hS.2.2.2.2.1) (by omega) (Nat.le_of_ble_eq_true rfl) ?_
  rintro _ w1 ⟨rfl, hw1⟩
  have hS0 := hS.wk hw1
  refine r_istore_n hc dM_cost_4 (Nat.le_of_ble_eq_true rfl) ?_
  refine r_aload_n hc dM_cost_5 rfl ?_
  refine r_iload_n hc dM_cost_6 rfl ?_
  cases hcan : canP G n ap inn m with
  | false =>
    have hop : op = false := by
      cases hop : op with
      | false => rfl
      | true =>
        have := hF.2.2.2.2.2.2.2 hop
        rw [hcan] at this
        cases this
    subst hop
    refine r_if_ne_f hc dM_cost_7 (tgt := 21) (by decide) rfl ?_
    refine r_aload_n hc dM_cost_10 rfl ?_
    refine gM_51 hc dM_cost_11 ?_
    rw [hS0.2.2.1]
    refine r_if_ne_f hc dM_cost_14 (tgt := 21) (by decide) rfl ?_
    refine r_iconst hc dM_cost_17 (nI 1) (by decide) ?_
    refine r_goto hc dM_cost_18 (tgt := 22) (by decide) ?_
    refine r_iconst hc dM_cost_22 (nI 0) (by decide) ?_
    refine r_iconst hc dM_cost_23 (nI 0) (by decide) ?_
    refine kM_55r hc dM_cost_24 (cM_refused _ g d w1 true false false) (by omega) (Nat.le_of_ble_eq_true rfl) ?_
    rintro _ _ ⟨rfl, rfl⟩
    refine r_if_eq_f hc dM_cost_27 (tgt := 34) (by decide) (by decide) ?_
    refine r_iconst hc dM_cost_30 (nI 0) (by decide) ?_
    refine r_goto hc dM_cost_31 (tgt := 43) (by decide) ?_
    exact r_iret hc dM_cost_43 ⟨⟨_, rfl⟩, wu_at _ _ _ _, hS0.thr _, (FrM.wk hw1).put 48 0 _ (by decide)⟩
  | true =>
    refine r_if_ne_t hc dM_cost_7 (tgt := 21) (by decide) (by decide) ?_
    refine r_iconst hc dM_cost_21 (nI 0) (by decide) ?_
    refine r_iconst hc dM_cost_22 (nI 0) (by decide) ?_
    refine r_iconst hc dM_cost_23 (nI 0) (by decide) ?_
    refine kM_55r hc dM_cost_24 (cM_refused _ g d w1 false false false) (by omega) (Nat.le_of_ble_eq_true rfl) ?_
    rintro _ _ ⟨rfl, rfl⟩
    refine r_if_eq_t hc dM_cost_27 (tgt := 34) (by decide) rfl ?_
    refine r_aload_n hc dM_cost_34 rfl ?_
    refine gM_32 hc dM_cost_35 ?_
    refine r_aload_n hc dM_cost_38 rfl ?_
    refine kM_116r hc dM_cost_39 (cM_whole _ g d _ (ordOf G n inn m).length (by omega) (by rw [wu_o2 (by decide)]; exact hw1.2.2.2.1)) (by omega) (Nat.le_of_ble_eq_true rfl) ?_
    rintro _ _ ⟨rfl, rfl⟩
    refine r_ialdN hc dM_cost_42 (j := topS G n inn m) rfl (show _ < 4096 by omega) ?_
    refine r_iret hc dM_cost_43 ⟨?_, wu_at _ _ _ _, hS0.thr _, (FrM.wk hw1).put 48 0 _ (by decide)⟩
    rw [wu_o1 (by decide), (hw1.2.2.2.2.2.2 _ htop).1]
    rfl
def prBad (n : Nat) (op : Bool) : Bool := op || decide (n = 16)
theorem cM_pair (l : Launch) (g : GG) (d : Nat) (w : Wd) (m : Nat) (inn : Nat → Bool) (ap : Nat → Nat → Bool) (n : Nat) (op : Bool) (G : Nat → Nat → Ce) (hF : FOk m inn ap n op G) (hS : MS w m inn ap n op G) : Con l g yM_pair bM_pair 3 ((some .int)) [] (d + 7) 0 0 [.ref (g.1 48)] w (Rp (MPost w (rfK (prBad n op) (!canP G n ap inn m) false) (if !prBad n op && canP G n ap inn m then vIs (nI (newGames G n ap inn m)) else vAny) m inn ap n (if !prBad n op && canP G n ap inn m then true else op) (if !prBad n op && canP G n ap inn m then gUp G n (newRow G n ap inn m) else G))) := by
  intro X hl ha hm' hk hn' hc
  subst hl
  have hm := hF.1.2
  have hn16 := hF.2.1
  have h22 : ∀ Q, prBad n op = true → Q = Fen X g 0 0 (Rp (MPost w 1 vAny m inn ap n op G)) → Go X g 0 0 Q w 16 [some (.ref (g.1 48)), none, none] [] := by
    rintro Q hb rfl
    refine r_iconst hc dM_pair_16 (nI 1) (by decide) ?_
    refine r_goto hc dM_pair_17 (tgt := 21) (by decide) ?_
    refine r_istore_n hc dM_pair_21 (Nat.le_of_ble_eq_true rfl) ?_
    refine r_iload_n hc dM_pair_22 rfl ?_
    refine r_if_ne_t hc dM_pair_23 (tgt := 37) (by decide) (by decide) ?_
    refine r_iconst hc dM_pair_37 (nI 0) (by decide) ?_
    refine r_istore_n hc dM_pair_38 (Nat.le_of_ble_eq_true rfl) ?_
    refine r_aload_n hc dM_pair_39 rfl ?_
    refine r_iload_n hc dM_pair_40 rfl ?_
    refine r_iload_n hc dM_pair_41 rfl ?_
    refine r_if_ne_f hc dM_pair_42 (tgt := 49) (by decide) rfl ?_
    refine r_iconst hc dM_pair_45 (nI 1) (by decide) ?_
    refine r_goto hc dM_pair_46 (tgt := 50) (by decide) ?_
    refine r_iconst hc dM_pair_50 (nI 0) (by decide) ?_
    refine kM_55r hc dM_pair_51 (cM_refused _ g d w true true false) (by omega) (Nat.le_of_ble_eq_true rfl) ?_
    rintro _ _ ⟨rfl, rfl⟩
    refine r_if_eq_f hc dM_pair_54 (tgt := 61) (by decide) (by decide) ?_
    refine r_iconst hc dM_pair_57 (nI 0) (by decide) ?_
    refine r_goto hc dM_pair_58 (tgt := 65) (by decide) ?_
    exact r_iret hc dM_pair_65 ⟨⟨_, rfl⟩, wu_at _ _ _ _, hS.thr _, (FrM.rf w).put 48 0 _ (by decide)⟩
  cases hbad : prBad n op with
  | true =>
    simp only [rfK, if_true, Bool.not_true, Bool.false_and, Bool.false_eq_true, if_false]
    refine r_aload_n hc dM_pair_0 rfl ?_
    refine gM_51 hc dM_pair_1 ?_
    rw [hS.2.2.1]
    cases hop : op with
    | true =>
      rw [hop] at h22
      refine r_if_ne_t hc dM_pair_4 (tgt := 16) (by decide) (by decide) ?_
      exact h22 _ (by rw [hop] at hbad; exact hbad) rfl
    | false =>
      have h16 : n = 16 := by unfold prBad at hbad; rw [hop] at hbad; simpa using hbad
      rw [hop] at h22
      refine r_if_ne_f hc dM_pair_4 (tgt := 16) (by decide) rfl ?_
      refine r_aload_n hc dM_pair_7 rfl ?_
      refine gM_63 hc dM_pair_8 ?_
      refine r_bipush hc dM_pair_11 (nI 16) (by decide) ?_
      rw [hS.2.1]
      refine r_ic_ne_f hc dM_pair_13 (tgt := 20) (by decide) (by rw [h16]) ?_
      exact h22 _ (by rw [hop] at hbad; exact hbad) rfl
  | false =>
    have hop : op = false := by unfold prBad at hbad; rw [Bool.or_eq_false_iff] at hbad; exact hbad.1
    have h16 : n < 16 := by unfold prBad at hbad; rw [Bool.or_eq_false_iff, decide_eq_false_iff_not] at hbad; omega
    subst hop
    simp only [rfK, Bool.not_false, Bool.true_and, Bool.false_eq_true, if_false]
    refine r_aload_n hc dM_pair_0 rfl ?_
    refine gM_51 hc dM_pair_1 ?_
    rw [hS.2.2.1]
    refine r_if_ne_f hc dM_pair_4 (tgt := 16) (by decide) rfl ?_
    refine r_aload_n hc dM_pair_7 rfl ?_
    refine gM_63 hc dM_pair_8 ?_
    refine r_bipush hc dM_pair_11 (nI 16) (by decide) ?_
    rw [hS.2.1]
    refine r_ic_ne_t hc dM_pair_13 (tgt := 20) (by decide) (fun z => by rw [nI_eq (by omega) (by decide)] at z; omega) ?_
    refine r_iconst hc dM_pair_20 (nI 0) (by decide) ?_
    refine r_istore_n hc dM_pair_21 (Nat.le_of_ble_eq_true rfl) ?_
    refine r_iload_n hc dM_pair_22 rfl ?_
    refine r_if_ne_f hc dM_pair_23 (tgt := 37) (by decide) rfl ?_
    refine r_aload_n hc dM_pair_26 rfl ?_
    refine kM_119r hc dM_pair_27 (cM_canPair _ g d w G n ap inn m hS.rep hF.2.2.2.1 hF.2.1 hS.2.1 hS.2.2.2.1 hm hS.1 hS.2.2.2.2.1) (by omega) (Nat.le_of_ble_eq_true rfl) ?_
    rintro _ w1 ⟨rfl, hw1⟩
    have hS0 := hS.wk hw1
    cases hcan : canP G n ap inn m with
    | false =>
      simp only [Bool.not_false, if_true, Bool.false_eq_true, if_false]
      refine r_if_eq_t hc dM_pair_30 (tgt := 37) (by decide) rfl ?_
      refine r_iconst hc dM_pair_37 (nI 0) (by decide) ?_
      refine r_istore_n hc dM_pair_38 (Nat.le_of_ble_eq_true rfl) ?_
      refine r_aload_n hc dM_pair_39 rfl ?_
      refine r_iload_n hc dM_pair_40 rfl ?_
      refine r_iload_n hc dM_pair_41 rfl ?_
      refine r_if_ne_f hc dM_pair_42 (tgt := 49) (by decide) rfl ?_
      refine r_iconst hc dM_pair_45 (nI 1) (by decide) ?_
      refine r_goto hc dM_pair_46 (tgt := 50) (by decide) ?_
      refine r_iconst hc dM_pair_50 (nI 0) (by decide) ?_
      refine kM_55r hc dM_pair_51 (cM_refused _ g d w1 false true false) (by omega) (Nat.le_of_ble_eq_true rfl) ?_
      rintro _ _ ⟨rfl, rfl⟩
      refine r_if_eq_f hc dM_pair_54 (tgt := 61) (by decide) (by decide) ?_
      refine r_iconst hc dM_pair_57 (nI 0) (by decide) ?_
      refine r_goto hc dM_pair_58 (tgt := 65) (by decide) ?_
      exact r_iret hc dM_pair_65 ⟨⟨_, rfl⟩, wu_at _ _ _ _, hS0.thr _, (FrM.wk hw1).put 48 0 _ (by decide)⟩
    | true =>
      simp only [Bool.not_true, Bool.false_eq_true, if_false, if_true]
      have hcan2 : (solT G n ap inn m (topS G n inn m)).1 < dpE := by unfold canP at hcan; rw [Bool.and_eq_true] at hcan; exact of_decide_eq_true hcan.2
      refine r_if_eq_f hc dM_pair_30 (tgt := 37) (by decide) (by decide) ?_
      refine r_iconst hc dM_pair_33 (nI 1) (by decide) ?_
      refine r_goto hc dM_pair_34 (tgt := 38) (by decide) ?_
      refine r_istore_n hc dM_pair_38 (Nat.le_of_ble_eq_true rfl) ?_
      refine r_aload_n hc dM_pair_39 rfl ?_
      refine r_iload_n hc dM_pair_40 rfl ?_
      refine r_iload_n hc dM_pair_41 rfl ?_
      refine r_if_ne_t hc dM_pair_42 (tgt := 49) (by decide) (by decide) ?_
      refine r_iconst hc dM_pair_49 (nI 0) (by decide) ?_
      refine r_iconst hc dM_pair_50 (nI 0) (by decide) ?_
      refine kM_55r hc dM_pair_51 (cM_refused _ g d w1 false false false) (by omega) (Nat.le_of_ble_eq_true rfl) ?_
      rintro _ _ ⟨rfl, rfl⟩
      have hS1 := hS0.thr (nI (rfK false false false))
      have hW1 : WkUp w (wu w1 48 0 (nI (rfK false false false))) G n ap inn m (2 ^ (ordOf G n inn m).length) → False → True := fun _ _ => trivial
      refine r_if_eq_t hc dM_pair_54 (tgt := 61) (by decide) rfl ?_
      refine r_aload_n hc dM_pair_61 rfl ?_
      refine kM_123r hc dM_pair_62 (cM_openRound _ g d (wu w 48 0 (nI (rfK false false false))) _ G n ap inn m hS1.rep h16 hS1.2.1 hm ⟨fun k k1 k2 k3 k4 k5 k6 => ?_, fun j j1 j2 => ?_, ?_, ?_, fun i hi => ?_, fun a b q1 q2 => ?_, fun T hT => ?_⟩ hcan2) (by omega) (Nat.le_of_ble_eq_true rfl) ?_
      · rw [wu_ne k1, wu_ne k1]; exact hw1.1 k k1 k2 k3 k4 k5 k6
      · by_cases h0 : j = 0
        · subst h0
          rw [wu_at, wu_at]
        · rw [wu_o2 h0, wu_o2 h0]; exact hw1.2.1 j j1 j2
      · rw [wu_o2 (by decide)]; exact hw1.2.2.1
      · rw [wu_o2 (by decide)]; exact hw1.2.2.2.1
      · rw [wu_o1 (by decide)]; exact hw1.2.2.2.2.1 i hi
      · rw [wu_o1 (by decide)]; exact hw1.2.2.2.2.2.1 a b q1 q2
      · rw [wu_o1 (by decide), wu_o1 (by decide), wu_o1 (by decide)]; exact hw1.2.2.2.2.2.2 T hT
      rintro _ w2 ⟨rfl, hO, ho⟩
      refine r_iret hc dM_pair_65 ⟨rfl, ?_, hS1.opened hO ho, ((FrM.wk hw1).put 48 0 _ (by decide)).tr (FrM.opened hO)⟩
      rw [hO.2.1 0 (by decide), wu_at]
      rfl
