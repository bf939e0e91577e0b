/-! PairedFieldModel: refusals, and the opening of a round -/
def rfK (a b c : Bool) : Nat := if a then 1 else if b then 2 else if c then 3 else 0
theorem cM_refused (l : Launch) (g : GG) (d : Nat) (w : Wd) (a b c : Bool) : Con l g yM_refused bM_refused 4 ((some .boolean)) [] d 0 0 [.ref (g.1 48), .int (bI a), .int (bI b), .int (bI c)] w (Rp (An (some (.int (bI (a || b || c)))) (wu w 48 0 (nI (rfK a b c))))) := by
  intro X hl ha hm hk hn hc
  subst hl
  have hend : Go X g 0 0 (Fen X g 0 0 (Rp (An (some (.int (bI (a || b || c)))) (wu w 48 0 (nI (rfK a b c)))))) w 26 [some (.ref (g.1 48)), some (.int (bI a)), some (.int (bI b)), some (.int (bI c))] [.int (nI (rfK a b c)), .ref (g.1 48)] := by
    refine pM_48 hc dM_refused_26 ?_
    refine r_aload_n hc dM_refused_29 rfl ?_
    refine gM_48 hc dM_refused_30 ?_
    rw [wu_at]
    cases a <;> cases b <;> cases c
    · refine r_if_le_t hc dM_refused_33 (tgt := 40) (by decide) (by decide) ?_
      refine r_iconst hc dM_refused_40 (nI 0) (by decide) ?_
      exact r_zret hc dM_refused_41 rfl ⟨rfl, rfl⟩
    all_goals
      refine r_if_le_f hc dM_refused_33 (tgt := 40) (by decide) (by decide) ?_
      refine r_iconst hc dM_refused_36 (nI 1) (by decide) ?_
      refine r_goto hc dM_refused_37 (tgt := 41) (by decide) ?_
      exact r_zret hc dM_refused_41 rfl ⟨rfl, rfl⟩
  refine r_aload_n hc dM_refused_0 rfl ?_
  refine r_iload_n hc dM_refused_1 rfl ?_
  cases a with
  | true =>
    refine r_if_eq_f hc dM_refused_2 (tgt := 9) (by decide) (by decide) ?_
    refine r_iconst hc dM_refused_5 (nI 1) (by decide) ?_
    refine r_goto hc dM_refused_6 (tgt := 26) (by decide) ?_
    exact hend
  | false =>
    refine r_if_eq_t hc dM_refused_2 (tgt := 9) (by decide) rfl ?_
    refine r_iload_n hc dM_refused_9 rfl ?_
    cases b with
    | true =>
      refine r_if_eq_f hc dM_refused_10 (tgt := 17) (by decide) (by decide) ?_
      refine r_iconst hc dM_refused_13 (nI 2) (by decide) ?_
      refine r_goto hc dM_refused_14 (tgt := 26) (by decide) ?_
      exact hend
    | false =>
      refine r_if_eq_t hc dM_refused_10 (tgt := 17) (by decide) rfl ?_
      refine r_iload_n hc dM_refused_17 rfl ?_
      cases c with
      | true =>
        refine r_if_eq_f hc dM_refused_18 (tgt := 25) (by decide) (by decide) ?_
        refine r_iconst hc dM_refused_21 (nI 3) (by decide) ?_
        refine r_goto hc dM_refused_22 (tgt := 26) (by decide) ?_
        exact hend
      | false =>
        refine r_if_eq_t hc dM_refused_18 (tgt := 25) (by decide) rfl ?_
        refine r_iconst hc dM_refused_25 (nI 0) (by decide) ?_
        exact hend
theorem cM_thrown (l : Launch) (g : GG) (d : Nat) (w : Wd) : Con l g yM_thrown bM_thrown 1 ((some .int)) [] d 0 0 [.ref (g.1 48)] w (Rp (An (some (.int (w 48 0))) w)) := by
  intro X hl ha hm hk hn hc
  subst hl
  refine r_aload_n hc dM_thrown_0 rfl ?_
  refine gM_48 hc dM_thrown_1 ?_
  exact r_iret hc dM_thrown_4 ⟨rfl, rfl⟩
/-- is x the number of one of the first m -/
def isP (m : Nat) (x : Int32) : Bool := decide (0 ≤ x ∧ x < nI m)
theorem cM_isPlayer (l : Launch) (g : GG) (d : Nat) (w : Wd) (m : Nat) (x : Int32) (hpl : w 48 1 = nI m) : Con l g yM_isPlayer bM_isPlayer 2 ((some .boolean)) [] d 0 0 [.ref (g.1 48), .int x] w (Rp (An (some (.int (bI (isP m x)))) w)) := by
  intro X hl ha hm hk hn hc
  subst hl
  refine r_iload_n hc dM_isPlayer_0 rfl ?_
  refine r_if_lt hc dM_isPlayer_1 (tgt := 16) (by decide) (fun h => ?_) (fun h => ?_)
  · refine r_iconst hc dM_isPlayer_16 (nI 0) (by decide) ?_
    exact r_zret hc dM_isPlayer_17 rfl ⟨by rw [show isP m x = false from decide_eq_false (fun z => absurd h (Int32.not_lt.mpr z.1))]; rfl, rfl⟩
  · refine r_iload_n hc dM_isPlayer_4 rfl ?_
    refine r_aload_n hc dM_isPlayer_5 rfl ?_
    refine gM_44 hc dM_isPlayer_6 ?_
    rw [hpl]
    refine r_ic_ge hc dM_isPlayer_9 (tgt := 16) (by decide) (fun h2 => ?_) (fun h2 => ?_)
    · refine r_iconst hc dM_isPlayer_16 (nI 0) (by decide) ?_
      exact r_zret hc dM_isPlayer_17 rfl ⟨by rw [show isP m x = false from decide_eq_false (fun z => absurd z.2 (Int32.not_lt.mpr h2))]; rfl, rfl⟩
    · refine r_iconst hc dM_isPlayer_12 (nI 1) (by decide) ?_
      refine r_goto hc dM_isPlayer_13 (tgt := 17) (by decide) ?_
      exact r_zret hc dM_isPlayer_17 rfl ⟨by rw [show isP m x = true from decide_eq_true ⟨Int32.not_lt.mp h, Int32.not_le.mp h2⟩]; rfl, rfl⟩
theorem cM_whole (l : Launch) (g : GG) (d : Nat) (w : Wd) (k : Nat) (hk12 : k ≤ 12) (hmany : w 48 9 = nI k) : Con l g yM_whole bM_whole 1 ((some .int)) [] d 0 0 [.ref (g.1 48)] w (Rp (An (some (.int (nI (2 ^ k - 1)))) w)) := by
  intro X hl ha hm hk hn hc
  subst hl
  refine r_iconst hc dM_whole_0 (nI 1) (by decide) ?_
  refine r_aload_n hc dM_whole_1 rfl ?_
  refine gM_100 hc dM_whole_2 ?_
  rw [hmany]
  refine r_ishl hc dM_whole_5 ?_
  rw [shl1 k (by omega)]
  refine r_iconst hc dM_whole_6 (nI 1) (by decide) ?_
  refine r_isub hc dM_whole_7 ?_
  rw [pk_sub (Nat.two_pow_pos k)]
  exact r_iret hc dM_whole_8 ⟨rfl, rfl⟩
/-- the whole field's figures -/
def solT (G : Nat → Nat → Ce) (n : Nat) (ap : Nat → Nat → Bool) (inn : Nat → Bool) (m S : Nat) : Nat × Option Nat × Nat := sol (csOf G n ap (ordOf G n inn m)) (ordOf G n inn m).length S
def topS (G : Nat → Nat → Ce) (n : Nat) (inn : Nat → Bool) (m : Nat) : Nat := 2 ^ (ordOf G n inn m).length - 1
/-- can they be paired -/
def canP (G : Nat → Nat → Ce) (n : Nat) (ap : Nat → Nat → Bool) (inn : Nat → Bool) (m : Nat) : Bool := decide (0 < f_in inn m) && decide ((solT G n ap inn m (topS G n inn m)).1 < dpE)
theorem topS_lt (G : Nat → Nat → Ce) (n : Nat) (inn : Nat → Bool) (m : Nat) : topS G n inn m < 2 ^ (ordOf G n inn m).length := Nat.sub_lt (Nat.two_pow_pos _) (by decide)
theorem cM_canPair (l : Launch) (g : GG) (d : Nat) (w : Wd) (G : Nat → Nat → Ce) (n : Nat) (ap : Nat → Nat → Bool) (inn : Nat → Bool) (m : Nat) (hR : MRep w G n) (hT : GTold G n) (hn : n ≤ 16) (hcl : w 48 4 = nI n) (hI : MIn w inn m) (hm : m ≤ 12) (hpl : w 48 1 = nI m) (hK : MKept w ap) : Con l g yM_canPair bM_canPair 1 ((some .boolean)) [] (d + 6) 0 0 [.ref (g.1 48)] w (Rp (fun v w' => v = some (.int (bI (canP G n ap inn m))) ∧ WkUp w w' G n ap inn m (2 ^ (ordOf G n inn m).length))) := by
  intro X hl ha hm' hk hn' hc
  subst hl
  have hlen : (ordOf G n inn m).length ≤ m := bk_len _ _ _ _
  have hp12 : 2 ^ (ordOf G n inn m).length ≤ 4096 := pow12 (by omega)
  refine r_aload_n hc dM_canPair_0 rfl ?_
  refine kM_113r hc dM_canPair_1 (cM_work _ g d w G n ap inn m hR hT hn hcl hI hm hpl hK) (by omega) (Nat.le_of_ble_eq_true rfl) ?_
  rintro _ w1 ⟨rfl, hw1⟩
  refine r_aload_n hc dM_canPair_4 rfl ?_
  refine kM_90r hc dM_canPair_5 (cM_inMany _ g d w1 inn m (fun p hp => by rw [hw1.1 49 (by decide) (by decide) (by decide) (by decide) (by decide) (by decide)]; exact hI p hp) hm (by rw [hw1.2.1 1 (by decide) (by decide)]; exact hpl)) (by omega) (Nat.le_of_ble_eq_true rfl) ?_
  rintro _ _ ⟨rfl, rfl⟩
  have hfm := f_in_le inn m
  have hB := (hw1.2.2.2.2.2.2 _ (topS_lt G n inn m)).1
  have hsl := sol_le (csOf G n ap (ordOf G n inn m)) (ordOf G n inn m).length (S := topS G n inn m) (by have := topS_lt G n inn m; omega)
  by_cases h0 : 0 < f_in inn m
  · refine r_if_le_f hc dM_canPair_8 (tgt := 29) (by decide) (nI_nle h0 (by omega)) ?_
    refine r_aload_n hc dM_canPair_11 rfl ?_
    refine gM_32 hc dM_canPair_12 ?_
    refine r_aload_n hc dM_canPair_15 rfl ?_
    refine kM_116r hc dM_canPair_16 (cM_whole _ g d w1 _ (by omega) hw1.2.2.2.1) (by omega) (Nat.le_of_ble_eq_true rfl) ?_
    rintro _ _ ⟨rfl, rfl⟩
    refine r_ialdN hc dM_canPair_19 (j := topS G n inn m) rfl (show _ < 4096 by have := topS_lt G n inn m; omega) ?_
    rw [hB]
    refine r_ldc hc dM_canPair_20 (v := nI dpE) (t4_mem 11 rfl rfl) ?_
    by_cases h1 : (solT G n ap inn m (topS G n inn m)).1 < dpE
    · refine r_ic_ge_f hc dM_canPair_22 (tgt := 29) (by decide) (nI_ge h1 (by decide)) ?_
      refine r_iconst hc dM_canPair_25 (nI 1) (by decide) ?_
      refine r_goto hc dM_canPair_26 (tgt := 30) (by decide) ?_
      exact r_zret hc dM_canPair_30 rfl ⟨by rw [show canP G n ap inn m = true by simp [canP, h0, h1]]; rfl, hw1⟩
    · refine r_ic_ge_t hc dM_canPair_22 (tgt := 29) (by decide) (nI_le (by unfold solT at h1; omega) (by unfold dpE at hsl; omega)) ?_
      refine r_iconst hc dM_canPair_29 (nI 0) (by decide) ?_
      exact r_zret hc dM_canPair_30 rfl ⟨by rw [show canP G n ap inn m = false by simp [canP, h1]]; rfl, hw1⟩
  · refine r_if_le_t hc dM_canPair_8 (tgt := 29) (by decide) (by rw [show f_in inn m = 0 by omega]; decide) ?_
    refine r_iconst hc dM_canPair_29 (nI 0) (by decide) ?_
    exact r_zret hc dM_canPair_30 rfl ⟨by rw [show canP G n ap inn m = false by simp [canP, h0]]; rfl, hw1⟩
theorem dp_pick {cst : Nat → Nat → Option Nat} {B Y : Nat → Nat} {S f : Nat} : ∀ t, (dp cst B Y S f t).1 < dpE → ∃ j c, (dp cst B Y S f t).2.1 = some j ∧ j < t ∧ f < j ∧ S.testBit j = true ∧ cst f j = some c ∧ (dp cst B Y S f t).1 = c + B (clr (clr S f) j)
  | 0, h => absurd h (Nat.lt_irrefl _)
  | t + 1, h => by
    have ih := dp_pick (cst := cst) (B := B) (Y := Y) (S := S) (f := f) t
    cases hx : (if f < t ∧ S.testBit t = true then cst f t else none) with
    | none =>
      simp only [dp, hx] at h ⊢
      obtain ⟨j, c, h1, h2, h3⟩ := ih h
      exact ⟨j, c, h1, by omega, h3⟩
    | some c =>
      simp only [dp, hx] at h ⊢
      have hcond : f < t ∧ S.testBit t = true := by
        rcases Classical.em (f < t ∧ S.testBit t = true) with q | q
        · exact q
        · rw [if_neg q] at hx
          cases hx
      have hcs : cst f t = some c := by rw [if_pos hcond] at hx; exact hx
      by_cases hlt : c + B (clr (clr S f) t) < (dp cst B Y S f t).1
      · rw [if_pos hlt]
        exact ⟨t, c, rfl, by omega, hcond.1, hcond.2, hcs, rfl⟩
      · rw [if_neg hlt] at h ⊢
        obtain ⟨j, c2, h1, h2, h3⟩ := ih h
        exact ⟨j, c2, h1, by omega, h3⟩
theorem sol_pick {cst : Nat → Nat → Option Nat} {m S : Nat} (h0 : 0 < S) (h : S < 4096) (hl : (sol cst m S).1 < dpE) : ∃ j c, (sol cst m S).2.1 = some j ∧ j < m ∧ lowb S < j ∧ S.testBit j = true ∧ cst (lowb S) j = some c ∧ (sol cst m S).1 = c + (sol cst m (clr (clr S (lowb S)) j)).1 := by
  rw [sol_eq cst m h0 h] at hl ⊢
  exact dp_pick m hl
/-- the round's row, seat by seat: the set that is left, the row, the games -/
def rsT (G : Nat → Nat → Ce) (n : Nat) (ap : Nat → Nat → Bool) (inn : Nat → Bool) (m : Nat) : Nat → Nat × (Nat → Ce) × Nat
  | 0 => (topS G n inn m, fun p => if byeOf G n inn m = some p then some none else none, 0)
  | i + 1 =>
    let r := rsT G n ap inn m i
    if r.1.testBit i then
      let j := (solT G n ap inn m r.1).2.1.getD 0
      let p := (ordOf G n inn m).getD i 0
      let q := (ordOf G n inn m).getD j 0
      (clr (clr r.1 i) j, fun x => if x = q then some (some (p, !fw G n p q, 3)) else if x = p then some (some (q, fw G n p q, 3)) else r.2.1 x, r.2.2 + 1)
    else r
theorem rsT_ok {G : Nat → Nat → Ce} {n : Nat} {ap : Nat → Nat → Bool} {inn : Nat → Bool} {m : Nat} (hm : m ≤ 12) (hcan : (solT G n ap inn m (topS G n inn m)).1 < dpE) : ∀ i, (rsT G n ap inn m i).1 < 2 ^ (ordOf G n inn m).length ∧ (solT G n ap inn m (rsT G n ap inn m i).1).1 < dpE ∧ (∀ b, b < i → (rsT G n ap inn m i).1.testBit b = false)
  | 0 => ⟨topS_lt G n inn m, hcan, fun b h => absurd h (Nat.not_lt_zero _)⟩
  | i + 1 => by
    obtain ⟨h1, h2, h3⟩ := rsT_ok hm hcan i
    have hlen : (ordOf G n inn m).length ≤ m := bk_len _ _ _ _
    have hp12 : 2 ^ (ordOf G n inn m).length ≤ 4096 := pow12 (by omega)
    simp only [rsT]
    cases hb : (rsT G n ap inn m i).1.testBit i with
    | false =>
      simp only [Bool.false_eq_true, if_false]
      refine ⟨h1, h2, fun b hbl => ?_⟩
      rcases Nat.lt_or_ge b i with q | q
      · exact h3 b q
      · rw [show b = i by omega]
        exact hb
    | true =>
      simp only [if_true]
      have hS0 : 0 < (rsT G n ap inn m i).1 := Nat.pos_of_ne_zero (fun q => by rw [q] at hb; simp at hb)
      obtain ⟨f1, f2, f3⟩ := lowb_spec hS0 (by omega)
      have hlow : lowb (rsT G n ap inn m i).1 = i := by
        rcases Nat.lt_trichotomy (lowb (rsT G n ap inn m i).1) i with q | q | q
        · have := h3 _ q
          rw [f1] at this
          cases this
        · exact q
        · have := f3 _ q
          rw [hb] at this
          cases this
      obtain ⟨j, c, s1, s2, s3, s4, s5, s6⟩ := sol_pick hS0 (by omega) h2
      rw [hlow] at s3 s5 s6
      have s1' : (solT G n ap inn m (rsT G n ap inn m i).1).2.1 = some j := s1
      rw [s1']
      simp only [Option.getD_some]
      have hi32 : i < 32 := by omega
      refine ⟨Nat.lt_of_le_of_lt (Nat.le_trans (clr_le _ _) (clr_le _ _)) h1, ?_, fun b hbl => ?_⟩
      · unfold solT at h2 ⊢
        omega
      · rw [clr_bit _ (by omega) (by omega), clr_bit _ (by omega) (by omega)]
        rcases Nat.lt_or_ge b i with q | q
        · rw [h3 b q]
          rfl
        · rw [show b = i by omega]
          simp
