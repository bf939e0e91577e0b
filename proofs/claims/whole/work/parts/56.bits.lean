/-! sets of seats: how many, the lowest, even ones -/
theorem even_sq : ∀ a, a < 32 → ∀ b, b < 64 → (nI (64 * a + b) <<< (nI 1 &&& 31)) ||| (nI (pop (64 * a + b)) &&& nI 1) = nI (2 * (64 * a + b) + pop (64 * a + b) % 2) ∧ pop (2 * (64 * a + b) + pop (64 * a + b) % 2) % 2 = 0 := by decide +kernel
theorem even_all {i : Nat} (h : i < 2048) : (nI i <<< (nI 1 &&& 31)) ||| (nI (pop i) &&& nI 1) = nI (2 * i + pop i % 2) ∧ pop (2 * i + pop i % 2) % 2 = 0 := by
  have := even_sq (i / 64) (by omega) (i % 64) (by omega)
  rw [show 64 * (i / 64) + i % 64 = i by omega] at this
  exact this
theorem pop_sq : ∀ a, a < 64 → ∀ b, b < 64 → (pop (64 * a + b) % 2 = 0 → 2 * ((64 * a + b) / 2) + pop ((64 * a + b) / 2) % 2 = 64 * a + b) ∧ 2 ^ pop (64 * a + b) ≤ 64 * a + b + 1 := by decide +kernel
theorem pop_all {S : Nat} (h : S < 4096) : (pop S % 2 = 0 → 2 * (S / 2) + pop (S / 2) % 2 = S) ∧ 2 ^ pop S ≤ S + 1 := by
  have := pop_sq (S / 64) (by omega) (S % 64) (by omega)
  rw [show 64 * (S / 64) + S % 64 = S by omega] at this
  exact this
theorem pop_le {S m : Nat} (hm : m ≤ 12) (h : S < 2 ^ m) : pop S ≤ m := by
  have h1 := (pop_all (S := S) (by have := pow12 hm; omega)).2
  exact (Nat.pow_le_pow_iff_right (by decide : 1 < 2)).mp (Nat.le_trans h1 h)
def bt (S k : Nat) : Nat := (S.testBit k).toNat
theorem bt_eq (S k : Nat) : S / 2 ^ k % 2 = bt S k := by
  unfold bt
  rw [Nat.testBit_eq_decide_div_mod_eq]
  rcases Nat.mod_two_eq_zero_or_one (S / 2 ^ k) with h | h <;> rw [h] <;> rfl
theorem pop_bt (S : Nat) : pop S = bt S 0 + bt S 1 + bt S 2 + bt S 3 + bt S 4 + bt S 5 + bt S 6 + bt S 7 + bt S 8 + bt S 9 + bt S 10 + bt S 11 := by
  rw [← bt_eq S 0, ← bt_eq S 1, ← bt_eq S 2, ← bt_eq S 3, ← bt_eq S 4, ← bt_eq S 5, ← bt_eq S 6, ← bt_eq S 7, ← bt_eq S 8, ← bt_eq S 9, ← bt_eq S 10, ← bt_eq S 11]
  simp [pop]
theorem bt_clr (S : Nat) {f k : Nat} (hf : f < 32) (hk : k < 32) : bt (clr S f) k = if f = k then 0 else bt S k := by
  unfold bt
  rw [clr_bit S hf hk]
  by_cases h : f = k
  · simp [h]
  · simp [h]
theorem pop_clr {S f : Nat} (hf : f < 12) (hb : S.testBit f = true) : pop (clr S f) + 1 = pop S := by
  have h1 : bt S f = 1 := by unfold bt; rw [hb]; rfl
  rw [pop_bt, pop_bt, bt_clr S (by omega) (by decide), bt_clr S (by omega) (by decide), bt_clr S (by omega) (by decide), bt_clr S (by omega) (by decide), bt_clr S (by omega) (by decide), bt_clr S (by omega) (by decide), bt_clr S (by omega) (by decide), bt_clr S (by omega) (by decide), bt_clr S (by omega) (by decide), bt_clr S (by omega) (by decide), bt_clr S (by omega) (by decide), bt_clr S (by omega) (by decide)]
  have : f = 0 ∨ f = 1 ∨ f = 2 ∨ f = 3 ∨ f = 4 ∨ f = 5 ∨ f = 6 ∨ f = 7 ∨ f = 8 ∨ f = 9 ∨ f = 10 ∨ f = 11 := by omega
  rcases this with h | h | h | h | h | h | h | h | h | h | h | h <;> subst h <;> simp <;> omega
theorem pop_clr2 {S f j : Nat} (hf : f < 12) (hj : j < 12) (hne : f ≠ j) (h1 : S.testBit f = true) (h2 : S.testBit j = true) : pop (clr (clr S f) j) + 2 = pop S := by
  have a := pop_clr hf h1
  have b := pop_clr (S := clr S f) hj (by rw [clr_bit S (by omega) (by omega), h2]; simp [hne])
  omega
theorem wo_I (x a b : Int32) : x &&& ((a ||| b) ^^^ (-1)) = (x &&& (a ^^^ (-1))) &&& (b ^^^ (-1)) := by
  apply Int32.toBitVec_inj.1
  show x.toBitVec &&& ((a.toBitVec ||| b.toBitVec) ^^^ BitVec.allOnes 32) = (x.toBitVec &&& (a.toBitVec ^^^ BitVec.allOnes 32)) &&& (b.toBitVec ^^^ BitVec.allOnes 32)
  apply BitVec.eq_of_getLsbD_eq
  intro i hi
  simp only [BitVec.getLsbD_and, BitVec.getLsbD_xor, BitVec.getLsbD_or, BitVec.getLsbD_allOnes, hi, decide_true, Bool.xor_true]
  cases x.toBitVec.getLsbD i <;> cases a.toBitVec.getLsbD i <;> cases b.toBitVec.getLsbD i <;> rfl
/-- a set that can be left over -/
def Tok (m T : Nat) : Prop := pop T % 2 = 0 ∧ T < 2 ^ m ∧ (T = 0 ∨ (m - pop T) / 2 ≤ lowb T)
theorem low_gt {S f j : Nat} (h0 : 0 < clr (clr S f) j) (hS : S < 4096) (hf : f < 12) (hj : f < j) (hj2 : j < 12) (hl : ∀ i, i < f → S.testBit i = false) : f < lowb (clr (clr S f) j) := by
  have hlt : clr (clr S f) j < 4096 := Nat.lt_of_le_of_lt (Nat.le_trans (clr_le _ _) (clr_le _ _)) hS
  obtain ⟨h1, h2, -⟩ := lowb_spec h0 hlt
  rw [clr_bit _ (by omega) (by omega), clr_bit _ (by omega) (by omega)] at h1
  rcases Nat.lt_or_ge f (lowb (clr (clr S f) j)) with q | q
  · exact q
  · exfalso
    by_cases hq : lowb (clr (clr S f) j) = f
    · rw [hq] at h1
      simp at h1
    · rw [hl _ (by omega)] at h1
      simp at h1
theorem Tok.rest {m S j : Nat} (hm : m ≤ 12) (h : Tok m S) (h0 : 0 < S) (hj : lowb S < j) (hb : S.testBit j = true) : Tok m (clr (clr S (lowb S)) j) ∧ clr (clr S (lowb S)) j / 2 < S / 2 ∧ j < m := by
  obtain ⟨a1, a2, a3⟩ := h
  have hS : S < 4096 := Nat.lt_of_lt_of_le a2 (pow12 hm)
  have hjm := bit_lt hb a2
  obtain ⟨l1, l2, l3⟩ := lowb_spec h0 hS
  have hp := pop_clr2 (S := S) (f := lowb S) (j := j) l2 (by omega) (by omega) l1 hb
  have hlt : clr (clr S (lowb S)) j < S := Nat.lt_of_le_of_lt (clr_le _ _) (clr_lt (by omega) l1)
  have hpm := pop_le hm a2
  refine ⟨⟨by omega, by omega, ?_⟩, ?_, hjm⟩
  · rcases Nat.eq_zero_or_pos (clr (clr S (lowb S)) j) with q | q
    · exact Or.inl q
    · have := low_gt q hS l2 hj (by omega) l3
      right
      omega
  · have e1 := (pop_all (S := clr (clr S (lowb S)) j) (by omega)).1 (by omega)
    have e2 := (pop_all hS).1 a1
    rcases Nat.lt_or_ge (clr (clr S (lowb S)) j / 2) (S / 2) with q | q
    · exact q
    · exfalso
      have : clr (clr S (lowb S)) j / 2 = S / 2 := by omega
      rw [this] at e1
      omega
/-- the bounds of the cheapest pairings -/
def SBd (r : Nat × Option Nat × Nat) (h N : Nat) : Prop := (r.1 = dpE ∧ r.2.2 = 0) ∨ (r.1 ≤ 65540 * h ∧ 0 < r.2.2 ∧ r.2.2 ≤ N)
theorem dp_bd {cst : Nat → Nat → Option Nat} {B Y : Nat → Nat} {S f h N : Nat} (hc : ∀ a b c, cst a b = some c → c ≤ 65540) (hB : ∀ j, f < j → S.testBit j = true → (B (clr (clr S f) j) = dpE ∧ Y (clr (clr S f) j) = 0) ∨ (B (clr (clr S f) j) ≤ 65540 * h ∧ 0 < Y (clr (clr S f) j) ∧ Y (clr (clr S f) j) ≤ N)) (hh : h ≤ 6) : ∀ t, SBd (dp cst B Y S f t) (h + 1) (t * N)
  | 0 => Or.inl ⟨rfl, rfl⟩
  | t + 1 => by
    have ih := dp_bd hc hB hh t
    have hle := dp_le (cst := cst) (B := B) (Y := Y) (S := S) (f := f) t
    have hmul : (t + 1) * N = t * N + N := Nat.succ_mul t N
    cases hx : (if f < t ∧ S.testBit t = true then cst f t else none) with
    | none =>
      simp only [dp, hx]
      rcases ih with ih | ih
      · exact Or.inl ih
      · exact Or.inr ⟨ih.1, ih.2.1, by omega⟩
    | some c =>
      have hcond : f < t ∧ S.testBit t = true := by
        rcases Classical.em (f < t ∧ S.testBit t = true) with q | q
        · exact q
        · rw [if_neg q] at hx
          cases hx
      rw [if_pos hcond] at hx
      have hcc := hc f t c hx
      simp only [dp, if_pos hcond, hx]
      rcases hB t hcond.1 hcond.2 with ⟨b1, b2⟩ | ⟨b1, b2, b3⟩
      · rw [if_neg (by omega), b2]
        rcases ih with ih | ih
        · exact Or.inl ih
        · exact Or.inr ⟨ih.1, ih.2.1, Nat.le_trans ih.2.2 (by omega)⟩
      · by_cases hlt : c + B (clr (clr S f) t) < (dp cst B Y S f t).1
        · rw [if_pos hlt]
          refine Or.inr ⟨?_, ?_, ?_⟩
          · show c + B (clr (clr S f) t) ≤ _
            omega
          · show 0 < (dp cst B Y S f t).2.2 + Y (clr (clr S f) t)
            omega
          · show (dp cst B Y S f t).2.2 + Y (clr (clr S f) t) ≤ _
            rcases ih with ih | ih
            · have := ih.2; omega
            · have := ih.2.2; omega
        · rw [if_neg hlt]
          rcases ih with ih | ih
          · exfalso
            have := ih.1
            unfold dpE at this
            omega
          · refine Or.inr ⟨ih.1, ?_, ?_⟩
            · show 0 < (dp cst B Y S f t).2.2 + Y (clr (clr S f) t)
              omega
            · show (dp cst B Y S f t).2.2 + Y (clr (clr S f) t) ≤ _
              have := ih.2.2; omega
theorem sol_bd {cst : Nat → Nat → Option Nat} {m : Nat} (hm : m ≤ 12) (hc : ∀ a b c, cst a b = some c → c ≤ 65540) : ∀ k S, S < k → S < 4096 → SBd (sol cst m S) (pop S / 2) (12 ^ (pop S / 2))
  | 0, S, h, _ => absurd h (Nat.not_lt_zero _)
  | k + 1, S, h, hS => by
    rcases Nat.eq_zero_or_pos S with q | q
    · subst q
      rw [sol_0]
      exact Or.inr ⟨Nat.zero_le _, by decide, by decide⟩
    · obtain ⟨l1, l2, l3⟩ := lowb_spec q hS
      have hp12 := pop_le (m := 12) (Nat.le_refl _) hS
      rw [sol_eq cst m q hS]
      by_cases h2 : pop S < 2
      · -- nobody to play with
        have hno : ∀ j, lowb S < j → S.testBit j = true → False := fun j hj hb => by
          have := pop_clr2 (S := S) (f := lowb S) (j := j) l2 (bit_lt (m := 12) hb hS) (by omega) l1 hb
          omega
        have : ∀ t, dp cst (fun T => (sol cst m T).1) (fun T => (sol cst m T).2.2) S (lowb S) t = (dpE, none, 0) := by
          intro t
          induction t with
          | zero => rfl
          | succ t ih =>
            have : ¬ (lowb S < t ∧ S.testBit t = true) := fun z => hno t z.1 z.2
            simp only [dp, if_neg this]
            exact ih
        rw [this m]
        exact Or.inl ⟨rfl, rfl⟩
      · have hb := dp_bd (cst := cst) (B := fun T => (sol cst m T).1) (Y := fun T => (sol cst m T).2.2) (S := S) (f := lowb S) (h := pop S / 2 - 1) (N := 12 ^ (pop S / 2 - 1)) hc (fun j hj hb => by
          have hp := pop_clr2 (S := S) (f := lowb S) (j := j) l2 (bit_lt (m := 12) hb hS) (by omega) l1 hb
          have hlt : clr (clr S (lowb S)) j < S := Nat.lt_of_le_of_lt (clr_le _ _) (clr_lt (by omega) l1)
          have ih := sol_bd hm hc k (clr (clr S (lowb S)) j) (by omega) (by omega)
          rw [show pop (clr (clr S (lowb S)) j) / 2 = pop S / 2 - 1 by omega] at ih
          exact ih) (by omega) m
        rw [show pop S / 2 = pop S / 2 - 1 + 1 by omega]
        rcases hb with hb | hb
        · exact Or.inl hb
        · refine Or.inr ⟨hb.1, hb.2.1, Nat.le_trans hb.2.2 ?_⟩
          rw [Nat.pow_succ, Nat.mul_comm]
          exact Nat.mul_le_mul_left _ hm
theorem sol_cnt {cst : Nat → Nat → Option Nat} {m S : Nat} (hm : m ≤ 12) (hc : ∀ a b c, cst a b = some c → c ≤ 65540) (hS : S < 4096) : ((sol cst m S).1 = dpE ∧ (sol cst m S).2.2 = 0) ∨ ((sol cst m S).1 ≤ 393240 ∧ 0 < (sol cst m S).2.2 ∧ (sol cst m S).2.2 ≤ 2985984) := by
  have hp12 := pop_le (m := 12) (Nat.le_refl _) hS
  rcases sol_bd (cst := cst) (m := m) hm hc (S + 1) S (Nat.lt_succ_self _) hS with h | h
  · exact Or.inl h
  · refine Or.inr ⟨by omega, h.2.1, Nat.le_trans h.2.2 ?_⟩
    exact (Nat.pow_le_pow_right (by decide) (by omega) : 12 ^ (pop S / 2) ≤ 12 ^ 6)
