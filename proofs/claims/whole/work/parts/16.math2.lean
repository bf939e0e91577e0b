/-! sets of seats, as numbers below 4096 -/
def clr (S j : Nat) : Nat := S &&& (4294967295 - 2 ^ j)
theorem clr_bit (S : Nat) {j i : Nat} (hj : j < 32) (hi : i < 32) : (clr S j).testBit i = (S.testBit i && !decide (j = i)) := by
  have h : (4294967295 - 2 ^ j : Nat) = 2 ^ 32 - (2 ^ j + 1) := by omega
  unfold clr
  rw [Nat.testBit_and, h, Nat.testBit_two_pow_sub_succ (Nat.pow_lt_pow_right (by decide) hj), Nat.testBit_two_pow]
  simp [hi]
theorem clr_le (S j : Nat) : clr S j ≤ S := Nat.and_le_left
theorem clr_lt {S j : Nat} (hj : j < 32) (h : S.testBit j = true) : clr S j < S := by
  rcases Nat.lt_or_eq_of_le (clr_le S j) with h1 | h1
  · exact h1
  · have h2 := clr_bit S hj hj
    rw [h1, h] at h2
    simp at h2
/-- the lowest of a set -/
def lowb (S : Nat) : Nat := ((List.range 32).find? (fun i => S.testBit i)).getD 32
theorem lowb_spec {S : Nat} (h0 : 0 < S) (h : S < 4096) : S.testBit (lowb S) = true ∧ lowb S < 12 ∧ ∀ i, i < lowb S → S.testBit i = false := by
  have hex : ∃ i, i < 12 ∧ S.testBit i = true := by
    obtain ⟨i, hi⟩ := Nat.exists_testBit_of_ne_zero (Nat.pos_iff_ne_zero.mp h0)
    refine ⟨i, ?_, hi⟩
    rcases Nat.lt_or_ge i 12 with q | q
    · exact q
    · have := Nat.testBit_lt_two_pow (x := S) (i := i) (Nat.lt_of_lt_of_le h (Nat.pow_le_pow_right (by decide) q : 2 ^ 12 ≤ 2 ^ i))
      rw [this] at hi
      cases hi
  obtain ⟨i, hi, hb⟩ := hex
  unfold lowb
  cases hf : (List.range 32).find? (fun i => S.testBit i) with
  | none =>
    have := List.find?_eq_none.mp hf i (List.mem_range.mpr (by omega))
    exact absurd hb this
  | some j =>
    have h1 := List.find?_some hf
    have h2 : ∀ i, i < j → S.testBit i = false := by
      intro k hk
      have h3 := (List.find?_range_eq_some.mp hf).2.2 k hk
      simpa using h3
    refine ⟨h1, ?_, h2⟩
    show j < 12
    rcases Nat.lt_or_ge i j with q | q
    · have := h2 i q
      rw [this] at hb
      cases hb
    · omega
/-! the cheapest pairings of a set, partner by partner: cost (dpE: none), partner of the lowest, how many -/
def dpE : Nat := 100000000
def dp (cst : Nat → Nat → Option Nat) (B Y : Nat → Nat) (S f : Nat) : Nat → Nat × Option Nat × Nat
  | 0 => (dpE, none, 0)
  | j + 1 => match (if f < j ∧ S.testBit j = true then cst f j else none) with
    | none => dp cst B Y S f j
    | some c => if c + B (clr (clr S f) j) < (dp cst B Y S f j).1 then (c + B (clr (clr S f) j), some j, (dp cst B Y S f j).2.2 + Y (clr (clr S f) j))
      else ((dp cst B Y S f j).1, (dp cst B Y S f j).2.1, (dp cst B Y S f j).2.2 + Y (clr (clr S f) j))
theorem dp_congr {cst : Nat → Nat → Option Nat} {B Y B' Y' : Nat → Nat} {S f : Nat} (hf : S.testBit f = true) (hf2 : f < 32) (h : ∀ T, T < S → B T = B' T ∧ Y T = Y' T) : ∀ t, dp cst B Y S f t = dp cst B' Y' S f t
  | 0 => rfl
  | j + 1 => by
    have hlt : clr (clr S f) j < S := Nat.lt_of_le_of_lt (clr_le _ _) (clr_lt hf2 hf)
    simp only [dp, dp_congr hf hf2 h j, (h _ hlt).1, (h _ hlt).2]
def dtab (cst : Nat → Nat → Option Nat) (m : Nat) : Nat → Nat → Nat × Option Nat × Nat
  | 0 => fun _ => (0, none, 1)
  | k + 1 => fun S => if S = k ∧ 0 < k then dp cst (fun T => (dtab cst m k T).1) (fun T => (dtab cst m k T).2.2) k (lowb k) m else dtab cst m k S
def sol (cst : Nat → Nat → Option Nat) (m S : Nat) : Nat × Option Nat × Nat := dtab cst m (S + 1) S
theorem dtab_sol (cst : Nat → Nat → Option Nat) (m : Nat) : ∀ (k S : Nat), S < k → dtab cst m k S = sol cst m S
  | 0, S, h => absurd h (Nat.not_lt_zero _)
  | k + 1, S, h => by
    by_cases hk : S = k
    · subst hk; rfl
    · have h1 : ¬ (S = k ∧ 0 < k) := fun q => hk q.1
      show (if S = k ∧ 0 < k then _ else dtab cst m k S) = _
      rw [if_neg h1]
      exact dtab_sol cst m k S (by omega)
theorem sol_0 (cst : Nat → Nat → Option Nat) (m : Nat) : sol cst m 0 = (0, none, 1) := by
  simp [sol, dtab]
theorem sol_eq (cst : Nat → Nat → Option Nat) (m : Nat) {S : Nat} (h0 : 0 < S) (h : S < 4096) : sol cst m S = dp cst (fun T => (sol cst m T).1) (fun T => (sol cst m T).2.2) S (lowb S) m := by
  obtain ⟨h1, h2, -⟩ := lowb_spec h0 h
  show (if S = S ∧ 0 < S then _ else dtab cst m S S) = _
  rw [if_pos ⟨rfl, h0⟩]
  refine dp_congr h1 (by omega) (fun T hT => ?_) m
  show (dtab cst m S T).1 = _ ∧ (dtab cst m S T).2.2 = _
  rw [dtab_sol cst m S T hT]
  exact ⟨rfl, rfl⟩
/-- what one set's figures say -/
def DpOk (r : Nat × Option Nat × Nat) (b : Nat) : Prop := (r.1 = dpE ∧ r.2.1 = none ∧ r.2.2 = 0) ∨ (r.1 ≤ b ∧ 0 < r.2.2 ∧ ∃ j, r.2.1 = some j)
