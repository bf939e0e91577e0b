/-! every call keeps what a state keeps -/
section FKEEP
variable {m : Nat} {inn : Nat → Bool} {ap : Nat → Nat → Bool} {n : Nat} {G : Nat → Nat → Ce}
theorem FOk.leave {inn' : Nat → Bool} (hF : FOk m inn ap n false G) : FOk m inn' ap n false G := by
  obtain ⟨h1, h2, h3, h4, h5, h6, h7, h8⟩ := hF
  exact ⟨h1, h2, (fun h => absurd h (by decide)), h4, h5, h6, h7, (fun h => absurd h (by decide))⟩
theorem RowOk.up {R : Nat → Ce} (h : RowOk m R) : RowOk (m + 1) R := ⟨fun p hp => h.1 p (by omega), fun p q b k hg => by
  obtain ⟨a1, a2⟩ := h.2 p q b k hg
  exact ⟨by omega, a2⟩⟩
theorem FOk.enter {inn' : Nat → Bool} (hF : FOk m inn ap n false G) (hm : m ≠ 12) : FOk (m + 1) inn' ap n false G := by
  obtain ⟨h1, h2, h3, h4, h5, h6, h7, h8⟩ := hF
  exact ⟨⟨by omega, by omega⟩, h2, (fun h => absurd h (by decide)), h4, h5, fun p q hp => h6 p q (by omega), fun r hr => (h7 r hr).up, (fun h => absurd h (by decide))⟩
theorem FOk.apart {p q : Nat} {b : Bool} (hF : FOk m inn ap n false G) (hp : p < m) (hq : q < m) : FOk m inn (apUp ap p q b) n false G := by
  obtain ⟨h1, h2, h3, h4, h5, h6, h7, h8⟩ := hF
  refine ⟨h1, h2, (fun h => absurd h (by decide)), h4, fun i j => ?_, fun i j hi => ?_, h7, (fun h => absurd h (by decide))⟩
  · unfold apUp
    by_cases hc : (i = p ∧ j = q) ∨ (i = q ∧ j = p)
    · rw [if_pos hc, if_pos (by omega)]
    · rw [if_neg hc, if_neg (by omega)]
      exact h5 i j
  · unfold apUp
    rw [if_neg (by omega)]
    exact h6 i j hi
theorem un_none {R : Nat → Ce} : ∀ k, f_un R k = 0 → ∀ p, p < k → ceU (R p) = false
  | 0, _, p, hp => absurd hp (Nat.not_lt_zero _)
  | k + 1, h, p, hp => by
    simp only [f_un] at h
    cases hu : ceU (R k) with
    | true => rw [hu] at h; simp at h
    | false =>
      rw [hu] at h
      simp only [Bool.false_eq_true, if_false] at h
      rcases Nat.lt_or_ge p k with q | q
      · exact un_none k h p q
      · rw [show p = k by omega]
        exact hu
theorem FOk.told (hF : FOk m inn ap n true G) (h : f_un (G n) m / 2 = 0) : GTold G (n + 1) := by
  have hrow := hF.2.2.2.2.2.2.1 n (by simp [rnd])
  have h0 : f_un (G n) m = 0 := by
    have a := uw_un (G n) m
    have b := uw_sym hrow
    omega
  intro r hr p hp q b k hg
  by_cases hrn : r = n
  · subst hrn
    have hpm : p < m := by
      rcases Nat.lt_or_ge p m with z | z
      · exact z
      · rw [hrow.1 p z] at hg; cases hg
    have hu := un_none m h0 p hpm
    rw [hg] at hu
    have := (hrow.2 p q b k hg).2.2.1
    have : k ≠ 3 := by simpa [ceU] using hu
    omega
  · exact hF.2.2.2.1 r (by omega) p hp q b k hg
theorem FOk.close (hF : FOk m inn ap n true G) (h : f_un (G n) m / 2 = 0) : FOk m inn ap (n + 1) false G := by
  have hT := hF.told h
  obtain ⟨h1, h2, h3, h4, h5, h6, h7, h8⟩ := hF
  have := h3 rfl
  exact ⟨h1, (by omega), (fun h => absurd h (by decide)), hT, h5, h6, h7, (fun h => absurd h (by decide))⟩
theorem FOk.backO (hF : FOk m inn ap n true G) : FOk m inn ap n false G := by
  obtain ⟨h1, h2, h3, h4, h5, h6, h7, h8⟩ := hF
  exact ⟨h1, h2, (fun h => absurd h (by decide)), h4, h5, h6, fun r hr => h7 r (by simp [rnd] at hr ⊢; omega), (fun h => absurd h (by decide))⟩
theorem FOk.backC (hF : FOk m inn ap n false G) : FOk m inn ap (n - 1) false G := by
  obtain ⟨h1, h2, h3, h4, h5, h6, h7, h8⟩ := hF
  exact ⟨h1, (by omega), (fun h => absurd h (by decide)), fun r hr => h4 r (by omega), h5, h6, fun r hr => h7 r (by simp [rnd] at hr ⊢; omega), (fun h => absurd h (by decide))⟩
theorem FOk.report {p k : Nat} (hF : FOk m inn ap n true G) (hp : p < m) (hk : k ≤ 2) (hu : ceU (G n p) = true) : FOk m inn ap n true (gUp G n (rowTold (G n) p k)) := by
  obtain ⟨h1, h2, h3, h4, h5, h6, h7, h8⟩ := hF
  have hrow := h7 n (by simp [rnd])
  refine ⟨h1, h2, h3, fun r hr i hi q b k2 hg => ?_, h5, h6, fun r hr => ?_, fun _ => ?_⟩
  · rw [gUp_lt (by omega)] at hg
    exact h4 r hr i hi q b k2 hg
  · by_cases hrn : r = n
    · subst hrn
      rw [gUp_at]
      rcases hg : G r p with _ | _ | ⟨q, b, k0⟩
      · rw [hg] at hu; cases hu
      · rw [hg] at hu; cases hu
      · have hk0 : k0 = 3 := by rw [hg] at hu; simpa [ceU] using hu
        subst hk0
        obtain ⟨a1, a2, -, a4⟩ := hrow.2 p q b 3 hg
        have a4 : G r q = some (some (p, !b, 3)) := a4
        unfold rowTold
        rw [hg]
        refine ⟨fun i hi => ?_, fun i j b2 k2 hij => ?_⟩
        · simp only
          rw [if_neg (by omega), if_neg (by omega)]
          exact hrow.1 i hi
        · simp only at hij ⊢
          by_cases h9 : i = q
          · rw [if_pos h9] at hij
            simp only [Option.some.injEq, Prod.mk.injEq] at hij
            obtain ⟨rfl, rfl, rfl⟩ := hij
            refine ⟨hp, by omega, by omega, ?_⟩
            rw [if_neg (by omega), if_pos rfl, if_neg (by omega), h9]
            simp only [Bool.not_not]
            rw [show 2 - (2 - k) = k by omega]
          · rw [if_neg h9] at hij
            by_cases h10 : i = p
            · rw [if_pos h10] at hij
              simp only [Option.some.injEq, Prod.mk.injEq] at hij
              obtain ⟨rfl, rfl, rfl⟩ := hij
              refine ⟨a1, by omega, by omega, ?_⟩
              rw [if_pos rfl, if_neg (by omega), h10]
            · rw [if_neg h10] at hij
              obtain ⟨c1, c2, c3, c4⟩ := hrow.2 i j b2 k2 hij
              refine ⟨c1, c2, c3, ?_⟩
              have n1 : j ≠ q := fun z => by
                rw [z, a4] at c4
                simp only [Option.some.injEq, Prod.mk.injEq] at c4
                omega
              have n2 : j ≠ p := fun z => by
                rw [z, hg] at c4
                simp only [Option.some.injEq, Prod.mk.injEq] at c4
                omega
              rw [if_neg n1, if_neg n2]
              exact c4
    · rw [gUp_lt hrn]
      exact h7 r hr
  · rw [← h8 rfl]
    exact canP_congr (fun r hr => gUp_lt (by omega)) ap inn m
theorem FOk.plays : ∀ k n G, FOk m inn ap n false G → FOk m inn ap (plS ap inn m k n G).1 false (plS ap inn m k n G).2
  | 0, _, _, h => h
  | k + 1, n, G, h => by
    simp only [plS]
    by_cases hc : n < 16 ∧ canP G n ap inn m = true
    · rw [if_pos hc]
      exact FOk.plays k _ _ (h.played hc.1 hc.2)
    · rw [if_neg hc]
      exact h
/-- the beginning -/
theorem FOk.start (h : 2 ≤ m ∧ m ≤ 12) : FOk m (fun _ => true) (fun _ _ => false) 0 false (fun _ _ => none) := ⟨h, (by omega), (fun h => absurd h (by decide)), fun r hr => absurd hr (Nat.not_lt_zero _), fun _ _ => rfl, fun _ _ _ => rfl, fun r hr => absurd hr (by simp [rnd]), (fun h => absurd h (by decide))⟩
end FKEEP
