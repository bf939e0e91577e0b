/-! PairedField: the untold are counted, results by number -/
def sm (f : Nat → Nat) : Nat → Nat
  | 0 => 0
  | p + 1 => sm f p + f p
theorem sm_add (f h : Nat → Nat) : ∀ m, sm (fun p => f p + h p) m = sm f m + sm h m
  | 0 => rfl
  | m + 1 => by simp only [sm, sm_add f h m]; omega
theorem sm_congr {f h : Nat → Nat} : ∀ m, (∀ p, p < m → f p = h p) → sm f m = sm h m
  | 0, _ => rfl
  | m + 1, e => by simp only [sm, sm_congr m (fun p hp => e p (by omega)), e m (by omega)]
theorem sm_zero : ∀ m, sm (fun _ => 0) m = 0
  | 0 => rfl
  | m + 1 => by simp only [sm, sm_zero m]
theorem sm_swap (F : Nat → Nat → Nat) (m : Nat) : ∀ k, sm (fun p => sm (fun q => F p q) m) k = sm (fun q => sm (fun p => F p q) k) m
  | 0 => by simp only [sm, sm_zero]
  | k + 1 => by simp only [sm, sm_swap F m k, sm_add]
theorem sm_one (q0 : Nat) : ∀ m, sm (fun q => if q = q0 then 1 else 0) m = if q0 < m then 1 else 0
  | 0 => by simp [sm]
  | m + 1 => by
    simp only [sm, sm_one q0 m]
    by_cases h : q0 < m
    · rw [if_pos h, if_neg (by omega), if_pos (by omega)]
    · rw [if_neg h]
      by_cases h2 : m = q0
      · rw [if_pos h2, if_pos (by omega)]
      · rw [if_neg h2, if_neg (by omega)]
/-- an untold game with these pieces -/
def ceW (b : Bool) : Ce → Bool
  | some (some (_, c, k)) => (k == 3) && (c == b)
  | _ => false
def f_uw (b : Bool) (R : Nat → Ce) : Nat → Nat := sm (fun p => if ceW b (R p) then 1 else 0)
theorem uw_un (R : Nat → Ce) : ∀ m, f_uw true R m + f_uw false R m = f_un R m
  | 0 => rfl
  | m + 1 => by
    have ih := uw_un R m
    unfold f_uw at ih ⊢
    simp only [sm, f_un]
    generalize sm (fun p => if ceW true (R p) = true then 1 else 0) m = A at ih ⊢
    generalize sm (fun p => if ceW false (R p) = true then 1 else 0) m = B at ih ⊢
    rcases R m with _ | _ | ⟨q, b, k⟩
    · simp [ceW, ceU]; omega
    · simp [ceW, ceU]; omega
    · by_cases hk : k = 3
      · cases b <;> simp [ceW, ceU, hk] <;> omega
      · cases b <;> simp [ceW, ceU, hk] <;> omega
theorem uw_row {m : Nat} {R : Nat → Ce} (h : RowOk m R) (b : Bool) {p : Nat} : (if ceW b (R p) then 1 else 0) = sm (fun q => if R p = some (some (q, b, 3)) then 1 else 0) m := by
  rcases hg : R p with _ | _ | ⟨q0, c, k⟩
  · simp [ceW, sm_zero]
  · simp [ceW, sm_zero]
  · by_cases hkc : k = 3 ∧ c = b
    · obtain ⟨rfl, rfl⟩ := hkc
      have hq := (h.2 p q0 c 3 hg).1
      rw [sm_congr (h := fun q => if q = q0 then 1 else 0) m (fun q _ => by
        by_cases hqq : q = q0
        · subst hqq; simp
        · rw [if_neg hqq, if_neg (fun z => hqq (by simp only [Option.some.injEq, Prod.mk.injEq] at z; exact z.1.symm))]), sm_one, if_pos hq]
      simp [ceW]
    · rw [sm_congr (h := fun _ => 0) m (fun q _ => if_neg (fun z => hkc (by simp only [Option.some.injEq, Prod.mk.injEq] at z; exact ⟨z.2.2, z.2.1⟩))), sm_zero]
      have : ceW b (some (some (q0, c, k))) = false := by
        unfold ceW
        by_cases h1 : k = 3
        · have : ¬ c = b := fun z => hkc ⟨h1, z⟩
          simp [this]
        · simp [h1]
      rw [this]
      rfl
theorem uw_sym {m : Nat} {R : Nat → Ce} (h : RowOk m R) : f_uw true R m = f_uw false R m := by
  unfold f_uw
  rw [sm_congr m (fun p _ => uw_row h true (p := p)), sm_congr m (fun p _ => uw_row h false (p := p)), sm_swap]
  refine sm_congr m (fun q _ => sm_congr m (fun p _ => ?_))
  by_cases h1 : R p = some (some (q, true, 3))
  · have : R q = some (some (p, false, 3)) := (h.2 p q true 3 h1).2.2.2
    rw [if_pos h1, if_pos this]
  · rw [if_neg h1, if_neg (fun z => h1 (h.2 q p false 3 z).2.2.2)]
theorem uw_half {m : Nat} {R : Nat → Ce} (h : RowOk m R) : f_uw true R m = f_un R m / 2 := by
  have h1 := uw_un R m
  have h2 := uw_sym h
  omega
theorem cF_countUntold (l : Launch) (g : GG) (d : Nat) (w : Wd) (m : Nat) (inn : Nat → Bool) (ap : Nat → Nat → Bool) (n : Nat) (G : Nat → Nat → Ce) (hF : FOk m inn ap n true G) (hS : CS w m inn ap n true G) : Con l g yF_countUntold bF_countUntold 4 ((some .int)) [] (d + 2) 0 0 [.ref (g.1 0)] w (Rp (An (some (.int (nI (f_un (G n) m / 2)))) w)) := by
  intro X hl ha hm' hk hn' hc
  subst hl
  have hm := hF.1.2
  have hn : n < 16 := hF.2.2.1 rfl
  have hrow := hF.2.2.2.2.2.2.1 n (by simp [rnd])
  have hlr := lenRow hn
  rw [← uw_half hrow]
  refine r_iconst hc dF_countUntold_0 (nI 0) (by decide) ?_
  refine r_istore_n hc dF_countUntold_1 (Nat.le_of_ble_eq_true rfl) ?_
  refine r_iconst hc dF_countUntold_2 (nI 0) (by decide) ?_
  refine r_istore_n hc dF_countUntold_3 (Nat.le_of_ble_eq_true rfl) ?_
  refine lp_up (P := fun p => Go X g 0 0 _ w 4 [some (.ref (g.1 0)), some (.int (nI (f_uw true (G n) p))), some (.int (nI p)), none] []) (n := m) ?_ 0 (Nat.zero_le _)
  intro p hp ih
  refine r_iload_n hc dF_countUntold_4 rfl ?_
  refine r_aload_n hc dF_countUntold_5 rfl ?_
  refine gF_45 hc dF_countUntold_6 ?_
  rw [hS.1]
  refine r_ic_ge hc dF_countUntold_9 (tgt := 48) (by decide) (fun h => ?_) (fun h => ?_)
  · have hp2 : p = m := by have := nle_to h (by omega) (by omega); omega
    subst hp2
    refine r_iload_n hc dF_countUntold_48 rfl ?_
    exact r_iret hc dF_countUntold_49 ⟨rfl, rfl⟩
  · have hp2 : p < m := nle_of h (by omega) (by omega)
    have ih := ih hp2
    have hcell := hS.2.2.2.2.2.2 n (by simp [rnd]) p (by omega)
    have hce : ∀ o b k, G n p = some (some (o, b, k)) → o < 12 ∧ k ≤ 3 := fun o b k hg => by
      have := hrow.2 p o b k hg
      exact ⟨by omega, this.2.2.1⟩
    refine r_aload_n hc dF_countUntold_12 rfl ?_
    refine gF_11 hc dF_countUntold_13 ?_
    refine r_aload_n hc dF_countUntold_16 rfl ?_
    refine gF_73 hc dF_countUntold_17 ?_
    rw [hS.2.1]
    refine r_aaldN hc dF_countUntold_20 rfl (by first | omega | (show _ < 12; omega) | (show _ < 204; omega) | (show _ < 144; omega) | (show _ < 2048; omega) | (show _ < 4096; omega) | (show _ < 16; omega)) ?_
    refine r_iload_n hc dF_countUntold_21 rfl ?_
    rw [show (1 + 1 + n : Nat) = 2 + n by omega]
    refine r_ialdN hc dF_countUntold_22 rfl (by rw [hlr]; omega) ?_
    rw [hcell]
    refine r_istore_n hc dF_countUntold_23 (Nat.le_of_ble_eq_true rfl) ?_
    refine r_iload_n hc dF_countUntold_24 rfl ?_
    refine kF_118r hc dF_countUntold_25 (cC_isUntold _ g d w _) (by omega) (Nat.le_of_ble_eq_true rfl) ?_
    rintro _ _ ⟨rfl, rfl⟩
    rw [isUn_ce hce]
    have ih : Go X g 0 0 (Fen X g 0 0 (Rp (An (some (.int (nI (f_uw true (G n) m)))) w))) w 4 [some (.ref (g.1 0)), some (.int (nI (f_uw true (G n) p + (if ceW true (G n p) then 1 else 0)))), some (.int (nI (p + 1))), none] [] := ih
    have hskip : ceW true (G n p) = false → ∀ z, Go X g 0 0 (Fen X g 0 0 (Rp (An (some (.int (nI (f_uw true (G n) m)))) w))) w 42 [some (.ref (g.1 0)), some (.int (nI (f_uw true (G n) p))), some (.int (nI p)), some (.int z)] [] := by
      intro hz z
      rw [hz, if_neg (by decide), Nat.add_zero] at ih
      simp only [← nI_add] at ih
      refine r_iinc hc dF_countUntold_42 rfl ?_
      refine r_goto hc dF_countUntold_45 (tgt := 4) (by decide) ?_
      refine Go.drop 3 ?_
      exact ih
    rcases hg : G n p with _ | _ | ⟨q, b, k⟩
    · rw [hg] at hskip
      refine r_if_eq_t hc dF_countUntold_28 (tgt := 42) (by decide) rfl ?_
      exact hskip rfl _
    · rw [hg] at hskip
      refine r_if_eq_t hc dF_countUntold_28 (tgt := 42) (by decide) rfl ?_
      exact hskip rfl _
    · obtain ⟨o1, o2⟩ := hce q b k hg
      obtain ⟨-, -, c3, -, -⟩ := ce_all q o1 b k (by omega)
      rw [hg] at hskip ih
      by_cases hk3 : k = 3
      · subst hk3
        refine r_if_eq_f hc dF_countUntold_28 (tgt := 42) (by decide) (show ¬ bI true = 0 by decide) ?_
        refine r_iload_n hc dF_countUntold_31 rfl ?_
        refine kF_113r hc dF_countUntold_32 (cC_colourIn _ g d w _) (by omega) (Nat.le_of_ble_eq_true rfl) ?_
        rintro _ _ ⟨rfl, rfl⟩
        rw [c3]
        refine r_iconst hc dF_countUntold_35 (nI 1) (by decide) ?_
        cases b with
        | true =>
          rw [show ceW true (some (some (q, true, 3))) = true from rfl, if_pos rfl] at ih
          simp only [← nI_add] at ih
          refine r_ic_ne_f hc dF_countUntold_36 (tgt := 42) (by decide) (by decide) ?_
          refine r_iinc hc dF_countUntold_39 rfl ?_
          refine r_iinc hc dF_countUntold_42 rfl ?_
          refine r_goto hc dF_countUntold_45 (tgt := 4) (by decide) ?_
          refine Go.drop 3 ?_
          exact ih
        | false =>
          refine r_ic_ne_t hc dF_countUntold_36 (tgt := 42) (by decide) (by decide) ?_
          exact hskip rfl _
      · rw [show ceU (some (some (q, b, k))) = false by simp [ceU, hk3]]
        refine r_if_eq_t hc dF_countUntold_28 (tgt := 42) (by decide) rfl ?_
        exact hskip (by simp [ceW, hk3]) _
