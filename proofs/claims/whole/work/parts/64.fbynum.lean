/-! PairedField: results by number -/
theorem cF_noteResultsByNumber (l : Launch) (g : GG) (d : Nat) (w : Wd) (m n : Nat) (R : Nat → Ce) (hm : m ≤ 12) (hn : n < 16) (hnew : RowNew m R) (hpl : w 0 5 = nI m) (hcl : w 0 6 = nI n) (hR : ∀ i, i < 12 → w (2 + n) i = ce_code (R i)) : Con l g yF_noteResultsByNumber bF_noteResultsByNumber 4 ((none : Option Jvm.ClassFile.FieldType)) [] (d + 2) 0 0 [.ref (g.1 0)] w (Rp (fun v w' => v = none ∧ (∀ i, i < 12 → w' (2 + n) i = ce_code (toldRow R m i)) ∧ ∀ j, j ≠ 2 + n → w' j = w j)) := by
  intro X hl ha hm' hk hn' hc
  subst hl
  have hlr := lenRow hn
  obtain ⟨Q, hQ⟩ : ∃ Q, Q = Fen X g 0 0 (Rp (fun v w' => v = none ∧ (∀ i, i < 12 → w' (2 + n) i = ce_code (toldRow R m i)) ∧ ∀ j, j ≠ 2 + n → w' j = w j)) := ⟨_, rfl⟩
  rw [← hQ]
  refine r_aload_n hc dF_noteResultsByNumber_0 rfl ?_
  refine gF_11 hc dF_noteResultsByNumber_1 ?_
  refine r_aload_n hc dF_noteResultsByNumber_4 rfl ?_
  refine gF_73 hc dF_noteResultsByNumber_5 ?_
  rw [hcl]
  refine r_aaldN hc dF_noteResultsByNumber_8 rfl (by first | omega | (show _ < 12; omega) | (show _ < 204; omega) | (show _ < 144; omega) | (show _ < 2048; omega) | (show _ < 4096; omega) | (show _ < 16; omega)) ?_
  rw [show (1 + 1 + n : Nat) = 2 + n by omega]
  refine r_astore_n hc dF_noteResultsByNumber_9 (Nat.le_of_ble_eq_true rfl) ?_
  refine r_iconst hc dF_noteResultsByNumber_10 (nI 0) (by decide) ?_
  refine r_istore_n hc dF_noteResultsByNumber_11 (Nat.le_of_ble_eq_true rfl) ?_
  have h0 : toldUp R 0 = R := by
    funext a
    unfold toldUp
    split
    · rename_i heq
      rw [if_neg (by omega), heq]
    · rfl
  suffices hgen : ∀ p, p ≤ m → ∀ w1, (∀ i, i < 12 → w1 (2 + n) i = ce_code (toldUp R p i)) → (∀ j, j ≠ 2 + n → w1 j = w j) → Go X g 0 0 Q w1 12 [some (.ref (g.1 0)), some (.ref (g.1 (2 + n))), some (.int (nI p)), none] [] from hgen 0 (Nat.zero_le _) w (by rw [h0]; exact hR) (fun _ _ => rfl)
  refine lp_up (P := fun p => ∀ w1, (∀ i, i < 12 → w1 (2 + n) i = ce_code (toldUp R p i)) → (∀ j, j ≠ 2 + n → w1 j = w j) → Go X g 0 0 Q w1 12 [some (.ref (g.1 0)), some (.ref (g.1 (2 + n))), some (.int (nI p)), none] []) ?_
  intro p hp ih w1 e1 e2
  refine r_iload_n hc dF_noteResultsByNumber_12 rfl ?_
  refine r_aload_n hc dF_noteResultsByNumber_13 rfl ?_
  refine gF_45 hc dF_noteResultsByNumber_14 ?_
  rw [e2 0 (by omega), hpl]
  refine r_ic_ge hc dF_noteResultsByNumber_17 (tgt := 68) (by decide) (fun h => ?_) (fun h => ?_)
  · have hp2 : p = m := by have := nle_to h (by omega) (by omega); omega
    subst hp2
    subst hQ
    exact r_vret hc dF_noteResultsByNumber_68 ⟨rfl, e1, e2⟩
  · have hp2 : p < m := nle_of h (by omega) (by omega)
    have ih := ih hp2
    simp only [← nI_add] at ih
    have hskip : (∀ a, toldUp R (p + 1) a = toldUp R p a) → Go X g 0 0 Q w1 62 [some (.ref (g.1 0)), some (.ref (g.1 (2 + n))), some (.int (nI p)), none] [] := by
      intro hsame
      rw [show toldUp R (p + 1) = toldUp R p from funext hsame] at ih
      refine r_iinc hc dF_noteResultsByNumber_62 rfl ?_
      refine r_goto hc dF_noteResultsByNumber_65 (tgt := 12) (by decide) ?_
      exact ih w1 e1 e2
    have hce : ∀ o b k, toldUp R p p = some (some (o, b, k)) → o < 12 ∧ k ≤ 3 := by
      intro o b k hg
      unfold toldUp at hg
      rcases hr : R p with _ | _ | ⟨q, b2, k2⟩ <;> rw [hr] at hg
      · cases hg
      · cases hg
      · obtain ⟨rfl, h2, -, -⟩ := hnew.2 p q b2 k2 hr
        have := tRes_le p q
        simp only at hg
        split at hg <;> simp only [Option.some.injEq, Prod.mk.injEq] at hg <;> omega
    refine r_aload_n hc dF_noteResultsByNumber_20 rfl ?_
    refine r_iload_n hc dF_noteResultsByNumber_21 rfl ?_
    refine r_ialdN hc dF_noteResultsByNumber_22 rfl (by rw [hlr]; omega) ?_
    rw [e1 p (by omega)]
    refine kF_118r hc dF_noteResultsByNumber_23 (cC_isUntold _ g d w1 _) (by omega) (Nat.le_of_ble_eq_true rfl) ?_
    rintro _ _ ⟨rfl, rfl⟩
    rw [isUn_ce hce]
    rcases hg : R p with _ | _ | ⟨q, b, k0⟩
    · rw [show toldUp R p p = none by unfold toldUp; rw [hg]]
      refine r_if_eq_t hc dF_noteResultsByNumber_26 (tgt := 62) (by decide) rfl ?_
      refine hskip (fun a => ?_)
      unfold toldUp
      rcases hga : R a with _ | _ | ⟨c, b2, k2⟩
      · rfl
      · rfl
      · obtain ⟨-, -, -, hx⟩ := hnew.2 a c b2 k2 hga
        have : ¬ a = p := fun z => by rw [z, hg] at hga; cases hga
        have : ¬ c = p := fun z => by rw [z, hg] at hx; cases hx
        simp only [show (a < p + 1 ∨ c < p + 1) ↔ (a < p ∨ c < p) by omega]
    · rw [show toldUp R p p = some none by unfold toldUp; rw [hg]]
      refine r_if_eq_t hc dF_noteResultsByNumber_26 (tgt := 62) (by decide) rfl ?_
      refine hskip (fun a => ?_)
      unfold toldUp
      rcases hga : R a with _ | _ | ⟨c, b2, k2⟩
      · rfl
      · rfl
      · obtain ⟨-, -, -, hx⟩ := hnew.2 a c b2 k2 hga
        have : ¬ a = p := fun z => by rw [z, hg] at hga; cases hga
        have : ¬ c = p := fun z => by rw [z, hg] at hx; cases hx
        simp only [show (a < p + 1 ∨ c < p + 1) ↔ (a < p ∨ c < p) by omega]
    · obtain ⟨rfl, h2, h3, h4⟩ := hnew.2 p q b k0 hg
      have hother : ∀ a c b2 k2, R a = some (some (c, b2, k2)) → a ≠ p → a ≠ q → c ≠ p ∧ c ≠ q := by
        intro a c b2 k2 hga n1' n2'
        obtain ⟨-, -, -, hx⟩ := hnew.2 a c b2 k2 hga
        refine ⟨fun z => ?_, fun z => ?_⟩
        · rw [z, hg] at hx
          simp only [Option.some.injEq, Prod.mk.injEq] at hx
          omega
        · rw [z, h4] at hx
          simp only [Option.some.injEq, Prod.mk.injEq] at hx
          omega
      by_cases hqp : q < p
      · have hte : toldUp R p p = some (some (q, b, tRes p q)) := by unfold toldUp; rw [hg]; simp only; rw [if_pos (Or.inr hqp)]
        have hr2 := tRes_le p q
        rw [hte, show ceU (some (some (q, b, tRes p q))) = false by simp [ceU]; omega]
        refine r_if_eq_t hc dF_noteResultsByNumber_26 (tgt := 62) (by decide) rfl ?_
        refine hskip (fun a => ?_)
        unfold toldUp
        rcases hga : R a with _ | _ | ⟨c, b2, k2⟩
        · rfl
        · rfl
        · have hcond : (a < p + 1 ∨ c < p + 1) ↔ (a < p ∨ c < p) := by
            by_cases hap : a = p
            · subst hap
              rw [hg] at hga
              simp only [Option.some.injEq, Prod.mk.injEq] at hga
              omega
            · by_cases haq : a = q
              · subst haq
                rw [h4] at hga
                simp only [Option.some.injEq, Prod.mk.injEq] at hga
                omega
              · have := hother a c b2 k2 hga hap haq
                omega
          simp only [hcond]
      · have hpq : p < q := by omega
        have hte : toldUp R p p = some (some (q, b, 3)) := by unfold toldUp; rw [hg]; simp only; rw [if_neg (by omega)]
        have htq : toldUp R p q = some (some (p, !b, 3)) := by unfold toldUp; rw [h4]; simp only; rw [if_neg (by omega)]
        obtain ⟨-, c2, -, -, -⟩ := ce_all q (by omega) b 3 (by decide)
        rw [hte]
        refine r_if_eq_f hc dF_noteResultsByNumber_26 (tgt := 62) (by decide) (show ¬ bI true = 0 by decide) ?_
        refine r_iload_n hc dF_noteResultsByNumber_29 rfl ?_
        refine r_aload_n hc dF_noteResultsByNumber_30 rfl ?_
        refine r_iload_n hc dF_noteResultsByNumber_31 rfl ?_
        refine r_ialdN hc dF_noteResultsByNumber_32 rfl (by rw [hlr]; omega) ?_
        rw [e1 p (by omega), hte]
        refine kF_103r hc dF_noteResultsByNumber_33 (cC_opponentIn _ g d w1 _) (by omega) (Nat.le_of_ble_eq_true rfl) ?_
        rintro _ _ ⟨rfl, rfl⟩
        rw [c2]
        refine r_iadd hc dF_noteResultsByNumber_36 ?_
        rw [nI_add]
        refine r_iconst hc dF_noteResultsByNumber_37 (nI 3) (by decide) ?_
        refine r_irem hc dF_noteResultsByNumber_38 (by decide) ?_
        rw [rem3 (by omega)]
        have hput : ∀ v, v = tRes p q → ∀ z, Go X g 0 0 Q w1 59 [some (.ref (g.1 0)), some (.ref (g.1 (2 + n))), some (.int (nI p)), some (.int z)] [.int (nI v), .int (nI p), .ref (g.1 0)] := by
          intro v hv z
          have hv2 : v ≤ 2 := by rw [hv]; exact tRes_le p q
          refine kF_123r hc dF_noteResultsByNumber_59 (cF_noteResult _ g d w1 n p q v 3 3 b (toldUp R p) hn (by omega) (by omega) (by omega) hv2 (by decide) (by decide) (by rw [e2 0 (by omega)]; exact hcl) e1 hte htq) (by omega) (Nat.le_of_ble_eq_true rfl) ?_
          rintro _ w2 ⟨rfl, f1, f2⟩
          refine r_iinc hc dF_noteResultsByNumber_62 rfl ?_
          refine r_goto hc dF_noteResultsByNumber_65 (tgt := 12) (by decide) ?_
          refine Go.drop 3 ?_
          refine ih w2 (fun i hi => ?_) (fun j hj => (f2 j hj).trans (e2 j hj))
          rw [f1 i hi]
          congr 1
          unfold rowTold
          rw [hte]
          simp only
          by_cases h9 : i = q
          · subst h9
            rw [if_pos rfl, hv]
            unfold toldUp
            rw [h4]
            simp only
            rw [if_pos (Or.inr (by omega)), tRes_sym (p := p) (q := i) (by omega)]
          · rw [if_neg h9]
            by_cases h8 : i = p
            · subst h8
              rw [if_pos rfl, hv]
              unfold toldUp
              rw [hg]
              simp only
              rw [if_pos (Or.inl (by omega))]
            · rw [if_neg h8]
              unfold toldUp
              rcases hga : R i with _ | _ | ⟨c, b2, k2⟩
              · rfl
              · rfl
              · obtain ⟨c1, c2⟩ := hother i c b2 k2 hga h8 h9
                simp only [show (i < p + 1 ∨ c < p + 1) ↔ (i < p ∨ c < p) by omega]
        by_cases h3m : (p + q) % 3 = 0
        · rw [h3m]
          refine r_if_ne_f hc dF_noteResultsByNumber_39 (tgt := 46) (by decide) (by decide) ?_
          refine r_iconst hc dF_noteResultsByNumber_42 (nI 1) (by decide) ?_
          refine r_goto hc dF_noteResultsByNumber_43 (tgt := 47) (by decide) ?_
          refine r_istore_n hc dF_noteResultsByNumber_47 (Nat.le_of_ble_eq_true rfl) ?_
          refine r_aload_n hc dF_noteResultsByNumber_48 rfl ?_
          refine r_iload_n hc dF_noteResultsByNumber_49 rfl ?_
          refine r_iload_n hc dF_noteResultsByNumber_50 rfl ?_
          refine r_if_eq_f hc dF_noteResultsByNumber_51 (tgt := 58) (by decide) (by decide) ?_
          refine r_iconst hc dF_noteResultsByNumber_54 (nI 1) (by decide) ?_
          refine r_goto hc dF_noteResultsByNumber_55 (tgt := 59) (by decide) ?_
          exact hput 1 (by unfold tRes; rw [if_pos h3m]) _
        · refine r_if_ne_t hc dF_noteResultsByNumber_39 (tgt := 46) (by decide) (nI_ne0 (by omega) (by omega)) ?_
          refine r_iconst hc dF_noteResultsByNumber_46 (nI 0) (by decide) ?_
          refine r_istore_n hc dF_noteResultsByNumber_47 (Nat.le_of_ble_eq_true rfl) ?_
          refine r_aload_n hc dF_noteResultsByNumber_48 rfl ?_
          refine r_iload_n hc dF_noteResultsByNumber_49 rfl ?_
          refine r_iload_n hc dF_noteResultsByNumber_50 rfl ?_
          refine r_if_eq_t hc dF_noteResultsByNumber_51 (tgt := 58) (by decide) rfl ?_
          refine r_iconst hc dF_noteResultsByNumber_58 (nI 2) (by decide) ?_
          exact hput 2 (by unfold tRes; rw [if_neg h3m, if_pos hpq]) _
