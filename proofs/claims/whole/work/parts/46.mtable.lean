/-! the table -/
/-- p stands before q in the table -/
def tbP (G : Nat → Nat → Ce) (n p q : Nat) : Prop := f_sc G n q < f_sc G n p ∨ (f_sc G n p = f_sc G n q ∧ (f_bu G (f_sc G n) n q < f_bu G (f_sc G n) n p ∨ (f_bu G (f_sc G n) n p = f_bu G (f_sc G n) n q ∧ (f_be G (f_sc G n) n q < f_be G (f_sc G n) n p ∨ (f_be G (f_sc G n) n p = f_be G (f_sc G n) n q ∧ (f_wi G n q < f_wi G n p ∨ (f_wi G n p = f_wi G n q ∧ p < q)))))))
noncomputable def tbB (G : Nat → Nat → Ce) (n p q : Nat) : Bool := @decide (tbP G n p q) (Classical.propDecidable _)
theorem tbB_t {G : Nat → Nat → Ce} {n p q : Nat} : tbB G n p q = true ↔ tbP G n p q := by unfold tbB; exact @decide_eq_true_iff _ (Classical.propDecidable _)
theorem tbB_f {G : Nat → Nat → Ce} {n p q : Nat} : tbB G n p q = false ↔ ¬ tbP G n p q := by unfold tbB; exact @decide_eq_false_iff_not _ (Classical.propDecidable _)
/-- how many of the first stand before p -/
noncomputable def f_rk (G : Nat → Nat → Ce) (n p : Nat) : Nat → Nat
  | 0 => 0
  | q + 1 => if tbB G n q p then f_rk G n p q + 1 else f_rk G n p q
theorem rk_lt {G : Nat → Nat → Ce} {n p : Nat} : ∀ k, f_rk G n p k + (if p < k then 1 else 0) ≤ k
  | 0 => by simp [f_rk]
  | k + 1 => by
    have ih := rk_lt (G := G) (n := n) (p := p) k
    simp only [f_rk]
    by_cases hp : p = k
    · subst hp
      have : tbB G n p p = false := tbB_f.mpr (by unfold tbP; omega)
      rw [this]
      simp at ih ⊢
      omega
    · split
      · split at ih <;> split <;> omega
      · split at ih <;> split <;> omega
theorem rk_mono {G : Nat → Nat → Ce} {n p p' : Nat} (h : tbP G n p p') : ∀ k, f_rk G n p k + (if p < k then 1 else 0) ≤ f_rk G n p' k
  | 0 => by simp [f_rk]
  | k + 1 => by
    have ih := rk_mono h k
    simp only [f_rk]
    by_cases hp : p = k
    · subst hp
      have h1 : tbB G n p p = false := tbB_f.mpr (by unfold tbP; omega)
      have h2 : tbB G n p p' = true := tbB_t.mpr h
      rw [h1, h2]
      simp at ih ⊢
      omega
    · by_cases hk : tbB G n k p = true
      · have h2 : tbB G n k p' = true := tbB_t.mpr (by
          have a := tbB_t.mp hk
          unfold tbP at a h ⊢
          omega)
        rw [hk, h2]
        simp only [if_true]
        split at ih <;> split <;> omega
      · rw [if_neg hk]
        split at ih <;> split <;> split <;> omega
theorem rk_inj {G : Nat → Nat → Ce} {n m p p' : Nat} (hp : p < m) (hp' : p' < m) (h : f_rk G n p m = f_rk G n p' m) : p = p' := by
  rcases Classical.em (p = p') with q | q
  · exact q
  · exfalso
    have : tbP G n p p' ∨ tbP G n p' p := by unfold tbP; omega
    rcases this with t | t
    · have := rk_mono t m
      rw [if_pos hp] at this
      omega
    · have := rk_mono t m
      rw [if_pos hp'] at this
      omega
theorem php : ∀ (m : Nat) (f : Nat → Nat), (∀ i, i < m → f i < m) → (∀ i j, i < m → j < m → f i = f j → i = j) → ∀ k, k < m → ∃ i, i < m ∧ f i = k
  | 0, _, _, _, k, h => absurd h (Nat.not_lt_zero _)
  | m + 1, f, h1, h2, k, hk => by
    have hne : ∀ i, i < m → f i ≠ f m := fun i hi q => by have := h2 i m (by omega) (by omega) q; omega
    by_cases hv : f m = m
    · by_cases hkm : k = m
      · exact ⟨m, by omega, by rw [hv, hkm]⟩
      · obtain ⟨i, hi, e⟩ := php m f (fun i hi => by have := h1 i (by omega); have := hne i hi; omega) (fun i j hi hj e => h2 i j (by omega) (by omega) e) k (by omega)
        exact ⟨i, by omega, e⟩
    · have hvm := h1 m (by omega)
      have ih := php m (fun i => if f i = m then f m else f i) (fun i hi => by
          have := h1 i (by omega)
          split <;> omega) (fun i j hi hj e => by
          have := hne i hi
          have := hne j hj
          split at e
          · split at e
            · exact h2 i j (by omega) (by omega) (by omega)
            · omega
          · split at e
            · omega
            · exact h2 i j (by omega) (by omega) e)
      by_cases hkm : k = m
      · obtain ⟨i, hi, e⟩ := ih (f m) (by omega)
        split at e
        · exact ⟨i, by omega, by omega⟩
        · exact absurd e (hne i hi)
      · obtain ⟨i, hi, e⟩ := ih k (by omega)
        split at e
        · exact ⟨m, by omega, e⟩
        · exact ⟨i, by omega, e⟩
theorem rk_ex {G : Nat → Nat → Ce} {n m k : Nat} (hk : k < m) : ∃ p, p < m ∧ f_rk G n p m = k :=
  php m (fun p => f_rk G n p m) (fun i hi => by have := rk_lt (G := G) (n := n) (p := i) m; rw [if_pos hi] at this; omega) (fun i j hi hj e => rk_inj hi hj e) k hk
theorem bu_le {G : Nat → Nat → Ce} {n : Nat} (hT : GTold G n) (hG : ∀ r, r < n → ∀ p q b k, G r p = some (some (q, b, k)) → q < 12) (p : Nat) : ∀ r, r ≤ n → f_bu G (f_sc G n) r p ≤ 2 * n * r
  | 0, _ => by simp [f_bu]
  | r + 1, hr => by
    have ih := bu_le hT hG p r (by omega)
    simp only [f_bu]
    rw [Nat.mul_succ]
    split
    · rename_i q b k hg
      have := f_sc_le2 (p := q) hT (hG r (by omega) p q b k hg)
      omega
    · omega
theorem be_le {G : Nat → Nat → Ce} {n p : Nat} (hT : GTold G n) (hp : p < 12) (hG : ∀ r, r < n → ∀ p q b k, G r p = some (some (q, b, k)) → q < 12) : ∀ r, r ≤ n → f_be G (f_sc G n) r p ≤ 4 * n * r
  | 0, _ => by simp [f_be]
  | r + 1, hr => by
    have ih := be_le hT hp hG r (by omega)
    simp only [f_be]
    rw [Nat.mul_succ]
    split
    · rename_i q b k hg
      have h1 := f_sc_le2 (p := q) hT (hG r (by omega) p q b k hg)
      have h2 : k * f_sc G n q ≤ 2 * (2 * n) := Nat.mul_le_mul (hT r (by omega) p hp q b k hg) h1
      omega
    · omega
theorem wi_le {G : Nat → Nat → Ce} {p : Nat} : ∀ r, f_wi G r p ≤ r
  | 0 => Nat.le_refl _
  | r + 1 => by
    have := wi_le (G := G) (p := p) r
    simp only [f_wi]
    split
    · split <;> omega
    · omega
theorem FOk.opp {m : Nat} {inn : Nat → Bool} {ap : Nat → Nat → Bool} {n : Nat} {op : Bool} {G : Nat → Nat → Ce} (hF : FOk m inn ap n op G) : ∀ r, r < n → ∀ p q b k, G r p = some (some (q, b, k)) → q < 12 := fun r hr p q b k h => by
  have := (hF.2.2.2.2.2.2.1 r (by unfold rnd; split <;> omega)).2 p q b k h
  have := hF.1.2
  omega
theorem sq16 {n : Nat} (h : n ≤ 16) : 2 * n * n ≤ 512 ∧ 4 * n * n ≤ 1024 := ⟨Nat.mul_le_mul (show 2 * n ≤ 32 by omega) h, Nat.mul_le_mul (show 4 * n ≤ 64 by omega) h⟩
set_option maxHeartbeats 4000000 in
theorem cM_isBefore (l : Launch) (g : GG) (d : Nat) (w : Wd) (G : Nat → Nat → Ce) (n p q : Nat) (hR : MRep w G n) (hT : GTold G n) (hG : ∀ r, r < n → ∀ p q b k, G r p = some (some (q, b, k)) → q < 12) (hn : n ≤ 16) (hcl : w 48 4 = nI n) (hp : p < 12) (hq : q < 12) : Con l g yM_isBefore bM_isBefore 7 ((some .boolean)) [] (d + 2) 0 0 [.ref (g.1 48), .int (nI p), .int (nI q)] w (Rp (An (some (.int (bI (tbB G n p q)))) w)) := by
  intro X hl ha hm hk hn' hc
  subst hl
  have s1 := f_sc_le2 (p := p) hT hp
  have s2 := f_sc_le2 (p := q) hT hq
  have s3 := bu_le hT hG p n (Nat.le_refl _)
  have s4 := bu_le hT hG q n (Nat.le_refl _)
  have s5 := be_le (p := p) hT hp hG n (Nat.le_refl _)
  have s6 := be_le (p := q) hT hq hG n (Nat.le_refl _)
  have s7 := wi_le (G := G) (p := p) n
  have s8 := wi_le (G := G) (p := q) n
  have s9 := sq16 hn
  refine r_aload_n hc dM_isBefore_0 rfl ?_
  refine r_iload_n hc dM_isBefore_1 rfl ?_
  refine kM_70r hc dM_isBefore_2 (cM_scoreOf _ g d w G n p hR hT hn hcl hp) (by omega) (Nat.le_of_ble_eq_true rfl) ?_
  rintro _ _ ⟨rfl, rfl⟩
  refine r_aload_n hc dM_isBefore_5 rfl ?_
  refine r_iload_n hc dM_isBefore_6 rfl ?_
  refine kM_70r hc dM_isBefore_7 (cM_scoreOf _ g d w G n q hR hT hn hcl hq) (by omega) (Nat.le_of_ble_eq_true rfl) ?_
  rintro _ _ ⟨rfl, rfl⟩
  refine r_isub hc dM_isBefore_10 ?_
  refine r_istore_n hc dM_isBefore_11 (Nat.le_of_ble_eq_true rfl) ?_
  refine r_aload_n hc dM_isBefore_12 rfl ?_
  refine r_iload_n hc dM_isBefore_13 rfl ?_
  refine kM_129r hc dM_isBefore_14 (cM_buchholzOf _ g d w G n p hR hT hn hcl hp) (by omega) (Nat.le_of_ble_eq_true rfl) ?_
  rintro _ _ ⟨rfl, rfl⟩
  refine r_aload_n hc dM_isBefore_17 rfl ?_
  refine r_iload_n hc dM_isBefore_18 rfl ?_
  refine kM_129r hc dM_isBefore_19 (cM_buchholzOf _ g d w G n q hR hT hn hcl hq) (by omega) (Nat.le_of_ble_eq_true rfl) ?_
  rintro _ _ ⟨rfl, rfl⟩
  refine r_isub hc dM_isBefore_22 ?_
  refine r_istore hc dM_isBefore_23 (Nat.le_of_ble_eq_true rfl) ?_
  refine r_aload_n hc dM_isBefore_25 rfl ?_
  refine r_iload_n hc dM_isBefore_26 rfl ?_
  refine kM_132r hc dM_isBefore_27 (cM_bergerOf _ g d w G n p hR hT hn hcl hp) (by omega) (Nat.le_of_ble_eq_true rfl) ?_
  rintro _ _ ⟨rfl, rfl⟩
  refine r_aload_n hc dM_isBefore_30 rfl ?_
  refine r_iload_n hc dM_isBefore_31 rfl ?_
  refine kM_132r hc dM_isBefore_32 (cM_bergerOf _ g d w G n q hR hT hn hcl hq) (by omega) (Nat.le_of_ble_eq_true rfl) ?_
  rintro _ _ ⟨rfl, rfl⟩
  refine r_isub hc dM_isBefore_35 ?_
  refine r_istore hc dM_isBefore_36 (Nat.le_of_ble_eq_true rfl) ?_
  refine r_aload_n hc dM_isBefore_38 rfl ?_
  refine r_iload_n hc dM_isBefore_39 rfl ?_
  refine kM_135r hc dM_isBefore_40 (cM_wonOf _ g d w G n p hR hT hn hcl hp) (by omega) (Nat.le_of_ble_eq_true rfl) ?_
  rintro _ _ ⟨rfl, rfl⟩
  refine r_aload_n hc dM_isBefore_43 rfl ?_
  refine r_iload_n hc dM_isBefore_44 rfl ?_
  refine kM_135r hc dM_isBefore_45 (cM_wonOf _ g d w G n q hR hT hn hcl hq) (by omega) (Nat.le_of_ble_eq_true rfl) ?_
  rintro _ _ ⟨rfl, rfl⟩
  refine r_isub hc dM_isBefore_48 ?_
  refine r_istore hc dM_isBefore_49 (Nat.le_of_ble_eq_true rfl) ?_
  refine r_iload_n hc dM_isBefore_51 rfl ?_
  have hyes : tbP G n p q → ∀ lp, Go X g 0 0 (Fen X g 0 0 (Rp (An (some (.int (bI (tbB G n p q)))) w))) w 131 lp [.int (nI 1)] := fun h lp => r_zret hc dM_isBefore_131 rfl ⟨by rw [tbB_t.mpr h]; rfl, rfl⟩
  have hno : ¬ tbP G n p q → ∀ lp, Go X g 0 0 (Fen X g 0 0 (Rp (An (some (.int (bI (tbB G n p q)))) w))) w 131 lp [.int (nI 0)] := fun h lp => r_zret hc dM_isBefore_131 rfl ⟨by rw [tbB_f.mpr h]; rfl, rfl⟩
  unfold tbP at hyes hno
  generalize f_sc G n p = a1 at *
  generalize f_sc G n q = a2 at *
  generalize f_bu G (f_sc G n) n p = b1 at *
  generalize f_bu G (f_sc G n) n q = b2 at *
  generalize f_be G (f_sc G n) n p = c1 at *
  generalize f_be G (f_sc G n) n q = c2 at *
  generalize f_wi G n p = e1 at *
  generalize f_wi G n q = e2 at *
  by_cases h1 : a1 = a2
  · refine r_if_eq_t hc dM_isBefore_52 (tgt := 67) (by decide) ((nsub_z (by omega) (by omega)).mpr h1) ?_
    refine r_iload hc dM_isBefore_67 rfl ?_
    by_cases h2 : b1 = b2
    · refine r_if_eq_t hc dM_isBefore_69 (tgt := 85) (by decide) ((nsub_z (by omega) (by omega)).mpr h2) ?_
      refine r_iload hc dM_isBefore_85 rfl ?_
      by_cases h3 : c1 = c2
      · refine r_if_eq_t hc dM_isBefore_87 (tgt := 103) (by decide) ((nsub_z (by omega) (by omega)).mpr h3) ?_
        refine r_iload hc dM_isBefore_103 rfl ?_
        by_cases h4 : e1 = e2
        · refine r_if_eq_t hc dM_isBefore_105 (tgt := 121) (by decide) ((nsub_z (by omega) (by omega)).mpr h4) ?_
          refine r_iload_n hc dM_isBefore_121 rfl ?_
          refine r_iload_n hc dM_isBefore_122 rfl ?_
          by_cases h5 : p < q
          · refine r_ic_ge_f hc dM_isBefore_123 (tgt := 130) (by decide) (nI_ge h5 (by omega)) ?_
            refine r_iconst hc dM_isBefore_126 (nI 1) (by decide) ?_
            refine r_goto hc dM_isBefore_127 (tgt := 131) (by decide) ?_
            exact hyes (by omega) _
          · refine r_ic_ge_t hc dM_isBefore_123 (tgt := 130) (by decide) (nI_le (by omega) (by omega)) ?_
            refine r_iconst hc dM_isBefore_130 (nI 0) (by decide) ?_
            exact hno (by omega) _
        · refine r_if_eq_f hc dM_isBefore_105 (tgt := 121) (by decide) (fun z => h4 ((nsub_z (by omega) (by omega)).mp z)) ?_
          refine r_iload hc dM_isBefore_108 rfl ?_
          by_cases h5 : e2 < e1
          · refine r_if_le_f hc dM_isBefore_110 (tgt := 117) (by decide) (fun z => absurd ((nsub_gt (by omega) (by omega)).mpr h5) (Int32.not_lt.mpr z)) ?_
            refine r_iconst hc dM_isBefore_113 (nI 1) (by decide) ?_
            refine r_goto hc dM_isBefore_114 (tgt := 131) (by decide) ?_
            exact hyes (by omega) _
          · refine r_if_le_t hc dM_isBefore_110 (tgt := 117) (by decide) (Int32.not_lt.mp (fun z => h5 ((nsub_gt (by omega) (by omega)).mp z))) ?_
            refine r_iconst hc dM_isBefore_117 (nI 0) (by decide) ?_
            refine r_goto hc dM_isBefore_118 (tgt := 131) (by decide) ?_
            exact hno (by omega) _
      · refine r_if_eq_f hc dM_isBefore_87 (tgt := 103) (by decide) (fun z => h3 ((nsub_z (by omega) (by omega)).mp z)) ?_
        refine r_iload hc dM_isBefore_90 rfl ?_
        by_cases h5 : c2 < c1
        · refine r_if_le_f hc dM_isBefore_92 (tgt := 99) (by decide) (fun z => absurd ((nsub_gt (by omega) (by omega)).mpr h5) (Int32.not_lt.mpr z)) ?_
          refine r_iconst hc dM_isBefore_95 (nI 1) (by decide) ?_
          refine r_goto hc dM_isBefore_96 (tgt := 131) (by decide) ?_
          exact hyes (by omega) _
        · refine r_if_le_t hc dM_isBefore_92 (tgt := 99) (by decide) (Int32.not_lt.mp (fun z => h5 ((nsub_gt (by omega) (by omega)).mp z))) ?_
          refine r_iconst hc dM_isBefore_99 (nI 0) (by decide) ?_
          refine r_goto hc dM_isBefore_100 (tgt := 131) (by decide) ?_
          exact hno (by omega) _
    · refine r_if_eq_f hc dM_isBefore_69 (tgt := 85) (by decide) (fun z => h2 ((nsub_z (by omega) (by omega)).mp z)) ?_
      refine r_iload hc dM_isBefore_72 rfl ?_
      by_cases h5 : b2 < b1
      · refine r_if_le_f hc dM_isBefore_74 (tgt := 81) (by decide) (fun z => absurd ((nsub_gt (by omega) (by omega)).mpr h5) (Int32.not_lt.mpr z)) ?_
        refine r_iconst hc dM_isBefore_77 (nI 1) (by decide) ?_
        refine r_goto hc dM_isBefore_78 (tgt := 131) (by decide) ?_
        exact hyes (by omega) _
      · refine r_if_le_t hc dM_isBefore_74 (tgt := 81) (by decide) (Int32.not_lt.mp (fun z => h5 ((nsub_gt (by omega) (by omega)).mp z))) ?_
        refine r_iconst hc dM_isBefore_81 (nI 0) (by decide) ?_
        refine r_goto hc dM_isBefore_82 (tgt := 131) (by decide) ?_
        exact hno (by omega) _
  · refine r_if_eq_f hc dM_isBefore_52 (tgt := 67) (by decide) (fun z => h1 ((nsub_z (by omega) (by omega)).mp z)) ?_
    refine r_iload_n hc dM_isBefore_55 rfl ?_
    by_cases h5 : a2 < a1
    · refine r_if_le_f hc dM_isBefore_56 (tgt := 63) (by decide) (fun z => absurd ((nsub_gt (by omega) (by omega)).mpr h5) (Int32.not_lt.mpr z)) ?_
      refine r_iconst hc dM_isBefore_59 (nI 1) (by decide) ?_
      refine r_goto hc dM_isBefore_60 (tgt := 131) (by decide) ?_
      exact hyes (by omega) _
    · refine r_if_le_t hc dM_isBefore_56 (tgt := 63) (by decide) (Int32.not_lt.mp (fun z => h5 ((nsub_gt (by omega) (by omega)).mp z))) ?_
      refine r_iconst hc dM_isBefore_63 (nI 0) (by decide) ?_
      refine r_goto hc dM_isBefore_64 (tgt := 131) (by decide) ?_
      exact hno (by omega) _
theorem cM_table (l : Launch) (g : GG) (d : Nat) (w : Wd) (m : Nat) (inn : Nat → Bool) (ap : Nat → Nat → Bool) (n : Nat) (op : Bool) (G : Nat → Nat → Ce) (x : Int32) (hF : FOk m inn ap n op G) (hS : MS w m inn ap n op G) : Con l g yM_table bM_table 5 ((some .int)) [] (d + 3) 0 0 [.ref (g.1 48), .int x] w (Rp (MPost w (rfK (!isP m x) false false) (if isP m x then (fun v => ∃ p, p < m ∧ f_rk G n p m = pN x ∧ v = some (.int (nI p))) else vAny) m inn ap n op G)) := by
  intro X hl ha hm' hk hn' hc
  subst hl
  have hm := hF.1.2
  have hn16 := hF.2.1
  obtain ⟨Q, hQ⟩ : ∃ Q, Q = Fen X g 0 0 (Rp (MPost w (rfK (!isP m x) false false) (if isP m x then (fun v => ∃ p, p < m ∧ f_rk G n p m = pN x ∧ v = some (.int (nI p))) else vAny) m inn ap n op G)) := ⟨_, rfl⟩
  rw [← hQ]
  generalize hKK : rfK (!isP m x) false false = K at hQ
  have hS1 := hS.thr (nI K)
  have h23 : Go X g 0 0 Q (wu w 48 0 (nI K)) 23 [some (.ref (g.1 48)), some (.int x), none, none, none] [.int (bI (!isP m x || false || false))] := by
    cases hx : isP m x with
    | false =>
      simp only [hx, Bool.false_eq_true, if_false] at hQ
      refine r_if_eq_f hc dM_table_23 (tgt := 28) (by decide) (by decide) ?_
      refine r_iconst hc dM_table_26 (nI 0) (by decide) ?_
      subst hQ
      exact r_iret hc dM_table_27 ⟨⟨_, rfl⟩, wu_at _ _ _ _, hS1, (FrM.rf w).put 48 0 _ (by decide)⟩
    | true =>
      simp only [hx, if_true] at hQ
      obtain ⟨k, hkm, rfl⟩ := isP_t hx hm
      rw [pN_nI (by omega)] at hQ
      refine r_if_eq_t hc dM_table_23 (tgt := 28) (by decide) rfl ?_
      refine r_iconst hc dM_table_28 (nI 0) (by decide) ?_
      refine r_istore_n hc dM_table_29 (Nat.le_of_ble_eq_true rfl) ?_
      have hgen : ∀ r, r ≤ m → ∀ w1, w1 48 0 = nI K → (∀ j, j ≠ 59 → w1 j = wu w 48 0 (nI K) j) → (∀ p, p < r → w1 59 (f_rk G n p m) = nI p) → Go X g 0 0 Q w1 30 [some (.ref (g.1 48)), some (.int (nI k)), some (.int (nI r)), none, none] [] := by
        refine lp_up (P := fun r => ∀ w1, w1 48 0 = nI K → (∀ j, j ≠ 59 → w1 j = wu w 48 0 (nI K) j) → (∀ p, p < r → w1 59 (f_rk G n p m) = nI p) → Go X g 0 0 Q w1 30 [some (.ref (g.1 48)), some (.int (nI k)), some (.int (nI r)), none, none] []) ?_
        intro r hr ih w1 e0 e1 e2
        have hS2 : MS w1 m inn ap n op G := hS1.congr (by rw [e1 48 (by decide)]) (by rw [e1 48 (by decide)]) (by rw [e1 48 (by decide)]) (fun j h1 h2 => e1 j (by omega))
        refine r_iload_n hc dM_table_30 rfl ?_
        refine r_aload_n hc dM_table_31 rfl ?_
        refine gM_44 hc dM_table_32 ?_
        rw [hS2.1]
        refine r_ic_ge hc dM_table_35 (tgt := 95) (by decide) (fun h => ?_) (fun h => ?_)
        · have hr2 : r = m := by have := nle_to h (by omega) (by omega); omega
          subst hr2
          obtain ⟨p, hp, hpk⟩ := rk_ex (G := G) (n := n) hkm
          refine r_aload_n hc dM_table_95 rfl ?_
          refine gM_41 hc dM_table_96 ?_
          refine r_iload_n hc dM_table_99 rfl ?_
          refine r_ialdN hc dM_table_100 rfl (by first | omega | (show _ < 12; omega) | (show _ < 204; omega) | (show _ < 144; omega) | (show _ < 2048; omega) | (show _ < 4096; omega) | (show _ < 16; omega)) ?_
          subst hQ
          refine r_iret hc dM_table_101 ⟨⟨p, hp, hpk, ?_⟩, e0, hS2, fun j hj => ?_⟩
          · rw [← hpk, e2 p hp]
          · rw [e1 j (by omega), wu_ne (by omega)]
        · have hr2 : r < m := nle_of h (by omega) (by omega)
          have ih := ih hr2
          simp only [← nI_add] at ih
          refine r_iconst hc dM_table_38 (nI 0) (by decide) ?_
          refine r_istore_n hc dM_table_39 (Nat.le_of_ble_eq_true rfl) ?_
          refine r_iconst hc dM_table_40 (nI 0) (by decide) ?_
          refine r_istore hc dM_table_41 (Nat.le_of_ble_eq_true rfl) ?_
          refine lp_up (P := fun q => Go X g 0 0 Q w1 43 [some (.ref (g.1 48)), some (.int (nI k)), some (.int (nI r)), some (.int (nI (f_rk G n r q))), some (.int (nI q))] []) (n := m) ?_ 0 (Nat.zero_le _)
          intro q hq ihq
          refine r_iload hc dM_table_43 rfl ?_
          refine r_aload_n hc dM_table_45 rfl ?_
          refine gM_44 hc dM_table_46 ?_
          rw [hS2.1]
          refine r_ic_ge hc dM_table_49 (tgt := 82) (by decide) (fun h2 => ?_) (fun h2 => ?_)
          · have hq2 : q = m := by have := nle_to h2 (by omega) (by omega); omega
            subst hq2
            have hrk := rk_lt (G := G) (n := n) (p := r) q
            rw [if_pos hr2] at hrk
            refine r_aload_n hc dM_table_82 rfl ?_
            refine gM_41 hc dM_table_83 ?_
            refine r_iload_n hc dM_table_86 rfl ?_
            refine r_iload_n hc dM_table_87 rfl ?_
            refine r_iastN hc dM_table_88 rfl (by first | omega | (show _ < 12; omega) | (show _ < 204; omega) | (show _ < 144; omega) | (show _ < 2048; omega) | (show _ < 4096; omega) | (show _ < 16; omega)) ?_
            refine r_iinc hc dM_table_89 rfl ?_
            refine r_goto hc dM_table_92 (tgt := 30) (by decide) ?_
            refine Go.drop 3 (Go.drop 4 ?_)
            refine ih _ ?_ (fun j hj => ?_) (fun p hp => ?_)
            · rw [wu_o1 (by decide)]; exact e0
            · rw [wu_ne hj]; exact e1 j hj
            · by_cases hpr : p = r
              · subst hpr
                rw [wu_at]
              · rw [wu_o2 (fun z => hpr (rk_inj (by omega) hr2 z))]
                exact e2 p (by omega)
          · have hq2 : q < m := nle_of h2 (by omega) (by omega)
            have ihq := ihq hq2
            simp only [f_rk] at ihq
            refine r_iload hc dM_table_52 rfl ?_
            refine r_iload_n hc dM_table_54 rfl ?_
            by_cases hqr : q = r
            · subst hqr
              rw [show tbB G n q q = false from tbB_f.mpr (by unfold tbP; omega)] at ihq
              simp only [Bool.false_eq_true, if_false, ← nI_add] at ihq
              refine r_ic_eq_t hc dM_table_55 (tgt := 74) (by decide) rfl ?_
              refine r_iload_n hc dM_table_74 rfl ?_
              refine r_istore_n hc dM_table_75 (Nat.le_of_ble_eq_true rfl) ?_
              refine r_iinc hc dM_table_76 rfl ?_
              refine r_goto hc dM_table_79 (tgt := 43) (by decide) ?_
              exact ihq
            · refine r_ic_eq_f hc dM_table_55 (tgt := 74) (by decide) (fun z => hqr ((nI_eq (by omega) (by omega)).mp z)) ?_
              refine r_aload_n hc dM_table_58 rfl ?_
              refine r_iload hc dM_table_59 rfl ?_
              refine r_iload_n hc dM_table_61 rfl ?_
              refine kM_141r hc dM_table_62 (cM_isBefore _ g d w1 G n q r hS2.rep hF.2.2.2.1 hF.opp hn16 hS2.2.1 (by omega) (by omega)) (by omega) (Nat.le_of_ble_eq_true rfl) ?_
              rintro _ _ ⟨rfl, rfl⟩
              cases ht : tbB G n q r with
              | true =>
                rw [ht] at ihq
                simp only [if_true, ← nI_add] at ihq
                refine r_if_eq_f hc dM_table_65 (tgt := 74) (by decide) (by decide) ?_
                refine r_iload_n hc dM_table_68 rfl ?_
                refine r_iconst hc dM_table_69 (nI 1) (by decide) ?_
                refine r_iadd hc dM_table_70 ?_
                refine r_goto hc dM_table_71 (tgt := 75) (by decide) ?_
                refine r_istore_n hc dM_table_75 (Nat.le_of_ble_eq_true rfl) ?_
                refine r_iinc hc dM_table_76 rfl ?_
                refine r_goto hc dM_table_79 (tgt := 43) (by decide) ?_
                exact ihq
              | false =>
                rw [ht] at ihq
                simp only [Bool.false_eq_true, if_false, ← nI_add] at ihq
                refine r_if_eq_t hc dM_table_65 (tgt := 74) (by decide) rfl ?_
                refine r_iload_n hc dM_table_74 rfl ?_
                refine r_istore_n hc dM_table_75 (Nat.le_of_ble_eq_true rfl) ?_
                refine r_iinc hc dM_table_76 rfl ?_
                refine r_goto hc dM_table_79 (tgt := 43) (by decide) ?_
                exact ihq
      exact hgen 0 (Nat.zero_le _) _ (wu_at _ _ _ _) (fun _ _ => rfl) (fun p hp => absurd hp (Nat.not_lt_zero _))
  have h18 : Go X g 0 0 Q w 18 [some (.ref (g.1 48)), some (.int x), none, none, none] [.int (bI (!isP m x)), .ref (g.1 48)] := by
    refine r_iconst hc dM_table_18 (nI 0) (by decide) ?_
    refine r_iconst hc dM_table_19 (nI 0) (by decide) ?_
    refine kM_55r hc dM_table_20 (cM_refused _ g d w _ false false) (by omega) (Nat.le_of_ble_eq_true rfl) ?_
    rintro _ _ ⟨rfl, rfl⟩
    rw [hKK]
    exact h23
  refine r_aload_n hc dM_table_0 rfl ?_
  refine r_iload_n hc dM_table_1 rfl ?_
  refine r_if_lt hc dM_table_2 (tgt := 13) (by decide) (fun h1 => ?_) (fun h1 => ?_)
  · rw [show isP m x = false from decide_eq_false (fun z => absurd h1 (Int32.not_lt.mpr z.1))] at h18
    refine r_iconst hc dM_table_13 (nI 1) (by decide) ?_
    refine r_goto hc dM_table_14 (tgt := 18) (by decide) ?_
    exact h18
  · refine r_iload_n hc dM_table_5 rfl ?_
    refine r_aload_n hc dM_table_6 rfl ?_
    refine gM_44 hc dM_table_7 ?_
    rw [hS.1]
    refine r_ic_lt hc dM_table_10 (tgt := 17) (by decide) (fun h2 => ?_) (fun h2 => ?_)
    · rw [show isP m x = true from decide_eq_true ⟨Int32.not_lt.mp h1, h2⟩] at h18
      refine r_iconst hc dM_table_17 (nI 0) (by decide) ?_
      exact h18
    · rw [show isP m x = false from decide_eq_false (fun z => h2 z.2)] at h18
      refine r_iconst hc dM_table_13 (nI 1) (by decide) ?_
      refine r_goto hc dM_table_14 (tgt := 18) (by decide) ?_
      exact h18
