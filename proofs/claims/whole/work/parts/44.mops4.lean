/-! the reference: untold, missing, close, report -/
def ceU : Ce → Bool
  | some (some (_, _, k)) => k == 3
  | _ => false
/-- how many of the first have a game that is not told -/
def f_un (R : Nat → Ce) : Nat → Nat
  | 0 => 0
  | p + 1 => if ceU (R p) then f_un R p + 1 else f_un R p
theorem f_un_le (R : Nat → Ce) : ∀ m, f_un R m ≤ m
  | 0 => Nat.le_refl _
  | m + 1 => by
    have := f_un_le R m
    simp only [f_un]
    split <;> omega
theorem cM_untold (l : Launch) (g : GG) (d : Nat) (w : Wd) (m n : Nat) (G : Nat → Nat → Ce) (hm : m ≤ 12) (hn : n < 16) (hpl : w 48 1 = nI m) (hcl : w 48 4 = nI n) (hR : MRep w G (n + 1)) : Con l g yM_untold bM_untold 3 ((some .int)) [] (d + 1) 0 0 [.ref (g.1 48)] w (Rp (An (some (.int (nI (f_un (G n) m / 2)))) w)) := by
  intro X hl ha hm' hk hn' hc
  subst hl
  refine r_iconst hc dM_untold_0 (nI 0) (by decide) ?_
  refine r_istore_n hc dM_untold_1 (Nat.le_of_ble_eq_true rfl) ?_
  refine r_iconst hc dM_untold_2 (nI 0) (by decide) ?_
  refine r_istore_n hc dM_untold_3 (Nat.le_of_ble_eq_true rfl) ?_
  refine lp_up (P := fun r => Go X g 0 0 _ w 4 [some (.ref (g.1 48)), some (.int (nI (f_un (G n) r))), some (.int (nI r))] []) (n := m) ?_ 0 (Nat.zero_le _)
  intro r hr ih
  refine r_iload_n hc dM_untold_4 rfl ?_
  refine r_aload_n hc dM_untold_5 rfl ?_
  refine gM_44 hc dM_untold_6 ?_
  rw [hpl]
  refine r_ic_ge hc dM_untold_9 (tgt := 55) (by decide) (fun h => ?_) (fun h => ?_)
  · have hr2 : r = m := by have := nle_to h (by omega) (by omega); omega
    subst hr2
    have := f_un_le (G n) r
    refine r_iload_n hc dM_untold_55 rfl ?_
    refine r_iconst hc dM_untold_56 (nI 2) (by decide) ?_
    refine r_idiv hc dM_untold_57 (by decide) ?_
    rw [pk_div (by omega) (by decide) (by decide)]
    exact r_iret hc dM_untold_58 ⟨rfl, rfl⟩
  · have hr2 : r < m := nle_of h (by omega) (by omega)
    have ih := ih hr2
    refine r_aload_n hc dM_untold_12 rfl ?_
    refine r_aload_n hc dM_untold_13 rfl ?_
    refine gM_63 hc dM_untold_14 ?_
    rw [hcl]
    refine r_iload_n hc dM_untold_17 rfl ?_
    refine kM_66r hc dM_untold_18 (cM_hadGame _ g d w G (n + 1) n r hR (by omega) (by omega) (by omega)) (Nat.le_refl _) (Nat.le_of_ble_eq_true rfl) ?_
    rintro _ _ ⟨rfl, rfl⟩
    have hM := hR n (by omega) r (by omega)
    rcases hg : G n r with _ | _ | ⟨q, b, k⟩ <;> rw [hg] at hM <;> simp only [McOk] at hM <;> simp only [f_un, hg, ceU] at ih
    · simp only [Bool.false_eq_true, if_false, ← nI_add] at ih
      refine r_if_eq_t hc dM_untold_21 (tgt := 47) (by decide) rfl ?_
      refine r_iload_n hc dM_untold_47 rfl ?_
      refine r_istore_n hc dM_untold_48 (Nat.le_of_ble_eq_true rfl) ?_
      refine r_iinc hc dM_untold_49 rfl ?_
      refine r_goto hc dM_untold_52 (tgt := 4) (by decide) ?_
      exact ih
    · simp only [Bool.false_eq_true, if_false, ← nI_add] at ih
      refine r_if_eq_t hc dM_untold_21 (tgt := 47) (by decide) rfl ?_
      refine r_iload_n hc dM_untold_47 rfl ?_
      refine r_istore_n hc dM_untold_48 (Nat.le_of_ble_eq_true rfl) ?_
      refine r_iinc hc dM_untold_49 rfl ?_
      refine r_goto hc dM_untold_52 (tgt := 4) (by decide) ?_
      exact ih
    · obtain ⟨q1, q2, q3, q4, q5⟩ := hM
      refine r_if_eq_f hc dM_untold_21 (tgt := 47) (by decide) (show ¬ bI true = 0 by decide) ?_
      refine r_aload_n hc dM_untold_24 rfl ?_
      refine gM_23 hc dM_untold_25 ?_
      refine r_bipush hc dM_untold_28 (nI 12) (by decide) ?_
      refine r_aload_n hc dM_untold_30 rfl ?_
      refine gM_63 hc dM_untold_31 ?_
      rw [hcl]
      refine r_imul hc dM_untold_34 ?_
      refine r_iload_n hc dM_untold_35 rfl ?_
      refine r_iadd hc dM_untold_36 ?_
      rw [ix12]
      refine r_ialdN hc dM_untold_37 rfl (by first | omega | (show _ < 12; omega) | (show _ < 204; omega) | (show _ < 144; omega) | (show _ < 2048; omega) | (show _ < 4096; omega) | (show _ < 16; omega)) ?_
      rw [q5]
      by_cases hk3 : k = 3
      · subst hk3
        simp only [BEq.rfl, if_true, ← nI_add] at ih
        rw [if_pos rfl]
        refine r_if_ge_f hc dM_untold_38 (tgt := 47) (by decide) (by decide) ?_
        refine r_iload_n hc dM_untold_41 rfl ?_
        refine r_iconst hc dM_untold_42 (nI 1) (by decide) ?_
        refine r_iadd hc dM_untold_43 ?_
        refine r_goto hc dM_untold_44 (tgt := 48) (by decide) ?_
        refine r_istore_n hc dM_untold_48 (Nat.le_of_ble_eq_true rfl) ?_
        refine r_iinc hc dM_untold_49 rfl ?_
        refine r_goto hc dM_untold_52 (tgt := 4) (by decide) ?_
        exact ih
      · rw [if_neg hk3]
        rw [if_neg (by simpa using hk3)] at ih
        simp only [← nI_add] at ih
        refine r_if_ge_t hc dM_untold_38 (tgt := 47) (by decide) (nI_pos' (by omega)) ?_
        refine r_iload_n hc dM_untold_47 rfl ?_
        refine r_istore_n hc dM_untold_48 (Nat.le_of_ble_eq_true rfl) ?_
        refine r_iinc hc dM_untold_49 rfl ?_
        refine r_goto hc dM_untold_52 (tgt := 4) (by decide) ?_
        exact ih
theorem cM_missing (l : Launch) (g : GG) (d : Nat) (w : Wd) (m : Nat) (inn : Nat → Bool) (ap : Nat → Nat → Bool) (n : Nat) (op : Bool) (G : Nat → Nat → Ce) (hF : FOk m inn ap n op G) (hS : MS w m inn ap n op G) : Con l g yM_missing bM_missing 1 ((some .int)) [] (d + 2) 0 0 [.ref (g.1 48)] w (Rp (MPost w (rfK (!op) false false) (if op then vIs (nI (f_un (G n) m / 2)) else vAny) m inn ap n op G)) := by
  intro X hl ha hm' hk hn' hc
  subst hl
  have hm := hF.1.2
  refine r_aload_n hc dM_missing_0 rfl ?_
  refine r_aload_n hc dM_missing_1 rfl ?_
  refine gM_51 hc dM_missing_2 ?_
  rw [hS.2.2.1]
  cases op with
  | false =>
    refine r_if_ne_f hc dM_missing_5 (tgt := 12) (by decide) rfl ?_
    refine r_iconst hc dM_missing_8 (nI 1) (by decide) ?_
    refine r_goto hc dM_missing_9 (tgt := 13) (by decide) ?_
    refine r_iconst hc dM_missing_13 (nI 0) (by decide) ?_
    refine r_iconst hc dM_missing_14 (nI 0) (by decide) ?_
    refine kM_55r hc dM_missing_15 (cM_refused _ g d w true false false) (by omega) (Nat.le_of_ble_eq_true rfl) ?_
    rintro _ _ ⟨rfl, rfl⟩
    refine r_if_eq_f hc dM_missing_18 (tgt := 25) (by decide) (by decide) ?_
    refine r_iconst hc dM_missing_21 (nI 0) (by decide) ?_
    refine r_goto hc dM_missing_22 (tgt := 29) (by decide) ?_
    exact r_iret hc dM_missing_29 ⟨⟨_, rfl⟩, wu_at _ _ _ _, hS.thr _, (FrM.rf w).put 48 0 _ (by decide)⟩
  | true =>
    refine r_if_ne_t hc dM_missing_5 (tgt := 12) (by decide) (by decide) ?_
    refine r_iconst hc dM_missing_12 (nI 0) (by decide) ?_
    refine r_iconst hc dM_missing_13 (nI 0) (by decide) ?_
    refine r_iconst hc dM_missing_14 (nI 0) (by decide) ?_
    refine kM_55r hc dM_missing_15 (cM_refused _ g d w false false false) (by omega) (Nat.le_of_ble_eq_true rfl) ?_
    rintro _ _ ⟨rfl, rfl⟩
    have hS1 := hS.thr (nI (rfK false false false))
    refine r_if_eq_t hc dM_missing_18 (tgt := 25) (by decide) rfl ?_
    refine r_aload_n hc dM_missing_25 rfl ?_
    refine kM_126r hc dM_missing_26 (cM_untold _ g d _ m n G hm (hF.2.2.1 rfl) hS1.1 hS1.2.1 hS1.2.2.2.2.2) (by omega) (Nat.le_of_ble_eq_true rfl) ?_
    rintro _ _ ⟨rfl, rfl⟩
    exact r_iret hc dM_missing_29 ⟨rfl, wu_at _ _ _ _, hS1, (FrM.rf w).put 48 0 _ (by decide)⟩
def clOk (op : Bool) (R : Nat → Ce) (m : Nat) : Bool := op && decide (f_un R m / 2 = 0)
theorem cM_close (l : Launch) (g : GG) (d : Nat) (w : Wd) (m : Nat) (inn : Nat → Bool) (ap : Nat → Nat → Bool) (n : Nat) (op : Bool) (G : Nat → Nat → Ce) (hF : FOk m inn ap n op G) (hS : MS w m inn ap n op G) : Con l g yM_close bM_close 1 ((some .int)) [] (d + 2) 0 0 [.ref (g.1 48)] w (Rp (MPost w (rfK (!clOk op (G n) m) false false) (if clOk op (G n) m then vIs (nI (n + 1)) else vAny) m inn ap (if clOk op (G n) m then n + 1 else n) (if clOk op (G n) m then false else op) G)) := by
  intro X hl ha hm' hk hn' hc
  subst hl
  have hm := hF.1.2
  obtain ⟨Q, hQ⟩ : ∃ Q, Q = Fen X g 0 0 (Rp (MPost w (rfK (!clOk op (G n) m) false false) (if clOk op (G n) m then vIs (nI (n + 1)) else vAny) m inn ap (if clOk op (G n) m then n + 1 else n) (if clOk op (G n) m then false else op) G)) := ⟨_, rfl⟩
  rw [← hQ]
  generalize hKK : rfK (!clOk op (G n) m) false false = K at hQ
  have hS1 := hS.thr (nI K)
  have h20 : Go X g 0 0 Q w 20 [some (.ref (g.1 48))] [.int (bI (!clOk op (G n) m)), .ref (g.1 48)] := by
    refine r_iconst hc dM_close_20 (nI 0) (by decide) ?_
    refine r_iconst hc dM_close_21 (nI 0) (by decide) ?_
    refine kM_55r hc dM_close_22 (cM_refused _ g d w _ false false) (by omega) (Nat.le_of_ble_eq_true rfl) ?_
    rintro _ _ ⟨rfl, rfl⟩
    rw [hKK]
    cases hb : clOk op (G n) m with
    | false =>
      simp only [hb, Bool.false_eq_true, if_false] at hQ
      refine r_if_eq_f hc dM_close_25 (tgt := 30) (by decide) (by decide) ?_
      refine r_iconst hc dM_close_28 (nI 0) (by decide) ?_
      subst hQ
      exact r_iret hc dM_close_29 ⟨⟨_, rfl⟩, wu_at _ _ _ _, hS1, (FrM.rf w).put 48 0 _ (by decide)⟩
    | true =>
      simp only [hb, if_true] at hQ
      have hop : op = true := by unfold clOk at hb; rw [Bool.and_eq_true] at hb; exact hb.1
      refine r_if_eq_t hc dM_close_25 (tgt := 30) (by decide) rfl ?_
      refine r_aload_n hc dM_close_30 rfl ?_
      refine r_iconst hc dM_close_31 (nI 0) (by decide) ?_
      refine pM_51 hc dM_close_32 (by first | exact Or.inl rfl | exact Or.inr rfl | assumption) ?_
      refine r_aload_n hc dM_close_35 rfl ?_
      refine r_dup hc dM_close_36 rfl ?_
      refine gM_63 hc dM_close_37 ?_
      rw [wu_o2 (by decide), hS1.2.1]
      refine r_iconst hc dM_close_40 (nI 1) (by decide) ?_
      refine r_iadd hc dM_close_41 ?_
      rw [nI_add]
      refine pM_63 hc dM_close_42 ?_
      refine r_aload_n hc dM_close_45 rfl ?_
      refine gM_63 hc dM_close_46 ?_
      subst hQ
      refine r_iret hc dM_close_49 ⟨?_, ?_, ⟨?_, ?_, ?_, fun p hp => ?_, fun p q h1 h2 => ?_, fun r hr p hp => ?_⟩, (((FrM.rf w).put 48 0 _ (by decide)).put 48 5 _ (by decide)).put 48 4 _ (by decide)⟩
      · rw [wu_at]; rfl
      · rw [wu_o2 (by decide), wu_o2 (by decide), wu_at]
      · rw [wu_o2 (by decide), wu_o2 (by decide)]; exact hS1.1
      · rw [wu_at]
      · rw [wu_o2 (by decide), wu_at]; rfl
      · rw [wu_o1 (by decide), wu_o1 (by decide)]; exact hS1.2.2.2.1 p hp
      · rw [wu_o1 (by decide), wu_o1 (by decide)]; exact hS1.2.2.2.2.1 p q h1 h2
      · rw [wu_o1 (by decide), wu_o1 (by decide), wu_o1 (by decide), wu_o1 (by decide), wu_o1 (by decide), wu_o1 (by decide)]
        exact hS1.2.2.2.2.2 r (by rw [hop]; exact hr) p hp
  refine r_aload_n hc dM_close_0 rfl ?_
  refine r_aload_n hc dM_close_1 rfl ?_
  refine gM_51 hc dM_close_2 ?_
  rw [hS.2.2.1]
  cases op with
  | false =>
    refine r_if_eq_t hc dM_close_5 (tgt := 15) (by decide) rfl ?_
    refine r_iconst hc dM_close_15 (nI 1) (by decide) ?_
    refine r_goto hc dM_close_16 (tgt := 20) (by decide) ?_
    exact h20
  | true =>
    refine r_if_eq_f hc dM_close_5 (tgt := 15) (by decide) (by decide) ?_
    refine r_aload_n hc dM_close_8 rfl ?_
    refine kM_126r hc dM_close_9 (cM_untold _ g d _ m n G hm (hF.2.2.1 rfl) hS.1 hS.2.1 hS.2.2.2.2.2) (by omega) (Nat.le_of_ble_eq_true rfl) ?_
    rintro _ _ ⟨rfl, rfl⟩
    have := f_un_le (G n) m
    by_cases h0 : f_un (G n) m / 2 = 0
    · rw [show clOk true (G n) m = true by simp [clOk, h0]] at h20
      rw [h0]
      refine r_if_le_t hc dM_close_12 (tgt := 19) (by decide) (by decide) ?_
      refine r_iconst hc dM_close_19 (nI 0) (by decide) ?_
      exact h20
    · rw [show clOk true (G n) m = false by simp [clOk, h0]] at h20
      refine r_if_le_f hc dM_close_12 (tgt := 19) (by decide) (nI_nle (by omega) (by omega)) ?_
      refine r_iconst hc dM_close_15 (nI 1) (by decide) ?_
      refine r_goto hc dM_close_16 (tgt := 20) (by decide) ?_
      exact h20
def rpOk (m n : Nat) (op : Bool) (G : Nat → Nat → Ce) (x : Int32) : Bool := op && isP m x && ceU (G n (pN x))
/-- the result k is told of p's game in a row -/
def rowTold (R : Nat → Ce) (p k : Nat) : Nat → Ce := match R p with
  | some (some (q, b, _)) => fun i => if i = q then some (some (p, !b, 2 - k)) else if i = p then some (some (q, b, k)) else R i
  | _ => R
def gUp (G : Nat → Nat → Ce) (n : Nat) (R : Nat → Ce) : Nat → Nat → Ce := fun r => if r = n then R else G r
set_option maxHeartbeats 4000000 in
theorem cM_report (l : Launch) (g : GG) (d : Nat) (w : Wd) (m : Nat) (inn : Nat → Bool) (ap : Nat → Nat → Bool) (n : Nat) (op : Bool) (G : Nat → Nat → Ce) (x y : Int32) (hF : FOk m inn ap n op G) (hS : MS w m inn ap n op G) : Con l g yM_report bM_report 4 ((none : Option Jvm.ClassFile.FieldType)) [] (d + 1) 0 0 [.ref (g.1 48), .int x, .int y] w (Rp (MPost w (rfK (!isP m x) (!inR y 2) (!rpOk m n op G x)) (fun v => v = none) m inn ap n op (if inR y 2 && rpOk m n op G x then gUp G n (rowTold (G n) (pN x) (pN y)) else G))) := by
  intro X hl ha hm' hk hn' hc
  subst hl
  have hm := hF.1.2
  obtain ⟨Q, hQ⟩ : ∃ Q, Q = Fen X g 0 0 (Rp (MPost w (rfK (!isP m x) (!inR y 2) (!rpOk m n op G x)) (fun v => v = none) m inn ap n op (if inR y 2 && rpOk m n op G x then gUp G n (rowTold (G n) (pN x) (pN y)) else G))) := ⟨_, rfl⟩
  rw [← hQ]
  generalize hKK : rfK (!isP m x) (!inR y 2) (!rpOk m n op G x) = K at hQ
  have hS1 := hS.thr (nI K)
  have h90 : Go X g 0 0 Q (wu w 48 0 (nI K)) 90 [some (.ref (g.1 48)), some (.int x), some (.int y), some (.int (bI (rpOk m n op G x)))] [.int (bI (!isP m x || !inR y 2 || !rpOk m n op G x))] := by
    cases hb : (inR y 2 && rpOk m n op G x) with
    | false =>
      simp only [hb, Bool.false_eq_true, if_false] at hQ
      rw [show (!isP m x || !inR y 2 || !rpOk m n op G x) = true by revert hb; cases isP m x <;> cases inR y 2 <;> cases rpOk m n op G x <;> simp]
      refine r_if_ne_t hc dM_report_90 (tgt := 138) (by decide) (by decide) ?_
      subst hQ
      exact r_vret hc dM_report_138 ⟨rfl, wu_at _ _ _ _, hS1, (FrM.rf w).put 48 0 _ (by decide)⟩
    | true =>
      simp only [hb, if_true] at hQ
      rw [Bool.and_eq_true] at hb
      obtain ⟨b1, b2⟩ := hb
      have b2' := b2
      unfold rpOk at b2'
      rw [Bool.and_eq_true, Bool.and_eq_true] at b2'
      obtain ⟨⟨b3, b4⟩, b5⟩ := b2'
      rw [b1, b2, b4]
      have hn16 := hF.2.2.1 b3
      obtain ⟨p, hp, rfl⟩ := isP_t b4 hm
      obtain ⟨k, hk3, rfl⟩ := inR_t b1 (by decide)
      rw [pN_nI (by omega), pN_nI (by omega)] at hQ
      rw [pN_nI (by omega)] at b5
      have hM := hS1.2.2.2.2.2 n (by simp [rnd, b3]) p (by omega)
      have hRow := hF.2.2.2.2.2.2.1 n (by simp [rnd, b3])
      rcases hg : G n p with _ | _ | ⟨q, b, k0⟩ <;> rw [hg] at hM b5 <;> simp only [McOk] at hM
      · cases b5
      · cases b5
      · have hk0 : k0 = 3 := by simpa [ceU] using b5
        subst hk0
        obtain ⟨q1, q2, q3, q4, q5⟩ := hM
        obtain ⟨z1, z2, -, z4⟩ := hRow.2 p q b 3 hg
        rw [if_pos rfl] at z4
        have hMq := hS1.2.2.2.2.2 n (by simp [rnd, b3]) q (by omega)
        rw [z4] at hMq
        simp only [McOk] at hMq
        refine r_if_ne_f hc dM_report_90 (tgt := 138) (by decide) rfl ?_
        refine r_aload_n hc dM_report_93 rfl ?_
        refine gM_23 hc dM_report_94 ?_
        refine r_bipush hc dM_report_97 (nI 12) (by decide) ?_
        refine r_aload_n hc dM_report_99 rfl ?_
        refine gM_63 hc dM_report_100 ?_
        rw [hS1.2.1]
        refine r_imul hc dM_report_103 ?_
        refine r_iload_n hc dM_report_104 rfl ?_
        refine r_iadd hc dM_report_105 ?_
        rw [ix12]
        refine r_iload_n hc dM_report_106 rfl ?_
        refine r_iastN hc dM_report_107 rfl (by first | omega | (show _ < 12; omega) | (show _ < 204; omega) | (show _ < 144; omega) | (show _ < 2048; omega) | (show _ < 4096; omega) | (show _ < 16; omega)) ?_
        refine r_aload_n hc dM_report_108 rfl ?_
        refine gM_23 hc dM_report_109 ?_
        refine r_bipush hc dM_report_112 (nI 12) (by decide) ?_
        refine r_aload_n hc dM_report_114 rfl ?_
        refine gM_63 hc dM_report_115 ?_
        rw [wu_o1 (by decide), hS1.2.1]
        refine r_imul hc dM_report_118 ?_
        refine r_aload_n hc dM_report_119 rfl ?_
        refine gM_16 hc dM_report_120 ?_
        refine r_bipush hc dM_report_123 (nI 12) (by decide) ?_
        refine r_aload_n hc dM_report_125 rfl ?_
        refine gM_63 hc dM_report_126 ?_
        rw [wu_o1 (by decide), hS1.2.1]
        refine r_imul hc dM_report_129 ?_
        refine r_iload_n hc dM_report_130 rfl ?_
        refine r_iadd hc dM_report_131 ?_
        rw [ix12]
        refine r_ialdN hc dM_report_132 rfl (by first | omega | (show _ < 12; omega) | (show _ < 204; omega) | (show _ < 144; omega) | (show _ < 2048; omega) | (show _ < 4096; omega) | (show _ < 16; omega)) ?_
        rw [wu_o1 (k' := 51) (by decide), q2]
        refine r_iadd hc dM_report_133 ?_
        rw [ix12]
        refine r_iconst hc dM_report_134 (nI 2) (by decide) ?_
        refine r_iload_n hc dM_report_135 rfl ?_
        refine r_isub hc dM_report_136 ?_
        rw [pk_sub (by omega)]
        refine r_iastN hc dM_report_137 rfl (by first | omega | (show _ < 12; omega) | (show _ < 204; omega) | (show _ < 144; omega) | (show _ < 2048; omega) | (show _ < 4096; omega) | (show _ < 16; omega)) ?_
        subst hQ
        refine r_vret hc dM_report_138 ⟨rfl, ?_, ⟨?_, ?_, ?_, fun a ha1 => ?_, fun i j hi hj => ?_, fun s hs a ha1 => ?_⟩, (((FrM.rf w).put 48 0 _ (by decide)).put 53 _ _ (by decide)).put 53 _ _ (by decide)⟩
        · rw [wu_o1 (by decide), wu_o1 (by decide), wu_at]
        · rw [wu_o1 (by decide), wu_o1 (by decide)]; exact hS1.1
        · rw [wu_o1 (by decide), wu_o1 (by decide)]; exact hS1.2.1
        · rw [wu_o1 (by decide), wu_o1 (by decide)]; exact hS1.2.2.1
        · rw [wu_o1 (by decide), wu_o1 (by decide)]; exact hS1.2.2.2.1 a ha1
        · rw [wu_o1 (by decide), wu_o1 (by decide)]; exact hS1.2.2.2.2.1 i j hi hj
        · rw [wu_o1 (k' := 51) (by decide), wu_o1 (k' := 51) (by decide), wu_o1 (k' := 52) (by decide), wu_o1 (k' := 52) (by decide)]
          have hold := hS1.2.2.2.2.2 s hs a ha1
          by_cases hsn : s = n
          · subst hsn
            rw [show gUp G s (rowTold (G s) p k) s = rowTold (G s) p k by simp [gUp]]
            unfold rowTold
            rw [hg]
            show McOk (if a = q then some (some (p, !b, 2 - k)) else if a = p then some (some (q, b, k)) else G s a) _ _ _
            by_cases haq : a = q
            · subst haq
              rw [if_pos rfl, wu_at]
              exact ⟨by omega, hMq.2.1, hMq.2.2.1, by omega, by rw [if_neg (by omega)]⟩
            · rw [if_neg haq, wu_o2 (by omega)]
              by_cases hap : a = p
              · subst hap
                rw [if_pos rfl, wu_at]
                exact ⟨q1, q2, q3, by omega, by rw [if_neg (by omega)]⟩
              · rw [if_neg hap, wu_o2 (by omega)]
                exact hold
          · rw [wu_o2 (by omega), wu_o2 (by omega), show gUp G n (rowTold (G n) p k) s = G s by simp [gUp, hsn]]
            exact hold
  have h50 : Go X g 0 0 Q w 50 [some (.ref (g.1 48)), some (.int x), some (.int y), some (.int (bI (rpOk m n op G x)))] [] := by
    have h78 : Go X g 0 0 Q w 78 [some (.ref (g.1 48)), some (.int x), some (.int y), some (.int (bI (rpOk m n op G x)))] [.int (bI (!inR y 2)), .int (bI (!isP m x)), .ref (g.1 48)] := by
      have h87 : Go X g 0 0 Q w 87 [some (.ref (g.1 48)), some (.int x), some (.int y), some (.int (bI (rpOk m n op G x)))] [.int (bI (!rpOk m n op G x)), .int (bI (!inR y 2)), .int (bI (!isP m x)), .ref (g.1 48)] := by
        refine kM_55r hc dM_report_87 (cM_refused _ g d w _ _ _) (by omega) (Nat.le_of_ble_eq_true rfl) ?_
        rintro _ _ ⟨rfl, rfl⟩
        rw [hKK]
        exact h90
      refine r_iload_n hc dM_report_78 rfl ?_
      cases hr : rpOk m n op G x with
      | true =>
        rw [hr] at h87
        refine r_if_ne_t hc dM_report_79 (tgt := 86) (by decide) (by decide) ?_
        refine r_iconst hc dM_report_86 (nI 0) (by decide) ?_
        exact h87
      | false =>
        rw [hr] at h87
        refine r_if_ne_f hc dM_report_79 (tgt := 86) (by decide) rfl ?_
        refine r_iconst hc dM_report_82 (nI 1) (by decide) ?_
        refine r_goto hc dM_report_83 (tgt := 87) (by decide) ?_
        exact h87
    have h64 : Go X g 0 0 Q w 64 [some (.ref (g.1 48)), some (.int x), some (.int y), some (.int (bI (rpOk m n op G x)))] [.int (bI (!isP m x)), .ref (g.1 48)] := by
      refine r_iload_n hc dM_report_64 rfl ?_
      refine r_if_lt hc dM_report_65 (tgt := 73) (by decide) (fun h1 => ?_) (fun h1 => ?_)
      · rw [show inR y 2 = false from decide_eq_false (fun z => absurd h1 (Int32.not_lt.mpr z.1))] at h78
        refine r_iconst hc dM_report_73 (nI 1) (by decide) ?_
        refine r_goto hc dM_report_74 (tgt := 78) (by decide) ?_
        exact h78
      · refine r_iload_n hc dM_report_68 rfl ?_
        refine r_iconst hc dM_report_69 (nI 2) (by decide) ?_
        refine r_ic_le hc dM_report_70 (tgt := 77) (by decide) (fun h2 => ?_) (fun h2 => ?_)
        · rw [show inR y 2 = true from decide_eq_true ⟨Int32.not_lt.mp h1, h2⟩] at h78
          refine r_iconst hc dM_report_77 (nI 0) (by decide) ?_
          exact h78
        · rw [show inR y 2 = false from decide_eq_false (fun z => h2 z.2)] at h78
          refine r_iconst hc dM_report_73 (nI 1) (by decide) ?_
          refine r_goto hc dM_report_74 (tgt := 78) (by decide) ?_
          exact h78
    refine r_aload_n hc dM_report_50 rfl ?_
    refine r_aload_n hc dM_report_51 rfl ?_
    refine r_iload_n hc dM_report_52 rfl ?_
    refine kM_59r hc dM_report_53 (cM_isPlayer _ g d w m x hS.1) (by omega) (Nat.le_of_ble_eq_true rfl) ?_
    rintro _ _ ⟨rfl, rfl⟩
    cases hx : isP m x with
    | false =>
      rw [hx] at h64
      refine r_if_ne_f hc dM_report_56 (tgt := 63) (by decide) rfl ?_
      refine r_iconst hc dM_report_59 (nI 1) (by decide) ?_
      refine r_goto hc dM_report_60 (tgt := 64) (by decide) ?_
      exact h64
    | true =>
      rw [hx] at h64
      refine r_if_ne_t hc dM_report_56 (tgt := 63) (by decide) (by decide) ?_
      refine r_iconst hc dM_report_63 (nI 0) (by decide) ?_
      exact h64
  have h48 : rpOk m n op G x = false → Go X g 0 0 Q w 48 [some (.ref (g.1 48)), some (.int x), some (.int y), none] [] := by
    intro hr
    rw [hr] at h50
    refine r_iconst hc dM_report_48 (nI 0) (by decide) ?_
    refine r_istore_n hc dM_report_49 (Nat.le_of_ble_eq_true rfl) ?_
    exact h50
  refine r_aload_n hc dM_report_0 rfl ?_
  refine gM_51 hc dM_report_1 ?_
  rw [hS.2.2.1]
  cases hop : op with
  | false =>
    refine r_if_eq_t hc dM_report_4 (tgt := 48) (by decide) rfl ?_
    exact h48 (by simp [rpOk, hop])
  | true =>
    refine r_if_eq_f hc dM_report_4 (tgt := 48) (by decide) (by decide) ?_
    refine r_aload_n hc dM_report_7 rfl ?_
    refine r_iload_n hc dM_report_8 rfl ?_
    refine kM_59r hc dM_report_9 (cM_isPlayer _ g d w m x hS.1) (by omega) (Nat.le_of_ble_eq_true rfl) ?_
    rintro _ _ ⟨rfl, rfl⟩
    cases hx : isP m x with
    | false =>
      refine r_if_eq_t hc dM_report_12 (tgt := 48) (by decide) rfl ?_
      exact h48 (by simp [rpOk, hx])
    | true =>
      obtain ⟨p, hp, rfl⟩ := isP_t hx hm
      have hn16 := hF.2.2.1 hop
      have hM := hS.2.2.2.2.2 n (by simp [rnd, hop]) p (by omega)
      refine r_if_eq_f hc dM_report_12 (tgt := 48) (by decide) (by decide) ?_
      refine r_aload_n hc dM_report_15 rfl ?_
      refine r_aload_n hc dM_report_16 rfl ?_
      refine gM_63 hc dM_report_17 ?_
      rw [hS.2.1]
      refine r_iload_n hc dM_report_20 rfl ?_
      refine kM_66r hc dM_report_21 (cM_hadGame _ g d w G (n + 1) n p (hS.2.2.2.2.2.mono (by simp [rnd, hop])) (by omega) (by omega) (by omega)) (by omega) (Nat.le_of_ble_eq_true rfl) ?_
      rintro _ _ ⟨rfl, rfl⟩
      rcases hg : G n p with _ | _ | ⟨q, b, k⟩ <;> rw [hg] at hM <;> simp only [McOk] at hM
      · refine r_if_eq_t hc dM_report_24 (tgt := 48) (by decide) rfl ?_
        exact h48 (by simp [rpOk, pN_nI (show p < 2 ^ 31 by omega), hg, ceU])
      · refine r_if_eq_t hc dM_report_24 (tgt := 48) (by decide) rfl ?_
        exact h48 (by simp [rpOk, pN_nI (show p < 2 ^ 31 by omega), hg, ceU])
      · refine r_if_eq_f hc dM_report_24 (tgt := 48) (by decide) (show ¬ bI true = 0 by decide) ?_
        refine r_aload_n hc dM_report_27 rfl ?_
        refine gM_23 hc dM_report_28 ?_
        refine r_bipush hc dM_report_31 (nI 12) (by decide) ?_
        refine r_aload_n hc dM_report_33 rfl ?_
        refine gM_63 hc dM_report_34 ?_
        rw [hS.2.1]
        refine r_imul hc dM_report_37 ?_
        refine r_iload_n hc dM_report_38 rfl ?_
        refine r_iadd hc dM_report_39 ?_
        rw [ix12]
        refine r_ialdN hc dM_report_40 rfl (by first | omega | (show _ < 12; omega) | (show _ < 204; omega) | (show _ < 144; omega) | (show _ < 2048; omega) | (show _ < 4096; omega) | (show _ < 16; omega)) ?_
        rw [hM.2.2.2.2]
        by_cases hk3 : k = 3
        · subst hk3
          rw [if_pos rfl]
          refine r_if_ge_f hc dM_report_41 (tgt := 48) (by decide) (by decide) ?_
          refine r_iconst hc dM_report_44 (nI 1) (by decide) ?_
          refine r_goto hc dM_report_45 (tgt := 49) (by decide) ?_
          refine r_istore_n hc dM_report_49 (Nat.le_of_ble_eq_true rfl) ?_
          rw [show rpOk m n op G (nI p) = true by simp [rpOk, hop, hx, pN_nI (show p < 2 ^ 31 by omega), hg, ceU]] at h50
          exact h50
        · rw [if_neg hk3]
          refine r_if_ge_t hc dM_report_41 (tgt := 48) (by decide) (nI_pos' (by omega)) ?_
          exact h48 (by simp [rpOk, pN_nI (show p < 2 ^ 31 by omega), hg, ceU, hk3])
