/-! PairedFieldModel.openRound -/
/-- a round's row is laid: the rows before stand, the row n holds R, nothing is told in it -/
def OpIn (w w' : Wd) (n : Nat) (R : Nat → Ce) (D : Nat → Prop) : Prop :=
  (∀ k, k ≠ 48 → k ≠ 51 → k ≠ 52 → k ≠ 53 → w' k = w k) ∧ (∀ j, j ≠ 5 → w' 48 j = w 48 j) ∧
    (∀ x, x < 12 * n → w' 51 x = w 51 x ∧ w' 52 x = w 52 x ∧ w' 53 x = w 53 x) ∧ ∀ p, p < 12 → D p → McOk (R p) (w' 51 (12 * n + p)) (w' 52 (12 * n + p)) (w' 53 (12 * n + p)) ∧ w' 53 (12 * n + p) = -1
theorem OpIn.rep {w w' : Wd} {n : Nat} {R : Nat → Ce} {D : Nat → Prop} {G : Nat → Nat → Ce} (h : OpIn w w' n R D) (hR : MRep w G n) : MRep w' G n := by
  intro r hr p hp
  obtain ⟨h1, h2, h3⟩ := h.2.2.1 (12 * r + p) (by omega)
  rw [h1, h2, h3]
  exact hR r hr p hp
theorem ord_inj {G : Nat → Nat → Ce} {n : Nat} {inn : Nat → Bool} {m i j : Nat} (hi : i < (ordOf G n inn m).length) (hj : j < (ordOf G n inn m).length) (h : (ordOf G n inn m).getD i 0 = (ordOf G n inn m).getD j 0) : i = j := by
  rw [List.getD_eq_getElem?_getD, List.getD_eq_getElem?_getD, List.getElem?_eq_getElem hi, List.getElem?_eq_getElem hj] at h
  simp only [Option.getD_some] at h
  have hnd : (ordOf G n inn m).Nodup := bk_nodup
  exact (List.getElem_inj hnd).mp h
set_option maxHeartbeats 4000000 in
theorem cM_openRound (l : Launch) (g : GG) (d : Nat) (w0 w : Wd) (G : Nat → Nat → Ce) (n : Nat) (ap : Nat → Nat → Bool) (inn : Nat → Bool) (m : Nat) (hR : MRep w G n) (hn : n < 16) (hcl : w 48 4 = nI n) (hm : m ≤ 12) (hW : WkUp w0 w G n ap inn m (2 ^ (ordOf G n inn m).length)) (hcan : (solT G n ap inn m (topS G n inn m)).1 < dpE) : Con l g yM_openRound bM_openRound 8 ((some .int)) [] (d + 3) 0 0 [.ref (g.1 48)] w (Rp (fun v w' => v = some (.int (nI (rsT G n ap inn m (ordOf G n inn m).length).2.2)) ∧ OpIn w w' n (rsT G n ap inn m (ordOf G n inn m).length).2.1 (fun _ => True) ∧ w' 48 5 = 1)) := by
  intro X hl ha hm' hk hn' hc
  subst hl
  obtain ⟨Q, hQ⟩ : ∃ Q, Q = Fen X g 0 0 (Rp (fun v w' => v = some (.int (nI (rsT G n ap inn m (ordOf G n inn m).length).2.2)) ∧ OpIn w w' n (rsT G n ap inn m (ordOf G n inn m).length).2.1 (fun _ => True) ∧ w' 48 5 = 1)) := ⟨_, rfl⟩
  rw [← hQ]
  have hlen : (ordOf G n inn m).length ≤ m := bk_len _ _ _ _
  have hp12 : 2 ^ (ordOf G n inn m).length ≤ 4096 := pow12 (by omega)
  obtain ⟨-, -, hbye, hmany, hord, -, hsol⟩ := hW
  -- the games, seat by seat
  have hgames : ∀ i, i ≤ (ordOf G n inn m).length → ∀ w1, OpIn w w1 n (rsT G n ap inn m i).2.1 (fun _ => True) → Go X g 0 0 Q w1 81 [some (.ref (g.1 48)), some (.int (nI (rsT G n ap inn m i).2.2)), some (.int (nI (rsT G n ap inn m i).1)), some (.int (nI i)), none, none, none, none] [] := by
    refine lp_up (P := fun i => ∀ w1, OpIn w w1 n (rsT G n ap inn m i).2.1 (fun _ => True) → Go X g 0 0 Q w1 81 [some (.ref (g.1 48)), some (.int (nI (rsT G n ap inn m i).2.2)), some (.int (nI (rsT G n ap inn m i).1)), some (.int (nI i)), none, none, none, none] []) ?_
    intro i hi ih w1 hw1
    have hcl1 : w1 48 4 = nI n := by rw [hw1.2.1 4 (by decide)]; exact hcl
    refine r_iload_n hc dM_openRound_81 rfl ?_
    refine r_aload_n hc dM_openRound_82 rfl ?_
    refine gM_100 hc dM_openRound_83 ?_
    rw [show w1 48 9 = nI (ordOf G n inn m).length by rw [hw1.2.1 9 (by decide)]; exact hmany]
    refine r_ic_ge hc dM_openRound_86 (tgt := 233) (by decide) (fun h => ?_) (fun h => ?_)
    · have hi2 : i = (ordOf G n inn m).length := by have := nle_to h (by omega) (by omega); omega
      subst hi2
      refine r_aload_n hc dM_openRound_233 rfl ?_
      refine r_iconst hc dM_openRound_234 (nI 1) (by decide) ?_
      refine pM_51 hc dM_openRound_235 (by first | exact Or.inl rfl | exact Or.inr rfl | assumption) ?_
      refine r_iload_n hc dM_openRound_238 rfl ?_
      subst hQ
      refine r_iret hc dM_openRound_239 ⟨rfl, ⟨fun k k1 k2 k3 k4 => ?_, fun j j1 => ?_, fun x hx => ?_, fun p hp _ => ?_⟩, ?_⟩
      · rw [wu_ne k1]; exact hw1.1 k k1 k2 k3 k4
      · rw [wu_o2 j1]; exact hw1.2.1 j j1
      · rw [wu_o1 (by decide), wu_o1 (by decide), wu_o1 (by decide)]; exact hw1.2.2.1 x hx
      · rw [wu_o1 (by decide), wu_o1 (by decide), wu_o1 (by decide)]; exact hw1.2.2.2 p hp trivial
      · rw [wu_at]; rfl
    · have hi2 : i < (ordOf G n inn m).length := nle_of h (by omega) (by omega)
      have ih := ih hi2
      obtain ⟨r1, r2, r3⟩ := rsT_ok hm hcan i
      refine r_iload_n hc dM_openRound_89 rfl ?_
      refine r_iload_n hc dM_openRound_90 rfl ?_
      refine r_ishr hc dM_openRound_91 ?_
      refine r_iconst hc dM_openRound_92 (nI 1) (by decide) ?_
      refine r_iand hc dM_openRound_93 ?_
      rw [bitI (by omega) (by omega)]
      refine r_iconst hc dM_openRound_94 (nI 1) (by decide) ?_
      simp only [rsT] at ih
      cases hb : (rsT G n ap inn m i).1.testBit i with
      | false =>
        simp only [hb, Bool.false_eq_true, if_false, ← nI_add] at ih
        rw [bit_f hb]
        refine r_ic_ne_t hc dM_openRound_95 (tgt := 227) (by decide) (by decide) ?_
        refine r_iinc hc dM_openRound_227 rfl ?_
        refine r_goto hc dM_openRound_230 (tgt := 81) (by decide) ?_
        exact ih w1 hw1
      | true =>
        simp only [hb, if_true] at ih
        rw [bit_t hb]
        refine r_ic_ne_f hc dM_openRound_95 (tgt := 227) (by decide) rfl ?_
        have hS0 : 0 < (rsT G n ap inn m i).1 := Nat.pos_of_ne_zero (fun q => by rw [q] at hb; simp at hb)
        obtain ⟨f1, f2, f3⟩ := lowb_spec hS0 (by omega)
        have hlow : lowb (rsT G n ap inn m i).1 = i := by
          rcases Nat.lt_trichotomy (lowb (rsT G n ap inn m i).1) i with q | q | q
          · have := r3 _ q
            rw [f1] at this
            cases this
          · exact q
          · have := f3 _ q
            rw [hb] at this
            cases this
        obtain ⟨j, c, s1, s2, s3, s4, -, -⟩ := sol_pick hS0 (by omega) r2
        rw [hlow] at s3
        have s1' : (solT G n ap inn m (rsT G n ap inn m i).1).2.1 = some j := s1
        rw [s1'] at ih
        simp only [Option.getD_some] at ih
        have hpk : w1 57 (rsT G n ap inn m i).1 = nI j := by
          rw [hw1.1 57 (by decide) (by decide) (by decide) (by decide), (hsol _ r1).2.2 hS0, s1]
          rfl
        have ho1 : w1 54 i = nI ((ordOf G n inn m).getD i 0) := by rw [hw1.1 54 (by decide) (by decide) (by decide) (by decide)]; exact hord i hi2
        have ho2 : w1 54 j = nI ((ordOf G n inn m).getD j 0) := by rw [hw1.1 54 (by decide) (by decide) (by decide) (by decide)]; exact hord j s2
        have hpq : (ordOf G n inn m).getD i 0 ≠ (ordOf G n inn m).getD j 0 := fun q => by have := ord_inj hi2 s2 q; omega
        obtain ⟨p1, -⟩ := ord_mem hi2
        obtain ⟨p2, -⟩ := ord_mem s2
        generalize (ordOf G n inn m).getD i 0 = p at ih ho1 hpq p1
        generalize (ordOf G n inn m).getD j 0 = q at ih ho2 hpq p2
        refine r_aload_n hc dM_openRound_98 rfl ?_
        refine gM_35 hc dM_openRound_99 ?_
        refine r_iload_n hc dM_openRound_102 rfl ?_
        refine r_ialdN hc dM_openRound_103 rfl (by first | omega | (show _ < 12; omega) | (show _ < 204; omega) | (show _ < 144; omega) | (show _ < 2048; omega) | (show _ < 4096; omega) | (show _ < 16; omega)) ?_
        rw [hpk]
        refine r_istore hc dM_openRound_104 (Nat.le_of_ble_eq_true rfl) ?_
        refine r_aload_n hc dM_openRound_106 rfl ?_
        refine gM_26 hc dM_openRound_107 ?_
        refine r_iload_n hc dM_openRound_110 rfl ?_
        refine r_ialdN hc dM_openRound_111 rfl (by first | omega | (show _ < 12; omega) | (show _ < 204; omega) | (show _ < 144; omega) | (show _ < 2048; omega) | (show _ < 4096; omega) | (show _ < 16; omega)) ?_
        rw [ho1]
        refine r_istore hc dM_openRound_112 (Nat.le_of_ble_eq_true rfl) ?_
        refine r_aload_n hc dM_openRound_114 rfl ?_
        refine gM_26 hc dM_openRound_115 ?_
        refine r_iload hc dM_openRound_118 rfl ?_
        refine r_ialdN hc dM_openRound_120 rfl (by first | omega | (show _ < 12; omega) | (show _ < 204; omega) | (show _ < 144; omega) | (show _ < 2048; omega) | (show _ < 4096; omega) | (show _ < 16; omega)) ?_
        rw [ho2]
        refine r_istore hc dM_openRound_121 (Nat.le_of_ble_eq_true rfl) ?_
        refine r_aload_n hc dM_openRound_123 rfl ?_
        refine r_iload hc dM_openRound_124 rfl ?_
        refine r_iload hc dM_openRound_126 rfl ?_
        refine kM_81r hc dM_openRound_128 (cM_isFirstWhite _ g d w1 G n p q (hw1.rep hR) (by omega) hcl1 (by omega) (by omega)) (by omega) (Nat.le_of_ble_eq_true rfl) ?_
        rintro _ _ ⟨rfl, rfl⟩
        refine r_istore hc dM_openRound_131 (Nat.le_of_ble_eq_true rfl) ?_
        refine r_aload_n hc dM_openRound_133 rfl ?_
        refine gM_16 hc dM_openRound_134 ?_
        refine r_bipush hc dM_openRound_137 (nI 12) (by decide) ?_
        refine r_aload_n hc dM_openRound_139 rfl ?_
        refine gM_63 hc dM_openRound_140 ?_
        rw [hcl1]
        refine r_imul hc dM_openRound_143 ?_
        refine r_iload hc dM_openRound_144 rfl ?_
        refine r_iadd hc dM_openRound_146 ?_
        rw [ix12]
        refine r_iload hc dM_openRound_147 rfl ?_
        refine r_iastN hc dM_openRound_149 rfl (by first | omega | (show _ < 12; omega) | (show _ < 204; omega) | (show _ < 144; omega) | (show _ < 2048; omega) | (show _ < 4096; omega) | (show _ < 16; omega)) ?_
        refine r_aload_n hc dM_openRound_150 rfl ?_
        refine gM_16 hc dM_openRound_151 ?_
        refine r_bipush hc dM_openRound_154 (nI 12) (by decide) ?_
        refine r_aload_n hc dM_openRound_156 rfl ?_
        refine gM_63 hc dM_openRound_157 ?_
        rw [wu_o1 (by decide), hcl1]
        refine r_imul hc dM_openRound_160 ?_
        refine r_iload hc dM_openRound_161 rfl ?_
        refine r_iadd hc dM_openRound_163 ?_
        rw [ix12]
        refine r_iload hc dM_openRound_164 rfl ?_
        refine r_iastN hc dM_openRound_166 rfl (by first | omega | (show _ < 12; omega) | (show _ < 204; omega) | (show _ < 144; omega) | (show _ < 2048; omega) | (show _ < 4096; omega) | (show _ < 16; omega)) ?_
        refine r_aload_n hc dM_openRound_167 rfl ?_
        refine gM_20 hc dM_openRound_168 ?_
        refine r_bipush hc dM_openRound_171 (nI 12) (by decide) ?_
        refine r_aload_n hc dM_openRound_173 rfl ?_
        refine gM_63 hc dM_openRound_174 ?_
        rw [wu_o1 (by decide), wu_o1 (by decide), hcl1]
        refine r_imul hc dM_openRound_177 ?_
        refine r_iload hc dM_openRound_178 rfl ?_
        refine r_iadd hc dM_openRound_180 ?_
        rw [ix12]
        refine r_iload hc dM_openRound_181 rfl ?_
        refine r_zastN hc dM_openRound_183 rfl (show _ < 204 by omega) (bI_01 _) ?_
        refine r_aload_n hc dM_openRound_184 rfl ?_
        refine gM_20 hc dM_openRound_185 ?_
        refine r_bipush hc dM_openRound_188 (nI 12) (by decide) ?_
        refine r_aload_n hc dM_openRound_190 rfl ?_
        refine gM_63 hc dM_openRound_191 ?_
        rw [wu_o1 (by decide), wu_o1 (by decide), wu_o1 (by decide), hcl1]
        refine r_imul hc dM_openRound_194 ?_
        refine r_iload hc dM_openRound_195 rfl ?_
        refine r_iadd hc dM_openRound_197 ?_
        rw [ix12]
        refine r_iload hc dM_openRound_198 rfl ?_
        have hend : ∀ v : Int32, v = bI (!fw G n p q) → Go X g 0 0 Q (wu (wu (wu w1 51 (12 * n + p) (nI q)) 51 (12 * n + q) (nI p)) 52 (12 * n + p) (bI (fw G n p q))) 208 [some (.ref (g.1 48)), some (.int (nI (rsT G n ap inn m i).2.2)), some (.int (nI (rsT G n ap inn m i).1)), some (.int (nI i)), some (.int (nI j)), some (.int (nI p)), some (.int (nI q)), some (.int (bI (fw G n p q)))] [.int v, .int (nI (12 * n + q)), .ref (g.1 52)] := by
          intro v hv
          subst hv
          refine r_zastN hc dM_openRound_208 rfl (show _ < 204 by omega) (bI_01 _) ?_
          refine r_iload_n hc dM_openRound_209 rfl ?_
          refine r_iconst hc dM_openRound_210 (nI 1) (by decide) ?_
          refine r_iload_n hc dM_openRound_211 rfl ?_
          refine r_ishl hc dM_openRound_212 ?_
          refine r_iconst hc dM_openRound_213 (-1) (by decide) ?_
          refine r_ixor hc dM_openRound_214 ?_
          refine r_iand hc dM_openRound_215 ?_
          rw [clrI _ (k := i) (by omega)]
          refine r_iconst hc dM_openRound_216 (nI 1) (by decide) ?_
          refine r_iload hc dM_openRound_217 rfl ?_
          refine r_ishl hc dM_openRound_219 ?_
          refine r_iconst hc dM_openRound_220 (-1) (by decide) ?_
          refine r_ixor hc dM_openRound_221 ?_
          refine r_iand hc dM_openRound_222 ?_
          rw [clrI _ (k := j) (by omega)]
          refine r_istore_n hc dM_openRound_223 (Nat.le_of_ble_eq_true rfl) ?_
          refine r_iinc hc dM_openRound_224 rfl ?_
          refine r_iinc hc dM_openRound_227 rfl ?_
          refine r_goto hc dM_openRound_230 (tgt := 81) (by decide) ?_
          refine Go.drop 4 (Go.drop 5 (Go.drop 6 (Go.drop 7 ?_)))
          simp only [← nI_add] at ih
          refine ih _ ⟨fun k k1 k2 k3 k4 => ?_, fun a a1 => ?_, fun x hx => ?_, fun a ha1 _ => ?_⟩
          · rw [wu_ne k3, wu_ne k3, wu_ne k2, wu_ne k2]; exact hw1.1 k k1 k2 k3 k4
          · rw [wu_o1 (by decide), wu_o1 (by decide), wu_o1 (by decide), wu_o1 (by decide)]; exact hw1.2.1 a a1
          · rw [wu_o1 (by decide), wu_o1 (by decide), wu_o2 (by omega), wu_o2 (by omega), wu_o2 (by omega), wu_o2 (by omega), wu_o1 (by decide), wu_o1 (by decide), wu_o1 (by decide), wu_o1 (by decide), wu_o1 (by decide), wu_o1 (by decide)]
            exact hw1.2.2.1 x hx
          · obtain ⟨m1, m2⟩ := hw1.2.2.2 a ha1 trivial
            rw [show (wu (wu (wu (wu w1 51 (12 * n + p) (nI q)) 51 (12 * n + q) (nI p)) 52 (12 * n + p) (bI (fw G n p q))) 52 (12 * n + q) (bI (!fw G n p q))) 53 (12 * n + a) = w1 53 (12 * n + a) by rw [wu_o1 (by decide), wu_o1 (by decide), wu_o1 (by decide), wu_o1 (by decide)]]
            refine ⟨?_, m2⟩
            rw [m2]
            show McOk (if a = q then some (some (p, !fw G n p q, 3)) else if a = p then some (some (q, fw G n p q, 3)) else (rsT G n ap inn m i).2.1 a) _ _ _
            rw [wu_o1 (k := 52) (k' := 51) (by decide), wu_o1 (k := 52) (k' := 51) (by decide)]
            by_cases haq : a = q
            · subst haq
              rw [if_pos rfl, wu_at, wu_at]
              exact ⟨by omega, rfl, rfl, Nat.le_refl _, rfl⟩
            · rw [if_neg haq, wu_o2 (by omega), wu_o2 (k := 52) (by omega)]
              by_cases hap : a = p
              · subst hap
                rw [if_pos rfl, wu_at, wu_at]
                exact ⟨by omega, rfl, rfl, Nat.le_refl _, rfl⟩
              · rw [if_neg hap, wu_o2 (by omega), wu_o2 (k := 52) (by omega), wu_o1 (by decide), wu_o1 (by decide)]
                rw [m2] at m1
                exact m1
        cases hfw : fw G n p q with
        | true =>
          rw [hfw] at hend
          refine r_if_ne_t hc dM_openRound_200 (tgt := 207) (by decide) (by decide) ?_
          refine r_iconst hc dM_openRound_207 (nI 0) (by decide) ?_
          exact hend _ rfl
        | false =>
          rw [hfw] at hend
          refine r_if_ne_f hc dM_openRound_200 (tgt := 207) (by decide) rfl ?_
          refine r_iconst hc dM_openRound_203 (nI 1) (by decide) ?_
          refine r_goto hc dM_openRound_204 (tgt := 208) (by decide) ?_
          exact hend _ rfl
  -- the row is cleared
  refine r_iconst hc dM_openRound_0 (nI 0) (by decide) ?_
  refine r_istore_n hc dM_openRound_1 (Nat.le_of_ble_eq_true rfl) ?_
  have hrow : ∀ r, r ≤ 12 → ∀ w1, OpIn w w1 n (rsT G n ap inn m 0).2.1 (fun p => p < r) → Go X g 0 0 Q w1 2 [some (.ref (g.1 48)), some (.int (nI r)), none, none, none, none, none, none] [] := by
    refine lp_up (P := fun r => ∀ w1, OpIn w w1 n (rsT G n ap inn m 0).2.1 (fun p => p < r) → Go X g 0 0 Q w1 2 [some (.ref (g.1 48)), some (.int (nI r)), none, none, none, none, none, none] []) ?_
    intro r hr ih w1 hw1
    have hcl1 : w1 48 4 = nI n := by rw [hw1.2.1 4 (by decide)]; exact hcl
    refine r_iload_n hc dM_openRound_2 rfl ?_
    refine r_bipush hc dM_openRound_3 (nI 12) (by decide) ?_
    refine r_ic_ge hc dM_openRound_5 (tgt := 72) (by decide) (fun h => ?_) (fun h => ?_)
    · have hr2 : r = 12 := by have := nle_to h (by decide) (by omega); omega
      refine r_iconst hc dM_openRound_72 (nI 0) (by decide) ?_
      refine r_istore_n hc dM_openRound_73 (Nat.le_of_ble_eq_true rfl) ?_
      refine r_aload_n hc dM_openRound_74 rfl ?_
      refine kM_116r hc dM_openRound_75 (cM_whole _ g d w1 (ordOf G n inn m).length (by omega) (by rw [hw1.2.1 9 (by decide)]; exact hmany)) (by omega) (Nat.le_of_ble_eq_true rfl) ?_
      rintro _ _ ⟨rfl, rfl⟩
      refine r_istore_n hc dM_openRound_78 (Nat.le_of_ble_eq_true rfl) ?_
      refine r_iconst hc dM_openRound_79 (nI 0) (by decide) ?_
      refine r_istore_n hc dM_openRound_80 (Nat.le_of_ble_eq_true rfl) ?_
      exact hgames 0 (Nat.zero_le _) w1 ⟨hw1.1, hw1.2.1, hw1.2.2.1, fun p hp _ => hw1.2.2.2 p hp (by omega)⟩
    · have hr2 : r < 12 := nle_of h (by decide) (by omega)
      have ih := ih hr2
      simp only [← nI_add] at ih
      refine r_aload_n hc dM_openRound_8 rfl ?_
      refine gM_16 hc dM_openRound_9 ?_
      refine r_bipush hc dM_openRound_12 (nI 12) (by decide) ?_
      refine r_aload_n hc dM_openRound_14 rfl ?_
      refine gM_63 hc dM_openRound_15 ?_
      rw [hcl1]
      refine r_imul hc dM_openRound_18 ?_
      refine r_iload_n hc dM_openRound_19 rfl ?_
      refine r_iadd hc dM_openRound_20 ?_
      rw [ix12]
      refine r_iload_n hc dM_openRound_21 rfl ?_
      refine r_aload_n hc dM_openRound_22 rfl ?_
      refine gM_97 hc dM_openRound_23 ?_
      rw [show w1 48 11 = oI (byeOf G n inn m) by rw [hw1.2.1 11 (by decide)]; exact hbye]
      have hend : ∀ v : Int32, McOk ((rsT G n ap inn m 0).2.1 r) v 0 (-1) → Go X g 0 0 Q w1 35 [some (.ref (g.1 48)), some (.int (nI r)), none, none, none, none, none, none] [.int v, .int (nI (12 * n + r)), .ref (g.1 51)] := by
        intro v hv
        refine r_iastN hc dM_openRound_35 rfl (by first | omega | (show _ < 12; omega) | (show _ < 204; omega) | (show _ < 144; omega) | (show _ < 2048; omega) | (show _ < 4096; omega) | (show _ < 16; omega)) ?_
        refine r_aload_n hc dM_openRound_36 rfl ?_
        refine gM_20 hc dM_openRound_37 ?_
        refine r_bipush hc dM_openRound_40 (nI 12) (by decide) ?_
        refine r_aload_n hc dM_openRound_42 rfl ?_
        refine gM_63 hc dM_openRound_43 ?_
        rw [wu_o1 (by decide), hcl1]
        refine r_imul hc dM_openRound_46 ?_
        refine r_iload_n hc dM_openRound_47 rfl ?_
        refine r_iadd hc dM_openRound_48 ?_
        rw [ix12]
        refine r_iconst hc dM_openRound_49 (nI 0) (by decide) ?_
        refine r_zastN hc dM_openRound_50 rfl (by first | omega | (show _ < 12; omega) | (show _ < 204; omega) | (show _ < 144; omega) | (show _ < 2048; omega) | (show _ < 4096; omega) | (show _ < 16; omega)) (by first | exact Or.inl rfl | exact Or.inr rfl | assumption) ?_
        refine r_aload_n hc dM_openRound_51 rfl ?_
        refine gM_23 hc dM_openRound_52 ?_
        refine r_bipush hc dM_openRound_55 (nI 12) (by decide) ?_
        refine r_aload_n hc dM_openRound_57 rfl ?_
        refine gM_63 hc dM_openRound_58 ?_
        rw [wu_o1 (by decide), wu_o1 (by decide), hcl1]
        refine r_imul hc dM_openRound_61 ?_
        refine r_iload_n hc dM_openRound_62 rfl ?_
        refine r_iadd hc dM_openRound_63 ?_
        rw [ix12]
        refine r_iconst hc dM_openRound_64 (-1) (by decide) ?_
        refine r_iastN hc dM_openRound_65 rfl (by first | omega | (show _ < 12; omega) | (show _ < 204; omega) | (show _ < 144; omega) | (show _ < 2048; omega) | (show _ < 4096; omega) | (show _ < 16; omega)) ?_
        refine r_iinc hc dM_openRound_66 rfl ?_
        refine r_goto hc dM_openRound_69 (tgt := 2) (by decide) ?_
        refine ih _ ⟨fun k k1 k2 k3 k4 => ?_, fun a a1 => ?_, fun x hx => ?_, fun a ha1 ha2 => ?_⟩
        · rw [wu_ne k4, wu_ne k3, wu_ne k2]; exact hw1.1 k k1 k2 k3 k4
        · rw [wu_o1 (by decide), wu_o1 (by decide), wu_o1 (by decide)]; exact hw1.2.1 a a1
        · rw [wu_o1 (by decide), wu_o1 (by decide), wu_o2 (by omega), wu_o1 (by decide), wu_o2 (by omega), wu_o1 (by decide), wu_o2 (by omega), wu_o1 (by decide), wu_o1 (by decide)]
          exact hw1.2.2.1 x hx
        · rw [wu_o1 (k := 53) (k' := 51) (by decide), wu_o1 (k := 52) (k' := 51) (by decide), wu_o1 (k := 53) (k' := 52) (by decide)]
          by_cases har : a = r
          · subst har
            rw [wu_at, wu_at, wu_at]
            exact ⟨hv, rfl⟩
          · rw [wu_o2 (by omega), wu_o2 (k := 52) (by omega), wu_o2 (k := 53) (by omega), wu_o1 (k' := 52) (by decide), wu_o1 (k' := 53) (by decide), wu_o1 (k' := 53) (by decide)]
            exact hw1.2.2.2 a ha1 (by omega)
      by_cases hbr : byeOf G n inn m = some r
      · rw [hbr]
        refine r_ic_ne_f hc dM_openRound_26 (tgt := 34) (by decide) rfl ?_
        refine r_bipush hc dM_openRound_29 (nI 12) (by decide) ?_
        refine r_goto hc dM_openRound_31 (tgt := 35) (by decide) ?_
        exact hend _ (by simp [rsT, hbr, McOk])
      · have hne : ¬ nI r = oI (byeOf G n inn m) := by
          intro z
          apply hbr
          cases hb : byeOf G n inn m with
          | none =>
            rw [hb] at z
            have := nI_pos (n := r) (by omega)
            rw [z] at this
            exact absurd (by decide) this
          | some c =>
            rw [hb] at z
            have hlt : c < m := by
              unfold byeOf at hb
              split at hb
              · exact (f_fb_lt hb).1
              · cases hb
            have : r = c := (nI_eq (by omega) (by omega)).mp z
            rw [this]
        refine r_ic_ne_t hc dM_openRound_26 (tgt := 34) (by decide) hne ?_
        refine r_iconst hc dM_openRound_34 (-1) (by decide) ?_
        exact hend _ (by simp [rsT, hbr, McOk])
  exact hrow 0 (Nat.zero_le _) w ⟨fun _ _ _ _ _ => rfl, fun _ _ => rfl, fun _ _ => ⟨rfl, rfl, rfl⟩, fun p _ h => absurd h (Nat.not_lt_zero _)⟩
