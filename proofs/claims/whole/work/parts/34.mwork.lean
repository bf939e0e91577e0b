/-! bits -/
theorem s_lt : ∀ n, n < 32 → ((nI n &&& 31).toBitVec.smod 32).toNat = n := by decide +kernel
theorem nx_and (a b : Nat) : nI a &&& nI b = nI (a &&& b) := by
  apply Int32.toBitVec_inj.1
  show BitVec.ofNat 32 a &&& BitVec.ofNat 32 b = BitVec.ofNat 32 (a &&& b)
  apply BitVec.eq_of_getLsbD_eq
  intro i hi
  simp [hi]
theorem shl1 : ∀ k, k < 13 → nI 1 <<< (nI k &&& 31) = nI (2 ^ k) := by decide +kernel
theorem shl1x : ∀ k, k < 13 → (nI 1 <<< (nI k &&& 31)) ^^^ (-1) = nI (4294967295 - 2 ^ k) := by decide +kernel
theorem clrI (S : Nat) {k : Nat} (hk : k < 13) : nI S &&& ((nI 1 <<< (nI k &&& 31)) ^^^ (-1)) = nI (clr S k) := by
  rw [shl1x k hk, nx_and]
  rfl
theorem bitI {S f : Nat} (hS : S < 2 ^ 31) (hf : f < 32) : (nI S >>> (nI f &&& 31)) &&& nI 1 = nI (S / 2 ^ f % 2) := by
  rw [pk_shrN hS _ f (s_lt f hf), nx_and, Nat.and_one_is_mod]
theorem bit_t {S f : Nat} (h : S.testBit f = true) : S / 2 ^ f % 2 = 1 := by
  rw [Nat.testBit_eq_decide_div_mod_eq] at h
  simpa using h
theorem bit_f {S f : Nat} (h : S.testBit f = false) : S / 2 ^ f % 2 = 0 := by
  rw [Nat.testBit_eq_decide_div_mod_eq] at h
  have h : ¬ S / 2 ^ f % 2 = 1 := by simpa using h
  omega
theorem bit_lt {S f m : Nat} (h : S.testBit f = true) (hS : S < 2 ^ m) : f < m := by
  rcases Nat.lt_or_ge f m with q | q
  · exact q
  · have := Nat.testBit_lt_two_pow (x := S) (i := f) (Nat.lt_of_lt_of_le hS (Nat.pow_le_pow_right (by decide) q))
    rw [this] at h
    cases h
theorem pow12 {m : Nat} (h : m ≤ 12) : 2 ^ m ≤ 4096 := (Nat.pow_le_pow_right (by decide) h : 2 ^ m ≤ 2 ^ 12)
theorem dp_le {cst : Nat → Nat → Option Nat} {B Y : Nat → Nat} {S f : Nat} : ∀ t, (dp cst B Y S f t).1 ≤ dpE
  | 0 => Nat.le_refl _
  | t + 1 => by
    have ih := dp_le (cst := cst) (B := B) (Y := Y) (S := S) (f := f) t
    simp only [dp]
    split
    · exact ih
    · split
      · show _ ≤ dpE
        simp only
        omega
      · exact ih
theorem dp_low {cst : Nat → Nat → Option Nat} {B Y : Nat → Nat} {S f : Nat} : ∀ t, t ≤ f + 1 → dp cst B Y S f t = (dpE, none, 0)
  | 0, _ => rfl
  | t + 1, h => by
    have ih := dp_low (cst := cst) (B := B) (Y := Y) (S := S) (f := f) t (by omega)
    have hn : ¬ (f < t ∧ S.testBit t = true) := fun q => by omega
    simp only [dp, if_neg hn, ih]
theorem sol_le (cst : Nat → Nat → Option Nat) (m : Nat) {S : Nat} (h : S < 4096) : (sol cst m S).1 ≤ dpE := by
  rcases Nat.eq_zero_or_pos S with h0 | h0
  · subst h0
    rw [sol_0]
    exact Nat.zero_le _
  · rw [sol_eq cst m h0 h]
    exact dp_le _
/-- what games of two seats cost; none: they may have none -/
def csOf (G : Nat → Nat → Ce) (n : Nat) (ap : Nat → Nat → Bool) (L : List Nat) (i j : Nat) : Option Nat := if bar G n ap (L.getD i 0) (L.getD j 0) then none else some (gco G n (L.getD i 0) (L.getD j 0))
theorem cla_le (G : Nat → Nat → Ce) (n p : Nat) (c : Int) : cla G n p c ≤ 2 := by
  unfold cla
  split <;> split <;> omega
theorem gco_le {G : Nat → Nat → Ce} {n p q : Nat} (hT : GTold G n) (hn : n ≤ 16) (hp : p < 12) : gco G n p q ≤ 65540 := by
  have h1 := f_sc_le2 (p := p) hT hp
  have h2 := cla_le G n p (ce_col (fw G n p q))
  have h3 := cla_le G n q (ce_col (!fw G n p q))
  have h4 : (f_sc G n p - f_sc G n q) * (f_sc G n p - f_sc G n q) ≤ 32 * 32 := Nat.mul_le_mul (by omega) (by omega)
  unfold gco
  rw [Nat.mul_assoc]
  omega
/-- what work does: the sets below S stand -/
def WkUp (w w' : Wd) (G : Nat → Nat → Ce) (n : Nat) (ap : Nat → Nat → Bool) (inn : Nat → Bool) (m S : Nat) : Prop :=
  (∀ k, k ≠ 48 → k ≠ 54 → k ≠ 55 → k ≠ 56 → k ≠ 57 → k ≠ 58 → w' k = w k) ∧ (∀ j, j ≠ 9 → j ≠ 11 → w' 48 j = w 48 j) ∧ w' 48 11 = oI (byeOf G n inn m) ∧ w' 48 9 = nI (ordOf G n inn m).length ∧
    (∀ i, i < (ordOf G n inn m).length → w' 54 i = nI ((ordOf G n inn m).getD i 0)) ∧
    (∀ a b, a < b → b < (ordOf G n inn m).length → w' 55 (12 * a + b) = nI (cvOf G n ap ((ordOf G n inn m).getD a 0) ((ordOf G n inn m).getD b 0))) ∧
    ∀ T, T < S → w' 56 T = nI (sol (csOf G n ap (ordOf G n inn m)) (ordOf G n inn m).length T).1 ∧ w' 58 T = nI (sol (csOf G n ap (ordOf G n inn m)) (ordOf G n inn m).length T).2.2 ∧ (0 < T → w' 57 T = oI (sol (csOf G n ap (ordOf G n inn m)) (ordOf G n inn m).length T).2.1)
theorem wk_put {w w' : Wd} {G : Nat → Nat → Ce} {n : Nat} {ap : Nat → Nat → Bool} {inn : Nat → Bool} {m S c : Nat} {x : Int32} (hc : c = 56 ∨ c = 57 ∨ c = 58) (h : WkUp w w' G n ap inn m S) : WkUp w (wu w' c S x) G n ap inn m S := by
  obtain ⟨e1, e2, e3, e4, e5, e6, e7⟩ := h
  refine ⟨fun k k1 k2 k3 k4 k5 k6 => ?_, fun j j1 j2 => ?_, ?_, ?_, fun i hi => ?_, fun a b q1 q2 => ?_, fun T hT => ?_⟩
  · rw [wu_ne (by omega)]; exact e1 k k1 k2 k3 k4 k5 k6
  · rw [wu_o1 (by omega)]; exact e2 j j1 j2
  · rw [wu_o1 (by omega)]; exact e3
  · rw [wu_o1 (by omega)]; exact e4
  · rw [wu_o1 (by omega)]; exact e5 i hi
  · rw [wu_o1 (by omega)]; exact e6 a b q1 q2
  · have key : ∀ z, wu w' c S x z T = w' z T := by
      intro z
      by_cases hz : z = c
      · subst hz
        exact wu_o2 (by omega)
      · exact wu_o1 hz
    rw [key, key, key]
    exact e7 T hT
set_option maxHeartbeats 4000000 in
theorem cM_work (l : Launch) (g : GG) (d : Nat) (w : Wd) (G : Nat → Nat → Ce) (n : Nat) (ap : Nat → Nat → Bool) (inn : Nat → Bool) (m : Nat) (hR : MRep w G n) (hT : GTold G n) (hn : n ≤ 16) (hcl : w 48 4 = nI n) (hI : MIn w inn m) (hm : m ≤ 12) (hpl : w 48 1 = nI m) (hK : MKept w ap) : Con l g yM_work bM_work 6 ((none : Option Jvm.ClassFile.FieldType)) [] (d + 5) 0 0 [.ref (g.1 48)] w (Rp (fun v w' => v = none ∧ WkUp w w' G n ap inn m (2 ^ (ordOf G n inn m).length))) := by
  intro X hl ha hm' hk hn' hc
  subst hl
  obtain ⟨Q, hQ⟩ : ∃ Q, Q = Fen X g 0 0 (Rp (fun v w' => v = none ∧ WkUp w w' G n ap inn m (2 ^ (ordOf G n inn m).length))) := ⟨_, rfl⟩
  rw [← hQ]
  have hlen : (ordOf G n inn m).length ≤ m := bk_len _ _ _ _
  have hp12 : 2 ^ (ordOf G n inn m).length ≤ 4096 := pow12 (by omega)
  have hp1 : 1 ≤ 2 ^ (ordOf G n inn m).length := Nat.two_pow_pos _
  have hloop : ∀ w1, WkUp w w1 G n ap inn m 1 → Go X g 0 0 Q w1 20 [some (.ref (g.1 48)), some (.int (nI 1)), none, none, none, none] [] := by
    refine lp_up (P := fun S => 1 ≤ S → ∀ w1, WkUp w w1 G n ap inn m S → Go X g 0 0 Q w1 20 [some (.ref (g.1 48)), some (.int (nI S)), none, none, none, none] []) (n := 2 ^ (ordOf G n inn m).length) ?_ 1 hp1 (Nat.le_refl _)
    intro S hS ih hS1 w1 hw1
    refine r_iload_n hc dM_work_20 rfl ?_
    refine r_iconst hc dM_work_21 (nI 1) (by decide) ?_
    refine r_aload_n hc dM_work_22 rfl ?_
    refine gM_100 hc dM_work_23 ?_
    rw [hw1.2.2.2.1]
    refine r_ishl hc dM_work_26 ?_
    rw [shl1 _ (by omega)]
    refine r_ic_ge hc dM_work_27 (tgt := 228) (by decide) (fun h => ?_) (fun h => ?_)
    · have hS2 : S = 2 ^ (ordOf G n inn m).length := by have := nle_to h (by omega) (by omega); omega
      subst hQ
      refine r_vret hc dM_work_228 ⟨rfl, ?_⟩
      rw [← hS2]
      exact hw1
    · have hS2 : S < 2 ^ (ordOf G n inn m).length := nle_of h (by omega) (by omega)
      have ih := ih hS2 (by omega)
      obtain ⟨f1, f2, f3⟩ := lowb_spec (S := S) (by omega) (by omega)
      have hfm : lowb S < (ordOf G n inn m).length := bit_lt f1 hS2
      refine r_iconst hc dM_work_30 (nI 0) (by decide) ?_
      refine r_istore_n hc dM_work_31 (Nat.le_of_ble_eq_true rfl) ?_
      -- the lowest seat
      have hlow : Go X g 0 0 Q w1 46 [some (.ref (g.1 48)), some (.int (nI S)), some (.int (nI (lowb S))), none, none, none] [] := by
        refine r_aload_n hc dM_work_46 rfl ?_
        refine gM_32 hc dM_work_47 ?_
        refine r_iload_n hc dM_work_50 rfl ?_
        refine r_ldc hc dM_work_51 (v := nI dpE) (t4_mem 11 rfl rfl) ?_
        refine r_iastN hc dM_work_53 rfl (by first | omega | (show _ < 12; omega) | (show _ < 204; omega) | (show _ < 144; omega) | (show _ < 2048; omega) | (show _ < 4096; omega) | (show _ < 16; omega)) ?_
        refine r_aload_n hc dM_work_54 rfl ?_
        refine gM_35 hc dM_work_55 ?_
        refine r_iload_n hc dM_work_58 rfl ?_
        refine r_iconst hc dM_work_59 (-1) (by decide) ?_
        refine r_iastN hc dM_work_60 rfl (by first | omega | (show _ < 12; omega) | (show _ < 204; omega) | (show _ < 144; omega) | (show _ < 2048; omega) | (show _ < 4096; omega) | (show _ < 16; omega)) ?_
        refine r_aload_n hc dM_work_61 rfl ?_
        refine gM_38 hc dM_work_62 ?_
        refine r_iload_n hc dM_work_65 rfl ?_
        refine r_iconst hc dM_work_66 (nI 0) (by decide) ?_
        refine r_iastN hc dM_work_67 rfl (by first | omega | (show _ < 12; omega) | (show _ < 204; omega) | (show _ < 144; omega) | (show _ < 2048; omega) | (show _ < 4096; omega) | (show _ < 16; omega)) ?_
        refine r_iload_n hc dM_work_68 rfl ?_
        refine r_iconst hc dM_work_69 (nI 1) (by decide) ?_
        refine r_iadd hc dM_work_70 ?_
        refine r_istore_n hc dM_work_71 (Nat.le_of_ble_eq_true rfl) ?_
        rw [nI_add]
        have hstart := wk_put (c := 58) (x := nI 0) (by simp) (wk_put (c := 57) (x := -1) (by simp) (wk_put (c := 56) (x := nI dpE) (by simp) hw1))
        have g1 : (wu (wu (wu w1 56 S (nI dpE)) 57 S (-1)) 58 S (nI 0)) 56 S = nI dpE := by rw [wu_o1 (by decide), wu_o1 (by decide), wu_at]
        have g2 : (wu (wu (wu w1 56 S (nI dpE)) 57 S (-1)) 58 S (nI 0)) 57 S = -1 := by rw [wu_o1 (by decide), wu_at]
        have g3 : (wu (wu (wu w1 56 S (nI dpE)) 57 S (-1)) 58 S (nI 0)) 58 S = nI 0 := by rw [wu_at]
        generalize wu (wu (wu w1 56 S (nI dpE)) 57 S (-1)) 58 S (nI 0) = w2 at hstart g1 g2 g3 ⊢
        have hd := dp_low (cst := csOf G n ap (ordOf G n inn m)) (B := fun T => (sol (csOf G n ap (ordOf G n inn m)) (ordOf G n inn m).length T).1) (Y := fun T => (sol (csOf G n ap (ordOf G n inn m)) (ordOf G n inn m).length T).2.2) (S := S) (f := lowb S) (lowb S + 1) (Nat.le_refl _)
        have g1' : w2 56 S = nI (dp (csOf G n ap (ordOf G n inn m)) (fun T => (sol (csOf G n ap (ordOf G n inn m)) (ordOf G n inn m).length T).1) (fun T => (sol (csOf G n ap (ordOf G n inn m)) (ordOf G n inn m).length T).2.2) S (lowb S) (lowb S + 1)).1 := by rw [hd]; exact g1
        have g2' : w2 57 S = oI (dp (csOf G n ap (ordOf G n inn m)) (fun T => (sol (csOf G n ap (ordOf G n inn m)) (ordOf G n inn m).length T).1) (fun T => (sol (csOf G n ap (ordOf G n inn m)) (ordOf G n inn m).length T).2.2) S (lowb S) (lowb S + 1)).2.1 := by rw [hd]; exact g2
        have g3' : w2 58 S = nI (dp (csOf G n ap (ordOf G n inn m)) (fun T => (sol (csOf G n ap (ordOf G n inn m)) (ordOf G n inn m).length T).1) (fun T => (sol (csOf G n ap (ordOf G n inn m)) (ordOf G n inn m).length T).2.2) S (lowb S) (lowb S + 1)).2.2 := by rw [hd]; exact g3
        clear g1 g2 g3 hd
        revert w2
        refine lp_up (P := fun j => lowb S + 1 ≤ j → ∀ w2, WkUp w w2 G n ap inn m S → w2 56 S = nI (dp (csOf G n ap (ordOf G n inn m)) (fun T => (sol (csOf G n ap (ordOf G n inn m)) (ordOf G n inn m).length T).1) (fun T => (sol (csOf G n ap (ordOf G n inn m)) (ordOf G n inn m).length T).2.2) S (lowb S) j).1 → w2 57 S = oI (dp (csOf G n ap (ordOf G n inn m)) (fun T => (sol (csOf G n ap (ordOf G n inn m)) (ordOf G n inn m).length T).1) (fun T => (sol (csOf G n ap (ordOf G n inn m)) (ordOf G n inn m).length T).2.2) S (lowb S) j).2.1 → w2 58 S = nI (dp (csOf G n ap (ordOf G n inn m)) (fun T => (sol (csOf G n ap (ordOf G n inn m)) (ordOf G n inn m).length T).1) (fun T => (sol (csOf G n ap (ordOf G n inn m)) (ordOf G n inn m).length T).2.2) S (lowb S) j).2.2 → Go X g 0 0 Q w2 72 [some (.ref (g.1 48)), some (.int (nI S)), some (.int (nI (lowb S))), some (.int (nI j)), none, none] []) (n := (ordOf G n inn m).length) ?_ (lowb S + 1) (by omega) (Nat.le_refl _)
        intro j hj ihj hfj w2 hw2 d1 d2 d3
        refine r_iload_n hc dM_work_72 rfl ?_
        refine r_aload_n hc dM_work_73 rfl ?_
        refine gM_100 hc dM_work_74 ?_
        rw [hw2.2.2.2.1]
        refine r_ic_ge hc dM_work_77 (tgt := 222) (by decide) (fun h2 => ?_) (fun h2 => ?_)
        · have hj2 : j = (ordOf G n inn m).length := by have := nle_to h2 (by omega) (by omega); omega
          subst hj2
          rw [← sol_eq _ _ (by omega) (by omega)] at d1 d2 d3
          refine r_iinc hc dM_work_222 rfl ?_
          refine r_goto hc dM_work_225 (tgt := 20) (by decide) ?_
          refine Go.drop 2 (Go.drop 3 ?_)
          simp only [← nI_add] at ih
          refine ih w2 ⟨hw2.1, hw2.2.1, hw2.2.2.1, hw2.2.2.2.1, hw2.2.2.2.2.1, hw2.2.2.2.2.2.1, fun T hT => ?_⟩
          rcases Nat.lt_or_ge T S with q | q
          · exact hw2.2.2.2.2.2.2 T q
          · have : T = S := by omega
            subst this
            exact ⟨d1, d3, fun _ => d2⟩
        · have hj2 : j < (ordOf G n inn m).length := nle_of h2 (by omega) (by omega)
          have ihj := ihj hj2 (by omega)
          simp only [← nI_add] at ihj
          obtain ⟨e1, e2, e3, e4, e5, e6, e7⟩ := hw2
          have hrest : clr (clr S (lowb S)) j < S := Nat.lt_of_le_of_lt (clr_le _ _) (clr_lt (by omega) f1)
          obtain ⟨t1, t2, -⟩ := e7 _ hrest
          have hcv := e6 (lowb S) j (by omega) hj2
          have hb1 := dp_le (cst := csOf G n ap (ordOf G n inn m)) (B := fun T => (sol (csOf G n ap (ordOf G n inn m)) (ordOf G n inn m).length T).1) (Y := fun T => (sol (csOf G n ap (ordOf G n inn m)) (ordOf G n inn m).length T).2.2) (S := S) (f := lowb S) j
          have hb2 := sol_le (csOf G n ap (ordOf G n inn m)) (ordOf G n inn m).length (S := clr (clr S (lowb S)) j) (by omega)
          have hb3 := gco_le (q := (ordOf G n inn m).getD j 0) hT hn (show (ordOf G n inn m).getD (lowb S) 0 < 12 by have := (ord_mem hfm).1; omega)
          simp only [dp] at ihj
          simp only [csOf] at ihj
          unfold cvOf at hcv
          generalize hpf : (ordOf G n inn m).getD (lowb S) 0 = pf at hcv hb3 ihj
          generalize hpj : (ordOf G n inn m).getD j 0 = pj at hcv hb3 ihj
          refine r_iload_n hc dM_work_80 rfl ?_
          refine r_iconst hc dM_work_81 (nI 1) (by decide) ?_
          refine r_iload_n hc dM_work_82 rfl ?_
          refine r_ishl hc dM_work_83 ?_
          refine r_iconst hc dM_work_84 (-1) (by decide) ?_
          refine r_ixor hc dM_work_85 ?_
          refine r_iand hc dM_work_86 ?_
          rw [clrI S (k := lowb S) (by omega)]
          refine r_iconst hc dM_work_87 (nI 1) (by decide) ?_
          refine r_iload_n hc dM_work_88 rfl ?_
          refine r_ishl hc dM_work_89 ?_
          refine r_iconst hc dM_work_90 (-1) (by decide) ?_
          refine r_ixor hc dM_work_91 ?_
          refine r_iand hc dM_work_92 ?_
          rw [clrI _ (k := j) (by omega)]
          refine r_istore hc dM_work_93 (Nat.le_of_ble_eq_true rfl) ?_
          refine r_iload_n hc dM_work_95 rfl ?_
          refine r_iload_n hc dM_work_96 rfl ?_
          refine r_ishr hc dM_work_97 ?_
          refine r_iconst hc dM_work_98 (nI 1) (by decide) ?_
          refine r_iand hc dM_work_99 ?_
          rw [bitI (by omega) (by omega)]
          refine r_iconst hc dM_work_100 (nI 1) (by decide) ?_
          have hskip : (if lowb S < j ∧ S.testBit j = true then (if bar G n ap pf pj then none else some (gco G n pf pj)) else none) = none → Go X g 0 0 Q w2 216 [some (.ref (g.1 48)), some (.int (nI S)), some (.int (nI (lowb S))), some (.int (nI j)), none, none] [] := by
            intro hs
            rw [hs] at ihj
            refine r_iinc hc dM_work_216 rfl ?_
            refine r_goto hc dM_work_219 (tgt := 72) (by decide) ?_
            exact ihj w2 ⟨e1, e2, e3, e4, e5, e6, e7⟩ d1 d2 d3
          cases hbit : S.testBit j with
          | false =>
            rw [bit_f hbit]
            refine r_ic_ne_t hc dM_work_101 (tgt := 216) (by decide) (by decide) ?_
            refine Go.drop 4 ?_
            exact hskip (by simp [hbit])
          | true =>
            rw [bit_t hbit]
            refine r_ic_ne_f hc dM_work_101 (tgt := 216) (by decide) rfl ?_
            refine r_aload_n hc dM_work_104 rfl ?_
            refine gM_29 hc dM_work_105 ?_
            refine r_bipush hc dM_work_108 (nI 12) (by decide) ?_
            refine r_iload_n hc dM_work_110 rfl ?_
            refine r_imul hc dM_work_111 ?_
            refine r_iload_n hc dM_work_112 rfl ?_
            refine r_iadd hc dM_work_113 ?_
            rw [ix12]
            refine r_ialdN hc dM_work_114 rfl (by first | omega | (show _ < 12; omega) | (show _ < 204; omega) | (show _ < 144; omega) | (show _ < 2048; omega) | (show _ < 4096; omega) | (show _ < 16; omega)) ?_
            rw [hcv]
            refine r_ldc hc dM_work_115 (v := nI dpE) (t4_mem 11 rfl rfl) ?_
            cases hbar : bar G n ap pf pj with
            | true =>
              rw [if_pos rfl]
              refine r_ic_ge_t hc dM_work_117 (tgt := 216) (by decide) (nI_le (Nat.le_refl _) (by decide)) ?_
              refine Go.drop 4 ?_
              exact hskip (by simp [hbar])
            | false =>
              rw [hbar] at hcv ihj
              rw [if_neg (by decide)] at hcv
              rw [if_neg (show ¬ (false = true) by decide)]
              rw [if_pos ⟨by omega, hbit⟩, if_neg (show ¬ (false = true) by decide)] at ihj
              dsimp only at ihj
              refine r_ic_ge_f hc dM_work_117 (tgt := 216) (by decide) (nI_ge (by unfold dpE; omega) (by decide)) ?_
              refine r_aload_n hc dM_work_120 rfl ?_
              refine gM_29 hc dM_work_121 ?_
              refine r_bipush hc dM_work_124 (nI 12) (by decide) ?_
              refine r_iload_n hc dM_work_126 rfl ?_
              refine r_imul hc dM_work_127 ?_
              refine r_iload_n hc dM_work_128 rfl ?_
              refine r_iadd hc dM_work_129 ?_
              rw [ix12]
              refine r_ialdN hc dM_work_130 rfl (by first | omega | (show _ < 12; omega) | (show _ < 204; omega) | (show _ < 144; omega) | (show _ < 2048; omega) | (show _ < 4096; omega) | (show _ < 16; omega)) ?_
              rw [hcv]
              refine r_aload_n hc dM_work_131 rfl ?_
              refine gM_32 hc dM_work_132 ?_
              refine r_iload hc dM_work_135 rfl ?_
              refine r_ialdN hc dM_work_137 rfl (by first | omega | (show _ < 12; omega) | (show _ < 204; omega) | (show _ < 144; omega) | (show _ < 2048; omega) | (show _ < 4096; omega) | (show _ < 16; omega)) ?_
              rw [t1]
              refine r_iadd hc dM_work_138 ?_
              rw [nI_add]
              generalize hB : (sol (csOf G n ap (ordOf G n inn m)) (ordOf G n inn m).length (clr (clr S (lowb S)) j)).1 = Br at hb2 ihj t1
              generalize hY : (sol (csOf G n ap (ordOf G n inn m)) (ordOf G n inn m).length (clr (clr S (lowb S)) j)).2.2 = Yr at ihj t2
              generalize dp (csOf G n ap (ordOf G n inn m)) (fun T => (sol (csOf G n ap (ordOf G n inn m)) (ordOf G n inn m).length T).1) (fun T => (sol (csOf G n ap (ordOf G n inn m)) (ordOf G n inn m).length T).2.2) S (lowb S) j = D at d1 d2 d3 hb1 ihj
              refine r_istore hc dM_work_139 (Nat.le_of_ble_eq_true rfl) ?_
              refine r_aload_n hc dM_work_141 rfl ?_
              refine gM_35 hc dM_work_142 ?_
              refine r_iload_n hc dM_work_145 rfl ?_
              refine r_iload hc dM_work_146 rfl ?_
              refine r_aload_n hc dM_work_148 rfl ?_
              refine gM_32 hc dM_work_149 ?_
              refine r_iload_n hc dM_work_152 rfl ?_
              refine r_ialdN hc dM_work_153 rfl (by first | omega | (show _ < 12; omega) | (show _ < 204; omega) | (show _ < 144; omega) | (show _ < 2048; omega) | (show _ < 4096; omega) | (show _ < 16; omega)) ?_
              rw [d1]
              unfold dpE at hb1 hb2
              by_cases hlt : gco G n pf pj + Br < D.1
              · rw [if_pos hlt] at ihj
                refine r_ic_ge_f hc dM_work_154 (tgt := 161) (by decide) (nI_ge hlt (by omega)) ?_
                refine r_iload_n hc dM_work_157 rfl ?_
                refine r_goto hc dM_work_158 (tgt := 167) (by decide) ?_
                refine r_iastN hc dM_work_167 rfl (by first | omega | (show _ < 12; omega) | (show _ < 204; omega) | (show _ < 144; omega) | (show _ < 2048; omega) | (show _ < 4096; omega) | (show _ < 16; omega)) ?_
                refine r_aload_n hc dM_work_168 rfl ?_
                refine gM_32 hc dM_work_169 ?_
                refine r_iload_n hc dM_work_172 rfl ?_
                refine r_iload hc dM_work_173 rfl ?_
                refine r_aload_n hc dM_work_175 rfl ?_
                refine gM_32 hc dM_work_176 ?_
                refine r_iload_n hc dM_work_179 rfl ?_
                refine r_ialdN hc dM_work_180 rfl (by first | omega | (show _ < 12; omega) | (show _ < 204; omega) | (show _ < 144; omega) | (show _ < 2048; omega) | (show _ < 4096; omega) | (show _ < 16; omega)) ?_
                rw [show wu w2 57 S (nI j) 56 S = nI D.1 by rw [wu_o1 (by decide)]; exact d1]
                refine r_ic_ge_f hc dM_work_181 (tgt := 189) (by decide) (nI_ge hlt (by omega)) ?_
                refine r_iload hc dM_work_184 rfl ?_
                refine r_goto hc dM_work_186 (tgt := 195) (by decide) ?_
                refine r_iastN hc dM_work_195 rfl (by first | omega | (show _ < 12; omega) | (show _ < 204; omega) | (show _ < 144; omega) | (show _ < 2048; omega) | (show _ < 4096; omega) | (show _ < 16; omega)) ?_
                refine r_aload_n hc dM_work_196 rfl ?_
                refine gM_38 hc dM_work_197 ?_
                refine r_iload_n hc dM_work_200 rfl ?_
                refine r_aload_n hc dM_work_201 rfl ?_
                refine gM_38 hc dM_work_202 ?_
                refine r_iload_n hc dM_work_205 rfl ?_
                refine r_ialdN hc dM_work_206 rfl (by first | omega | (show _ < 12; omega) | (show _ < 204; omega) | (show _ < 144; omega) | (show _ < 2048; omega) | (show _ < 4096; omega) | (show _ < 16; omega)) ?_
                rw [show wu (wu w2 57 S (nI j)) 56 S (nI (gco G n pf pj + Br)) 58 S = nI D.2.2 by rw [wu_o1 (by decide), wu_o1 (by decide)]; exact d3]
                refine r_aload_n hc dM_work_207 rfl ?_
                refine gM_38 hc dM_work_208 ?_
                refine r_iload hc dM_work_211 rfl ?_
                refine r_ialdN hc dM_work_213 rfl (by first | omega | (show _ < 12; omega) | (show _ < 204; omega) | (show _ < 144; omega) | (show _ < 2048; omega) | (show _ < 4096; omega) | (show _ < 16; omega)) ?_
                rw [show wu (wu w2 57 S (nI j)) 56 S (nI (gco G n pf pj + Br)) 58 (clr (clr S (lowb S)) j) = nI Yr by rw [wu_o1 (by decide), wu_o1 (by decide)]; exact t2]
                refine r_iadd hc dM_work_214 ?_
                rw [nI_add]
                refine r_iastN hc dM_work_215 rfl (by first | omega | (show _ < 12; omega) | (show _ < 204; omega) | (show _ < 144; omega) | (show _ < 2048; omega) | (show _ < 4096; omega) | (show _ < 16; omega)) ?_
                refine r_iinc hc dM_work_216 rfl ?_
                refine r_goto hc dM_work_219 (tgt := 72) (by decide) ?_
                refine Go.drop 4 (Go.drop 5 ?_)
                refine ihj _ (wk_put (by simp) (wk_put (by simp) (wk_put (by simp) ⟨e1, e2, e3, e4, e5, e6, e7⟩))) ?_ ?_ ?_
                · rw [wu_o1 (by decide), wu_at]
                · rw [wu_o1 (by decide), wu_o1 (by decide), wu_at]; rfl
                · rw [wu_at]
              · rw [if_neg hlt] at ihj
                refine r_ic_ge_t hc dM_work_154 (tgt := 161) (by decide) (nI_le (by omega) (by omega)) ?_
                refine r_aload_n hc dM_work_161 rfl ?_
                refine gM_35 hc dM_work_162 ?_
                refine r_iload_n hc dM_work_165 rfl ?_
                refine r_ialdN hc dM_work_166 rfl (by first | omega | (show _ < 12; omega) | (show _ < 204; omega) | (show _ < 144; omega) | (show _ < 2048; omega) | (show _ < 4096; omega) | (show _ < 16; omega)) ?_
                rw [d2]
                refine r_iastN hc dM_work_167 rfl (by first | omega | (show _ < 12; omega) | (show _ < 204; omega) | (show _ < 144; omega) | (show _ < 2048; omega) | (show _ < 4096; omega) | (show _ < 16; omega)) ?_
                refine r_aload_n hc dM_work_168 rfl ?_
                refine gM_32 hc dM_work_169 ?_
                refine r_iload_n hc dM_work_172 rfl ?_
                refine r_iload hc dM_work_173 rfl ?_
                refine r_aload_n hc dM_work_175 rfl ?_
                refine gM_32 hc dM_work_176 ?_
                refine r_iload_n hc dM_work_179 rfl ?_
                refine r_ialdN hc dM_work_180 rfl (by first | omega | (show _ < 12; omega) | (show _ < 204; omega) | (show _ < 144; omega) | (show _ < 2048; omega) | (show _ < 4096; omega) | (show _ < 16; omega)) ?_
                rw [show wu w2 57 S (oI D.2.1) 56 S = nI D.1 by rw [wu_o1 (by decide)]; exact d1]
                refine r_ic_ge_t hc dM_work_181 (tgt := 189) (by decide) (nI_le (by omega) (by omega)) ?_
                refine r_aload_n hc dM_work_189 rfl ?_
                refine gM_32 hc dM_work_190 ?_
                refine r_iload_n hc dM_work_193 rfl ?_
                refine r_ialdN hc dM_work_194 rfl (by first | omega | (show _ < 12; omega) | (show _ < 204; omega) | (show _ < 144; omega) | (show _ < 2048; omega) | (show _ < 4096; omega) | (show _ < 16; omega)) ?_
                rw [show wu w2 57 S (oI D.2.1) 56 S = nI D.1 by rw [wu_o1 (by decide)]; exact d1]
                refine r_iastN hc dM_work_195 rfl (by first | omega | (show _ < 12; omega) | (show _ < 204; omega) | (show _ < 144; omega) | (show _ < 2048; omega) | (show _ < 4096; omega) | (show _ < 16; omega)) ?_
                refine r_aload_n hc dM_work_196 rfl ?_
                refine gM_38 hc dM_work_197 ?_
                refine r_iload_n hc dM_work_200 rfl ?_
                refine r_aload_n hc dM_work_201 rfl ?_
                refine gM_38 hc dM_work_202 ?_
                refine r_iload_n hc dM_work_205 rfl ?_
                refine r_ialdN hc dM_work_206 rfl (by first | omega | (show _ < 12; omega) | (show _ < 204; omega) | (show _ < 144; omega) | (show _ < 2048; omega) | (show _ < 4096; omega) | (show _ < 16; omega)) ?_
                rw [show wu (wu w2 57 S (oI D.2.1)) 56 S (nI D.1) 58 S = nI D.2.2 by rw [wu_o1 (by decide), wu_o1 (by decide)]; exact d3]
                refine r_aload_n hc dM_work_207 rfl ?_
                refine gM_38 hc dM_work_208 ?_
                refine r_iload hc dM_work_211 rfl ?_
                refine r_ialdN hc dM_work_213 rfl (by first | omega | (show _ < 12; omega) | (show _ < 204; omega) | (show _ < 144; omega) | (show _ < 2048; omega) | (show _ < 4096; omega) | (show _ < 16; omega)) ?_
                rw [show wu (wu w2 57 S (oI D.2.1)) 56 S (nI D.1) 58 (clr (clr S (lowb S)) j) = nI Yr by rw [wu_o1 (by decide), wu_o1 (by decide)]; exact t2]
                refine r_iadd hc dM_work_214 ?_
                rw [nI_add]
                refine r_iastN hc dM_work_215 rfl (by first | omega | (show _ < 12; omega) | (show _ < 204; omega) | (show _ < 144; omega) | (show _ < 2048; omega) | (show _ < 4096; omega) | (show _ < 16; omega)) ?_
                refine r_iinc hc dM_work_216 rfl ?_
                refine r_goto hc dM_work_219 (tgt := 72) (by decide) ?_
                refine Go.drop 4 (Go.drop 5 ?_)
                refine ihj _ (wk_put (by simp) (wk_put (by simp) (wk_put (by simp) ⟨e1, e2, e3, e4, e5, e6, e7⟩))) ?_ ?_ ?_
                · rw [wu_o1 (by decide), wu_at]
                · rw [wu_o1 (by decide), wu_o1 (by decide), wu_at]
                · rw [wu_at]
      refine lp_up (P := fun f => Go X g 0 0 Q w1 32 [some (.ref (g.1 48)), some (.int (nI S)), some (.int (nI f)), none, none, none] []) (n := lowb S) ?_ 0 (Nat.zero_le _)
      intro f hf ihf
      refine r_iload_n hc dM_work_32 rfl ?_
      refine r_iload_n hc dM_work_33 rfl ?_
      refine r_ishr hc dM_work_34 ?_
      refine r_iconst hc dM_work_35 (nI 1) (by decide) ?_
      refine r_iand hc dM_work_36 ?_
      rw [bitI (by omega) (by omega)]
      rcases Nat.lt_or_eq_of_le hf with q | q
      · have ihf := ihf q
        rw [bit_f (f3 f q)]
        refine r_if_ne_f hc dM_work_37 (tgt := 46) (by decide) rfl ?_
        refine r_iinc hc dM_work_40 rfl ?_
        refine r_goto hc dM_work_43 (tgt := 32) (by decide) ?_
        simp only [← nI_add] at ihf
        exact ihf
      · subst q
        rw [bit_t f1]
        refine r_if_ne_t hc dM_work_37 (tgt := 46) (by decide) (by decide) ?_
        exact hlow
  refine r_aload_n hc dM_work_0 rfl ?_
  refine kM_110r hc dM_work_1 (cM_lineUp _ g d w G n ap inn m hR hT hn hcl hI hm hpl hK) (by omega) (Nat.le_of_ble_eq_true rfl) ?_
  rintro _ w1 ⟨rfl, e1, e2, e3, e4, e5, e6⟩
  refine r_aload_n hc dM_work_4 rfl ?_
  refine gM_32 hc dM_work_5 ?_
  refine r_iconst hc dM_work_8 (nI 0) (by decide) ?_
  refine r_iconst hc dM_work_9 (nI 0) (by decide) ?_
  refine r_iastN hc dM_work_10 rfl (by first | omega | (show _ < 12; omega) | (show _ < 204; omega) | (show _ < 144; omega) | (show _ < 2048; omega) | (show _ < 4096; omega) | (show _ < 16; omega)) ?_
  refine r_aload_n hc dM_work_11 rfl ?_
  refine gM_38 hc dM_work_12 ?_
  refine r_iconst hc dM_work_15 (nI 0) (by decide) ?_
  refine r_iconst hc dM_work_16 (nI 1) (by decide) ?_
  refine r_iastN hc dM_work_17 rfl (by first | omega | (show _ < 12; omega) | (show _ < 204; omega) | (show _ < 144; omega) | (show _ < 2048; omega) | (show _ < 4096; omega) | (show _ < 16; omega)) ?_
  refine r_iconst hc dM_work_18 (nI 1) (by decide) ?_
  refine r_istore_n hc dM_work_19 (Nat.le_of_ble_eq_true rfl) ?_
  refine hloop _ ⟨fun k k1 k2 k3 k4 k5 k6 => ?_, fun j j1 j2 => ?_, ?_, ?_, fun i hi => ?_, fun a b q1 q2 => ?_, fun T hT => ?_⟩
  · rw [wu_ne k6, wu_ne k4]; exact e1 k k1 k2 k3
  · rw [wu_o1 (by decide), wu_o1 (by decide)]; exact e2 j j1 j2
  · rw [wu_o1 (by decide), wu_o1 (by decide)]; exact e3
  · rw [wu_o1 (by decide), wu_o1 (by decide)]; exact e4
  · rw [wu_o1 (by decide), wu_o1 (by decide)]; exact e5 i hi
  · rw [wu_o1 (by decide), wu_o1 (by decide)]; exact e6 a b q1 q2 trivial
  · have : T = 0 := by omega
    subst this
    rw [sol_0]
    refine ⟨?_, ?_, fun h => absurd h (Nat.lt_irrefl 0)⟩
    · rw [wu_o1 (by decide), wu_at]
    · rw [wu_at]
