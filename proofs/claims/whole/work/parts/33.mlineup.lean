/-! PairedFieldModel.lineUp -/
theorem wu_at (w : Wd) (k i : Nat) (x : Int32) : wu w k i x k i = x := by simp [wu, upd]
theorem wu_o1 {w : Wd} {k k' i j : Nat} {x : Int32} (h : k' ≠ k) : wu w k i x k' j = w k' j := by simp [wu, h]
theorem wu_o2 {w : Wd} {k i j : Nat} {x : Int32} (h : j ≠ i) : wu w k i x k j = w k j := by simp [wu, upd, h]
theorem r_ldc {X : Cxt} {g : GG} {cc : ByteArray} {own : String} {ret : Option FieldType} {hx : List (Nat × Nat × Nat × Nat)} {d kc ks : Nat} {Q : State → Prop} {w : Wd} {pc : Nat} {lp : List (Option Value)} {st : List Value} {idx : Nat} {v : Int32} (hc : Ok X g cc own ret hx d) (hd : decode cc pc = .ok (.ldc idx, 2)) (hl : Cond.constant own idx v ∈ Ttab) (k : Go X g kc ks Q w (pc + 2) lp (.int v :: st)) : Go X g kc ks Q w pc lp st := by
  obtain ⟨p, l, e, R, s, m, args, below, meth, c⟩ := X
  intro ls H locs h1 h2 h3
  exact lv_ldc hc.1 hc.2.1 hc.2.2.1 (hc.2.2.2.1 _ hl) hd (k ls H locs h1 h2 h3)
theorem MRep.congr {w w1 : Wd} {G : Nat → Nat → Ce} {n : Nat} (h : MRep w G n) (h1 : w1 51 = w 51) (h2 : w1 52 = w 52) (h3 : w1 53 = w 53) : MRep w1 G n := fun r hr p hp => by rw [h1, h2, h3]; exact h r hr p hp
def byeOf (G : Nat → Nat → Ce) (n : Nat) (inn : Nat → Bool) (m : Nat) : Option Nat := if f_in inn m % 2 = 1 then f_fb G n inn m else none
def elOf (G : Nat → Nat → Ce) (n : Nat) (inn : Nat → Bool) (m p : Nat) : Bool := inn p && !decide (byeOf G n inn m = some p)
def ordOf (G : Nat → Nat → Ce) (n : Nat) (inn : Nat → Bool) (m : Nat) : List Nat := bk (f_sc G n) (elOf G n inn m) m 33
def bar (G : Nat → Nat → Ce) (n : Nat) (ap : Nat → Nat → Bool) (p q : Nat) : Bool := ap p q || f_mt G n p q
def cvOf (G : Nat → Nat → Ce) (n : Nat) (ap : Nat → Nat → Bool) (p q : Nat) : Nat := if bar G n ap p q then dpE else gco G n p q
theorem rf_len (f : Nat → Bool) {a b : Nat} (h : a ≤ b) : ((List.range a).filter f).length ≤ ((List.range b).filter f).length := by
  induction b with
  | zero => rw [Nat.le_zero.mp h]; exact Nat.le_refl _
  | succ b ih =>
    rcases Nat.lt_or_eq_of_le h with q | q
    · have := ih (by omega)
      rw [List.range_succ, List.filter_append, List.length_append]
      omega
    · rw [q]
      exact Nat.le_refl _
theorem bk_len (s : Nat → Nat) (el : Nat → Bool) (K : Nat) : ∀ n, (bk s el n K).length ≤ n
  | 0 => by
    have : bk s el 0 K = [] := by
      induction K with
      | zero => rfl
      | succ K ih => simp [bk, ih]
    rw [this]
    exact Nat.le_refl _
  | n + 1 => by
    have ih := bk_len s el K n
    by_cases h : el n = true ∧ s n < K
    · obtain ⟨A, B, h1, h2, -, -⟩ := bk_ins (s := s) h.1 h.2
      rw [h2]
      rw [h1] at ih
      simp at ih ⊢
      omega
    · rw [bk_skip (by
        cases he : el n with
        | false => exact Or.inl rfl
        | true => exact Or.inr (by have : ¬ s n < K := fun q => h ⟨he, q⟩
                                   omega))]
      omega
theorem bk_sorted (s : Nat → Nat) (el : Nat → Bool) (n : Nat) : ∀ K, (bk s el n K).Pairwise (fun x y => s y ≤ s x)
  | 0 => List.Pairwise.nil
  | K + 1 => by
    simp only [bk]
    rw [List.pairwise_append]
    refine ⟨?_, bk_sorted s el n K, ?_⟩
    · rw [List.pairwise_iff_forall_sublist]
      intro a b hab
      have ha : a ∈ (List.range n).filter (fun p => el p && s p == K) := hab.subset (by simp)
      have hb : b ∈ (List.range n).filter (fun p => el p && s p == K) := hab.subset (by simp)
      simp only [List.mem_filter, Bool.and_eq_true, beq_iff_eq] at ha hb
      omega
    · intro a ha b hb
      simp only [List.mem_filter, Bool.and_eq_true, beq_iff_eq] at ha
      have := (bk_mem.mp hb).2.2
      omega
theorem ord_mem {G : Nat → Nat → Ce} {n : Nat} {inn : Nat → Bool} {m i : Nat} (h : i < (ordOf G n inn m).length) : (ordOf G n inn m).getD i 0 < m ∧ elOf G n inn m ((ordOf G n inn m).getD i 0) = true := by
  have : (ordOf G n inn m).getD i 0 ∈ ordOf G n inn m := by
    rw [List.getD_eq_getElem?_getD, List.getElem?_eq_getElem h]
    exact List.getElem_mem h
  have := bk_mem.mp this
  exact ⟨this.1, this.2.1⟩
theorem ord_sorted {G : Nat → Nat → Ce} {n : Nat} {inn : Nat → Bool} {m i j : Nat} (hij : i < j) (h : j < (ordOf G n inn m).length) : f_sc G n ((ordOf G n inn m).getD j 0) ≤ f_sc G n ((ordOf G n inn m).getD i 0) := by
  have := List.pairwise_iff_getElem.mp (bk_sorted (f_sc G n) (elOf G n inn m) m 33) i j (by unfold ordOf at h; omega) h hij
  rw [List.getD_eq_getElem?_getD, List.getD_eq_getElem?_getD, List.getElem?_eq_getElem h, List.getElem?_eq_getElem (show i < (ordOf G n inn m).length by omega)]
  exact this
/-- the order as far as it is laid -/
def LInv (w w1 : Wd) (by_ : Option Nat) (P : List Nat) : Prop := (∀ k, k ≠ 48 → k ≠ 54 → w1 k = w k) ∧ (∀ j, j ≠ 9 → j ≠ 11 → w1 48 j = w 48 j) ∧ w1 48 11 = oI by_ ∧ w1 48 9 = nI P.length ∧ ∀ i, i < P.length → w1 54 i = nI (P.getD i 0)
theorem LInv.push {w w1 : Wd} {by_ : Option Nat} {P : List Nat} (h : LInv w w1 by_ P) (r : Nat) : LInv w (wu (wu w1 54 P.length (nI r)) 48 9 (nI P.length + nI 1)) by_ (P ++ [r]) := by
  obtain ⟨h1, h2, h3, h4, h5⟩ := h
  refine ⟨fun k k1 k2 => ?_, fun j j1 j2 => ?_, ?_, ?_, fun i hi => ?_⟩
  · rw [wu_ne k1, wu_ne k2]; exact h1 k k1 k2
  · rw [wu_o2 j1, wu_o1 (by decide)]; exact h2 j j1 j2
  · rw [wu_o2 (by decide), wu_o1 (by decide)]; exact h3
  · rw [wu_at, nI_add]; simp
  · rw [wu_o1 (by decide)]
    rw [List.length_append, List.length_singleton] at hi
    by_cases hr : i = P.length
    · subst hr
      rw [wu_at]
      simp
    · rw [wu_o2 hr, h5 i (by omega)]
      simp [List.getD_eq_getElem?_getD, List.getElem?_append_left (show i < P.length by omega)]
/-- what lineUp does -/
def LnUp (w w' : Wd) (G : Nat → Nat → Ce) (n : Nat) (ap : Nat → Nat → Bool) (inn : Nat → Bool) (m : Nat) (D : Nat → Nat → Prop) : Prop :=
  (∀ k, k ≠ 48 → k ≠ 54 → k ≠ 55 → w' k = w k) ∧ (∀ j, j ≠ 9 → j ≠ 11 → w' 48 j = w 48 j) ∧ w' 48 11 = oI (byeOf G n inn m) ∧ w' 48 9 = nI (ordOf G n inn m).length ∧
    (∀ i, i < (ordOf G n inn m).length → w' 54 i = nI ((ordOf G n inn m).getD i 0)) ∧
    ∀ a b, a < b → b < (ordOf G n inn m).length → D a b → w' 55 (12 * a + b) = nI (cvOf G n ap ((ordOf G n inn m).getD a 0) ((ordOf G n inn m).getD b 0))
def MKept (w : Wd) (ap : Nat → Nat → Bool) : Prop := ∀ p q, p < 12 → q < 12 → w 50 (12 * p + q) = bI (ap p q)
set_option maxHeartbeats 4000000 in
theorem cM_lineUp (l : Launch) (g : GG) (d : Nat) (w : Wd) (G : Nat → Nat → Ce) (n : Nat) (ap : Nat → Nat → Bool) (inn : Nat → Bool) (m : Nat) (hR : MRep w G n) (hT : GTold G n) (hn : n ≤ 16) (hcl : w 48 4 = nI n) (hI : MIn w inn m) (hm : m ≤ 12) (hpl : w 48 1 = nI m) (hK : MKept w ap) : Con l g yM_lineUp bM_lineUp 4 ((none : Option Jvm.ClassFile.FieldType)) [] (d + 4) 0 0 [.ref (g.1 48)] w (Rp (fun v w' => v = none ∧ LnUp w w' G n ap inn m (fun _ _ => True))) := by
  intro X hl ha hm' hk hn' hc
  subst hl
  obtain ⟨Q, hQ⟩ : ∃ Q, Q = Fen X g 0 0 (Rp (fun v w' => v = none ∧ LnUp w w' G n ap inn m (fun _ _ => True))) := ⟨_, rfl⟩
  rw [← hQ]
  have hlen : (ordOf G n inn m).length ≤ m := bk_len _ _ _ _
  -- the costs, row by row
  have hcost : ∀ w1, LnUp w w1 G n ap inn m (fun _ _ => False) → Go X g 0 0 Q w1 102 [some (.ref (g.1 48)), none, none, none] [] := by
    intro w1 hw1
    refine r_iconst hc dM_lineUp_102 (nI 0) (by decide) ?_
    refine r_istore_n hc dM_lineUp_103 (Nat.le_of_ble_eq_true rfl) ?_
    have hw1' : LnUp w w1 G n ap inn m (fun a _ => a < 0) := ⟨hw1.1, hw1.2.1, hw1.2.2.1, hw1.2.2.2.1, hw1.2.2.2.2.1, fun a b _ _ h => by omega⟩
    clear hw1
    revert w1
    refine lp_up (P := fun i => ∀ w1, LnUp w w1 G n ap inn m (fun a _ => a < i) → Go X g 0 0 Q w1 104 [some (.ref (g.1 48)), some (.int (nI i)), none, none] []) (n := (ordOf G n inn m).length) ?_ 0 (Nat.zero_le _)
    intro i hi ih w1 hw1
    refine r_iload_n hc dM_lineUp_104 rfl ?_
    refine r_aload_n hc dM_lineUp_105 rfl ?_
    refine gM_100 hc dM_lineUp_106 ?_
    rw [hw1.2.2.2.1]
    refine r_ic_ge hc dM_lineUp_109 (tgt := 221) (by decide) (fun h => ?_) (fun h => ?_)
    · have hi2 : i = (ordOf G n inn m).length := by have := nle_to h (by omega) (by omega); omega
      subst hQ
      exact r_vret hc dM_lineUp_221 ⟨rfl, hw1.1, hw1.2.1, hw1.2.2.1, hw1.2.2.2.1, hw1.2.2.2.2.1, fun a b hab hb _ => hw1.2.2.2.2.2 a b hab hb (by omega)⟩
    · have hi2 : i < (ordOf G n inn m).length := nle_of h (by omega) (by omega)
      have ih := ih hi2
      refine r_iload_n hc dM_lineUp_112 rfl ?_
      refine r_iconst hc dM_lineUp_113 (nI 1) (by decide) ?_
      refine r_iadd hc dM_lineUp_114 ?_
      rw [nI_add]
      refine r_istore_n hc dM_lineUp_115 (Nat.le_of_ble_eq_true rfl) ?_
      have hw1' : LnUp w w1 G n ap inn m (fun a b => a < i ∨ (a = i ∧ b < i + 1)) := ⟨hw1.1, hw1.2.1, hw1.2.2.1, hw1.2.2.2.1, hw1.2.2.2.2.1, fun a b q1 q2 q3 => hw1.2.2.2.2.2 a b q1 q2 (by omega)⟩
      clear hw1
      revert w1
      refine lp_up (P := fun j => i + 1 ≤ j → ∀ w1, LnUp w w1 G n ap inn m (fun a b => a < i ∨ (a = i ∧ b < j)) → Go X g 0 0 Q w1 116 [some (.ref (g.1 48)), some (.int (nI i)), some (.int (nI j)), none] []) (n := (ordOf G n inn m).length) ?_ (i + 1) (by omega) (Nat.le_refl _)
      intro j hj ihj hij w1 hw1
      refine r_iload_n hc dM_lineUp_116 rfl ?_
      refine r_aload_n hc dM_lineUp_117 rfl ?_
      refine gM_100 hc dM_lineUp_118 ?_
      rw [hw1.2.2.2.1]
      refine r_ic_ge hc dM_lineUp_121 (tgt := 215) (by decide) (fun h2 => ?_) (fun h2 => ?_)
      · have hj2 : j = (ordOf G n inn m).length := by have := nle_to h2 (by omega) (by omega); omega
        refine r_iinc hc dM_lineUp_215 rfl ?_
        refine r_goto hc dM_lineUp_218 (tgt := 104) (by decide) ?_
        simp only [← nI_add] at ih
        refine Go.drop 2 ?_
        exact ih w1 ⟨hw1.1, hw1.2.1, hw1.2.2.1, hw1.2.2.2.1, hw1.2.2.2.2.1, fun a b q1 q2 q3 => hw1.2.2.2.2.2 a b q1 q2 (by omega)⟩
      · have hj2 : j < (ordOf G n inn m).length := nle_of h2 (by omega) (by omega)
        have ihj := ihj hj2 (by omega)
        obtain ⟨e1, e2, e3, e4, e5, e6⟩ := hw1
        obtain ⟨p1, -⟩ := ord_mem hi2
        obtain ⟨p2, -⟩ := ord_mem hj2
        have hsrt := ord_sorted hij hj2
        have o1 := e5 i hi2
        have o2 := e5 j hj2
        generalize hp : (ordOf G n inn m).getD i 0 = p at p1 hsrt o1
        generalize hq : (ordOf G n inn m).getD j 0 = q at p2 hsrt o2
        have hR1 : MRep w1 G n := hR.congr (e1 51 (by decide) (by decide) (by decide)) (e1 52 (by decide) (by decide) (by decide)) (e1 53 (by decide) (by decide) (by decide))
        have hcl1 : w1 48 4 = nI n := by rw [e2 4 (by decide) (by decide)]; exact hcl
        -- behind the choice of the cost
        have hput : Go X g 0 0 Q w1 208 [some (.ref (g.1 48)), some (.int (nI i)), some (.int (nI j)), none] [.int (nI (cvOf G n ap p q)), .int (nI (12 * i + j)), .ref (g.1 55)] := by
          refine r_iastN hc dM_lineUp_208 rfl (by first | omega | (show _ < 12; omega) | (show _ < 204; omega) | (show _ < 144; omega) | (show _ < 2048; omega) | (show _ < 4096; omega) | (show _ < 16; omega)) ?_
          refine r_iinc hc dM_lineUp_209 rfl ?_
          refine r_goto hc dM_lineUp_212 (tgt := 116) (by decide) ?_
          simp only [← nI_add] at ihj
          refine ihj _ ⟨fun k k1 k2 k3 => ?_, fun b b1 b2 => ?_, ?_, ?_, fun a q1 => ?_, fun a b q1 q2 q3 => ?_⟩
          · rw [wu_ne k3]; exact e1 k k1 k2 k3
          · rw [wu_o1 (by decide)]; exact e2 b b1 b2
          · rw [wu_o1 (by decide)]; exact e3
          · rw [wu_o1 (by decide)]; exact e4
          · rw [wu_o1 (by decide)]; exact e5 a q1
          · by_cases hab : a = i ∧ b = j
            · obtain ⟨rfl, rfl⟩ := hab
              rw [wu_at, hp, hq]
            · rw [wu_o2 (by omega)]
              exact e6 a b q1 q2 (by omega)
        have hcan : ∀ v : Int32, v = bI (!bar G n ap p q) → Go X g 0 0 Q w1 172 [some (.ref (g.1 48)), some (.int (nI i)), some (.int (nI j)), none] [.int v] := by
          intro v hv
          refine r_istore_n hc dM_lineUp_172 (Nat.le_of_ble_eq_true rfl) ?_
          refine r_aload_n hc dM_lineUp_173 rfl ?_
          refine gM_29 hc dM_lineUp_174 ?_
          refine r_bipush hc dM_lineUp_177 (nI 12) (by decide) ?_
          refine r_iload_n hc dM_lineUp_179 rfl ?_
          refine r_imul hc dM_lineUp_180 ?_
          refine r_iload_n hc dM_lineUp_181 rfl ?_
          refine r_iadd hc dM_lineUp_182 ?_
          rw [ix12]
          refine r_iload_n hc dM_lineUp_183 rfl ?_
          subst hv
          cases hb : bar G n ap p q with
          | true =>
            refine r_if_eq_t hc dM_lineUp_184 (tgt := 206) (by decide) rfl ?_
            refine r_ldc hc dM_lineUp_206 (v := nI dpE) (t4_mem 11 rfl rfl) ?_
            refine Go.drop 3 ?_
            simp only [cvOf, hb, if_true] at hput
            exact hput
          | false =>
            refine r_if_eq_f hc dM_lineUp_184 (tgt := 206) (by decide) (by decide) ?_
            refine r_aload_n hc dM_lineUp_187 rfl ?_
            refine r_aload_n hc dM_lineUp_188 rfl ?_
            refine gM_26 hc dM_lineUp_189 ?_
            refine r_iload_n hc dM_lineUp_192 rfl ?_
            refine r_ialdN hc dM_lineUp_193 rfl (by first | omega | (show _ < 12; omega) | (show _ < 204; omega) | (show _ < 144; omega) | (show _ < 2048; omega) | (show _ < 4096; omega) | (show _ < 16; omega)) ?_
            rw [o1]
            refine r_aload_n hc dM_lineUp_194 rfl ?_
            refine gM_26 hc dM_lineUp_195 ?_
            refine r_iload_n hc dM_lineUp_198 rfl ?_
            refine r_ialdN hc dM_lineUp_199 rfl (by first | omega | (show _ < 12; omega) | (show _ < 204; omega) | (show _ < 144; omega) | (show _ < 2048; omega) | (show _ < 4096; omega) | (show _ < 16; omega)) ?_
            rw [o2]
            refine kM_106r hc dM_lineUp_200 (cM_costOf _ g d w1 G n p q hR1 hT hn hcl1 (by omega) (by omega) hsrt) (by omega) (Nat.le_of_ble_eq_true rfl) ?_
            rintro _ _ ⟨rfl, rfl⟩
            refine r_goto hc dM_lineUp_203 (tgt := 208) (by decide) ?_
            refine Go.drop 3 ?_
            simp only [cvOf, hb, Bool.false_eq_true, if_false] at hput
            exact hput
        refine r_aload_n hc dM_lineUp_124 rfl ?_
        refine gM_13 hc dM_lineUp_125 ?_
        refine r_bipush hc dM_lineUp_128 (nI 12) (by decide) ?_
        refine r_aload_n hc dM_lineUp_130 rfl ?_
        refine gM_26 hc dM_lineUp_131 ?_
        refine r_iload_n hc dM_lineUp_134 rfl ?_
        refine r_ialdN hc dM_lineUp_135 rfl (by first | omega | (show _ < 12; omega) | (show _ < 204; omega) | (show _ < 144; omega) | (show _ < 2048; omega) | (show _ < 4096; omega) | (show _ < 16; omega)) ?_
        rw [o1]
        refine r_imul hc dM_lineUp_136 ?_
        refine r_aload_n hc dM_lineUp_137 rfl ?_
        refine gM_26 hc dM_lineUp_138 ?_
        refine r_iload_n hc dM_lineUp_141 rfl ?_
        refine r_ialdN hc dM_lineUp_142 rfl (by first | omega | (show _ < 12; omega) | (show _ < 204; omega) | (show _ < 144; omega) | (show _ < 2048; omega) | (show _ < 4096; omega) | (show _ < 16; omega)) ?_
        rw [o2]
        refine r_iadd hc dM_lineUp_143 ?_
        rw [ix12]
        refine r_zaldN hc dM_lineUp_144 rfl (by first | omega | (show _ < 12; omega) | (show _ < 204; omega) | (show _ < 144; omega) | (show _ < 2048; omega) | (show _ < 4096; omega) | (show _ < 16; omega)) ?_
        rw [show w1 50 = w 50 from e1 50 (by decide) (by decide) (by decide), hK p q (by omega) (by omega)]
        cases hap : ap p q with
        | true =>
          refine r_if_ne_t hc dM_lineUp_145 (tgt := 171) (by decide) (by decide) ?_
          refine r_iconst hc dM_lineUp_171 (nI 0) (by decide) ?_
          exact hcan _ (by simp [bar, hap, bI]; rfl)
        | false =>
          refine r_if_ne_f hc dM_lineUp_145 (tgt := 171) (by decide) rfl ?_
          refine r_aload_n hc dM_lineUp_148 rfl ?_
          refine r_aload_n hc dM_lineUp_149 rfl ?_
          refine gM_26 hc dM_lineUp_150 ?_
          refine r_iload_n hc dM_lineUp_153 rfl ?_
          refine r_ialdN hc dM_lineUp_154 rfl (by first | omega | (show _ < 12; omega) | (show _ < 204; omega) | (show _ < 144; omega) | (show _ < 2048; omega) | (show _ < 4096; omega) | (show _ < 16; omega)) ?_
          rw [o1]
          refine r_aload_n hc dM_lineUp_155 rfl ?_
          refine gM_26 hc dM_lineUp_156 ?_
          refine r_iload_n hc dM_lineUp_159 rfl ?_
          refine r_ialdN hc dM_lineUp_160 rfl (by first | omega | (show _ < 12; omega) | (show _ < 204; omega) | (show _ < 144; omega) | (show _ < 2048; omega) | (show _ < 4096; omega) | (show _ < 16; omega)) ?_
          rw [o2]
          refine kM_103r hc dM_lineUp_161 (cM_hadEachOther _ g d w1 G n p q hR1 hn hcl1 (by omega) (by omega)) (by omega) (Nat.le_of_ble_eq_true rfl) ?_
          rintro _ _ ⟨rfl, rfl⟩
          cases hmt : f_mt G n p q with
          | true =>
            refine r_if_ne_t hc dM_lineUp_164 (tgt := 171) (by decide) (by decide) ?_
            refine r_iconst hc dM_lineUp_171 (nI 0) (by decide) ?_
            exact hcan _ (by simp [bar, hap, hmt, bI]; rfl)
          | false =>
            refine r_if_ne_f hc dM_lineUp_164 (tgt := 171) (by decide) rfl ?_
            refine r_iconst hc dM_lineUp_167 (nI 1) (by decide) ?_
            refine r_goto hc dM_lineUp_168 (tgt := 172) (by decide) ?_
            exact hcan _ (by simp [bar, hap, hmt, bI]; rfl)
  -- the order, score by score
  have hord : ∀ K, K ≤ 33 → ∀ w1 P, LInv w w1 (byeOf G n inn m) P → P ++ bk (f_sc G n) (elOf G n inn m) m K = ordOf G n inn m → Go X g 0 0 Q w1 30 [some (.ref (g.1 48)), some (.int (nI K - nI 1)), none, none] [] := by
    refine lp_dn (P := fun K => K ≤ 33 → ∀ w1 P, LInv w w1 (byeOf G n inn m) P → P ++ bk (f_sc G n) (elOf G n inn m) m K = ordOf G n inn m → Go X g 0 0 Q w1 30 [some (.ref (g.1 48)), some (.int (nI K - nI 1)), none, none] []) ?_
    intro K ihK hK33 w1 P hw1 hP
    cases K with
    | zero =>
      refine r_iload_n hc dM_lineUp_30 rfl ?_
      refine r_if_lt_t hc dM_lineUp_31 (tgt := 102) (by decide) (by decide) ?_
      refine Go.drop 1 ?_
      have hPL : P = ordOf G n inn m := by simpa [bk] using hP
      subst hPL
      exact hcost w1 ⟨fun k k1 k2 _ => hw1.1 k k1 k2, hw1.2.1, hw1.2.2.1, hw1.2.2.2.1, hw1.2.2.2.2, fun a b _ _ h => h.elim⟩
    | succ K =>
      have ihK := ihK K rfl (by omega)
      rw [show nI (K + 1) - nI 1 = nI K from nI_pred K]
      refine r_iload_n hc dM_lineUp_30 rfl ?_
      refine r_if_lt_f hc dM_lineUp_31 (tgt := 102) (by decide) (nI_pos (by omega)) ?_
      refine r_iconst hc dM_lineUp_34 (nI 0) (by decide) ?_
      refine r_istore_n hc dM_lineUp_35 (Nat.le_of_ble_eq_true rfl) ?_
      refine lp_up (P := fun r => ∀ w1 P', LInv w w1 (byeOf G n inn m) P' → P' = P ++ (List.range r).filter (fun p => elOf G n inn m p && f_sc G n p == K) → Go X g 0 0 Q w1 36 [some (.ref (g.1 48)), some (.int (nI K)), some (.int (nI r)), none] []) (n := m) ?_ 0 (Nat.zero_le _) w1 P hw1 (by simp)
      clear hw1 w1
      intro r hr ihr w1 P' hw1 hP'
      refine r_iload_n hc dM_lineUp_36 rfl ?_
      refine r_aload_n hc dM_lineUp_37 rfl ?_
      refine gM_44 hc dM_lineUp_38 ?_
      rw [show w1 48 1 = nI m by rw [hw1.2.1 1 (by decide) (by decide)]; exact hpl]
      refine r_ic_ge hc dM_lineUp_41 (tgt := 96) (by decide) (fun h => ?_) (fun h => ?_)
      · have hr2 : r = m := by have := nle_to h (by omega) (by omega); omega
        subst hr2
        refine r_iinc hc dM_lineUp_96 rfl ?_
        refine r_goto hc dM_lineUp_99 (tgt := 30) (by decide) ?_
        rw [ii_m1]
        refine Go.drop 2 ?_
        exact ihK w1 P' hw1 (by rw [hP', List.append_assoc]; exact hP)
      · have hr2 : r < m := nle_of h (by omega) (by omega)
        have ihr := ihr hr2
        have hskip : (elOf G n inn m r && f_sc G n r == K) = false → Go X g 0 0 Q w1 90 [some (.ref (g.1 48)), some (.int (nI K)), some (.int (nI r)), none] [] := by
          intro hs
          refine r_iinc hc dM_lineUp_90 rfl ?_
          refine r_goto hc dM_lineUp_93 (tgt := 36) (by decide) ?_
          simp only [← nI_add] at ihr
          exact ihr w1 P' hw1 (by rw [hP', List.range_succ, List.filter_append]; simp [hs])
        refine r_aload_n hc dM_lineUp_44 rfl ?_
        refine gM_7 hc dM_lineUp_45 ?_
        refine r_iload_n hc dM_lineUp_48 rfl ?_
        refine r_zaldN hc dM_lineUp_49 rfl (by first | omega | (show _ < 12; omega) | (show _ < 204; omega) | (show _ < 144; omega) | (show _ < 2048; omega) | (show _ < 4096; omega) | (show _ < 16; omega)) ?_
        rw [show w1 49 = w 49 from hw1.1 49 (by decide) (by decide), hI r hr2]
        cases hi : inn r with
        | false =>
          refine r_if_eq_t hc dM_lineUp_50 (tgt := 90) (by decide) rfl ?_
          exact hskip (by simp [elOf, hi])
        | true =>
          refine r_if_eq_f hc dM_lineUp_50 (tgt := 90) (by decide) (by decide) ?_
          refine r_iload_n hc dM_lineUp_53 rfl ?_
          refine r_aload_n hc dM_lineUp_54 rfl ?_
          refine gM_97 hc dM_lineUp_55 ?_
          rw [hw1.2.2.1]
          by_cases hbr : byeOf G n inn m = some r
          · rw [hbr]
            refine r_ic_eq_t hc dM_lineUp_58 (tgt := 90) (by decide) rfl ?_
            exact hskip (by simp [elOf, hbr])
          · have hne : ¬ nI r = oI (byeOf G n inn m) := by
              intro z
              apply hbr
              cases hb : byeOf G n inn m with
              | none =>
                rw [hb] at z
                have := nI_pos (n := r) (by omega)
                rw [z] at this
                exact absurd (by decide) this
              | some c =>
                rw [hb] at z
                have hlt : c < m := by
                  unfold byeOf at hb
                  split at hb
                  · exact (f_fb_lt hb).1
                  · cases hb
                have : r = c := (nI_eq (by omega) (by omega)).mp z
                rw [this]
            refine r_ic_eq_f hc dM_lineUp_58 (tgt := 90) (by decide) hne ?_
            refine r_aload_n hc dM_lineUp_61 rfl ?_
            refine r_iload_n hc dM_lineUp_62 rfl ?_
            refine kM_70r hc dM_lineUp_63 (cM_scoreOf _ g d w1 G n r (hR.congr (hw1.1 51 (by decide) (by decide)) (hw1.1 52 (by decide) (by decide)) (hw1.1 53 (by decide) (by decide))) hT hn (by rw [hw1.2.1 4 (by decide) (by decide)]; exact hcl) (by omega)) (by omega) (Nat.le_of_ble_eq_true rfl) ?_
            rintro _ _ ⟨rfl, rfl⟩
            refine r_iload_n hc dM_lineUp_66 rfl ?_
            have hsc := f_sc_le2 (p := r) hT (by omega)
            by_cases hs : f_sc G n r = K
            · refine r_ic_ne_f hc dM_lineUp_67 (tgt := 90) (by decide) (by rw [hs]) ?_
              have hel : elOf G n inn m r = true := by simp [elOf, hi, hbr]
              have hl12 : P'.length < 12 := by
                have h1 := rf_len (fun p => elOf G n inn m p && f_sc G n p == K) (show r + 1 ≤ m by omega)
                rw [List.range_succ, List.filter_append] at h1
                simp [hel, hs] at h1
                have h2 := congrArg List.length hP
                simp [bk] at h2
                have h3 := congrArg List.length hP'
                simp at h3
                omega
              refine r_aload_n hc dM_lineUp_70 rfl ?_
              refine gM_26 hc dM_lineUp_71 ?_
              refine r_aload_n hc dM_lineUp_74 rfl ?_
              refine gM_100 hc dM_lineUp_75 ?_
              rw [hw1.2.2.2.1]
              refine r_iload_n hc dM_lineUp_78 rfl ?_
              refine r_iastN hc dM_lineUp_79 rfl (by first | omega | (show _ < 12; omega) | (show _ < 204; omega) | (show _ < 144; omega) | (show _ < 2048; omega) | (show _ < 4096; omega) | (show _ < 16; omega)) ?_
              refine r_aload_n hc dM_lineUp_80 rfl ?_
              refine r_dup hc dM_lineUp_81 rfl ?_
              refine gM_100 hc dM_lineUp_82 ?_
              rw [show wu w1 54 P'.length (nI r) 48 9 = nI P'.length by rw [wu_o1 (by decide)]; exact hw1.2.2.2.1]
              refine r_iconst hc dM_lineUp_85 (nI 1) (by decide) ?_
              refine r_iadd hc dM_lineUp_86 ?_
              refine pM_100 hc dM_lineUp_87 ?_
              refine r_iinc hc dM_lineUp_90 rfl ?_
              refine r_goto hc dM_lineUp_93 (tgt := 36) (by decide) ?_
              simp only [← nI_add] at ihr
              exact ihr _ (P' ++ [r]) (hw1.push r) (by rw [hP', List.range_succ, List.filter_append]; simp [hel, hs])
            · refine r_ic_ne_t hc dM_lineUp_67 (tgt := 90) (by decide) (fun z => hs ((nI_eq (by omega) (by omega)).mp z)) ?_
              exact hskip (by simp [hs])
  have hgo : ∀ o : Option Nat, o = byeOf G n inn m → Go X g 0 0 Q w 19 [some (.ref (g.1 48)), none, none, none] [.int (oI o), .ref (g.1 48)] := by
    intro o ho
    refine pM_97 hc dM_lineUp_19 ?_
    refine r_aload_n hc dM_lineUp_22 rfl ?_
    refine r_iconst hc dM_lineUp_23 (nI 0) (by decide) ?_
    refine pM_100 hc dM_lineUp_24 ?_
    refine r_bipush hc dM_lineUp_27 (nI 32) (by decide) ?_
    refine r_istore_n hc dM_lineUp_29 (Nat.le_of_ble_eq_true rfl) ?_
    refine hord 33 (Nat.le_refl _) _ [] ⟨fun k k1 k2 => ?_, fun j j1 j2 => ?_, ?_, ?_, fun i hi => by simp at hi⟩ rfl
    · rw [wu_ne k1, wu_ne k1]
    · rw [wu_o2 j1, wu_o2 j2]
    · rw [wu_o2 (by decide), wu_at, ho]
    · rw [wu_at]; rfl
  refine r_aload_n hc dM_lineUp_0 rfl ?_
  refine r_aload_n hc dM_lineUp_1 rfl ?_
  refine kM_90r hc dM_lineUp_2 (cM_inMany _ g d w inn m hI hm hpl) (by omega) (Nat.le_of_ble_eq_true rfl) ?_
  rintro _ _ ⟨rfl, rfl⟩
  have hfm := f_in_le inn m
  refine r_iconst hc dM_lineUp_5 (nI 2) (by decide) ?_
  refine r_irem hc dM_lineUp_6 (by decide) ?_
  rw [rem2 (by omega)]
  refine r_iconst hc dM_lineUp_7 (nI 1) (by decide) ?_
  by_cases hodd : f_in inn m % 2 = 1
  · rw [hodd]
    refine r_ic_ne_f hc dM_lineUp_8 (tgt := 18) (by decide) rfl ?_
    refine r_aload_n hc dM_lineUp_11 rfl ?_
    refine kM_94r hc dM_lineUp_12 (cM_findBye _ g d w G n inn m hR hT hn hcl hI hm hpl) (by omega) (Nat.le_of_ble_eq_true rfl) ?_
    rintro _ _ ⟨rfl, rfl⟩
    refine r_goto hc dM_lineUp_15 (tgt := 19) (by decide) ?_
    exact hgo _ (by rw [byeOf, if_pos hodd])
  · rw [show f_in inn m % 2 = 0 by omega]
    refine r_ic_ne_t hc dM_lineUp_8 (tgt := 18) (by decide) (by decide) ?_
    refine r_iconst hc dM_lineUp_18 (-1) (by decide) ?_
    exact hgo none (by rw [byeOf, if_neg hodd])
