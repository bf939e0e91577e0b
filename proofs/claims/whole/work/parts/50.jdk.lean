/-! the JDK's pieces: fill, bitCount, numberOfTrailingZeros, min, max -/
theorem r_ldcw {X : Cxt} {g : GG} {cc : ByteArray} {own : String} {ret : Option FieldType} {hx : List (Nat × Nat × Nat × Nat)} {d kc ks : Nat} {Q : State → Prop} {w : Wd} {pc : Nat} {lp : List (Option Value)} {st : List Value} {idx : Nat} {v : Int32} (hc : Ok X g cc own ret hx d) (hd : decode cc pc = .ok (.ldc_w idx, 3)) (hl : Cond.constant own idx v ∈ Ttab) (k : Go X g kc ks Q w (pc + 3) lp (.int v :: st)) : Go X g kc ks Q w pc lp st := by
  obtain ⟨p, l, e, R, s, m, args, below, meth, c⟩ := X
  intro ls H locs h1 h2 h3
  exact lv_ldcw hc.1 hc.2.1 hc.2.2.1 (hc.2.2.2.1 _ hl) hd (k ls H locs h1 h2 h3)
/-- the first places of a cell all hold x -/
def fl (w : Wd) (q n : Nat) (x : Int32) : Wd := fun j i => if j = q ∧ i < n then x else w j i
theorem fl_0 (w : Wd) (q : Nat) (x : Int32) : fl w q 0 x = w := by funext j i; simp [fl]
theorem fl_s (w : Wd) (q n : Nat) (x : Int32) : wu (fl w q n x) q n x = fl w q (n + 1) x := by
  funext j i
  by_cases hj : j = q
  · subst hj
    by_cases hi : i = n
    · subst hi; rw [wu_at]; simp [fl]
    · rw [wu_o2 hi]
      by_cases h2 : i < n
      · simp [fl, h2, Nat.lt_succ_of_lt h2]
      · simp [fl, h2, show ¬ i < n + 1 by omega]
  · rw [wu_o1 hj]; simp [fl, hj]
theorem fl_at {w : Wd} {q n i : Nat} {x : Int32} (h : i < n) : fl w q n x q i = x := by simp [fl, h]
theorem fl_ne {w : Wd} {q n j : Nat} {x : Int32} (h : j ≠ q) : fl w q n x j = w j := by funext i; simp [fl, h]
theorem cA_fill (l : Launch) (g : GG) (d : Nat) (w : Wd) (q n : Nat) (x : Int32) (hq : lenI q = n) (h0 : 0 < n) : Con l g yA_fill bA_fill 4 ((none : Option Jvm.ClassFile.FieldType)) [] d 0 0 [.ref (g.1 q), .int x] w (Rp (An none (fl w q n x))) := by
  intro X hl ha hm' hk hn' hc
  subst hl
  subst hq
  have hle := lenI_le q
  refine r_iconst hc dA_fill_0 (nI 0) (by decide) ?_
  refine r_istore_n hc dA_fill_1 (Nat.le_of_ble_eq_true rfl) ?_
  refine r_aload_n hc dA_fill_2 rfl ?_
  refine r_alen hc dA_fill_3 h0 ?_
  refine r_istore_n hc dA_fill_4 (Nat.le_of_ble_eq_true rfl) ?_
  suffices hgen : ∀ i, i ≤ lenI q → Go X g 0 0 (Fen X g 0 0 (Rp (An none (fl w q (lenI q) x)))) (fl w q i x) 5 [some (.ref (g.1 q)), some (.int x), some (.int (nI i)), some (.int (nI (lenI q)))] [] by
    have := hgen 0 (Nat.zero_le _)
    rw [fl_0] at this
    exact this
  refine lp_up ?_
  intro i hi ih
  refine r_iload_n hc dA_fill_5 rfl ?_
  refine r_iload_n hc dA_fill_6 rfl ?_
  refine r_ic_ge hc dA_fill_7 (tgt := 20) (by decide) (fun h => ?_) (fun h => ?_)
  · have hi2 : i = lenI q := by have := nle_to h (by omega) (by omega); omega
    rw [hi2]
    exact r_vret hc dA_fill_20 ⟨rfl, rfl⟩
  · have hi2 : i < lenI q := nle_of h (by omega) (by omega)
    have ih := ih hi2
    rw [← fl_s] at ih
    simp only [← nI_add] at ih
    refine r_aload_n hc dA_fill_10 rfl ?_
    refine r_iload_n hc dA_fill_11 rfl ?_
    refine r_iload_n hc dA_fill_12 rfl ?_
    refine r_iastN hc dA_fill_13 rfl (by first | omega | (show _ < 12; omega) | (show _ < 204; omega) | (show _ < 144; omega) | (show _ < 2048; omega) | (show _ < 4096; omega) | (show _ < 16; omega)) ?_
    refine r_iinc hc dA_fill_14 rfl ?_
    refine r_goto hc dA_fill_17 (tgt := 5) (by decide) ?_
    exact ih
/-- how many are in a set -/
def pop (S : Nat) : Nat := S % 2 + S / 2 % 2 + S / 4 % 2 + S / 8 % 2 + S / 16 % 2 + S / 32 % 2 + S / 64 % 2 + S / 128 % 2 + S / 256 % 2 + S / 512 % 2 + S / 1024 % 2 + S / 2048 % 2
def us (x : Int32) (k : Nat) : Int32 := (x.toUInt32 >>> ((nI k).toUInt32 &&& Int32.toUInt32 31)).toInt32
def bc1 (x : Int32) : Int32 := x - (us x 1 &&& 1431655765)
def bc2 (x : Int32) : Int32 := (x &&& 858993459) + (us x 2 &&& 858993459)
def bc3 (x : Int32) : Int32 := (x + us x 4) &&& 252645135
def bc4 (x : Int32) : Int32 := x + us x 8
def bc5 (x : Int32) : Int32 := x + us x 16
theorem bc_sq : ∀ a, a < 64 → ∀ b, b < 64 → bc5 (bc4 (bc3 (bc2 (bc1 (nI (64 * a + b)))))) &&& nI 63 = nI (pop (64 * a + b)) := by decide +kernel
theorem bc_all (S : Nat) (h : S < 4096) : bc5 (bc4 (bc3 (bc2 (bc1 (nI S))))) &&& nI 63 = nI (pop S) := by
  have := bc_sq (S / 64) (by omega) (S % 64) (by omega)
  rw [show 64 * (S / 64) + S % 64 = S by omega] at this
  exact this
theorem cI_bitCount (l : Launch) (g : GG) (d : Nat) (w : Wd) (S : Nat) (hS : S < 4096) : Con l g yI_bitCount bI_bitCount 1 ((some .int)) [] d 0 0 [.int (nI S)] w (Rp (An (some (.int (nI (pop S)))) w)) := by
  intro X hl ha hm' hk hn' hc
  subst hl
  refine r_iload_n hc dI_bitCount_0 rfl ?_
  refine r_iload_n hc dI_bitCount_1 rfl ?_
  refine r_iconst hc dI_bitCount_2 (nI 1) (by decide) ?_
  refine r_iushr hc dI_bitCount_3 ?_
  refine r_ldcw hc dI_bitCount_4 (v := 1431655765) (t1_mem 188 rfl rfl) ?_
  refine r_iand hc dI_bitCount_7 ?_
  refine r_isub hc dI_bitCount_8 ?_
  refine r_istore_n hc dI_bitCount_9 (Nat.le_of_ble_eq_true rfl) ?_
  refine r_iload_n hc dI_bitCount_10 rfl ?_
  refine r_ldcw hc dI_bitCount_11 (v := 858993459) (t1_mem 189 rfl rfl) ?_
  refine r_iand hc dI_bitCount_14 ?_
  refine r_iload_n hc dI_bitCount_15 rfl ?_
  refine r_iconst hc dI_bitCount_16 (nI 2) (by decide) ?_
  refine r_iushr hc dI_bitCount_17 ?_
  refine r_ldcw hc dI_bitCount_18 (v := 858993459) (t1_mem 189 rfl rfl) ?_
  refine r_iand hc dI_bitCount_21 ?_
  refine r_iadd hc dI_bitCount_22 ?_
  refine r_istore_n hc dI_bitCount_23 (Nat.le_of_ble_eq_true rfl) ?_
  refine r_iload_n hc dI_bitCount_24 rfl ?_
  refine r_iload_n hc dI_bitCount_25 rfl ?_
  refine r_iconst hc dI_bitCount_26 (nI 4) (by decide) ?_
  refine r_iushr hc dI_bitCount_27 ?_
  refine r_iadd hc dI_bitCount_28 ?_
  refine r_ldcw hc dI_bitCount_29 (v := 252645135) (t1_mem 190 rfl rfl) ?_
  refine r_iand hc dI_bitCount_32 ?_
  refine r_istore_n hc dI_bitCount_33 (Nat.le_of_ble_eq_true rfl) ?_
  refine r_iload_n hc dI_bitCount_34 rfl ?_
  refine r_iload_n hc dI_bitCount_35 rfl ?_
  refine r_bipush hc dI_bitCount_36 (nI 8) (by decide) ?_
  refine r_iushr hc dI_bitCount_38 ?_
  refine r_iadd hc dI_bitCount_39 ?_
  refine r_istore_n hc dI_bitCount_40 (Nat.le_of_ble_eq_true rfl) ?_
  refine r_iload_n hc dI_bitCount_41 rfl ?_
  refine r_iload_n hc dI_bitCount_42 rfl ?_
  refine r_bipush hc dI_bitCount_43 (nI 16) (by decide) ?_
  refine r_iushr hc dI_bitCount_45 ?_
  refine r_iadd hc dI_bitCount_46 ?_
  refine r_istore_n hc dI_bitCount_47 (Nat.le_of_ble_eq_true rfl) ?_
  refine r_iload_n hc dI_bitCount_48 rfl ?_
  refine r_bipush hc dI_bitCount_49 (nI 63) (by decide) ?_
  refine r_iand hc dI_bitCount_51 ?_
  exact r_iret hc dI_bitCount_52 ⟨congrArg (fun z => some (Value.int z)) (bc_all S hS), rfl⟩
def z74 (x n : Int32) : Int32 := n + us x 1
def z62 (x n : Int32) : Int32 := if nI 4 < x then z74 (us x 2) (n + nI 2) else z74 x n
def z49 (x n : Int32) : Int32 := if nI 16 < x then z62 (us x 4) (n + nI 4) else z62 x n
def z34 (x n : Int32) : Int32 := if nI 256 < x then z49 (us x 8) (n + nI 8) else z49 x n
def lowY (S : Nat) : Int32 := (nI S ^^^ (-1)) &&& (nI S - nI 1)
theorem low_sq : ∀ a, a < 64 → ∀ b, b < 64 → 64 * a + b = 0 ∨ (lowY (64 * a + b) = 0 ∧ lowb (64 * a + b) = 0) ∨ (0 < lowY (64 * a + b) ∧ lowY (64 * a + b) ≤ 65536 ∧ z34 (lowY (64 * a + b)) (nI 1) = nI (lowb (64 * a + b))) := by decide +kernel
theorem low_all (S : Nat) (h0 : 0 < S) (h : S < 4096) : (lowY S = 0 ∧ lowb S = 0) ∨ (0 < lowY S ∧ lowY S ≤ 65536 ∧ z34 (lowY S) (nI 1) = nI (lowb S)) := by
  have := low_sq (S / 64) (by omega) (S % 64) (by omega)
  rw [show 64 * (S / 64) + S % 64 = S by omega] at this
  rcases this with h1 | h1
  · omega
  · exact h1
theorem cI_ntz (l : Launch) (g : GG) (d : Nat) (w : Wd) (S : Nat) (h0 : 0 < S) (hS : S < 4096) : Con l g yI_numberOfTrailingZeros bI_numberOfTrailingZeros 2 ((some .int)) [] d 0 0 [.int (nI S)] w (Rp (An (some (.int (nI (lowb S)))) w)) := by
  intro X hl ha hm' hk hn' hc
  subst hl
  obtain ⟨Q, hQ⟩ : ∃ Q, Q = Fen X g 0 0 (Rp (An (some (.int (nI (lowb S)))) w)) := ⟨_, rfl⟩
  rw [← hQ]
  have h74 : ∀ x n, z74 x n = nI (lowb S) → Go X g 0 0 Q w 74 [some (.int x), some (.int n)] [] := by
    intro x n hz
    refine r_iload_n hc dI_numberOfTrailingZeros_74 rfl ?_
    refine r_iload_n hc dI_numberOfTrailingZeros_75 rfl ?_
    refine r_iconst hc dI_numberOfTrailingZeros_76 (nI 1) (by decide) ?_
    refine r_iushr hc dI_numberOfTrailingZeros_77 ?_
    refine r_iadd hc dI_numberOfTrailingZeros_78 ?_
    subst hQ
    exact r_iret hc dI_numberOfTrailingZeros_79 ⟨congrArg (fun z => some (Value.int z)) hz, rfl⟩
  have h62 : ∀ x n, z62 x n = nI (lowb S) → Go X g 0 0 Q w 62 [some (.int x), some (.int n)] [] := by
    intro x n hz
    unfold z62 at hz
    refine r_iload_n hc dI_numberOfTrailingZeros_62 rfl ?_
    refine r_iconst hc dI_numberOfTrailingZeros_63 (nI 4) (by decide) ?_
    refine r_ic_le hc dI_numberOfTrailingZeros_64 (tgt := 74) (by decide) (fun h => ?_) (fun h => ?_)
    · rw [if_neg (Int32.not_lt.mpr h)] at hz
      exact h74 x n hz
    · rw [if_pos (Int32.not_le.mp h)] at hz
      refine r_iinc hc dI_numberOfTrailingZeros_67 rfl ?_
      refine r_iload_n hc dI_numberOfTrailingZeros_70 rfl ?_
      refine r_iconst hc dI_numberOfTrailingZeros_71 (nI 2) (by decide) ?_
      refine r_iushr hc dI_numberOfTrailingZeros_72 ?_
      refine r_istore_n hc dI_numberOfTrailingZeros_73 (Nat.le_of_ble_eq_true rfl) ?_
      exact h74 _ _ hz
  have h49 : ∀ x n, z49 x n = nI (lowb S) → Go X g 0 0 Q w 49 [some (.int x), some (.int n)] [] := by
    intro x n hz
    unfold z49 at hz
    refine r_iload_n hc dI_numberOfTrailingZeros_49 rfl ?_
    refine r_bipush hc dI_numberOfTrailingZeros_50 (nI 16) (by decide) ?_
    refine r_ic_le hc dI_numberOfTrailingZeros_52 (tgt := 62) (by decide) (fun h => ?_) (fun h => ?_)
    · rw [if_neg (Int32.not_lt.mpr h)] at hz
      exact h62 x n hz
    · rw [if_pos (Int32.not_le.mp h)] at hz
      refine r_iinc hc dI_numberOfTrailingZeros_55 rfl ?_
      refine r_iload_n hc dI_numberOfTrailingZeros_58 rfl ?_
      refine r_iconst hc dI_numberOfTrailingZeros_59 (nI 4) (by decide) ?_
      refine r_iushr hc dI_numberOfTrailingZeros_60 ?_
      refine r_istore_n hc dI_numberOfTrailingZeros_61 (Nat.le_of_ble_eq_true rfl) ?_
      exact h62 _ _ hz
  refine r_iload_n hc dI_numberOfTrailingZeros_0 rfl ?_
  refine r_iconst hc dI_numberOfTrailingZeros_1 (-1) (by decide) ?_
  refine r_ixor hc dI_numberOfTrailingZeros_2 ?_
  refine r_iload_n hc dI_numberOfTrailingZeros_3 rfl ?_
  refine r_iconst hc dI_numberOfTrailingZeros_4 (nI 1) (by decide) ?_
  refine r_isub hc dI_numberOfTrailingZeros_5 ?_
  refine r_iand hc dI_numberOfTrailingZeros_6 ?_
  refine r_istore_n hc dI_numberOfTrailingZeros_7 (Nat.le_of_ble_eq_true rfl) ?_
  refine r_iload_n hc dI_numberOfTrailingZeros_8 rfl ?_
  rcases low_all S h0 hS with ⟨h1, h2⟩ | ⟨h1, h2, h3⟩
  · change Go X g 0 0 Q w 9 [some (.int (lowY S)), none] [.int (lowY S)]
    rw [h1]
    refine r_if_gt_f hc dI_numberOfTrailingZeros_9 (tgt := 17) (by decide) (by decide) ?_
    refine r_iload_n hc dI_numberOfTrailingZeros_12 rfl ?_
    refine r_bipush hc dI_numberOfTrailingZeros_13 (nI 32) (by decide) ?_
    refine r_iand hc dI_numberOfTrailingZeros_15 ?_
    subst hQ
    exact r_iret hc dI_numberOfTrailingZeros_16 ⟨by rw [h2]; rfl, rfl⟩
  · change Go X g 0 0 Q w 9 [some (.int (lowY S)), none] [.int (lowY S)]
    refine r_if_gt_t hc dI_numberOfTrailingZeros_9 (tgt := 17) (by decide) h1 ?_
    refine r_iconst hc dI_numberOfTrailingZeros_17 (nI 1) (by decide) ?_
    refine r_istore_n hc dI_numberOfTrailingZeros_18 (Nat.le_of_ble_eq_true rfl) ?_
    refine r_iload_n hc dI_numberOfTrailingZeros_19 rfl ?_
    refine r_ldcw hc dI_numberOfTrailingZeros_20 (v := 65536) (t1_mem 198 rfl rfl) ?_
    refine r_ic_le_t hc dI_numberOfTrailingZeros_23 (tgt := 34) (by decide) h2 ?_
    unfold z34 at h3
    refine r_iload_n hc dI_numberOfTrailingZeros_34 rfl ?_
    refine r_sipush hc dI_numberOfTrailingZeros_35 (nI 256) (by decide) ?_
    refine r_ic_le hc dI_numberOfTrailingZeros_38 (tgt := 49) (by decide) (fun h => ?_) (fun h => ?_)
    · rw [if_neg (Int32.not_lt.mpr h)] at h3
      exact h49 _ _ h3
    · rw [if_pos (Int32.not_le.mp h)] at h3
      refine r_iinc hc dI_numberOfTrailingZeros_41 rfl ?_
      refine r_iload_n hc dI_numberOfTrailingZeros_44 rfl ?_
      refine r_bipush hc dI_numberOfTrailingZeros_45 (nI 8) (by decide) ?_
      refine r_iushr hc dI_numberOfTrailingZeros_47 ?_
      refine r_istore_n hc dI_numberOfTrailingZeros_48 (Nat.le_of_ble_eq_true rfl) ?_
      exact h49 _ _ h3
theorem cH_min (l : Launch) (g : GG) (d : Nat) (w : Wd) (a b : Int32) : Con l g yH_min bH_min 2 ((some .int)) [] d 0 0 [.int a, .int b] w (Rp (An (some (.int (if a ≤ b then a else b))) w)) := by
  intro X hl ha hm' hk hn' hc
  subst hl
  refine r_iload_n hc dH_min_0 rfl ?_
  refine r_iload_n hc dH_min_1 rfl ?_
  refine r_ic_gt hc dH_min_2 (tgt := 9) (by decide) (fun h => ?_) (fun h => ?_)
  · rw [if_neg (Int32.not_le.mpr h)]
    refine r_iload_n hc dH_min_9 rfl ?_
    exact r_iret hc dH_min_10 ⟨rfl, rfl⟩
  · rw [if_pos (Int32.not_lt.mp h)]
    refine r_iload_n hc dH_min_5 rfl ?_
    refine r_goto hc dH_min_6 (tgt := 10) (by decide) ?_
    exact r_iret hc dH_min_10 ⟨rfl, rfl⟩
theorem cH_max (l : Launch) (g : GG) (d : Nat) (w : Wd) (a b : Int32) : Con l g yH_max bH_max 2 ((some .int)) [] d 0 0 [.int a, .int b] w (Rp (An (some (.int (if b ≤ a then a else b))) w)) := by
  intro X hl ha hm' hk hn' hc
  subst hl
  refine r_iload_n hc dH_max_0 rfl ?_
  refine r_iload_n hc dH_max_1 rfl ?_
  refine r_ic_lt hc dH_max_2 (tgt := 9) (by decide) (fun h => ?_) (fun h => ?_)
  · rw [if_neg (Int32.not_le.mpr h)]
    refine r_iload_n hc dH_max_9 rfl ?_
    exact r_iret hc dH_max_10 ⟨rfl, rfl⟩
  · rw [if_pos (Int32.not_lt.mp h)]
    refine r_iload_n hc dH_max_5 rfl ?_
    refine r_goto hc dH_max_6 (tgt := 10) (by decide) ?_
    exact r_iret hc dH_max_10 ⟨rfl, rfl⟩
