/-! the reference's constructor -/
theorem cm_M1 {x : Int32} (h : x < nI 2) : cm x = 2 := by unfold cm; rw [if_pos h]
theorem cm_M2 {x : Int32} (h : ¬ x < nI 2) (h2 : x ≤ nI 12) : nI (cm x) = x := by
  obtain ⟨j, hj, rfl, h3⟩ := lt2_of h
  unfold cm
  rw [if_neg h, if_pos h2, pN_nI hj]
theorem cm_M3 {x : Int32} (h : ¬ x < nI 2) (h2 : ¬ x ≤ nI 12) : cm x = 12 := by unfold cm; rw [if_neg h, if_neg h2]
abbrev nlM : List Value := [.int 0, .int 0, .null, .null, .int 0, .int 0, .null, .null, .null, .int 0, .null, .int 0, .null, .null, .null, .null, .null]
def wM (w : Wd) (m : Nat) : Wd := setW (wu w 48 1 (nI m)) 49 12
set_option maxHeartbeats 2000000 in
theorem cM_init (l : Launch) (g : GG) (d : Nat) (w : Wd) (x : Int32) (hG : Gq g) (hwz : ∀ k, 48 ≤ k → k < 60 → w k = fun _ => 0) : ConP l g yM_init bM_init 3 ((none : Option Jvm.ClassFile.FieldType)) (d + 1) 11 13224 [.ref (g.1 48), .int x] AO none (w, 49, pset pn 48 (some (3, nlM))) (wM w (cm x), 60, pn) := by
  intro X hl ha hm' hk hn' hi hs0 hao hc
  subst hl
  have hs : X.2.2.2.2.1.heap.size = g.1 0 + 49 := hs0
  have hpn : ∀ k, 0 ≤ k → pn k = none := fun _ _ => rfl
  have hw0 : ∀ k, 48 < k → k < 60 → w k = fun _ => 0 := fun k h1 h2 => hwz k (by omega) h2
  refine p_aload_n hc dM_init_0 rfl ?_
  refine p_oinit hc dM_init_1 (t3_mem 114 rfl rfl) (t1_mem 22 rfl rfl) (t1_mem 23 rfl rfl) (by omega) (Nat.le_of_ble_eq_true rfl) ?_
  refine p_aload_n hc dM_init_4 rfl ?_
  refine p_bipush hc dM_init_5 (nI 12) (by decide) ?_
  refine q_newZ hc hG dM_init_7 (N := 12) (by first | exact hpn _ (by decide) | exact (pset_ne (by decide)).trans (hpn _ (by decide)) | exact (pset_ne (by decide)).trans ((pset_ne (by decide)).trans (hpn _ (by decide)))) rfl (by decide) (hw0 _ (by decide) (by decide)) (t1_mem 72 rfl rfl) (nI_pos (by decide)) (nI_clamp (by decide)) (by decide) (by omega) (by omega) (by omega) (Or.inl (by decide)) ?_
  refine q_putF hc hG hi 48 3 2 (T := T_M) (N := 17) (ty0 := ty_M) (ty := ty_M 2) dM_init_9 (by decide) (by decide) rfl (by decide) in_M rfl tk_M nm_M rfl (tk_M 2 (by decide)) rfl rfl (Nat.le_of_ble_eq_true rfl) (t3_mem 117 rfl rfl) ?_
  refine p_aload_n hc dM_init_12 rfl ?_
  refine p_sipush hc dM_init_13 (nI 144) (by decide) ?_
  refine q_newZ hc hG dM_init_16 (N := 144) (by first | exact hpn _ (by decide) | exact (pset_ne (by decide)).trans (hpn _ (by decide)) | exact (pset_ne (by decide)).trans ((pset_ne (by decide)).trans (hpn _ (by decide)))) rfl (by decide) (hw0 _ (by decide) (by decide)) (t1_mem 72 rfl rfl) (nI_pos (by decide)) (nI_clamp (by decide)) (by decide) (by omega) (by omega) (by omega) (Or.inl (by decide)) ?_
  refine q_putF hc hG hi 48 3 3 (T := T_M) (N := 17) (ty0 := ty_M) (ty := ty_M 3) dM_init_18 (by decide) (by decide) rfl (by decide) in_M rfl tk_M nm_M rfl (tk_M 3 (by decide)) rfl rfl (Nat.le_of_ble_eq_true rfl) (t3_mem 118 rfl rfl) ?_
  refine p_aload_n hc dM_init_21 rfl ?_
  refine p_sipush hc dM_init_22 (nI 204) (by decide) ?_
  refine q_newI hc hG dM_init_25 (N := 204) (by first | exact hpn _ (by decide) | exact (pset_ne (by decide)).trans (hpn _ (by decide)) | exact (pset_ne (by decide)).trans ((pset_ne (by decide)).trans (hpn _ (by decide)))) rfl (by decide) (hw0 _ (by decide) (by decide)) (t1_mem 71 rfl rfl) (nI_pos (by decide)) (nI_clamp (by decide)) (by decide) (by omega) (by omega) (by omega) (Or.inl (by decide)) ?_
  refine q_putF hc hG hi 48 3 6 (T := T_M) (N := 17) (ty0 := ty_M) (ty := ty_M 6) dM_init_27 (by decide) (by decide) rfl (by decide) in_M rfl tk_M nm_M rfl (tk_M 6 (by decide)) rfl rfl (Nat.le_of_ble_eq_true rfl) (t3_mem 121 rfl rfl) ?_
  refine p_aload_n hc dM_init_30 rfl ?_
  refine p_sipush hc dM_init_31 (nI 204) (by decide) ?_
  refine q_newZ hc hG dM_init_34 (N := 204) (by first | exact hpn _ (by decide) | exact (pset_ne (by decide)).trans (hpn _ (by decide)) | exact (pset_ne (by decide)).trans ((pset_ne (by decide)).trans (hpn _ (by decide)))) rfl (by decide) (hw0 _ (by decide) (by decide)) (t1_mem 72 rfl rfl) (nI_pos (by decide)) (nI_clamp (by decide)) (by decide) (by omega) (by omega) (by omega) (Or.inl (by decide)) ?_
  refine q_putF hc hG hi 48 3 7 (T := T_M) (N := 17) (ty0 := ty_M) (ty := ty_M 7) dM_init_36 (by decide) (by decide) rfl (by decide) in_M rfl tk_M nm_M rfl (tk_M 7 (by decide)) rfl rfl (Nat.le_of_ble_eq_true rfl) (t3_mem 122 rfl rfl) ?_
  refine p_aload_n hc dM_init_39 rfl ?_
  refine p_sipush hc dM_init_40 (nI 204) (by decide) ?_
  refine q_newI hc hG dM_init_43 (N := 204) (by first | exact hpn _ (by decide) | exact (pset_ne (by decide)).trans (hpn _ (by decide)) | exact (pset_ne (by decide)).trans ((pset_ne (by decide)).trans (hpn _ (by decide)))) rfl (by decide) (hw0 _ (by decide) (by decide)) (t1_mem 71 rfl rfl) (nI_pos (by decide)) (nI_clamp (by decide)) (by decide) (by omega) (by omega) (by omega) (Or.inl (by decide)) ?_
  refine q_putF hc hG hi 48 3 8 (T := T_M) (N := 17) (ty0 := ty_M) (ty := ty_M 8) dM_init_45 (by decide) (by decide) rfl (by decide) in_M rfl tk_M nm_M rfl (tk_M 8 (by decide)) rfl rfl (Nat.le_of_ble_eq_true rfl) (t3_mem 123 rfl rfl) ?_
  refine p_aload_n hc dM_init_48 rfl ?_
  refine p_bipush hc dM_init_49 (nI 12) (by decide) ?_
  refine q_newI hc hG dM_init_51 (N := 12) (by first | exact hpn _ (by decide) | exact (pset_ne (by decide)).trans (hpn _ (by decide)) | exact (pset_ne (by decide)).trans ((pset_ne (by decide)).trans (hpn _ (by decide)))) rfl (by decide) (hw0 _ (by decide) (by decide)) (t1_mem 71 rfl rfl) (nI_pos (by decide)) (nI_clamp (by decide)) (by decide) (by omega) (by omega) (by omega) (Or.inl (by decide)) ?_
  refine q_putF hc hG hi 48 3 10 (T := T_M) (N := 17) (ty0 := ty_M) (ty := ty_M 10) dM_init_53 (by decide) (by decide) rfl (by decide) in_M rfl tk_M nm_M rfl (tk_M 10 (by decide)) rfl rfl (Nat.le_of_ble_eq_true rfl) (t3_mem 125 rfl rfl) ?_
  refine p_aload_n hc dM_init_56 rfl ?_
  refine p_sipush hc dM_init_57 (nI 144) (by decide) ?_
  refine q_newI hc hG dM_init_60 (N := 144) (by first | exact hpn _ (by decide) | exact (pset_ne (by decide)).trans (hpn _ (by decide)) | exact (pset_ne (by decide)).trans ((pset_ne (by decide)).trans (hpn _ (by decide)))) rfl (by decide) (hw0 _ (by decide) (by decide)) (t1_mem 71 rfl rfl) (nI_pos (by decide)) (nI_clamp (by decide)) (by decide) (by omega) (by omega) (by omega) (Or.inl (by decide)) ?_
  refine q_putF hc hG hi 48 3 12 (T := T_M) (N := 17) (ty0 := ty_M) (ty := ty_M 12) dM_init_62 (by decide) (by decide) rfl (by decide) in_M rfl tk_M nm_M rfl (tk_M 12 (by decide)) rfl rfl (Nat.le_of_ble_eq_true rfl) (t3_mem 127 rfl rfl) ?_
  refine p_aload_n hc dM_init_65 rfl ?_
  refine p_sipush hc dM_init_66 (nI 4096) (by decide) ?_
  refine q_newI hc hG dM_init_69 (N := 4096) (by first | exact hpn _ (by decide) | exact (pset_ne (by decide)).trans (hpn _ (by decide)) | exact (pset_ne (by decide)).trans ((pset_ne (by decide)).trans (hpn _ (by decide)))) rfl (by decide) (hw0 _ (by decide) (by decide)) (t1_mem 71 rfl rfl) (nI_pos (by decide)) (nI_clamp (by decide)) (by decide) (by omega) (by omega) (by omega) (Or.inl (by decide)) ?_
  refine q_putF hc hG hi 48 3 13 (T := T_M) (N := 17) (ty0 := ty_M) (ty := ty_M 13) dM_init_71 (by decide) (by decide) rfl (by decide) in_M rfl tk_M nm_M rfl (tk_M 13 (by decide)) rfl rfl (Nat.le_of_ble_eq_true rfl) (t3_mem 128 rfl rfl) ?_
  refine p_aload_n hc dM_init_74 rfl ?_
  refine p_sipush hc dM_init_75 (nI 4096) (by decide) ?_
  refine q_newI hc hG dM_init_78 (N := 4096) (by first | exact hpn _ (by decide) | exact (pset_ne (by decide)).trans (hpn _ (by decide)) | exact (pset_ne (by decide)).trans ((pset_ne (by decide)).trans (hpn _ (by decide)))) rfl (by decide) (hw0 _ (by decide) (by decide)) (t1_mem 71 rfl rfl) (nI_pos (by decide)) (nI_clamp (by decide)) (by decide) (by omega) (by omega) (by omega) (Or.inl (by decide)) ?_
  refine q_putF hc hG hi 48 3 14 (T := T_M) (N := 17) (ty0 := ty_M) (ty := ty_M 14) dM_init_80 (by decide) (by decide) rfl (by decide) in_M rfl tk_M nm_M rfl (tk_M 14 (by decide)) rfl rfl (Nat.le_of_ble_eq_true rfl) (t3_mem 129 rfl rfl) ?_
  refine p_aload_n hc dM_init_83 rfl ?_
  refine p_sipush hc dM_init_84 (nI 4096) (by decide) ?_
  refine q_newI hc hG dM_init_87 (N := 4096) (by first | exact hpn _ (by decide) | exact (pset_ne (by decide)).trans (hpn _ (by decide)) | exact (pset_ne (by decide)).trans ((pset_ne (by decide)).trans (hpn _ (by decide)))) rfl (by decide) (hw0 _ (by decide) (by decide)) (t1_mem 71 rfl rfl) (nI_pos (by decide)) (nI_clamp (by decide)) (by decide) (by omega) (by omega) (by omega) (Or.inl (by decide)) ?_
  refine q_putF hc hG hi 48 3 15 (T := T_M) (N := 17) (ty0 := ty_M) (ty := ty_M 15) dM_init_89 (by decide) (by decide) rfl (by decide) in_M rfl tk_M nm_M rfl (tk_M 15 (by decide)) rfl rfl (Nat.le_of_ble_eq_true rfl) (t3_mem 130 rfl rfl) ?_
  refine p_aload_n hc dM_init_92 rfl ?_
  refine p_bipush hc dM_init_93 (nI 12) (by decide) ?_
  refine q_newI hc hG dM_init_95 (N := 12) (by first | exact hpn _ (by decide) | exact (pset_ne (by decide)).trans (hpn _ (by decide)) | exact (pset_ne (by decide)).trans ((pset_ne (by decide)).trans (hpn _ (by decide)))) rfl (by decide) (hw0 _ (by decide) (by decide)) (t1_mem 71 rfl rfl) (nI_pos (by decide)) (nI_clamp (by decide)) (by decide) (by omega) (by omega) (by omega) (Or.inl (by decide)) ?_
  refine q_putF hc hG hi 48 3 16 (T := T_M) (N := 17) (ty0 := ty_M) (ty := ty_M 16) dM_init_97 (by decide) (by decide) rfl (by decide) in_M rfl tk_M nm_M rfl (tk_M 16 (by decide)) rfl rfl (Nat.le_of_ble_eq_true rfl) (t3_mem 131 rfl rfl) ?_
  refine GoP.close (x := (3, [.int 0, .int 0, .ref (g.1 49), .ref (g.1 50), .int 0, .int 0, .ref (g.1 51), .ref (g.1 52), .ref (g.1 53), .int 0, .ref (g.1 54), .int 0, .ref (g.1 55), .ref (g.1 56), .ref (g.1 57), .ref (g.1 58), .ref (g.1 59)])) ((ent_M g (w 48)).trans (by rw [hwz 48 (by decide) (by decide)])) rfl ?_
  obtain ⟨m, hm⟩ : ∃ m, m = cm x := ⟨_, rfl⟩
  obtain ⟨Q, hQ⟩ : ∃ Q, Q = FenP X g 11 13224 none (wM w m, 60, pn) := ⟨_, rfl⟩
  rw [← hm, ← hQ]
  have hgen : ∀ k i, i + k = 12 → GoP X g 11 13224 Q (setW (wu w 48 1 (nI m)) 49 i, 60, pn) 127 [some (.ref (g.1 48)), some (.int x), some (.int (nI i))] [] := by
    intro k
    induction k with
    | zero =>
      intro i hik
      have hi2 : i = 12 := by omega
      subst hi2
      refine p_iload_n hc dM_init_127 rfl ?_
      refine p_bipush hc dM_init_128 (nI 12) (by decide) ?_
      refine p_ic_ge hc dM_init_130 (tgt := 146) (by decide) (fun h => ?_) (fun h => absurd (Int32.le_refl (nI 12)) h)
      rw [hQ]
      exact p_vret hc dM_init_146
    | succ k ih =>
      intro i hik
      refine p_iload_n hc dM_init_127 rfl ?_
      refine p_bipush hc dM_init_128 (nI 12) (by decide) ?_
      refine p_ic_ge hc dM_init_130 (tgt := 146) (by decide) (fun h => absurd h (Int32.not_le.mpr (nI_lt (by omega) (by omega)))) (fun h => ?_)
      refine p_aload_n hc dM_init_133 rfl ?_
      refine q_getf hc 48 3 2 (C := R_M) (T := T_M) (N := 17) dM_init_134 (by decide) rfl (ent_M g _) rfl (by decide) in_M rfl (t3_mem 117 rfl rfl) rfl ?_
      refine p_iload_n hc dM_init_137 rfl ?_
      refine p_iconst hc dM_init_138 (nI 1) (by decide) ?_
      refine q_zast hc hG dM_init_139 (by decide) (by decide) rfl (vp_in_nI (show i < lenZ 49 by show i < 12; omega) (by decide)) rfl ?_
      rw [nI_clamp (show i < 2 ^ 31 by omega)]
      refine p_iinc hc dM_init_140 rfl ?_
      refine p_goto hc dM_init_143 (tgt := 127) (by decide) ?_
      refine GoP.eq (v' := (setW (wu w 48 1 (nI m)) 49 (i + 1), 60, pn)) (by rw [← setW_s]; rfl) ?_
      have ih2 := ih (i + 1) (by omega)
      rw [← nI_add] at ih2
      exact ih2
  have h0 := hgen 12 0 (by omega)
  rw [setW_0] at h0
  have h122 : ∀ z, z = nI m → GoP X g 11 13224 Q (w, 60, pn) 122 [some (.ref (g.1 48)), some (.int x), none] [.int z, .ref (g.1 48)] := by
    intro z hz
    subst hz
    refine q_putf hc hG 48 3 1 (C := R_M) (T := T_M) (N := 17) (ty0 := ty_M) (ty := .int) dM_init_122 (by decide) (by decide) rfl (ent_M g (w 48)) rfl (by decide) in_M rfl tk_M nm_M rfl (by decide +kernel) rfl rfl (Nat.le_of_ble_eq_true rfl) (t3_mem 116 rfl rfl) rfl ?_
    refine p_iconst hc dM_init_125 (nI 0) (by decide) ?_
    refine p_istore_n hc dM_init_126 (Nat.le_of_ble_eq_true rfl) ?_
    exact h0
  refine p_aload_n hc dM_init_100 rfl ?_
  refine p_iload_n hc dM_init_101 rfl ?_
  refine p_iconst hc dM_init_102 (nI 2) (by decide) ?_
  refine p_ic_ge hc dM_init_103 (tgt := 110) (by decide) (fun h => ?_) (fun h => ?_)
  · have h1 : ¬ x < nI 2 := Int32.not_lt.mpr h
    refine p_iload_n hc dM_init_110 rfl ?_
    refine p_bipush hc dM_init_111 (nI 12) (by decide) ?_
    refine p_ic_le hc dM_init_113 (tgt := 121) (by decide) (fun h2 => ?_) (fun h2 => ?_)
    · refine p_iload_n hc dM_init_121 rfl ?_
      exact h122 _ (by rw [hm, cm_M2 h1 h2])
    · refine p_bipush hc dM_init_116 (nI 12) (by decide) ?_
      refine p_goto hc dM_init_118 (tgt := 122) (by decide) ?_
      exact h122 _ (by rw [hm, cm_M3 h1 h2])
  · have h1 : x < nI 2 := Int32.not_le.mp h
    refine p_iconst hc dM_init_106 (nI 2) (by decide) ?_
    refine p_goto hc dM_init_107 (tgt := 122) (by decide) ?_
    exact h122 _ (by rw [hm, cm_M1 h1])
/-! the state at the start -/
def w0 : Wd := fun k i => if k = 31 ∧ i = 2 then -1 else 0
def wS (m : Nat) : Wd := wM (wF w0 m) m
theorem start_CS (m : Nat) (hm : 2 ≤ m ∧ m ≤ 12) : CS (wS m) m (fun _ => true) (fun _ _ => false) 0 false (fun _ _ => none) := by
  refine ⟨rfl, rfl, rfl, fun p hp => ?_, fun p hp => ⟨0, by omega, ?_, fun q _ => Nat.zero_testBit q⟩, fun p hp => ?_, fun r hr => absurd hr (Nat.not_lt_zero _)⟩
  · have e : wS m 18 = setW (wu w0 0 5 (nI m)) 18 m 18 := by
      unfold wS wM wF
      rw [setW_ne (q := 49) (k := 18) (by decide), wu_ne (k := 48) (j := 18) (by decide)]
    rw [e]
    show (if (18 : Nat) = 18 ∧ p < m then (1 : Int32) else wu w0 0 5 (nI m) 18 p) = bI (true && decide (p < m))
    by_cases h : p < m
    · rw [if_pos ⟨rfl, h⟩, decide_eq_true h]
      rfl
    · rw [if_neg (fun z => h z.2), decide_eq_false h]
      rfl
  · rfl
  · exact ⟨⟨rfl, rfl, rfl, rfl, rfl, rfl, rfl, rfl⟩, rfl, rfl⟩
theorem start_MS (m : Nat) (hm : m ≤ 12) : MS (wS m) m (fun _ => true) (fun _ _ => false) 0 false (fun _ _ => none) := by
  refine ⟨rfl, rfl, rfl, fun p hp => ?_, fun p q hp hq => rfl, fun r hr => absurd hr (Nat.not_lt_zero _)⟩
  show (if (49 : Nat) = 49 ∧ p < 12 then (1 : Int32) else _) = _
  rw [if_pos ⟨rfl, by omega⟩]
  rfl
/-! the law's reading of its script -/
/-- a place of the script, or none -/
def scr (xs : Nat → Int32) (L : Nat) (i : Nat) : Int32 := if i < L then xs i else 0
theorem cL_cell (l : Launch) (g : GG) (d : Nat) (v : Pw) (b L i : Nat) (xs : Nat → Int32) (hL : L < 2 ^ 31) (hi : i < 2 ^ 31) : ConP l g yL_cell bL_cell 2 ((some .int)) d 0 0 [.ref b, .int (nI i)] (SX g b L xs) (some (.int (scr xs L i))) v v := by
  intro X hl ha hm' hk hn' hi' hs0 hE hc
  subst hl
  refine p_iload_n hc dL_cell_0 rfl ?_
  refine p_aload_n hc dL_cell_1 rfl ?_
  refine p_slen hc hE dL_cell_2 ?_
  refine p_ic_ge hc dL_cell_3 (tgt := 12) (by decide) (fun h => ?_) (fun h => ?_)
  · have h2 : ¬ i < L := fun z => absurd h (nI_ge z hL)
    refine p_iconst hc dL_cell_12 (nI 0) (by decide) ?_
    unfold scr
    rw [if_neg h2]
    exact p_iret hc dL_cell_13
  · have h2 : i < L := Nat.lt_of_not_le (fun z => h (nI_le z hi))
    refine p_aload_n hc dL_cell_6 rfl ?_
    refine p_iload_n hc dL_cell_7 rfl ?_
    refine p_sld hc hE (vp_in_nI h2 hL) dL_cell_8 ?_
    rw [nI_clamp hi]
    refine p_goto hc dL_cell_9 (tgt := 13) (by decide) ?_
    unfold scr
    rw [if_pos h2]
    exact p_iret hc dL_cell_13
