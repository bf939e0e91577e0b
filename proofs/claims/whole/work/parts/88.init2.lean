/-! the constructor of the field -/
/-- how many players there are at the start -/
def cm (x : Int32) : Nat := if x < nI 2 then 2 else if x ≤ nI 12 then pN x else 12
theorem lt2_of {x : Int32} (h : ¬ x < nI 2) : ∃ j, j < 2 ^ 31 ∧ x = nI j ∧ 2 ≤ j := by
  have h0 : ¬ x < 0 := fun z => h (by
    have e2 : (nI 2).toInt = 2 := by decide
    have e0 : (0 : Int32).toInt = 0 := by decide
    rw [Int32.lt_iff_toInt_lt] at z ⊢
    omega)
  obtain ⟨j, hj, rfl⟩ := nI_of h0
  refine ⟨j, hj, rfl, ?_⟩
  rw [nI_ltI hj (by decide)] at h
  omega
theorem le12_of {j : Nat} (hj : j < 2 ^ 31) : nI j ≤ nI 12 ↔ j ≤ 12 := by
  rw [← Int32.not_lt, nI_ltI (by decide) hj]
  omega
theorem cm_bd (x : Int32) : 2 ≤ cm x ∧ cm x ≤ 12 := by
  unfold cm
  split
  · omega
  · next h =>
    obtain ⟨j, hj, rfl, h2⟩ := lt2_of h
    split
    · next h3 =>
      rw [le12_of hj] at h3
      rw [pN_nI hj]
      omega
    · omega
theorem cm_F (x : Int32) : (if nI 2 < (if x < nI 12 then x else nI 12) then (if x < nI 12 then x else nI 12) else nI 2) = nI (cm x) := by
  unfold cm
  by_cases h1 : x < nI 2
  · have e2 : (nI 2).toInt = 2 := by decide
    have e12 : (nI 12).toInt = 12 := by decide
    have h : x < nI 12 := by rw [Int32.lt_iff_toInt_lt] at h1 ⊢; omega
    have h' : ¬ nI 2 < x := by rw [Int32.lt_iff_toInt_lt] at h1 ⊢; omega
    rw [if_pos h, if_neg h', if_pos h1]
  · rw [if_neg h1]
    obtain ⟨j, hj, rfl, h2⟩ := lt2_of h1
    rw [pN_nI hj]
    by_cases h3 : j ≤ 12
    · rw [if_pos ((le12_of hj).mpr h3)]
      by_cases h4 : j < 12
      · rw [if_pos ((nI_ltI hj (by decide)).mpr h4)]
        by_cases h5 : 2 < j
        · rw [if_pos ((nI_ltI (by decide) hj).mpr h5)]
        · rw [if_neg (fun z => h5 ((nI_ltI (by decide) hj).mp z)), show j = 2 by omega]
      · rw [if_neg (fun z => h4 ((nI_ltI hj (by decide)).mp z)), if_pos ((nI_ltI (by decide) (by decide)).mpr (by decide)), show j = 12 by omega]
    · rw [if_neg (fun z => h3 ((le12_of hj).mp z)), if_neg (fun z => absurd ((nI_ltI hj (by decide)).mp z) (by omega)), if_pos ((nI_ltI (by decide) (by decide)).mpr (by decide))]
/-- the first m places of a cell are one -/
def setW (w : Wd) (q m : Nat) : Wd := fun k i => if k = q ∧ i < m then 1 else w k i
theorem setW_0 (w : Wd) (q : Nat) : setW w q 0 = w := by
  funext k i
  unfold setW
  rw [if_neg (by omega)]
theorem setW_s (w : Wd) (q m : Nat) : wu (setW w q m) q m 1 = setW w q (m + 1) := by
  funext k i
  by_cases hk : k = q
  · subst hk
    by_cases hi : i = m
    · subst hi
      rw [wu_at]
      unfold setW
      rw [if_pos ⟨rfl, by omega⟩]
    · rw [wu_o2 hi]
      unfold setW
      by_cases h : i < m
      · rw [if_pos ⟨rfl, h⟩, if_pos ⟨rfl, by omega⟩]
      · rw [if_neg (fun z => h z.2), if_neg (fun z => absurd z.2 (by omega))]
  · rw [wu_ne hk]
    unfold setW
    rw [if_neg (fun z => hk z.1), if_neg (fun z => hk z.1)]
theorem setW_ne {w : Wd} {q m k : Nat} (h : k ≠ q) : setW w q m k = w k := by
  funext i
  unfold setW
  rw [if_neg (fun z => h z.1)]
abbrev nlF : List Value := [.null, .null, .null, .null, .null, .int 0, .int 0, .int 0]
def wF (w : Wd) (m : Nat) : Wd := setW (wu w 0 5 (nI m)) 18 m
set_option maxHeartbeats 2000000 in
theorem cF_init (l : Launch) (g : GG) (d : Nat) (w : Wd) (x : Int32) (hG : Gq g) (hwz : ∀ k, 0 < k → k < 48 → k ≠ 31 → w k = fun _ => 0) (hw31 : w 31 1 = 0 ∧ w 31 2 = -1) (hw00 : w 0 = fun _ => 0) : ConP l g yF_init bF_init 3 ((none : Option Jvm.ClassFile.FieldType)) (d + 2) 47 4632 [.ref (g.1 0), .int x] AO none (w, 1, pset pn 0 (some (0, nlF))) (wF w (cm x), 48, pn) := by
  intro X hl ha hm' hk hn' hi hs0 hao hc
  subst hl
  have hs : X.2.2.2.2.1.heap.size = g.1 0 + 1 := hs0
  have hpn : ∀ k, 0 ≤ k → pn k = none := fun _ _ => rfl
  have hw0 : ∀ k, 0 < k → k < 31 → w k = fun _ => 0 := fun k h1 h2 => hwz k h1 (by omega) (by omega)
  refine p_aload_n hc dF_init_0 rfl ?_
  refine p_oinit hc dF_init_1 (t1_mem 21 rfl rfl) (t1_mem 22 rfl rfl) (t1_mem 23 rfl rfl) (by omega) (Nat.le_of_ble_eq_true rfl) ?_
  refine p_aload_n hc dF_init_4 rfl ?_
  refine p_bipush hc dF_init_5 (nI 16) (by decide) ?_
  refine p_bipush hc dF_init_7 (nI 12) (by decide) ?_
  refine q_mna hc hG hao dF_init_9 (N := 16) (K := 12) (t1_mem 24 rfl rfl) (t1_mem 71 rfl rfl) (fun k hk => (pset_ne (by omega)).trans (hpn _ (by omega))) rfl (by decide) (by decide) (by decide) (fun i hi => hw0 _ (by omega) (by omega)) (nI_pos (by decide)) (nI_pos (by decide)) (nI_clamp (by decide)) (nI_clamp (by decide)) (by decide) (by decide) (by decide) (by omega) (by omega) (by omega) (Or.inl (by decide)) ?_
  refine q_putF hc hG hi 0 0 0 (T := T_F) (N := 8) (ty0 := ty_F) (ty := ty_F 0) dF_init_13 (by decide) (by decide) rfl (by decide) in_F rfl tk_F nm_F rfl (tk_F 0 (by decide)) rfl rfl (Nat.le_of_ble_eq_true rfl) (t1_mem 105 rfl rfl) ?_
  refine p_aload_n hc dF_init_16 rfl ?_
  refine p_bipush hc dF_init_17 (nI 12) (by decide) ?_
  refine q_newZ hc hG dF_init_19 (N := 12) (by first | exact hpn _ (by decide) | exact (pset_ne (by decide)).trans (hpn _ (by decide)) | exact (pset_ne (by decide)).trans ((pset_ne (by decide)).trans (hpn _ (by decide)))) rfl (by decide) (hw0 _ (by decide) (by decide)) (t1_mem 72 rfl rfl) (nI_pos (by decide)) (nI_clamp (by decide)) (by decide) (by omega) (by omega) (by omega) (Or.inl (by decide)) ?_
  refine q_putF hc hG hi 0 0 1 (T := T_F) (N := 8) (ty0 := ty_F) (ty := ty_F 1) dF_init_21 (by decide) (by decide) rfl (by decide) in_F rfl tk_F nm_F rfl (tk_F 1 (by decide)) rfl rfl (Nat.le_of_ble_eq_true rfl) (t1_mem 106 rfl rfl) ?_
  refine p_aload_n hc dF_init_24 rfl ?_
  refine p_bipush hc dF_init_25 (nI 12) (by decide) ?_
  refine q_newI hc hG dF_init_27 (N := 12) (by first | exact hpn _ (by decide) | exact (pset_ne (by decide)).trans (hpn _ (by decide)) | exact (pset_ne (by decide)).trans ((pset_ne (by decide)).trans (hpn _ (by decide)))) rfl (by decide) (hw0 _ (by decide) (by decide)) (t1_mem 71 rfl rfl) (nI_pos (by decide)) (nI_clamp (by decide)) (by decide) (by omega) (by omega) (by omega) (Or.inl (by decide)) ?_
  refine q_putF hc hG hi 0 0 2 (T := T_F) (N := 8) (ty0 := ty_F) (ty := ty_F 2) dF_init_29 (by decide) (by decide) rfl (by decide) in_F rfl tk_F nm_F rfl (tk_F 2 (by decide)) rfl rfl (Nat.le_of_ble_eq_true rfl) (t1_mem 107 rfl rfl) ?_
  refine p_aload_n hc dF_init_32 rfl ?_
  refine q_new hc hG dF_init_33 (ci := 1) (fs := nl10) (C := R_S) (T := T_S) (N := 10) (ty := ty_S) rfl in_S tk_S (t1_mem 26 rfl rfl) (t1_mem 27 rfl rfl) (t1_mem 2 rfl rfl) (fun j hj => by rcases (show j = 0 ∨ j = 1 ∨ j = 2 ∨ j = 3 ∨ j = 4 ∨ j = 5 ∨ j = 6 ∨ j = 7 ∨ j = 8 ∨ j = 9 by omega) with rfl | rfl | rfl | rfl | rfl | rfl | rfl | rfl | rfl | rfl <;> rfl) (by omega) (by omega) (by omega) (Or.inl (by decide)) ?_
  refine p_dup hc dF_init_36 rfl ?_
  refine p_calliN hc hG hao dF_init_37 (d' := d + 1) (av := []) (cS_init _ g d w (pset pn 0 _) hG (fun k hk => (pset_ne (by omega)).trans rfl) (fun k h1 h2 => hwz k (by omega) (by omega) (by omega))) (t1_mem 28 rfl rfl) (t1_mem 29 rfl rfl) (t1_mem 30 rfl rfl) rfl ⟨by decide, by decide⟩ (by decide +kernel) (by decide +kernel) (by omega) (by decide) (fun v hv => by cases hv) (by decide) (Nat.le_of_ble_eq_true rfl) (by omega) (by omega) (by show X.2.2.2.2.1.heap.size + _ = g.1 0 + 21; omega) (Or.inl (show 0 < 21 by decide)) ?_
  refine GoP.close (x := (1, [.ref (g.1 21), .ref (g.1 22), .ref (g.1 23), .ref (g.1 24), .ref (g.1 25), .ref (g.1 26), .ref (g.1 27), .ref (g.1 28), .ref (g.1 29), .ref (g.1 30)])) (ent_S g (w 20)) rfl ?_
  refine q_putF hc hG hi 0 0 3 (T := T_F) (N := 8) (ty0 := ty_F) (ty := ty_F 3) dF_init_40 (by decide) (by decide) rfl (by decide) in_F rfl tk_F nm_F rfl (tk_F 3 (by decide)) rfl rfl (Nat.le_of_ble_eq_true rfl) (t1_mem 108 rfl rfl) ?_
  refine p_aload_n hc dF_init_43 rfl ?_
  refine q_new hc hG dF_init_44 (ci := 2) (fs := [.null, .int 0, .int 0, .null, .null, .null]) (C := R_P) (T := T_P) (N := 6) (ty := ty_P) rfl in_P tk_P (t1_mem 73 rfl rfl) (t1_mem 74 rfl rfl) (t1_mem 3 rfl rfl) (fun j hj => by rcases (show j = 0 ∨ j = 1 ∨ j = 2 ∨ j = 3 ∨ j = 4 ∨ j = 5 by omega) with rfl | rfl | rfl | rfl | rfl | rfl <;> rfl) (by omega) (by omega) (by omega) (Or.inl (by decide)) ?_
  refine p_dup hc dF_init_47 rfl ?_
  refine p_calliN hc hG hao dF_init_48 (d' := d + 1) (av := []) (cP_init _ g d w (pset pn 0 _) hG (fun k hk => (pset_ne (by omega)).trans rfl) (fun k h1 h2 => hwz k (by omega) (by omega) (by omega))) (t1_mem 75 rfl rfl) (t1_mem 76 rfl rfl) (t1_mem 77 rfl rfl) rfl ⟨by decide, by decide⟩ (by decide +kernel) (by decide +kernel) (by omega) (by decide) (fun v hv => by cases hv) (by decide) (Nat.le_of_ble_eq_true rfl) (by omega) (by omega) (by show X.2.2.2.2.1.heap.size + _ = g.1 0 + 32; omega) (Or.inl (show 0 < 32 by decide)) ?_
  refine GoP.close (x := (2, [.ref (g.1 32), .int 0, .int (-1), .ref (g.1 33), .ref (g.1 46), .ref (g.1 47)])) ((ent_P g (w 31)).trans (by rw [hw31.1, hw31.2])) rfl ?_
  refine q_putF hc hG hi 0 0 4 (T := T_F) (N := 8) (ty0 := ty_F) (ty := ty_F 4) dF_init_51 (by decide) (by decide) rfl (by decide) in_F rfl tk_F nm_F rfl (tk_F 4 (by decide)) rfl rfl (Nat.le_of_ble_eq_true rfl) (t1_mem 109 rfl rfl) ?_
  refine GoP.close (x := (0, [.ref (g.1 1), .ref (g.1 18), .ref (g.1 19), .ref (g.1 20), .ref (g.1 31), .int 0, .int 0, .int 0])) ((ent_F g (w 0)).trans (by rw [hw00])) rfl ?_
  refine p_aload_n hc dF_init_54 rfl ?_
  refine p_iconst hc dF_init_55 (nI 2) (by decide) ?_
  refine p_bipush hc dF_init_56 (nI 12) (by decide) ?_
  refine p_iload_n hc dF_init_58 rfl ?_
  refine p_min hc dF_init_59 (t1_mem 99 rfl rfl) (t1_mem 100 rfl rfl) (t1_mem 4 rfl rfl) (t1_mem 101 rfl rfl) (by omega) (Nat.le_of_ble_eq_true rfl) (by omega) (by omega) ?_
  refine p_max hc dF_init_62 (t1_mem 102 rfl rfl) (t1_mem 103 rfl rfl) (t1_mem 4 rfl rfl) (t1_mem 104 rfl rfl) (by omega) (Nat.le_of_ble_eq_true rfl) (by omega) (by omega) ?_
  rw [cm_F x]
  obtain ⟨m, hm⟩ : ∃ m, m = cm x := ⟨_, rfl⟩
  have hbd := cm_bd x
  rw [← hm] at hbd ⊢
  refine q_putf hc hG 0 0 5 (C := R_F) (T := T_F) (N := 8) (ty0 := ty_F) (ty := .int) dF_init_65 (by decide) (by decide) rfl (ent_F g (w 0)) rfl (by decide) in_F rfl tk_F nm_F rfl (by decide +kernel) rfl rfl (Nat.le_of_ble_eq_true rfl) (t1_mem 110 rfl rfl) rfl ?_
  refine p_iconst hc dF_init_68 (nI 0) (by decide) ?_
  refine p_istore_n hc dF_init_69 (Nat.le_of_ble_eq_true rfl) ?_
  obtain ⟨Q, hQ⟩ : ∃ Q, Q = FenP X g 47 4632 none (wF w m, 48, pn) := ⟨_, rfl⟩
  rw [← hQ]
  have hgen : ∀ k i, i + k = m → GoP X g 47 4632 Q (setW (wu w 0 5 (nI m)) 18 i, 48, pn) 70 [some (.ref (g.1 0)), some (.int x), some (.int (nI i))] [] := by
    intro k
    induction k with
    | zero =>
      intro i hik
      have hi2 : i = m := by omega
      subst hi2
      refine p_iload_n hc dF_init_70 rfl ?_
      refine p_aload_n hc dF_init_71 rfl ?_
      refine q_getf hc 0 0 5 (C := R_F) (T := T_F) (N := 8) dF_init_72 (by decide) rfl (ent_F g _) rfl (by decide) in_F rfl (t1_mem 110 rfl rfl) rfl ?_
      refine p_ic_ge hc dF_init_75 (tgt := 91) (by decide) (fun h => ?_) (fun h => absurd (Int32.le_refl (nI i)) h)
      rw [hQ]
      exact p_vret hc dF_init_91
    | succ k ih =>
      intro i hik
      refine p_iload_n hc dF_init_70 rfl ?_
      refine p_aload_n hc dF_init_71 rfl ?_
      refine q_getf hc 0 0 5 (C := R_F) (T := T_F) (N := 8) dF_init_72 (by decide) rfl (ent_F g _) rfl (by decide) in_F rfl (t1_mem 110 rfl rfl) rfl ?_
      refine p_ic_ge hc dF_init_75 (tgt := 91) (by decide) (fun h => absurd (show nI m ≤ nI i from h) (Int32.not_le.mpr (nI_lt (by omega) (by omega)))) (fun h => ?_)
      refine p_aload_n hc dF_init_78 rfl ?_
      refine q_getf hc 0 0 1 (C := R_F) (T := T_F) (N := 8) dF_init_79 (by decide) rfl (ent_F g _) rfl (by decide) in_F rfl (t1_mem 106 rfl rfl) rfl ?_
      refine p_iload_n hc dF_init_82 rfl ?_
      refine p_iconst hc dF_init_83 (nI 1) (by decide) ?_
      refine q_zast hc hG dF_init_84 (by decide) (by decide) rfl (vp_in_nI (show i < lenZ 18 by show i < 12; omega) (by decide)) rfl ?_
      rw [nI_clamp (show i < 2 ^ 31 by omega)]
      refine p_iinc hc dF_init_85 rfl ?_
      refine p_goto hc dF_init_88 (tgt := 70) (by decide) ?_
      refine GoP.eq (v' := (setW (wu w 0 5 (nI m)) 18 (i + 1), 48, pn)) (by rw [← setW_s]; rfl) ?_
      have ih2 := ih (i + 1) (by omega)
      rw [← nI_add] at ih2
      exact ih2
  have h0 := hgen m 0 (by omega)
  rw [setW_0] at h0
  exact h0
