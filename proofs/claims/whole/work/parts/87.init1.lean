/-! the constructors of Standing and Pairing -/
abbrev nl10 : List Value := [.null, .null, .null, .null, .null, .null, .null, .null, .null, .null]
theorem cS_init (l : Launch) (g : GG) (d : Nat) (w : Wd) (pd : Pd) (hG : Gq g) (hpn : ∀ k, 20 ≤ k → pd k = none) (hw0 : ∀ k, 20 < k → k < 31 → w k = fun _ => 0) : ConP l g yS_init bS_init 1 ((none : Option Jvm.ClassFile.FieldType)) (d + 1) 10 120 [.ref (g.1 20)] AO none (w, 21, pset pd 20 (some (1, nl10))) (w, 31, pset pd 20 (some (1, [.ref (g.1 21), .ref (g.1 22), .ref (g.1 23), .ref (g.1 24), .ref (g.1 25), .ref (g.1 26), .ref (g.1 27), .ref (g.1 28), .ref (g.1 29), .ref (g.1 30)]))) := by
  intro X hl ha hm' hk hn' hi hs0 hao hc
  subst hl
  have hs : X.2.2.2.2.1.heap.size = g.1 0 + 21 := hs0
  refine p_aload_n hc dS_init_0 rfl ?_
  refine p_oinit hc dS_init_1 (t1_mem 31 rfl rfl) (t1_mem 22 rfl rfl) (t1_mem 23 rfl rfl) (by omega) (Nat.le_of_ble_eq_true rfl) ?_
  refine p_aload_n hc dS_init_4 rfl ?_
  refine p_bipush hc dS_init_5 (nI 12) (by decide) ?_
  refine q_newI hc hG dS_init_7 (N := 12) (by first | exact hpn _ (by decide) | exact (pset_ne (by decide)).trans (hpn _ (by decide)) | exact (pset_ne (by decide)).trans ((pset_ne (by decide)).trans (hpn _ (by decide)))) rfl (by decide) (hw0 _ (by decide) (by decide)) (t1_mem 71 rfl rfl) (nI_pos (by decide)) (nI_clamp (by decide)) (by decide) (by omega) (by omega) (by omega) (Or.inl (by decide)) ?_
  refine q_putF hc hG hi 20 1 0 (T := T_S) (N := 10) (ty0 := ty_S) (ty := ty_S 0) dS_init_9 (by decide) (by decide) rfl (by decide) in_S rfl tk_S nm_S rfl (tk_S 0 (by decide)) rfl rfl (Nat.le_of_ble_eq_true rfl) (t1_mem 32 rfl rfl) ?_
  refine p_aload_n hc dS_init_12 rfl ?_
  refine p_bipush hc dS_init_13 (nI 12) (by decide) ?_
  refine q_newI hc hG dS_init_15 (N := 12) (by first | exact hpn _ (by decide) | exact (pset_ne (by decide)).trans (hpn _ (by decide)) | exact (pset_ne (by decide)).trans ((pset_ne (by decide)).trans (hpn _ (by decide)))) rfl (by decide) (hw0 _ (by decide) (by decide)) (t1_mem 71 rfl rfl) (nI_pos (by decide)) (nI_clamp (by decide)) (by decide) (by omega) (by omega) (by omega) (Or.inl (by decide)) ?_
  refine q_putF hc hG hi 20 1 1 (T := T_S) (N := 10) (ty0 := ty_S) (ty := ty_S 1) dS_init_17 (by decide) (by decide) rfl (by decide) in_S rfl tk_S nm_S rfl (tk_S 1 (by decide)) rfl rfl (Nat.le_of_ble_eq_true rfl) (t1_mem 34 rfl rfl) ?_
  refine p_aload_n hc dS_init_20 rfl ?_
  refine p_bipush hc dS_init_21 (nI 12) (by decide) ?_
  refine q_newI hc hG dS_init_23 (N := 12) (by first | exact hpn _ (by decide) | exact (pset_ne (by decide)).trans (hpn _ (by decide)) | exact (pset_ne (by decide)).trans ((pset_ne (by decide)).trans (hpn _ (by decide)))) rfl (by decide) (hw0 _ (by decide) (by decide)) (t1_mem 71 rfl rfl) (nI_pos (by decide)) (nI_clamp (by decide)) (by decide) (by omega) (by omega) (by omega) (Or.inl (by decide)) ?_
  refine q_putF hc hG hi 20 1 2 (T := T_S) (N := 10) (ty0 := ty_S) (ty := ty_S 2) dS_init_25 (by decide) (by decide) rfl (by decide) in_S rfl tk_S nm_S rfl (tk_S 2 (by decide)) rfl rfl (Nat.le_of_ble_eq_true rfl) (t1_mem 36 rfl rfl) ?_
  refine p_aload_n hc dS_init_28 rfl ?_
  refine p_bipush hc dS_init_29 (nI 12) (by decide) ?_
  refine q_newI hc hG dS_init_31 (N := 12) (by first | exact hpn _ (by decide) | exact (pset_ne (by decide)).trans (hpn _ (by decide)) | exact (pset_ne (by decide)).trans ((pset_ne (by decide)).trans (hpn _ (by decide)))) rfl (by decide) (hw0 _ (by decide) (by decide)) (t1_mem 71 rfl rfl) (nI_pos (by decide)) (nI_clamp (by decide)) (by decide) (by omega) (by omega) (by omega) (Or.inl (by decide)) ?_
  refine q_putF hc hG hi 20 1 3 (T := T_S) (N := 10) (ty0 := ty_S) (ty := ty_S 3) dS_init_33 (by decide) (by decide) rfl (by decide) in_S rfl tk_S nm_S rfl (tk_S 3 (by decide)) rfl rfl (Nat.le_of_ble_eq_true rfl) (t1_mem 38 rfl rfl) ?_
  refine p_aload_n hc dS_init_36 rfl ?_
  refine p_bipush hc dS_init_37 (nI 12) (by decide) ?_
  refine q_newI hc hG dS_init_39 (N := 12) (by first | exact hpn _ (by decide) | exact (pset_ne (by decide)).trans (hpn _ (by decide)) | exact (pset_ne (by decide)).trans ((pset_ne (by decide)).trans (hpn _ (by decide)))) rfl (by decide) (hw0 _ (by decide) (by decide)) (t1_mem 71 rfl rfl) (nI_pos (by decide)) (nI_clamp (by decide)) (by decide) (by omega) (by omega) (by omega) (Or.inl (by decide)) ?_
  refine q_putF hc hG hi 20 1 4 (T := T_S) (N := 10) (ty0 := ty_S) (ty := ty_S 4) dS_init_41 (by decide) (by decide) rfl (by decide) in_S rfl tk_S nm_S rfl (tk_S 4 (by decide)) rfl rfl (Nat.le_of_ble_eq_true rfl) (t1_mem 40 rfl rfl) ?_
  refine p_aload_n hc dS_init_44 rfl ?_
  refine p_bipush hc dS_init_45 (nI 12) (by decide) ?_
  refine q_newI hc hG dS_init_47 (N := 12) (by first | exact hpn _ (by decide) | exact (pset_ne (by decide)).trans (hpn _ (by decide)) | exact (pset_ne (by decide)).trans ((pset_ne (by decide)).trans (hpn _ (by decide)))) rfl (by decide) (hw0 _ (by decide) (by decide)) (t1_mem 71 rfl rfl) (nI_pos (by decide)) (nI_clamp (by decide)) (by decide) (by omega) (by omega) (by omega) (Or.inl (by decide)) ?_
  refine q_putF hc hG hi 20 1 5 (T := T_S) (N := 10) (ty0 := ty_S) (ty := ty_S 5) dS_init_49 (by decide) (by decide) rfl (by decide) in_S rfl tk_S nm_S rfl (tk_S 5 (by decide)) rfl rfl (Nat.le_of_ble_eq_true rfl) (t1_mem 42 rfl rfl) ?_
  refine p_aload_n hc dS_init_52 rfl ?_
  refine p_bipush hc dS_init_53 (nI 12) (by decide) ?_
  refine q_newI hc hG dS_init_55 (N := 12) (by first | exact hpn _ (by decide) | exact (pset_ne (by decide)).trans (hpn _ (by decide)) | exact (pset_ne (by decide)).trans ((pset_ne (by decide)).trans (hpn _ (by decide)))) rfl (by decide) (hw0 _ (by decide) (by decide)) (t1_mem 71 rfl rfl) (nI_pos (by decide)) (nI_clamp (by decide)) (by decide) (by omega) (by omega) (by omega) (Or.inl (by decide)) ?_
  refine q_putF hc hG hi 20 1 6 (T := T_S) (N := 10) (ty0 := ty_S) (ty := ty_S 6) dS_init_57 (by decide) (by decide) rfl (by decide) in_S rfl tk_S nm_S rfl (tk_S 6 (by decide)) rfl rfl (Nat.le_of_ble_eq_true rfl) (t1_mem 44 rfl rfl) ?_
  refine p_aload_n hc dS_init_60 rfl ?_
  refine p_bipush hc dS_init_61 (nI 12) (by decide) ?_
  refine q_newI hc hG dS_init_63 (N := 12) (by first | exact hpn _ (by decide) | exact (pset_ne (by decide)).trans (hpn _ (by decide)) | exact (pset_ne (by decide)).trans ((pset_ne (by decide)).trans (hpn _ (by decide)))) rfl (by decide) (hw0 _ (by decide) (by decide)) (t1_mem 71 rfl rfl) (nI_pos (by decide)) (nI_clamp (by decide)) (by decide) (by omega) (by omega) (by omega) (Or.inl (by decide)) ?_
  refine q_putF hc hG hi 20 1 7 (T := T_S) (N := 10) (ty0 := ty_S) (ty := ty_S 7) dS_init_65 (by decide) (by decide) rfl (by decide) in_S rfl tk_S nm_S rfl (tk_S 7 (by decide)) rfl rfl (Nat.le_of_ble_eq_true rfl) (t1_mem 46 rfl rfl) ?_
  refine p_aload_n hc dS_init_68 rfl ?_
  refine p_bipush hc dS_init_69 (nI 12) (by decide) ?_
  refine q_newI hc hG dS_init_71 (N := 12) (by first | exact hpn _ (by decide) | exact (pset_ne (by decide)).trans (hpn _ (by decide)) | exact (pset_ne (by decide)).trans ((pset_ne (by decide)).trans (hpn _ (by decide)))) rfl (by decide) (hw0 _ (by decide) (by decide)) (t1_mem 71 rfl rfl) (nI_pos (by decide)) (nI_clamp (by decide)) (by decide) (by omega) (by omega) (by omega) (Or.inl (by decide)) ?_
  refine q_putF hc hG hi 20 1 8 (T := T_S) (N := 10) (ty0 := ty_S) (ty := ty_S 8) dS_init_73 (by decide) (by decide) rfl (by decide) in_S rfl tk_S nm_S rfl (tk_S 8 (by decide)) rfl rfl (Nat.le_of_ble_eq_true rfl) (t1_mem 47 rfl rfl) ?_
  refine p_aload_n hc dS_init_76 rfl ?_
  refine p_bipush hc dS_init_77 (nI 12) (by decide) ?_
  refine q_newI hc hG dS_init_79 (N := 12) (by first | exact hpn _ (by decide) | exact (pset_ne (by decide)).trans (hpn _ (by decide)) | exact (pset_ne (by decide)).trans ((pset_ne (by decide)).trans (hpn _ (by decide)))) rfl (by decide) (hw0 _ (by decide) (by decide)) (t1_mem 71 rfl rfl) (nI_pos (by decide)) (nI_clamp (by decide)) (by decide) (by omega) (by omega) (by omega) (Or.inl (by decide)) ?_
  refine q_putF hc hG hi 20 1 9 (T := T_S) (N := 10) (ty0 := ty_S) (ty := ty_S 9) dS_init_81 (by decide) (by decide) rfl (by decide) in_S rfl tk_S nm_S rfl (tk_S 9 (by decide)) rfl rfl (Nat.le_of_ble_eq_true rfl) (t1_mem 48 rfl rfl) ?_
  exact p_vret hc dS_init_84
theorem cP_init (l : Launch) (g : GG) (d : Nat) (w : Wd) (pd : Pd) (hG : Gq g) (hpn : ∀ k, 31 ≤ k → pd k = none) (hw0 : ∀ k, 31 < k → k < 48 → w k = fun _ => 0) : ConP l g yP_init bP_init 1 ((none : Option Jvm.ClassFile.FieldType)) (d + 1) 16 4264 [.ref (g.1 31)] AO none (w, 32, pset pd 31 (some (2, [.null, .int 0, .int 0, .null, .null, .null]))) (w, 48, pset pd 31 (some (2, [.ref (g.1 32), .int 0, .int (-1), .ref (g.1 33), .ref (g.1 46), .ref (g.1 47)]))) := by
  intro X hl ha hm' hk hn' hi hs0 hao hc
  subst hl
  have hs : X.2.2.2.2.1.heap.size = g.1 0 + 32 := hs0
  refine p_aload_n hc dP_init_0 rfl ?_
  refine p_oinit hc dP_init_1 (t1_mem 78 rfl rfl) (t1_mem 22 rfl rfl) (t1_mem 23 rfl rfl) (by omega) (Nat.le_of_ble_eq_true rfl) ?_
  refine p_aload_n hc dP_init_4 rfl ?_
  refine p_bipush hc dP_init_5 (nI 12) (by decide) ?_
  refine q_newI hc hG dP_init_7 (N := 12) (by first | exact hpn _ (by decide) | exact (pset_ne (by decide)).trans (hpn _ (by decide)) | exact (pset_ne (by decide)).trans ((pset_ne (by decide)).trans (hpn _ (by decide)))) rfl (by decide) (hw0 _ (by decide) (by decide)) (t1_mem 71 rfl rfl) (nI_pos (by decide)) (nI_clamp (by decide)) (by decide) (by omega) (by omega) (by omega) (Or.inl (by decide)) ?_
  refine q_putF hc hG hi 31 2 0 (T := T_P) (N := 6) (ty0 := ty_P) (ty := ty_P 0) dP_init_9 (by decide) (by decide) rfl (by decide) in_P rfl tk_P nm_P rfl (tk_P 0 (by decide)) rfl rfl (Nat.le_of_ble_eq_true rfl) (t1_mem 80 rfl rfl) ?_
  refine p_aload_n hc dP_init_12 rfl ?_
  refine p_iconst hc dP_init_13 (-1) (by decide) ?_
  refine q_putn hc hG 31 2 2 (C := R_P) (T := T_P) (N := 6) (ty0 := ty_P) (ty := ty_P 2) dP_init_14 (by decide) (by decide) rfl (by decide) in_P rfl tk_P nm_P rfl (tk_P 2 (by decide)) rfl rfl (Nat.le_of_ble_eq_true rfl) (t1_mem 82 rfl rfl) ?_
  refine p_aload_n hc dP_init_17 rfl ?_
  refine p_bipush hc dP_init_18 (nI 12) (by decide) ?_
  refine p_bipush hc dP_init_20 (nI 12) (by decide) ?_
  refine q_mna hc hG hao dP_init_22 (N := 12) (K := 12) (t1_mem 79 rfl rfl) (t1_mem 71 rfl rfl) (fun k hk => (pset_ne (by omega)).trans (hpn _ (by omega))) rfl (by decide) (by decide) (by decide) (fun i hi => hw0 _ (by omega) (by omega)) (nI_pos (by decide)) (nI_pos (by decide)) (nI_clamp (by decide)) (nI_clamp (by decide)) (by decide) (by decide) (by decide) (by omega) (by omega) (by omega) (Or.inl (by decide)) ?_
  refine q_putF hc hG hi 31 2 3 (T := T_P) (N := 6) (ty0 := ty_P) (ty := ty_P 3) dP_init_26 (by decide) (by decide) rfl (by decide) in_P rfl tk_P nm_P rfl (tk_P 3 (by decide)) rfl rfl (Nat.le_of_ble_eq_true rfl) (t1_mem 83 rfl rfl) ?_
  refine p_aload_n hc dP_init_29 rfl ?_
  refine p_sipush hc dP_init_30 (nI 2048) (by decide) ?_
  refine q_newI hc hG dP_init_33 (N := 2048) (by first | exact hpn _ (by decide) | exact (pset_ne (by decide)).trans (hpn _ (by decide)) | exact (pset_ne (by decide)).trans ((pset_ne (by decide)).trans (hpn _ (by decide)))) rfl (by decide) (hw0 _ (by decide) (by decide)) (t1_mem 71 rfl rfl) (nI_pos (by decide)) (nI_clamp (by decide)) (by decide) (by omega) (by omega) (by omega) (Or.inl (by decide)) ?_
  refine q_putF hc hG hi 31 2 4 (T := T_P) (N := 6) (ty0 := ty_P) (ty := ty_P 4) dP_init_35 (by decide) (by decide) rfl (by decide) in_P rfl tk_P nm_P rfl (tk_P 4 (by decide)) rfl rfl (Nat.le_of_ble_eq_true rfl) (t1_mem 84 rfl rfl) ?_
  refine p_aload_n hc dP_init_38 rfl ?_
  refine p_sipush hc dP_init_39 (nI 2048) (by decide) ?_
  refine q_newI hc hG dP_init_42 (N := 2048) (by first | exact hpn _ (by decide) | exact (pset_ne (by decide)).trans (hpn _ (by decide)) | exact (pset_ne (by decide)).trans ((pset_ne (by decide)).trans (hpn _ (by decide)))) rfl (by decide) (hw0 _ (by decide) (by decide)) (t1_mem 71 rfl rfl) (nI_pos (by decide)) (nI_clamp (by decide)) (by decide) (by omega) (by omega) (by omega) (Or.inl (by decide)) ?_
  refine q_putF hc hG hi 31 2 5 (T := T_P) (N := 6) (ty0 := ty_P) (ty := ty_P 5) dP_init_44 (by decide) (by decide) rfl (by decide) in_P rfl tk_P nm_P rfl (tk_P 5 (by decide)) rfl rfl (Nat.le_of_ble_eq_true rfl) (t1_mem 85 rfl rfl) ?_
  exact p_vret hc dP_init_47
