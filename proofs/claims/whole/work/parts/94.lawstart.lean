/-! the law's start: both are made -/
theorem w0_z {k : Nat} (h : k ≠ 31) : w0 k = fun _ => 0 := by
  funext i
  unfold w0
  rw [if_neg (fun z => h z.1)]
theorem wF_z {k m : Nat} (h : 48 ≤ k) : wF w0 m k = fun _ => 0 := by
  unfold wF
  rw [setW_ne (by omega), wu_ne (by omega), w0_z (by omega)]
theorem wM_z {k m : Nat} (h : 60 ≤ k) : wM (wF w0 m) m k = fun _ => 0 := by
  unfold wM
  rw [setW_ne (by omega), wu_ne (by omega), wF_z (by omega)]
theorem law_start {X : Cxt} {g : GG} {Q : State → Prop} {b L C S : Nat} {xs : Nat → Int32} {hx : List (Nat × Nat × Nat × Nat)} (hc : Ok X g code "PairedFieldLaw" (some .boolean) hx 11) (hG : Gq g) (hX : SX g b L xs X.2.2.2.2.1) (hao : AO X.2.2.2.2.1) (hL2 : L ≤ 2049) (hs : X.2.2.2.2.1.heap.size = g.1 0) (hC9 : C ≤ X.2.2.2.1.cells) (hS9 : S ≤ X.2.2.2.1.slots) (hC : 61 + 2049 ≤ C) (hS : 17882 + 6 * 2049 ≤ S)
    (hend : ∀ (w : Wd) (i kc ks : Nat), kc ≤ C → ks ≤ S → Go X g kc ks Q w 1028 (LPl g b i) []) : GoP X g 0 0 Q (w0, 0, pn) 0 [some (.ref b), none, none, none, none, none, none] [] := by
  have hL : L < 2 ^ 31 := by omega
  refine q_new hc hG dL_law_0 (ci := 0) (fs := nlF) (C := R_F) (T := T_F) (N := 8) (ty := ty_F) rfl in_F tk_F (t1_mem 16 rfl rfl) (t1_mem 17 rfl rfl) (t1_mem 1 rfl rfl) (fun j hj => by rcases (show j = 0 ∨ j = 1 ∨ j = 2 ∨ j = 3 ∨ j = 4 ∨ j = 5 ∨ j = 6 ∨ j = 7 by omega) with rfl | rfl | rfl | rfl | rfl | rfl | rfl | rfl <;> rfl) (by omega) (by omega) (by omega) (Or.inr rfl) ?_
  refine p_dup hc dL_law_3 rfl ?_
  refine p_aload_n hc dL_law_4 rfl ?_
  refine p_iconst hc dL_law_5 (nI 0) (by decide) ?_
  refine p_calls hc hG (E := SX g b L xs) (fun U' L' hW hS' => hX.move hW hS') dL_law_6 (d' := 0) (k := 0) (n := 0) (av := [.ref b, .int (nI 0)]) (cL_cell _ g 0 _ b L 0 xs hL (by decide)) (t1_mem 238 rfl rfl) (t1_mem 239 rfl rfl) (t1_mem 0 rfl rfl) (t2_mem 0 rfl rfl) ⟨by decide, by decide⟩ (by decide +kernel) (show (parseMethodDescriptor yL_cell.desc).map (fun d => d.parameters.length) = some 2 by decide +kernel) (by decide) (by decide) (fun v hv => by simp only [List.mem_cons, List.not_mem_nil, or_false] at hv; rcases hv with rfl | rfl <;> rfl) (Nat.le_of_ble_eq_true rfl) (Nat.le_of_ble_eq_true rfl) (by omega) (by omega) (by show X.2.2.2.2.1.heap.size + _ = g.1 0 + 1; omega) (Or.inl (show 0 < 1 by decide)) ?_
  refine p_calli hc hG hao dL_law_9 (d' := 2) (k := 47) (n := 4632) (a := g.1 0) (av := [.int (scr xs L 0)]) (st := [.ref (g.1 0)]) (cF_init _ g 0 w0 (scr xs L 0) hG (fun k h1 h2 h3 => w0_z h3) ⟨rfl, rfl⟩ (w0_z (by decide))) (t1_mem 18 rfl rfl) (t1_mem 19 rfl rfl) (t1_mem 20 rfl rfl) rfl ⟨by decide, by decide⟩ (by decide +kernel) (show (parseMethodDescriptor yF_init.desc).map (fun d => d.parameters.length) = some 1 by decide +kernel) (by decide) (by decide) (fun v hv => by rw [List.mem_singleton] at hv; subst hv; rfl) (Nat.le_of_ble_eq_true rfl) (Nat.le_of_ble_eq_true rfl) (by omega) (by omega) (by show X.2.2.2.2.1.heap.size + _ = g.1 0 + 1; omega) (Or.inl (show 0 < 1 by decide)) ?_
  refine p_astore_n hc dL_law_12 (Nat.le_of_ble_eq_true rfl) ?_
  refine q_new hc hG dL_law_13 (ci := 3) (fs := nlM) (C := R_M) (T := T_M) (N := 17) (ty := ty_M) rfl in_M tk_M (t3_mem 109 rfl rfl) (t3_mem 110 rfl rfl) (t1_mem 5 rfl rfl) (fun j hj => by rcases (show j = 0 ∨ j = 1 ∨ j = 2 ∨ j = 3 ∨ j = 4 ∨ j = 5 ∨ j = 6 ∨ j = 7 ∨ j = 8 ∨ j = 9 ∨ j = 10 ∨ j = 11 ∨ j = 12 ∨ j = 13 ∨ j = 14 ∨ j = 15 ∨ j = 16 by omega) with rfl | rfl | rfl | rfl | rfl | rfl | rfl | rfl | rfl | rfl | rfl | rfl | rfl | rfl | rfl | rfl | rfl <;> rfl) (by omega) (by omega) (by omega) (Or.inl (by decide)) ?_
  refine p_dup hc dL_law_16 rfl ?_
  refine p_aload_n hc dL_law_17 rfl ?_
  refine p_iconst hc dL_law_18 (nI 0) (by decide) ?_
  refine p_calls hc hG (E := SX g b L xs) (fun U' L' hW hS' => hX.move hW hS') dL_law_19 (d' := 0) (k := 0) (n := 0) (av := [.ref b, .int (nI 0)]) (cL_cell _ g 0 _ b L 0 xs hL (by decide)) (t1_mem 238 rfl rfl) (t1_mem 239 rfl rfl) (t1_mem 0 rfl rfl) (t2_mem 0 rfl rfl) ⟨by decide, by decide⟩ (by decide +kernel) (show (parseMethodDescriptor yL_cell.desc).map (fun d => d.parameters.length) = some 2 by decide +kernel) (by decide) (by decide) (fun v hv => by simp only [List.mem_cons, List.not_mem_nil, or_false] at hv; rcases hv with rfl | rfl <;> rfl) (Nat.le_of_ble_eq_true rfl) (Nat.le_of_ble_eq_true rfl) (by omega) (by omega) (by show X.2.2.2.2.1.heap.size + _ = g.1 0 + 49; omega) (Or.inl (show 0 < 49 by decide)) ?_
  refine p_calli hc hG hao dL_law_22 (d' := 1) (k := 11) (n := 13224) (a := g.1 48) (av := [.int (scr xs L 0)]) (st := [.ref (g.1 48)]) (cM_init _ g 0 (wF w0 (cm (scr xs L 0))) (scr xs L 0) hG (fun k h1 h2 => wF_z h1)) (t3_mem 111 rfl rfl) (t3_mem 112 rfl rfl) (t3_mem 113 rfl rfl) rfl ⟨by decide, by decide⟩ (by decide +kernel) (show (parseMethodDescriptor yM_init.desc).map (fun d => d.parameters.length) = some 1 by decide +kernel) (by decide) (by decide) (fun v hv => by rw [List.mem_singleton] at hv; subst hv; rfl) (Nat.le_of_ble_eq_true rfl) (Nat.le_of_ble_eq_true rfl) (by omega) (by omega) (by show X.2.2.2.2.1.heap.size + _ = g.1 0 + 49; omega) (Or.inl (show 0 < 49 by decide)) ?_
  refine p_astore_n hc dL_law_25 (Nat.le_of_ble_eq_true rfl) ?_
  refine p_iconst hc dL_law_26 (nI 1) (by decide) ?_
  refine p_newL hc hG dL_law_27 rfl (wM_z (by decide)) (t4_mem 104 rfl rfl) (nI_pos (by decide)) (nI_clamp (by decide)) (by omega) (by omega) (by omega) ?_
  refine p_astore_n hc dL_law_29 (Nat.le_of_ble_eq_true rfl) ?_
  refine GoP.full ?_
  refine r_iconst hc dL_law_30 (nI 1) (by decide) ?_
  refine r_istore hc dL_law_31 (Nat.le_of_ble_eq_true rfl) ?_
  have hbd := cm_bd (scr xs L 0)
  exact law_loop hc hX hL2 hC9 hS9 hend L 1 61 17882 (wS (cm (scr xs L 0))) _ _ _ _ _ _ (by omega) (by omega) (by omega) ⟨start_CS _ hbd, start_MS _ hbd.2, FOk.start hbd⟩ (by omega) (by omega)
