/-! the law's helpers: table, leave while a round is open -/
theorem cL_table_n (l : Launch) (g : GG) (d : Nat) (w : Wd) (m : Nat) (inn : Nat → Bool) (ap : Nat → Nat → Bool) (n : Nat) (op : Bool) (G : Nat → Nat → Ce) (x : Int32) (hF : FOk m inn ap n op G) (hS : CS w m inn ap n op G) (h : isP m x = false) : Con l g yL_table bL_table 4 ((some .int)) [(0, 9, 12, 19)] (d + 8) 1 6 [.ref (g.1 0), .int x, .ref (g.1 60)] w (Rp (An (some (.int (nI 1))) w)) := by
  intro X hl ha hm' hk hn' hc
  subst hl
  refine r_aload_n hc dL_table_0 rfl ?_
  refine r_iconst hc dL_table_1 (nI 0) (by decide) ?_
  refine r_aload_n hc dL_table_2 rfl ?_
  refine r_iload_n hc dL_table_3 rfl ?_
  refine kL_66 (kc := 0) (ks := 0) hc dL_table_4 (cF_table_n _ g d w m inn ap n op G x hF hS h) (by omega) (Nat.le_of_ble_eq_true rfl) hk hn' (fun v w' h => absurd h Tp_l) ?_
  rintro cn w' ⟨rfl, rfl⟩
  refine x_catch (pre := []) (rest := []) (a := 0) (b := 9) (hp := 12) (ct := 19) hc ⟨by decide, by decide⟩ (by decide) (t2_mem 86 rfl rfl) (t2_mem 98 rfl rfl) (fun r hr => by cases hr) (fun z => ?_)
  refine r_astore_n hc dL_table_12 (Nat.le_of_ble_eq_true rfl) ?_
  refine r_iconst hc dL_table_13 (nI 1) (by decide) ?_
  exact r_iret hc dL_table_14 ⟨rfl, rfl⟩
