/-! the law's helpers -/
theorem cL_leave_nP (l : Launch) (g : GG) (d : Nat) (w : Wd) (m : Nat) (inn : Nat → Bool) (ap : Nat → Nat → Bool) (n : Nat) (op : Bool) (G : Nat → Nat → Ce) (x : Int32) (hF : FOk m inn ap n op G) (hS : CS w m inn ap n op G) (h : isP m x = false) : Con l g yL_leave bL_leave 3 ((some .int)) [(0, 5, 8, 19), (0, 5, 11, 21), (0, 5, 14, 13)] (d + 8) 1 6 [.ref (g.1 0), .int x] w (Rp (An (some (.int (nI 1))) w)) := by
  intro X hl ha hm' hk hn' hc
  subst hl
  refine r_aload_n hc dL_leave_0 rfl ?_
  refine r_iload_n hc dL_leave_1 rfl ?_
  refine kL_15 (kc := 0) (ks := 0) hc dL_leave_2 (cF_leave_nP _ g d w m inn ap n op G x hF hS h) (by omega) (Nat.le_of_ble_eq_true rfl) hk hn' (fun v w' h => absurd h Tp_l) ?_
  rintro cn w' ⟨rfl, rfl⟩
  refine x_catch (pre := []) (rest := [(0, 5, 11, 21), (0, 5, 14, 13)]) (a := 0) (b := 5) (hp := 8) (ct := 19) hc ⟨by decide, by decide⟩ (by decide) (t2_mem 86 rfl rfl) (t2_mem 98 rfl rfl) (fun r hr => by cases hr) (fun z => ?_)
  refine r_astore_n hc dL_leave_8 (Nat.le_of_ble_eq_true rfl) ?_
  refine r_iconst hc dL_leave_9 (nI 1) (by decide) ?_
  exact r_iret hc dL_leave_10 ⟨rfl, rfl⟩
theorem cL_leave_nE (l : Launch) (g : GG) (d : Nat) (w : Wd) (m : Nat) (inn : Nat → Bool) (ap : Nat → Nat → Bool) (n : Nat) (op : Bool) (G : Nat → Nat → Ce) (x : Int32) (hF : FOk m inn ap n op G) (hS : CS w m inn ap n op G) (h : isP m x = true) (h2 : inn (pN x) = false) : Con l g yL_leave bL_leave 3 ((some .int)) [(0, 5, 8, 19), (0, 5, 11, 21), (0, 5, 14, 13)] (d + 8) 1 6 [.ref (g.1 0), .int x] w (Rp (An (some (.int (nI 2))) w)) := by
  intro X hl ha hm' hk hn' hc
  subst hl
  refine r_aload_n hc dL_leave_0 rfl ?_
  refine r_iload_n hc dL_leave_1 rfl ?_
  refine kL_15 (kc := 0) (ks := 0) hc dL_leave_2 (cF_leave_nE _ g d w m inn ap n op G x hF hS h h2) (by omega) (Nat.le_of_ble_eq_true rfl) hk hn' (fun v w' h => absurd h Tp_l) ?_
  rintro cn w' ⟨rfl, rfl⟩
  refine x_catch (pre := [(0, 5, 8, 19)]) (rest := [(0, 5, 14, 13)]) (a := 0) (b := 5) (hp := 11) (ct := 21) hc ⟨by decide, by decide⟩ (by decide) (t2_mem 87 rfl rfl) (t2_mem 114 rfl rfl) (fun r hr => by
    rw [List.mem_singleton] at hr
    subst hr
    exact ⟨by decide, _, t2_mem 86 rfl rfl, by decide⟩) (fun z => ?_)
  refine r_astore_n hc dL_leave_11 (Nat.le_of_ble_eq_true rfl) ?_
  refine r_iconst hc dL_leave_12 (nI 2) (by decide) ?_
  exact r_iret hc dL_leave_13 ⟨rfl, rfl⟩
theorem cL_leave_y (l : Launch) (g : GG) (d : Nat) (w : Wd) (m : Nat) (inn : Nat → Bool) (ap : Nat → Nat → Bool) (n : Nat) (G : Nat → Nat → Ce) (x : Int32) (hF : FOk m inn ap n false G) (hS : CS w m inn ap n false G) (h : isP m x = true) (h2 : inn (pN x) = true) : Con l g yL_leave bL_leave 3 ((some .int)) [(0, 5, 8, 19), (0, 5, 11, 21), (0, 5, 14, 13)] (d + 3) 0 0 [.ref (g.1 0), .int x] w (Rp (fun v w' => v = some (.int (nI 0)) ∧ CS w' m (fun p => if p = pN x then false else inn p) ap n false G ∧ FrC w w')) := by
  intro X hl ha hm' hk hn' hc
  subst hl
  refine r_aload_n hc dL_leave_0 rfl ?_
  refine r_iload_n hc dL_leave_1 rfl ?_
  refine kL_15 (kc := 0) (ks := 0) hc dL_leave_2 (cF_leave_y _ g d w m inn ap n G x hF hS h h2) (by omega) (Nat.le_of_ble_eq_true rfl) (Nat.zero_le _) (Nat.zero_le _) ?_ (fun cn w' h => absurd h Rp_r)
  rintro _ w' ⟨rfl, h1, h2⟩
  refine r_goto hc dL_leave_5 (tgt := 17) (by decide) ?_
  refine r_iconst hc dL_leave_17 (nI 0) (by decide) ?_
  exact r_iret hc dL_leave_18 ⟨rfl, h1, h2⟩
