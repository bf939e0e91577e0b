/-! rows for arrays with an index that is the number of a Nat -/
section GMORE
variable {X : Cxt} {g : GG} {cc : ByteArray} {own : String} {ret : Option FieldType} {hx : List (Nat × Nat × Nat × Nat)} {d kc ks : Nat} {Q : State → Prop} {w : Wd} {pc : Nat} {lp : List (Option Value)} {st : List Value}
theorem r_ialdN {q : Nat} {i : Int32} {j : Nat} (hc : Ok X g cc own ret hx d) (hd : decode cc pc = .ok (.iaload, 1)) (hi : i = nI j) (hj : j < lenI q) (k : Go X g kc ks Q w (pc + 1) lp (.int (w q j) :: st)) : Go X g kc ks Q w pc lp (.int i :: .ref (g.1 q) :: st) := by
  have hl := lenI_le q
  subst hi
  refine r_iald hc hd (vp_in_nI hj (by omega)) ?_
  rw [nI_clamp (by omega)]
  exact k
theorem r_iastN {q : Nat} {i x : Int32} {j : Nat} (hc : Ok X g cc own ret hx d) (hd : decode cc pc = .ok (.iastore, 1)) (hi : i = nI j) (hj : j < lenI q) (k : Go X g kc ks Q (wu w q j x) (pc + 1) lp st) : Go X g kc ks Q w pc lp (.int x :: .int i :: .ref (g.1 q) :: st) := by
  have hl := lenI_le q
  subst hi
  refine r_iast hc hd (vp_in_nI hj (by omega)) ?_
  rw [nI_clamp (by omega)]
  exact k
theorem r_zaldN {q : Nat} {i : Int32} {j : Nat} (hc : Ok X g cc own ret hx d) (hd : decode cc pc = .ok (.baload, 1)) (hi : i = nI j) (hj : j < lenZ q) (k : Go X g kc ks Q w (pc + 1) lp (.int (w q j) :: st)) : Go X g kc ks Q w pc lp (.int i :: .ref (g.1 q) :: st) := by
  have hl := lenZ_le q
  subst hi
  refine r_zald hc hd (vp_in_nI hj (by omega)) ?_
  rw [nI_clamp (by omega)]
  exact k
theorem r_zastN {q : Nat} {i x : Int32} {j : Nat} (hc : Ok X g cc own ret hx d) (hd : decode cc pc = .ok (.bastore, 1)) (hi : i = nI j) (hj : j < lenZ q) (hb : x = 0 ∨ x = 1) (k : Go X g kc ks Q (wu w q j x) (pc + 1) lp st) : Go X g kc ks Q w pc lp (.int x :: .int i :: .ref (g.1 q) :: st) := by
  have hl := lenZ_le q
  subst hi
  refine r_zast hc hd (vp_in_nI hj (by omega)) (by rcases hb with rfl | rfl <;> rfl) ?_
  rw [nI_clamp (by omega)]
  exact k
theorem lenA_le (q : Nat) : lenA q ≤ 16 := by
  unfold lenA
  repeat (split; omega)
  omega
theorem r_aaldN {q : Nat} {i : Int32} {j : Nat} (hc : Ok X g cc own ret hx d) (hd : decode cc pc = .ok (.aaload, 1)) (hi : i = nI j) (hj : j < lenA q) (k : Go X g kc ks Q w (pc + 1) lp (.ref (g.1 (q + 1 + j)) :: st)) : Go X g kc ks Q w pc lp (.int i :: .ref (g.1 q) :: st) := by
  have hl := lenA_le q
  subst hi
  refine r_aald hc hd (vp_in_nI hj (by omega)) ?_
  rw [nI_clamp (by omega)]
  exact k
end GMORE
/-- an exact answer, the world as given -/
def An (v : Option Value) (w' : Wd) : Option Value → Wd → Prop := fun r z => r = v ∧ w' = z
/-- a truth value as the machine has it -/
def bI (b : Bool) : Int32 := if b then 1 else 0
theorem bI_01 (b : Bool) : bI b = 0 ∨ bI b = 1 := by cases b <;> simp [bI]
theorem bI_nar (b : Bool) : narrow .boolean (.int (bI b)) = .int (bI b) := by cases b <;> rfl
theorem r_if_eq_t {X : Cxt} {g : GG} {cc : ByteArray} {own : String} {ret : Option FieldType} {hx : List (Nat × Nat × Nat × Nat)} {d kc ks : Nat} {Q : State → Prop} {w : Wd} {pc : Nat} {lp : List (Option Value)} {st : List Value} {x : Int32} {off : Int} {tgt : Nat} (hc : Ok X g cc own ret hx d) (hd : decode cc pc = .ok (.ifCond .eq off, 3)) (ht : (pc : Int) + off = (tgt : Int)) (h : x = 0) (k : Go X g kc ks Q w tgt lp st) : Go X g kc ks Q w pc lp (.int x :: st) := r_if_eq hc hd ht (fun _ => k) (fun q => absurd h q)
theorem r_if_eq_f {X : Cxt} {g : GG} {cc : ByteArray} {own : String} {ret : Option FieldType} {hx : List (Nat × Nat × Nat × Nat)} {d kc ks : Nat} {Q : State → Prop} {w : Wd} {pc : Nat} {lp : List (Option Value)} {st : List Value} {x : Int32} {off : Int} {tgt : Nat} (hc : Ok X g cc own ret hx d) (hd : decode cc pc = .ok (.ifCond .eq off, 3)) (ht : (pc : Int) + off = (tgt : Int)) (h : ¬ x = 0) (k : Go X g kc ks Q w (pc + 3) lp st) : Go X g kc ks Q w pc lp (.int x :: st) := r_if_eq hc hd ht (fun q => absurd q h) (fun _ => k)
theorem r_if_ne_t {X : Cxt} {g : GG} {cc : ByteArray} {own : String} {ret : Option FieldType} {hx : List (Nat × Nat × Nat × Nat)} {d kc ks : Nat} {Q : State → Prop} {w : Wd} {pc : Nat} {lp : List (Option Value)} {st : List Value} {x : Int32} {off : Int} {tgt : Nat} (hc : Ok X g cc own ret hx d) (hd : decode cc pc = .ok (.ifCond .ne off, 3)) (ht : (pc : Int) + off = (tgt : Int)) (h : ¬ x = 0) (k : Go X g kc ks Q w tgt lp st) : Go X g kc ks Q w pc lp (.int x :: st) := r_if_ne hc hd ht (fun _ => k) (fun q => absurd q h)
theorem r_if_ne_f {X : Cxt} {g : GG} {cc : ByteArray} {own : String} {ret : Option FieldType} {hx : List (Nat × Nat × Nat × Nat)} {d kc ks : Nat} {Q : State → Prop} {w : Wd} {pc : Nat} {lp : List (Option Value)} {st : List Value} {x : Int32} {off : Int} {tgt : Nat} (hc : Ok X g cc own ret hx d) (hd : decode cc pc = .ok (.ifCond .ne off, 3)) (ht : (pc : Int) + off = (tgt : Int)) (h : x = 0) (k : Go X g kc ks Q w (pc + 3) lp st) : Go X g kc ks Q w pc lp (.int x :: st) := r_if_ne hc hd ht (fun q => absurd h q) (fun _ => k)
theorem r_if_lt_t {X : Cxt} {g : GG} {cc : ByteArray} {own : String} {ret : Option FieldType} {hx : List (Nat × Nat × Nat × Nat)} {d kc ks : Nat} {Q : State → Prop} {w : Wd} {pc : Nat} {lp : List (Option Value)} {st : List Value} {x : Int32} {off : Int} {tgt : Nat} (hc : Ok X g cc own ret hx d) (hd : decode cc pc = .ok (.ifCond .lt off, 3)) (ht : (pc : Int) + off = (tgt : Int)) (h : x < 0) (k : Go X g kc ks Q w tgt lp st) : Go X g kc ks Q w pc lp (.int x :: st) := r_if_lt hc hd ht (fun _ => k) (fun q => absurd h q)
theorem r_if_lt_f {X : Cxt} {g : GG} {cc : ByteArray} {own : String} {ret : Option FieldType} {hx : List (Nat × Nat × Nat × Nat)} {d kc ks : Nat} {Q : State → Prop} {w : Wd} {pc : Nat} {lp : List (Option Value)} {st : List Value} {x : Int32} {off : Int} {tgt : Nat} (hc : Ok X g cc own ret hx d) (hd : decode cc pc = .ok (.ifCond .lt off, 3)) (ht : (pc : Int) + off = (tgt : Int)) (h : ¬ x < 0) (k : Go X g kc ks Q w (pc + 3) lp st) : Go X g kc ks Q w pc lp (.int x :: st) := r_if_lt hc hd ht (fun q => absurd q h) (fun _ => k)
theorem r_if_ge_t {X : Cxt} {g : GG} {cc : ByteArray} {own : String} {ret : Option FieldType} {hx : List (Nat × Nat × Nat × Nat)} {d kc ks : Nat} {Q : State → Prop} {w : Wd} {pc : Nat} {lp : List (Option Value)} {st : List Value} {x : Int32} {off : Int} {tgt : Nat} (hc : Ok X g cc own ret hx d) (hd : decode cc pc = .ok (.ifCond .ge off, 3)) (ht : (pc : Int) + off = (tgt : Int)) (h : 0 ≤ x) (k : Go X g kc ks Q w tgt lp st) : Go X g kc ks Q w pc lp (.int x :: st) := r_if_ge hc hd ht (fun _ => k) (fun q => absurd h q)
theorem r_if_ge_f {X : Cxt} {g : GG} {cc : ByteArray} {own : String} {ret : Option FieldType} {hx : List (Nat × Nat × Nat × Nat)} {d kc ks : Nat} {Q : State → Prop} {w : Wd} {pc : Nat} {lp : List (Option Value)} {st : List Value} {x : Int32} {off : Int} {tgt : Nat} (hc : Ok X g cc own ret hx d) (hd : decode cc pc = .ok (.ifCond .ge off, 3)) (ht : (pc : Int) + off = (tgt : Int)) (h : ¬ 0 ≤ x) (k : Go X g kc ks Q w (pc + 3) lp st) : Go X g kc ks Q w pc lp (.int x :: st) := r_if_ge hc hd ht (fun q => absurd q h) (fun _ => k)
theorem r_if_gt_t {X : Cxt} {g : GG} {cc : ByteArray} {own : String} {ret : Option FieldType} {hx : List (Nat × Nat × Nat × Nat)} {d kc ks : Nat} {Q : State → Prop} {w : Wd} {pc : Nat} {lp : List (Option Value)} {st : List Value} {x : Int32} {off : Int} {tgt : Nat} (hc : Ok X g cc own ret hx d) (hd : decode cc pc = .ok (.ifCond .gt off, 3)) (ht : (pc : Int) + off = (tgt : Int)) (h : 0 < x) (k : Go X g kc ks Q w tgt lp st) : Go X g kc ks Q w pc lp (.int x :: st) := r_if_gt hc hd ht (fun _ => k) (fun q => absurd h q)
theorem r_if_gt_f {X : Cxt} {g : GG} {cc : ByteArray} {own : String} {ret : Option FieldType} {hx : List (Nat × Nat × Nat × Nat)} {d kc ks : Nat} {Q : State → Prop} {w : Wd} {pc : Nat} {lp : List (Option Value)} {st : List Value} {x : Int32} {off : Int} {tgt : Nat} (hc : Ok X g cc own ret hx d) (hd : decode cc pc = .ok (.ifCond .gt off, 3)) (ht : (pc : Int) + off = (tgt : Int)) (h : ¬ 0 < x) (k : Go X g kc ks Q w (pc + 3) lp st) : Go X g kc ks Q w pc lp (.int x :: st) := r_if_gt hc hd ht (fun q => absurd q h) (fun _ => k)
theorem r_if_le_t {X : Cxt} {g : GG} {cc : ByteArray} {own : String} {ret : Option FieldType} {hx : List (Nat × Nat × Nat × Nat)} {d kc ks : Nat} {Q : State → Prop} {w : Wd} {pc : Nat} {lp : List (Option Value)} {st : List Value} {x : Int32} {off : Int} {tgt : Nat} (hc : Ok X g cc own ret hx d) (hd : decode cc pc = .ok (.ifCond .le off, 3)) (ht : (pc : Int) + off = (tgt : Int)) (h : x ≤ 0) (k : Go X g kc ks Q w tgt lp st) : Go X g kc ks Q w pc lp (.int x :: st) := r_if_le hc hd ht (fun _ => k) (fun q => absurd h q)
theorem r_if_le_f {X : Cxt} {g : GG} {cc : ByteArray} {own : String} {ret : Option FieldType} {hx : List (Nat × Nat × Nat × Nat)} {d kc ks : Nat} {Q : State → Prop} {w : Wd} {pc : Nat} {lp : List (Option Value)} {st : List Value} {x : Int32} {off : Int} {tgt : Nat} (hc : Ok X g cc own ret hx d) (hd : decode cc pc = .ok (.ifCond .le off, 3)) (ht : (pc : Int) + off = (tgt : Int)) (h : ¬ x ≤ 0) (k : Go X g kc ks Q w (pc + 3) lp st) : Go X g kc ks Q w pc lp (.int x :: st) := r_if_le hc hd ht (fun q => absurd q h) (fun _ => k)
theorem r_ic_eq_t {X : Cxt} {g : GG} {cc : ByteArray} {own : String} {ret : Option FieldType} {hx : List (Nat × Nat × Nat × Nat)} {d kc ks : Nat} {Q : State → Prop} {w : Wd} {pc : Nat} {lp : List (Option Value)} {st : List Value} {x y : Int32} {off : Int} {tgt : Nat} (hc : Ok X g cc own ret hx d) (hd : decode cc pc = .ok (.if_icmp .eq off, 3)) (ht : (pc : Int) + off = (tgt : Int)) (h : x = y) (k : Go X g kc ks Q w tgt lp st) : Go X g kc ks Q w pc lp (.int y :: .int x :: st) := r_ic_eq hc hd ht (fun _ => k) (fun q => absurd h q)
theorem r_ic_eq_f {X : Cxt} {g : GG} {cc : ByteArray} {own : String} {ret : Option FieldType} {hx : List (Nat × Nat × Nat × Nat)} {d kc ks : Nat} {Q : State → Prop} {w : Wd} {pc : Nat} {lp : List (Option Value)} {st : List Value} {x y : Int32} {off : Int} {tgt : Nat} (hc : Ok X g cc own ret hx d) (hd : decode cc pc = .ok (.if_icmp .eq off, 3)) (ht : (pc : Int) + off = (tgt : Int)) (h : ¬ x = y) (k : Go X g kc ks Q w (pc + 3) lp st) : Go X g kc ks Q w pc lp (.int y :: .int x :: st) := r_ic_eq hc hd ht (fun q => absurd q h) (fun _ => k)
theorem r_ic_ne_t {X : Cxt} {g : GG} {cc : ByteArray} {own : String} {ret : Option FieldType} {hx : List (Nat × Nat × Nat × Nat)} {d kc ks : Nat} {Q : State → Prop} {w : Wd} {pc : Nat} {lp : List (Option Value)} {st : List Value} {x y : Int32} {off : Int} {tgt : Nat} (hc : Ok X g cc own ret hx d) (hd : decode cc pc = .ok (.if_icmp .ne off, 3)) (ht : (pc : Int) + off = (tgt : Int)) (h : ¬ x = y) (k : Go X g kc ks Q w tgt lp st) : Go X g kc ks Q w pc lp (.int y :: .int x :: st) := r_ic_ne hc hd ht (fun _ => k) (fun q => absurd q h)
theorem r_ic_ne_f {X : Cxt} {g : GG} {cc : ByteArray} {own : String} {ret : Option FieldType} {hx : List (Nat × Nat × Nat × Nat)} {d kc ks : Nat} {Q : State → Prop} {w : Wd} {pc : Nat} {lp : List (Option Value)} {st : List Value} {x y : Int32} {off : Int} {tgt : Nat} (hc : Ok X g cc own ret hx d) (hd : decode cc pc = .ok (.if_icmp .ne off, 3)) (ht : (pc : Int) + off = (tgt : Int)) (h : x = y) (k : Go X g kc ks Q w (pc + 3) lp st) : Go X g kc ks Q w pc lp (.int y :: .int x :: st) := r_ic_ne hc hd ht (fun q => absurd h q) (fun _ => k)
theorem r_ic_lt_t {X : Cxt} {g : GG} {cc : ByteArray} {own : String} {ret : Option FieldType} {hx : List (Nat × Nat × Nat × Nat)} {d kc ks : Nat} {Q : State → Prop} {w : Wd} {pc : Nat} {lp : List (Option Value)} {st : List Value} {x y : Int32} {off : Int} {tgt : Nat} (hc : Ok X g cc own ret hx d) (hd : decode cc pc = .ok (.if_icmp .lt off, 3)) (ht : (pc : Int) + off = (tgt : Int)) (h : x < y) (k : Go X g kc ks Q w tgt lp st) : Go X g kc ks Q w pc lp (.int y :: .int x :: st) := r_ic_lt hc hd ht (fun _ => k) (fun q => absurd h q)
theorem r_ic_lt_f {X : Cxt} {g : GG} {cc : ByteArray} {own : String} {ret : Option FieldType} {hx : List (Nat × Nat × Nat × Nat)} {d kc ks : Nat} {Q : State → Prop} {w : Wd} {pc : Nat} {lp : List (Option Value)} {st : List Value} {x y : Int32} {off : Int} {tgt : Nat} (hc : Ok X g cc own ret hx d) (hd : decode cc pc = .ok (.if_icmp .lt off, 3)) (ht : (pc : Int) + off = (tgt : Int)) (h : ¬ x < y) (k : Go X g kc ks Q w (pc + 3) lp st) : Go X g kc ks Q w pc lp (.int y :: .int x :: st) := r_ic_lt hc hd ht (fun q => absurd q h) (fun _ => k)
theorem r_ic_ge_t {X : Cxt} {g : GG} {cc : ByteArray} {own : String} {ret : Option FieldType} {hx : List (Nat × Nat × Nat × Nat)} {d kc ks : Nat} {Q : State → Prop} {w : Wd} {pc : Nat} {lp : List (Option Value)} {st : List Value} {x y : Int32} {off : Int} {tgt : Nat} (hc : Ok X g cc own ret hx d) (hd : decode cc pc = .ok (.if_icmp .ge off, 3)) (ht : (pc : Int) + off = (tgt : Int)) (h : y ≤ x) (k : Go X g kc ks Q w tgt lp st) : Go X g kc ks Q w pc lp (.int y :: .int x :: st) := r_ic_ge hc hd ht (fun _ => k) (fun q => absurd h q)
theorem r_ic_ge_f {X : Cxt} {g : GG} {cc : ByteArray} {own : String} {ret : Option FieldType} {hx : List (Nat × Nat × Nat × Nat)} {d kc ks : Nat} {Q : State → Prop} {w : Wd} {pc : Nat} {lp : List (Option Value)} {st : List Value} {x y : Int32} {off : Int} {tgt : Nat} (hc : Ok X g cc own ret hx d) (hd : decode cc pc = .ok (.if_icmp .ge off, 3)) (ht : (pc : Int) + off = (tgt : Int)) (h : ¬ y ≤ x) (k : Go X g kc ks Q w (pc + 3) lp st) : Go X g kc ks Q w pc lp (.int y :: .int x :: st) := r_ic_ge hc hd ht (fun q => absurd q h) (fun _ => k)
theorem r_ic_gt_t {X : Cxt} {g : GG} {cc : ByteArray} {own : String} {ret : Option FieldType} {hx : List (Nat × Nat × Nat × Nat)} {d kc ks : Nat} {Q : State → Prop} {w : Wd} {pc : Nat} {lp : List (Option Value)} {st : List Value} {x y : Int32} {off : Int} {tgt : Nat} (hc : Ok X g cc own ret hx d) (hd : decode cc pc = .ok (.if_icmp .gt off, 3)) (ht : (pc : Int) + off = (tgt : Int)) (h : y < x) (k : Go X g kc ks Q w tgt lp st) : Go X g kc ks Q w pc lp (.int y :: .int x :: st) := r_ic_gt hc hd ht (fun _ => k) (fun q => absurd h q)
theorem r_ic_gt_f {X : Cxt} {g : GG} {cc : ByteArray} {own : String} {ret : Option FieldType} {hx : List (Nat × Nat × Nat × Nat)} {d kc ks : Nat} {Q : State → Prop} {w : Wd} {pc : Nat} {lp : List (Option Value)} {st : List Value} {x y : Int32} {off : Int} {tgt : Nat} (hc : Ok X g cc own ret hx d) (hd : decode cc pc = .ok (.if_icmp .gt off, 3)) (ht : (pc : Int) + off = (tgt : Int)) (h : ¬ y < x) (k : Go X g kc ks Q w (pc + 3) lp st) : Go X g kc ks Q w pc lp (.int y :: .int x :: st) := r_ic_gt hc hd ht (fun q => absurd q h) (fun _ => k)
theorem r_ic_le_t {X : Cxt} {g : GG} {cc : ByteArray} {own : String} {ret : Option FieldType} {hx : List (Nat × Nat × Nat × Nat)} {d kc ks : Nat} {Q : State → Prop} {w : Wd} {pc : Nat} {lp : List (Option Value)} {st : List Value} {x y : Int32} {off : Int} {tgt : Nat} (hc : Ok X g cc own ret hx d) (hd : decode cc pc = .ok (.if_icmp .le off, 3)) (ht : (pc : Int) + off = (tgt : Int)) (h : x ≤ y) (k : Go X g kc ks Q w tgt lp st) : Go X g kc ks Q w pc lp (.int y :: .int x :: st) := r_ic_le hc hd ht (fun _ => k) (fun q => absurd h q)
theorem r_ic_le_f {X : Cxt} {g : GG} {cc : ByteArray} {own : String} {ret : Option FieldType} {hx : List (Nat × Nat × Nat × Nat)} {d kc ks : Nat} {Q : State → Prop} {w : Wd} {pc : Nat} {lp : List (Option Value)} {st : List Value} {x y : Int32} {off : Int} {tgt : Nat} (hc : Ok X g cc own ret hx d) (hd : decode cc pc = .ok (.if_icmp .le off, 3)) (ht : (pc : Int) + off = (tgt : Int)) (h : ¬ x ≤ y) (k : Go X g kc ks Q w (pc + 3) lp st) : Go X g kc ks Q w pc lp (.int y :: .int x :: st) := r_ic_le hc hd ht (fun q => absurd q h) (fun _ => k)
theorem Go.drop {X : Cxt} {g : GG} {kc ks : Nat} {Q : State → Prop} {w : Wd} {pc : Nat} {lp : List (Option Value)} {st : List Value} (i : Nat) (k : Go X g kc ks Q w pc (lp.set i none) st) : Go X g kc ks Q w pc lp st := by
  refine Go.weak (lp' := lp.set i none) (by rw [List.length_set]; exact Nat.le_refl _) (fun j v h => ?_) k
  by_cases hj : j = i
  · subst hj
    have hl : j < (lp.set j none).length := (List.getElem?_eq_some_iff.mp h).1
    rw [List.length_set] at hl
    rw [List.getElem?_set_self hl] at h
    cases h
  · rw [List.getElem?_set_ne (Ne.symm hj)] at h
    exact h
/-- a loop that counts up -/
theorem lp_up {n : Nat} {P : Nat → Prop} (h : ∀ r, r ≤ n → (r < n → P (r + 1)) → P r) (r : Nat) (hr : r ≤ n) : P r := by
  have key : ∀ j r, r + j = n → P r := by
    intro j
    induction j with
    | zero => intro r hr; exact h r (by omega) (fun q => by omega)
    | succ j ih => intro r hr; exact h r (by omega) (fun _ => ih (r + 1) (by omega))
  exact key (n - r) r (by omega)
/-- a loop that counts down -/
theorem lp_dn {P : Nat → Prop} (h : ∀ r, (∀ q, r = q + 1 → P q) → P r) (r : Nat) : P r := by
  induction r with
  | zero => exact h 0 (fun q hq => by omega)
  | succ r ih => exact h (r + 1) (fun q hq => by have : q = r := by omega
                                                 rw [this]; exact ih)
theorem ix12 (r p : Nat) : nI 12 * nI r + nI p = nI (12 * r + p) := by rw [pk_mul, nI_add]
theorem nle_of {a b : Nat} (h : ¬ nI a ≤ nI b) (ha : a < 2 ^ 31) (hb : b < 2 ^ 31) : b < a := by
  rw [nI_leI ha hb] at h
  omega
theorem nle_to {a b : Nat} (h : nI a ≤ nI b) (ha : a < 2 ^ 31) (hb : b < 2 ^ 31) : a ≤ b := by
  rw [nI_leI ha hb] at h
  omega
