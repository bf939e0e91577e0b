/-! rows for arrays with an index that is the number of a Nat -/
section GMORE
variable {X : Cxt} {g : GG} {cc : ByteArray} {own : String} {ret : Option FieldType} {hx : List (Nat × Nat × Nat × Nat)} {d kc ks : Nat} {Q : State → Prop} {w : Wd} {pc : Nat} {lp : List (Option Value)} {st : List Value}
theorem r_ialdN {q : Nat} {i : Int32} {j : Nat} (hc : Ok X g cc own ret hx d) (hd : decode cc pc = .ok (.iaload, 1)) (hi : i = nI j) (hj : j < lenI q) (k : Go X g kc ks Q w (pc + 1) lp (.int (w q j) :: st)) : Go X g kc ks Q w pc lp (.int i :: .ref (g.1 q) :: st) := by
  have hl := lenI_le q
  subst hi
  refine r_iald hc hd (vp_in_nI hj (by omega)) ?_
  rw [nI_clamp (by omega)]
  exact k
theorem r_iastN {q : Nat} {i x : Int32} {j : Nat} (hc : Ok X g cc own ret hx d) (hd : decode cc pc = .ok (.iastore, 1)) (hi : i = nI j) (hj : j < lenI q) (k : Go X g kc ks Q (wu w q j x) (pc + 1) lp st) : Go X g kc ks Q w pc lp (.int x :: .int i :: .ref (g.1 q) :: st) := by
  have hl := lenI_le q
  subst hi
  refine r_iast hc hd (vp_in_nI hj (by omega)) ?_
  rw [nI_clamp (by omega)]
  exact k
theorem r_zaldN {q : Nat} {i : Int32} {j : Nat} (hc : Ok X g cc own ret hx d) (hd : decode cc pc = .ok (.baload, 1)) (hi : i = nI j) (hj : j < lenZ q) (k : Go X g kc ks Q w (pc + 1) lp (.int (w q j) :: st)) : Go X g kc ks Q w pc lp (.int i :: .ref (g.1 q) :: st) := by
  have hl := lenZ_le q
  subst hi
  refine r_zald hc hd (vp_in_nI hj (by omega)) ?_
  rw [nI_clamp (by omega)]
  exact k
theorem r_zastN {q : Nat} {i x : Int32} {j : Nat} (hc : Ok X g cc own ret hx d) (hd : decode cc pc = .ok (.bastore, 1)) (hi : i = nI j) (hj : j < lenZ q) (hb : x = 0 ∨ x = 1) (k : Go X g kc ks Q (wu w q j x) (pc + 1) lp st) : Go X g kc ks Q w pc lp (.int x :: .int i :: .ref (g.1 q) :: st) := by
  have hl := lenZ_le q
  subst hi
  refine r_zast hc hd (vp_in_nI hj (by omega)) (by rcases hb with rfl | rfl <;> rfl) ?_
  rw [nI_clamp (by omega)]
  exact k
theorem lenA_le (q : Nat) : lenA q ≤ 16 := by
  unfold lenA
  repeat (split; omega)
  omega
theorem r_aaldN {q : Nat} {i : Int32} {j : Nat} (hc : Ok X g cc own ret hx d) (hd : decode cc pc = .ok (.aaload, 1)) (hi : i = nI j) (hj : j < lenA q) (k : Go X g kc ks Q w (pc + 1) lp (.ref (g.1 (q + 1 + j)) :: st)) : Go X g kc ks Q w pc lp (.int i :: .ref (g.1 q) :: st) := by
  have hl := lenA_le q
  subst hi
  refine r_aald hc hd (vp_in_nI hj (by omega)) ?_
  rw [nI_clamp (by omega)]
  exact k
end GMORE
/-- an exact answer, the world as given -/
def An (v : Option Value) (w' : Wd) : Option Value → Wd → Prop := fun r z => r = v ∧ w' = z
/-- a truth value as the machine has it -/
def bI (b : Bool) : Int32 := if b then 1 else 0
theorem bI_01 (b : Bool) : bI b = 0 ∨ bI b = 1 := by cases b <;> simp [bI]
theorem bI_nar (b : Bool) : narrow .boolean (.int (bI b)) = .int (bI b) := by cases b <;> rfl
