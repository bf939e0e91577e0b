/-! a growing world: the first cells stand, an object among them may still be without its fields -/
abbrev Pd : Type := Nat → Option (Nat × List Value)
abbrev Pw : Type := Wd × Nat × Pd
def pn : Pd := fun _ => none
def pset (pd : Pd) (q : Nat) (x : Option (Nat × List Value)) : Pd := fun k => if k = q then x else pd k
theorem pset_at (pd : Pd) (q : Nat) (x : Option (Nat × List Value)) : pset pd q x q = x := if_pos rfl
theorem pset_ne {pd : Pd} {q k : Nat} {x : Option (Nat × List Value)} (h : k ≠ q) : pset pd q x k = pd k := if_neg h
theorem pset_pset (pd : Pd) (q : Nat) (x y : Option (Nat × List Value)) : pset (pset pd q x) q y = pset pd q y := by
  funext k
  by_cases h : k = q
  · subst h; rw [pset_at, pset_at]
  · rw [pset_ne h, pset_ne h, pset_ne h]
def entP (g : GG) (v : Pw) (k : Nat) : va_E := match v.2.2 k with
  | some x => .inr x
  | none => ent g (v.1 k) k
theorem entP_some {g : GG} {v : Pw} {k : Nat} {x : Nat × List Value} (h : v.2.2 k = some x) : entP g v k = .inr x := by unfold entP; rw [h]
theorem entP_none {g : GG} {v : Pw} {k : Nat} (h : v.2.2 k = none) : entP g v k = ent g (v.1 k) k := by unfold entP; rw [h]
theorem entP_eq {g : GG} {v v' : Pw} {k : Nat} (h : v.2.2 k = v'.2.2 k) (h2 : v.1 k = v'.1 k) : entP g v k = entP g v' k := by unfold entP; rw [h, h2]
def wsP (g : GG) (v : Pw) : va_W := (List.range v.2.1).map (fun k => (g.1 k, entP g v k))
def Gq (g : GG) : Prop := ∀ k, g.1 k = g.1 0 + k
theorem Gq.AD {g : GG} (h : Gq g) : AD g := fun i j _ _ e => by have h1 := h i; have h2 := h j; omega
section WSP
variable {g : GG} {v v' : Pw} {q : Nat}
theorem wsP_len : (wsP g v).length = v.2.1 := by simp [wsP]
theorem wsP_get (hq : q < v.2.1) : (wsP g v)[q]? = some (g.1 q, entP g v q) := by
  unfold wsP
  rw [List.getElem?_map, List.getElem?_range hq]
  rfl
theorem wsP_some {x : Nat × va_E} (h : (wsP g v)[q]? = some x) : q < v.2.1 ∧ x = (g.1 q, entP g v q) := by
  have hq : q < v.2.1 := by rw [← wsP_len (g := g) (v := v)]; exact (List.getElem?_eq_some_iff.mp h).1
  rw [wsP_get hq] at h
  exact ⟨hq, (Option.some.inj h).symm⟩
theorem wsP_congr (h1 : v.2.1 = v'.2.1) (h : ∀ k, k < v.2.1 → entP g v k = entP g v' k) : wsP g v = wsP g v' := by
  unfold wsP
  rw [← h1]
  exact List.map_congr_left (fun k hk => by rw [h k (List.mem_range.mp hk)])
theorem wsP_D (hG : Gq g) (hj : v.2.1 ≤ NC) (s : State) : va_D (AA g s) (wsP g v) := by
  refine ⟨fun i j p q hp hq e => ?_, fun k q hk => ?_⟩
  · obtain ⟨a1, rfl⟩ := wsP_some hp
    obtain ⟨a2, rfl⟩ := wsP_some hq
    exact hG.AD i j (by omega) (by omega) e
  · obtain ⟨a1, rfl⟩ := wsP_some hk
    exact Or.inl ⟨k, by omega, rfl⟩
theorem wsP_ext {L : va_W} (hl : L.length = v.2.1) (h : ∀ k, k < v.2.1 → L[k]? = some (g.1 k, entP g v k)) : L = wsP g v := by
  apply List.ext_getElem?
  intro j
  by_cases hn : j < v.2.1
  · rw [h j hn, wsP_get hn]
  · rw [List.getElem?_eq_none (by omega), List.getElem?_eq_none (by rw [wsP_len]; omega)]
theorem wsP_set {x : Nat × List Value} (hq : q < v.2.1) : (wsP g v).set q (g.1 q, .inr x) = wsP g (v.1, v.2.1, pset v.2.2 q (some x)) := by
  refine wsP_ext (by rw [List.length_set, wsP_len]) (fun k hk => ?_)
  have hk : k < v.2.1 := hk
  by_cases hj : k = q
  · subst hj
    rw [List.getElem?_set_self (by rw [wsP_len]; exact hk), entP_some (v := (v.1, v.2.1, pset v.2.2 k (some x))) (pset_at _ _ _)]
  · rw [List.getElem?_set_ne (Ne.symm hj), wsP_get hk, entP_eq (v' := (v.1, v.2.1, pset v.2.2 q (some x))) (pset_ne hj).symm rfl]
theorem wsP_wu {i : Nat} {x : Int32} {e : va_E} (hn : v.2.2 q = none) (hq : q < v.2.1) (he : e = ent g (upd (v.1 q) i x) q) : (wsP g v).set q (g.1 q, e) = wsP g (wu v.1 q i x, v.2.1, v.2.2) := by
  refine wsP_ext (by rw [List.length_set, wsP_len]) (fun k hk => ?_)
  have hk : k < v.2.1 := hk
  by_cases hj : k = q
  · subst hj
    rw [List.getElem?_set_self (by rw [wsP_len]; exact hk), entP_none (v := (wu v.1 k i x, v.2.1, v.2.2)) hn, he]
    show _ = some (g.1 k, ent g (wu v.1 k i x k) k)
    rw [wu_self]
  · rw [List.getElem?_set_ne (Ne.symm hj), wsP_get hk, entP_eq (v := v) (v' := (wu v.1 q i x, v.2.1, v.2.2)) rfl (wu_ne hj).symm]
end WSP
/-- the walk over any heap that holds the growing world -/
def GoP : Cxt → GG → Nat → Nat → (State → Prop) → Pw → Nat → List (Option Value) → List Value → Prop
  | (p, l, e, R, s, m, args, below, meth, c), g, kc, ks, Q, v, pc, lp, st =>
    ∀ (ls : Array Slot) (H : Heap) (locs : List Loc), pl_has ls c.maxLocals lp → va_P g.2.1 classes (wsP g v) H → va_S (AA g s) s.heap H locs → W p l e R s m args below meth c H locs kc ks Q (F0 m pc ls st)
theorem p_aload_n {X : Cxt} {g : GG} {cc : ByteArray} {own : String} {ret : Option FieldType} {hx : List (Nat × Nat × Nat × Nat)} {d kc ks : Nat} {Q : State → Prop} {w : Pw} {pc : Nat} {lp : List (Option Value)} {st : List Value} {j : Fin 4} {x : Nat} (hc : Ok X g cc own ret hx d) (hd : decode cc pc = .ok (.aload_n j, 1)) (hl : lp[(j : Nat)]? = some (some (.ref x))) (k : GoP X g kc ks Q w (pc + 1) lp (.ref x :: st)) : GoP X g kc ks Q w pc lp st := by
  obtain ⟨p, l, e, R, s, m, args, below, meth, c⟩ := X
  intro ls H locs h1 h2 h3
  exact lv_aload_n hc.1 hc.2.1 hd rfl (pl_at h1 hl) (k ls H locs h1 h2 h3)
theorem p_iload_n {X : Cxt} {g : GG} {cc : ByteArray} {own : String} {ret : Option FieldType} {hx : List (Nat × Nat × Nat × Nat)} {d kc ks : Nat} {Q : State → Prop} {w : Pw} {pc : Nat} {lp : List (Option Value)} {st : List Value} {j : Fin 4} {x : Int32} (hc : Ok X g cc own ret hx d) (hd : decode cc pc = .ok (.iload_n j, 1)) (hl : lp[(j : Nat)]? = some (some (.int x))) (k : GoP X g kc ks Q w (pc + 1) lp (.int x :: st)) : GoP X g kc ks Q w pc lp st := by
  obtain ⟨p, l, e, R, s, m, args, below, meth, c⟩ := X
  intro ls H locs h1 h2 h3
  exact lv_iload_n hc.1 hc.2.1 hd rfl (pl_at h1 hl) (k ls H locs h1 h2 h3)
theorem p_istore_n {X : Cxt} {g : GG} {cc : ByteArray} {own : String} {ret : Option FieldType} {hx : List (Nat × Nat × Nat × Nat)} {d kc ks : Nat} {Q : State → Prop} {w : Pw} {pc : Nat} {lp : List (Option Value)} {st : List Value} {j : Fin 4} {x : Int32} (hc : Ok X g cc own ret hx d) (hd : decode cc pc = .ok (.istore_n j, 1)) (hj : (j : Nat) < lp.length) (k : GoP X g kc ks Q w (pc + 1) (lp.set (j : Nat) (some (.int x))) st) : GoP X g kc ks Q w pc lp (.int x :: st) := by
  obtain ⟨p, l, e, R, s, m, args, below, meth, c⟩ := X
  intro ls H locs h1 h2 h3
  obtain ⟨ls', e', h'⟩ := pl_store (v := .int x) h1 (Nat.lt_of_lt_of_le hj (pl_le h1)) rfl
  intro T hT X
  obtain ⟨t, a, b⟩ := k ls' H locs h' h2 h3 T hT X
  refine ⟨t, ?_, b⟩
  jvm_step X.here [X.here.top, ↓top_set X.here.top, hc.1, hc.2.1, hd, e']
  exact a
theorem p_astore_n {X : Cxt} {g : GG} {cc : ByteArray} {own : String} {ret : Option FieldType} {hx : List (Nat × Nat × Nat × Nat)} {d kc ks : Nat} {Q : State → Prop} {w : Pw} {pc : Nat} {lp : List (Option Value)} {st : List Value} {j : Fin 4} {x : Nat} (hc : Ok X g cc own ret hx d) (hd : decode cc pc = .ok (.astore_n j, 1)) (hj : (j : Nat) < lp.length) (k : GoP X g kc ks Q w (pc + 1) (lp.set (j : Nat) (some (.ref x))) st) : GoP X g kc ks Q w pc lp (.ref x :: st) := by
  obtain ⟨p, l, e, R, s, m, args, below, meth, c⟩ := X
  intro ls H locs h1 h2 h3
  obtain ⟨ls', e', h'⟩ := pl_store (v := .ref x) h1 (Nat.lt_of_lt_of_le hj (pl_le h1)) rfl
  intro T hT X
  obtain ⟨t, a, b⟩ := k ls' H locs h' h2 h3 T hT X
  refine ⟨t, ?_, b⟩
  jvm_step X.here [X.here.top, ↓top_set X.here.top, hc.1, hc.2.1, hd, e']
  exact ⟨rfl, a⟩
theorem p_iconst {X : Cxt} {g : GG} {cc : ByteArray} {own : String} {ret : Option FieldType} {hx : List (Nat × Nat × Nat × Nat)} {d kc ks : Nat} {Q : State → Prop} {w : Pw} {pc : Nat} {lp : List (Option Value)} {st : List Value} {n : Int} (hc : Ok X g cc own ret hx d) (hd : decode cc pc = .ok (.iconst n, 1)) (v : Int32) (hv : Int32.ofInt n = v) (k : GoP X g kc ks Q w (pc + 1) lp (.int v :: st)) : GoP X g kc ks Q w pc lp st := by
  obtain ⟨p, l, e, R, s, m, args, below, meth, c⟩ := X
  intro ls H locs h1 h2 h3
  exact lv_iconst hc.1 hc.2.1 hd hv (k ls H locs h1 h2 h3)
theorem p_bipush {X : Cxt} {g : GG} {cc : ByteArray} {own : String} {ret : Option FieldType} {hx : List (Nat × Nat × Nat × Nat)} {d kc ks : Nat} {Q : State → Prop} {w : Pw} {pc : Nat} {lp : List (Option Value)} {st : List Value} {n : Int} (hc : Ok X g cc own ret hx d) (hd : decode cc pc = .ok (.bipush n, 2)) (v : Int32) (hv : (Int8.ofInt n).toInt32 = v) (k : GoP X g kc ks Q w (pc + 2) lp (.int v :: st)) : GoP X g kc ks Q w pc lp st := by
  obtain ⟨p, l, e, R, s, m, args, below, meth, c⟩ := X
  intro ls H locs h1 h2 h3
  exact lv_bipush hc.1 hc.2.1 hd hv (k ls H locs h1 h2 h3)
theorem p_sipush {X : Cxt} {g : GG} {cc : ByteArray} {own : String} {ret : Option FieldType} {hx : List (Nat × Nat × Nat × Nat)} {d kc ks : Nat} {Q : State → Prop} {w : Pw} {pc : Nat} {lp : List (Option Value)} {st : List Value} {n : Int} (hc : Ok X g cc own ret hx d) (hd : decode cc pc = .ok (.sipush n, 3)) (v : Int32) (hv : (Int16.ofInt n).toInt32 = v) (k : GoP X g kc ks Q w (pc + 3) lp (.int v :: st)) : GoP X g kc ks Q w pc lp st := by
  obtain ⟨p, l, e, R, s, m, args, below, meth, c⟩ := X
  intro ls H locs h1 h2 h3
  exact lv_sipush hc.1 hc.2.1 hd hv (k ls H locs h1 h2 h3)
theorem p_dup {X : Cxt} {g : GG} {cc : ByteArray} {own : String} {ret : Option FieldType} {hx : List (Nat × Nat × Nat × Nat)} {d kc ks : Nat} {Q : State → Prop} {w : Pw} {pc : Nat} {lp : List (Option Value)} {st : List Value} {va : Value} (hc : Ok X g cc own ret hx d) (hd : decode cc pc = .ok (.dup, 1)) (hva : va.category = 1) (k : GoP X g kc ks Q w (pc + 1) lp (va :: va :: st)) : GoP X g kc ks Q w pc lp (va :: st) := by
  obtain ⟨p, l, e, R, s, m, args, below, meth, c⟩ := X
  intro ls H locs h1 h2 h3
  exact lv_dup hc.1 hc.2.1 hd hva (k ls H locs h1 h2 h3)
theorem p_goto {X : Cxt} {g : GG} {cc : ByteArray} {own : String} {ret : Option FieldType} {hx : List (Nat × Nat × Nat × Nat)} {d kc ks : Nat} {Q : State → Prop} {w : Pw} {pc : Nat} {lp : List (Option Value)} {st : List Value} {off : Int} {tgt : Nat} (hc : Ok X g cc own ret hx d) (hd : decode cc pc = .ok (.goto off, 3)) (ht : (pc : Int) + off = (tgt : Int)) (k : GoP X g kc ks Q w tgt lp st) : GoP X g kc ks Q w pc lp st := by
  obtain ⟨p, l, e, R, s, m, args, below, meth, c⟩ := X
  intro ls H locs h1 h2 h3
  exact lv_goto hc.1 hc.2.1 hd ht (k ls H locs h1 h2 h3)
theorem p_iinc {X : Cxt} {g : GG} {cc : ByteArray} {own : String} {ret : Option FieldType} {hx : List (Nat × Nat × Nat × Nat)} {d kc ks : Nat} {Q : State → Prop} {w : Pw} {pc : Nat} {lp : List (Option Value)} {st : List Value} {j : Nat} {n : Int} {x : Int32} (hc : Ok X g cc own ret hx d) (hd : decode cc pc = .ok (.iinc j n, 3)) (hl : lp[j]? = some (some (.int x))) (k : GoP X g kc ks Q w (pc + 3) (lp.set j (some (.int (x + Int32.ofInt n)))) st) : GoP X g kc ks Q w pc lp st := by
  obtain ⟨p, l, e, R, s, m, args, below, meth, c⟩ := X
  intro ls H locs h1 h2 h3
  have hj : j < lp.length := (List.getElem?_eq_some_iff.mp hl).1
  have hg := (pl_at h1 hl)
  obtain ⟨ls', e', h'⟩ := pl_store (v := .int (x + Int32.ofInt n)) h1 (Nat.lt_of_lt_of_le hj (pl_le h1)) rfl
  intro T hT X
  obtain ⟨t, a, b⟩ := k ls' H locs h' h2 h3 T hT X
  refine ⟨t, ?_, b⟩
  jvm_step X.here [X.here.top, ↓top_set X.here.top, hc.1, hc.2.1, hd, hg, e']
  exact a
theorem p_ic_ge {X : Cxt} {g : GG} {cc : ByteArray} {own : String} {ret : Option FieldType} {hx : List (Nat × Nat × Nat × Nat)} {d kc ks : Nat} {Q : State → Prop} {w : Pw} {pc : Nat} {lp : List (Option Value)} {st : List Value} {x y : Int32} {off : Int} {tgt : Nat} (hc : Ok X g cc own ret hx d) (hd : decode cc pc = .ok (.if_icmp .ge off, 3)) (ht : (pc : Int) + off = (tgt : Int)) (kt : y ≤ x → GoP X g kc ks Q w tgt lp st) (kf : ¬ y ≤ x → GoP X g kc ks Q w (pc + 3) lp st) : GoP X g kc ks Q w pc lp (.int y :: .int x :: st) := by
  obtain ⟨p, l, e, R, s, m, args, below, meth, c⟩ := X
  intro ls H locs h1 h2 h3
  exact lv_icmp_ge hc.1 hc.2.1 hd ht (fun q => kt q ls H locs h1 h2 h3) (fun q => kf q ls H locs h1 h2 h3)
theorem p_ic_le {X : Cxt} {g : GG} {cc : ByteArray} {own : String} {ret : Option FieldType} {hx : List (Nat × Nat × Nat × Nat)} {d kc ks : Nat} {Q : State → Prop} {w : Pw} {pc : Nat} {lp : List (Option Value)} {st : List Value} {x y : Int32} {off : Int} {tgt : Nat} (hc : Ok X g cc own ret hx d) (hd : decode cc pc = .ok (.if_icmp .le off, 3)) (ht : (pc : Int) + off = (tgt : Int)) (kt : x ≤ y → GoP X g kc ks Q w tgt lp st) (kf : ¬ x ≤ y → GoP X g kc ks Q w (pc + 3) lp st) : GoP X g kc ks Q w pc lp (.int y :: .int x :: st) := by
  obtain ⟨p, l, e, R, s, m, args, below, meth, c⟩ := X
  intro ls H locs h1 h2 h3
  exact lv_icmp_le hc.1 hc.2.1 hd ht (fun q => kt q ls H locs h1 h2 h3) (fun q => kf q ls H locs h1 h2 h3)
theorem p_ic_lt {X : Cxt} {g : GG} {cc : ByteArray} {own : String} {ret : Option FieldType} {hx : List (Nat × Nat × Nat × Nat)} {d kc ks : Nat} {Q : State → Prop} {w : Pw} {pc : Nat} {lp : List (Option Value)} {st : List Value} {x y : Int32} {off : Int} {tgt : Nat} (hc : Ok X g cc own ret hx d) (hd : decode cc pc = .ok (.if_icmp .lt off, 3)) (ht : (pc : Int) + off = (tgt : Int)) (kt : x < y → GoP X g kc ks Q w tgt lp st) (kf : ¬ x < y → GoP X g kc ks Q w (pc + 3) lp st) : GoP X g kc ks Q w pc lp (.int y :: .int x :: st) := by
  obtain ⟨p, l, e, R, s, m, args, below, meth, c⟩ := X
  intro ls H locs h1 h2 h3
  exact lv_icmp_lt hc.1 hc.2.1 hd ht (fun q => kt q ls H locs h1 h2 h3) (fun q => kf q ls H locs h1 h2 h3)

/-- an array of arrays can be made -/
def AO (s : State) : Prop := ∀ a : Array Value, (Cond.arrayOver (.array .int)).before a s = true
theorem AO.move {s U : State} (h : AO s) (hW : s.WarmedH U.vm) : AO U := fun a => by
  have h1 := h a
  rw [← Cond.arrayOver_setVmC hW.alike] at h1
  exact h1
/-- how a constructor has ended -/
def FenP : Cxt → GG → Nat → Nat → Option Value → Pw → State → Prop
  | (_, _, _, _, s, _, _, below, _, _), g, k, n, rv, v, t =>
    ∃ L : List Loc, t.status = .running ∧ Ended t below (.returned rv) ∧ va_P g.2.1 classes (wsP g v) t.heap ∧ va_F (AA g s) s t ∧ s.WarmedH t.vm ∧ s.sameButNew ({ t with vm := s.vm } : State) L k n ∧ ∀ q ∈ L, AA g s q.base
/-- a contract over a growing world; E: what the start has besides -/
def ConP (l : Launch) (g : GG) (y : MethodName) (cc : ByteArray) (nL : Nat) (ret : Option FieldType) (d k n : Nat) (av : List Value) (E : State → Prop) (rv : Option Value) (v v' : Pw) : Prop :=
  ∀ X : Cxt, X.2.1 = l → X.2.2.2.2.2.2.1 = av.toArray → X.2.2.2.2.2.2.2.2.2.maxLocals = nL → k ≤ X.2.2.2.1.cells → n ≤ X.2.2.2.1.slots → X.2.2.2.2.2.2.2.2.1.name = y.name → X.2.2.2.2.1.heap.size = g.1 0 + v.2.1 → E X.2.2.2.2.1 → Ok X g cc y.cls ret [] d → GoP X g 0 0 (FenP X g k n rv v') v 0 (lp_of nL av) []
theorem P_size {p : Program} {l : Launch} {e : Env} {R : Room} {s : State} {m : MethodId} {args : Array Value} {below : List Frame} {meth : Method} {c : Code} {T : State} {locs : List Loc} {kc ks : Nat} {g : GG} {v : Pw} {H : Heap} {A : Nat → Prop} (hG : Gq g) (Y : Stand p l e R s m args below meth c T locs kc ks) (hT : T.heap = H) (h2 : va_P g.2.1 classes (wsP g v) H) (h3 : va_S A s.heap H locs) (hsz : s.heap.size + kc = g.1 0 + v.2.1) (hz : 0 < v.2.1 ∨ kc = 0) : H.size = g.1 v.2.1 := by
  have u : T.heap.size ≤ s.heap.size + kc := Y.same.2.2.1
  have lo : g.1 0 + v.2.1 ≤ H.size := by
    rcases hz with h | h
    · have h4 : g.1 (v.2.1 - 1) < H.size := (h2 (v.2.1 - 1) _ (wsP_get (by omega))).lt
      have h5 := hG (v.2.1 - 1)
      omega
    · have h4 := h3.1
      omega
  rw [hT] at u
  rw [hG]
  omega
theorem P_push {g : GG} {v v' : Pw} {H H1 : Heap} (hP : va_P g.2.1 classes (wsP g v) H) (hsame : ∀ k, k < v.2.1 → entP g v' k = entP g v k) (o1 : ∀ q, q < H.size → H1[q]? = H[q]?) (hnew : ∀ k, v.2.1 ≤ k → k < v'.2.1 → va_at g.2.1 classes (g.1 k, entP g v' k) H1) : va_P g.2.1 classes (wsP g v') H1 := by
  intro k q hk
  obtain ⟨a1, rfl⟩ := wsP_some hk
  by_cases h : k < v.2.1
  · have h5 := hP k _ (wsP_get h)
    rw [hsame k h]
    exact h5.kept (o1 _ h5.lt)
  · exact hnew k (by omega) a1
theorem S_push {A : Nat → Prop} {H0 H H1 : Heap} {locs : List Loc} (h3 : va_S A H0 H locs) (o1 : ∀ q, q < H.size → H1[q]? = H[q]?) (z : H.size ≤ H1.size) : va_S A H0 H1 locs := ⟨Nat.le_trans h3.1 z, fun x a b => (o1 x (Nat.lt_of_lt_of_le a h3.1)).trans (h3.2.1 x a b), h3.2.2⟩
section GRW
variable {X : Cxt} {g : GG} {cc : ByteArray} {own : String} {ret : Option FieldType} {hx : List (Nat × Nat × Nat × Nat)} {d kc ks : Nat} {Q : State → Prop} {v : Pw} {pc : Nat} {lp : List (Option Value)} {st : List Value}
theorem GoP.eq {v' : Pw} (h : wsP g v = wsP g v') (k : GoP X g kc ks Q v' pc lp st) : GoP X g kc ks Q v pc lp st := by
  obtain ⟨p, l, e, R, s, m, args, below, meth, c⟩ := X
  intro ls H locs h1 h2 h3
  rw [h] at h2
  exact k ls H locs h1 h2 h3
/-- an object has all its fields -/
theorem GoP.close {w : Wd} {j : Nat} {pd : Pd} {q : Nat} {x : Nat × List Value} (he : ent g (w q) q = .inr x) (hn : pd q = none) (k : GoP X g kc ks Q (w, j, pd) pc lp st) : GoP X g kc ks Q (w, j, pset pd q (some x)) pc lp st := by
  refine GoP.eq (v' := (w, j, pd)) (wsP_congr rfl (fun i _ => ?_)) k
  by_cases hi : i = q
  · subst hi
    rw [entP_some (v := (w, j, pset pd i (some x))) (pset_at _ _ _), entP_none (v := (w, j, pd)) hn, he]
  · exact entP_eq (pset_ne hi) rfl
theorem GoP.full {w : Wd} (k : Go X g kc ks Q w pc lp st) : GoP X g kc ks Q (w, NC, pn) pc lp st := by
  obtain ⟨p, l, e, R, s, m, args, below, meth, c⟩ := X
  intro ls H locs h1 h2 h3
  exact k ls H locs h1 h2 h3
theorem p_getf (hc : Ok X g cc own ret hx d) (q ci j : Nat) {C : String} {T : u_T} {N idx : Nat} {fs : List Value} {x : Value} (hd : decode cc pc = .ok (.getfield idx, 3)) (hq : q < v.2.1) (hn : v.2.2 q = none) (he : ent g (v.1 q) q = .inr (ci, fs)) (hci : classes[ci]? = some (C, T, N)) (hj : j < N) (hin : ∀ x ∈ u_ws C T N, x ∈ Ttab) (hT : (T j).1 = C)
    (hl : Cond.fieldLink own idx C (T j).2.1 (T j).2.2.1 ∈ Ttab) (hv : fs[j]? = some x) (k : GoP X g kc ks Q v (pc + 3) lp (x :: st)) : GoP X g kc ks Q v pc lp (.ref (g.1 q) :: st) := by
  obtain ⟨p, l, e, R, s, m, args, below, meth, c⟩ := X
  intro ls H locs h1 h2 h3
  exact va_get (D := g.2.1) (cl := classes) (tys := tysOf g) hc.1 hc.2.1 hc.2.2.2.1 hin hc.2.2.1 hc.2.2.2.2.1 h2 q (by rw [wsP_get hq, entP_none hn, he]) hci j hj (hc.2.2.2.1 _ hl) (fun x h => by rw [hT] at h; exact h) hv hd (k ls H locs h1 h2 h3)
theorem p_putf (hc : Ok X g cc own ret hx d) (hG : Gq g) (q ci j : Nat) {C : String} {T : u_T} {N idx : Nat} {fs : List Value} {x : Int32} {ty0 : Nat → FieldType} {ty : FieldType} (hd : decode cc pc = .ok (.putfield idx, 3)) (hjN : v.2.1 ≤ NC) (hq : q < v.2.1) (hn : v.2.2 q = none) (he : ent g (v.1 q) q = .inr (ci, fs)) (hci : classes[ci]? = some (C, T, N)) (hj : j < N) (hin : ∀ x ∈ u_ws C T N, x ∈ Ttab) (hT : (T j).1 = C)
    (hty : ∀ k, k < N → parseFieldDescriptor (T k).2.2.1 = some (ty0 k)) (hnm : ∀ a, a < N → ∀ b, b < N → a ≠ b → (T a).2.1 ≠ (T b).2.1) (hfin : (T j).2.2.2 = false) (htj : parseFieldDescriptor (T j).2.2.1 = some ty) (hnr : narrow ty (.int x) = .int x) (hfit : fits ty (.int x) = true) (hlen : j < fs.length)
    (hl : Cond.fieldLink own idx C (T j).2.1 (T j).2.2.1 ∈ Ttab) (he2 : .inr (ci, fs.set j (.int x)) = ent g (upd (v.1 q) j x) q) (k : GoP X g kc ks Q (wu v.1 q j x, v.2.1, v.2.2) (pc + 3) lp st) : GoP X g kc ks Q v pc lp (.int x :: .ref (g.1 q) :: st) := by
  obtain ⟨p, l, e, R, s, m, args, below, meth, c⟩ := X
  intro ls H locs h1 h2 h3
  refine va_put (D := g.2.1) (cl := classes) (tys := tysOf g) hc.1 hc.2.1 hc.2.2.2.1 hin ty0 hty hnm hc.2.2.1 hc.2.2.2.2.1 h2 (wsP_D hG hjN s) h3 q (by rw [wsP_get hq, entP_none hn, he]) hci j hj (hc.2.2.2.1 _ hl) (fun x h => by rw [hT] at h; exact h) hfin htj hnr hfit hlen hd (fun H1 locs1 a1 _ a3 => ?_)
  rw [wsP_wu (i := j) (x := x) hn hq he2] at a1
  exact k ls H1 locs1 h1 a1 a3
/-- a field of an object that is being made, not final -/
theorem p_putn (hc : Ok X g cc own ret hx d) (hG : Gq g) (q ci j : Nat) {C : String} {T : u_T} {N idx : Nat} {fs : List Value} {x : Value} {ty0 : Nat → FieldType} {ty : FieldType} (hd : decode cc pc = .ok (.putfield idx, 3)) (hjN : v.2.1 ≤ NC) (hq : q < v.2.1) (hn : v.2.2 q = some (ci, fs)) (hci : classes[ci]? = some (C, T, N)) (hj : j < N) (hin : ∀ x ∈ u_ws C T N, x ∈ Ttab) (hT : (T j).1 = C)
    (hty : ∀ k, k < N → parseFieldDescriptor (T k).2.2.1 = some (ty0 k)) (hnm : ∀ a, a < N → ∀ b, b < N → a ≠ b → (T a).2.1 ≠ (T b).2.1) (hfin : (T j).2.2.2 = false) (htj : parseFieldDescriptor (T j).2.2.1 = some ty) (hnr : narrow ty x = x) (hfit : fits ty x = true) (hlen : j < fs.length)
    (hl : Cond.fieldLink own idx C (T j).2.1 (T j).2.2.1 ∈ Ttab) (k : GoP X g kc ks Q (v.1, v.2.1, pset v.2.2 q (some (ci, fs.set j x))) (pc + 3) lp st) : GoP X g kc ks Q v pc lp (x :: .ref (g.1 q) :: st) := by
  obtain ⟨p, l, e, R, s, m, args, below, meth, c⟩ := X
  intro ls H locs h1 h2 h3
  refine va_put (D := g.2.1) (cl := classes) (tys := tysOf g) hc.1 hc.2.1 hc.2.2.2.1 hin ty0 hty hnm hc.2.2.1 hc.2.2.2.2.1 h2 (wsP_D hG hjN s) h3 q (by rw [wsP_get hq, entP_some hn]) hci j hj (hc.2.2.2.1 _ hl) (fun x h => by rw [hT] at h; exact h) hfin htj hnr hfit hlen hd (fun H1 locs1 a1 _ a3 => ?_)
  rw [wsP_set hq] at a1
  exact k ls H1 locs1 h1 a1 a3
/-- a final field of an object that is being made -/
theorem p_putF (hc : Ok X g cc own ret hx d) (hG : Gq g) (hini : X.2.2.2.2.2.2.2.2.1.name = "<init>") (q ci j : Nat) {T : u_T} {N idx : Nat} {fs : List Value} {x : Value} {ty0 : Nat → FieldType} {ty : FieldType} (hd : decode cc pc = .ok (.putfield idx, 3)) (hjN : v.2.1 ≤ NC) (hq : q < v.2.1) (hn : v.2.2 q = some (ci, fs)) (hci : classes[ci]? = some (own, T, N)) (hj : j < N) (hin : ∀ x ∈ u_ws own T N, x ∈ Ttab) (hT : (T j).1 = own)
    (hty : ∀ k, k < N → parseFieldDescriptor (T k).2.2.1 = some (ty0 k)) (hnm : ∀ a, a < N → ∀ b, b < N → a ≠ b → (T a).2.1 ≠ (T b).2.1) (hfin : (T j).2.2.2 = true) (htj : parseFieldDescriptor (T j).2.2.1 = some ty) (hnr : narrow ty x = x) (hfit : fits ty x = true) (hlen : j < fs.length)
    (hl : Cond.fieldLink own idx own (T j).2.1 (T j).2.2.1 ∈ Ttab) (k : GoP X g kc ks Q (v.1, v.2.1, pset v.2.2 q (some (ci, fs.set j x))) (pc + 3) lp st) : GoP X g kc ks Q v pc lp (x :: .ref (g.1 q) :: st) := by
  obtain ⟨p, l, e, R, s, m, args, below, meth, c⟩ := X
  intro ls H locs h1 h2 h3
  refine va_putF (D := g.2.1) (cl := classes) (tys := tysOf g) hc.1 hc.2.1 hc.2.2.2.1 hin ty0 hty hnm hc.2.2.1 hc.2.2.2.2.1 h2 (wsP_D hG hjN s) h3 q (by rw [wsP_get hq, entP_some hn]) hci j hj (hc.2.2.2.1 _ hl) (fun x h => by rw [hT] at h; exact h) hfin hini hT htj hnr hfit hlen hd (fun H1 locs1 a1 _ a3 => ?_)
  rw [wsP_set hq] at a1
  exact k ls H1 locs1 h1 a1 a3
theorem p_zast (hc : Ok X g cc own ret hx d) (hG : Gq g) (hd : decode cc pc = .ok (.bastore, 1)) {q : Nat} {i x : Int32} (hjN : v.2.1 ≤ NC) (hq : q < v.2.1) (hn : v.2.2 q = none) (hin : vp_in i (lenZ q)) (hx1 : vp_nar .boolean x = x) (k : GoP X g kc ks Q (wu v.1 q i.toNatClampNeg x, v.2.1, v.2.2) (pc + 1) lp st) : GoP X g kc ks Q v pc lp (.int x :: .int i :: .ref (g.1 q) :: st) := by
  obtain ⟨p, l, e, R, s, m, args, below, meth, c⟩ := X
  intro ls H locs h1 h2 h3
  obtain ⟨-, he⟩ := ent_Z (lt_of_in hin) g (v.1 q)
  obtain ⟨-, he2⟩ := ent_Z (lt_of_in hin) g (upd (v.1 q) i.toNatClampNeg x)
  refine va_zast (D := g.2.1) (cl := classes) (tys := tysOf g) hc.1 hc.2.1 hc.2.2.2.2.1 h2 (wsP_D hG hjN s) h3 q 1 (by rw [wsP_get hq, entP_none hn, he]) rfl hin hd (fun H1 locs1 a1 _ a3 => ?_)
  rw [hx1, wsP_wu (i := i.toNatClampNeg) (x := x) hn hq he2.symm] at a1
  exact k ls H1 locs1 h1 a1 a3
theorem p_oinit (hc : Ok X g cc own ret hx d) {idx a : Nat} (hd : decode cc pc = .ok (.invokespecial idx, 3)) (hl : Cond.methodLink own idx Lib.objectInit ∈ Ttab) (hi : Cond.instanceMethod Lib.objectInit ∈ Ttab) (hco : Cond.code Lib.objectInit ⟨#[0xb1]⟩ 1 none ∈ Ttab) (hd1 : 1 ≤ d) (hst : (st.map fun v => v.category).sum ≤ 8) (k : GoP X g kc ks Q v (pc + 3) lp st) : GoP X g kc ks Q v pc lp (.ref a :: st) := by
  obtain ⟨p, l, e, R, s, m, args, below, meth, c⟩ := X
  intro ls H locs h1 h2 h3
  have hts := hc.2.2.2.1
  have hf := hc.2.2.2.2.2.2.2.2.2.1
  have hlo := hc.2.2.2.2.2.2.2.2.2.2.1
  exact W.objInit hc.1 hc.2.1 hc.2.2.1 (hts _ hl) (hts _ hi) (hts _ hco) (g := F0 m pc ls (.ref a :: st)) rfl h1.1 rfl hd (Nat.le_trans hd1 hf) (by show 2 * 0 + (st.map fun v => v.category).sum + 12 ≤ R.locals; omega) (k ls H locs h1 h2 h3)
theorem p_new (hc : Ok X g cc own ret hx d) (hG : Gq g) {ci idx N : Nat} {C : String} {T : u_T} {fs : List Value} {ty : Nat → FieldType} (hd : decode cc pc = .ok (.new idx, 3)) (hci : classes[ci]? = some (C, T, N)) (hin : ∀ x ∈ u_ws C T N, x ∈ Ttab) (hty : ∀ k, k < N → parseFieldDescriptor (T k).2.2.1 = some (ty k)) (hl : Cond.classLink own idx C ∈ Ttab) (hinst : Cond.instantiable C N ∈ Ttab) (hini : Cond.initialized C ∈ Ttab) (hfs : ∀ j, j < N → defaultValue (ty j) = vp_V fs j)
    (hcells : kc + 1 ≤ X.2.2.2.1.cells) (hslots : ks + N ≤ X.2.2.2.1.slots) (hsz : X.2.2.2.2.1.heap.size + kc = g.1 0 + v.2.1) (hz : 0 < v.2.1 ∨ kc = 0)
    (k : GoP X g (kc + 1) (ks + N) Q (v.1, v.2.1 + 1, pset v.2.2 v.2.1 (some (ci, fs))) (pc + 3) lp (.ref (g.1 v.2.1) :: st)) : GoP X g kc ks Q v pc lp st := by
  obtain ⟨p, l, e, R, s, m, args, below, meth, c⟩ := X
  intro ls H locs h1 h2 h3 T0 hT Y
  have hts := hc.2.2.2.1
  have hKn := hc.2.2.2.2.1.1 ci _ hci
  have hH := P_size hG Y hT h2 h3 hsz hz
  refine W.newcK hc.1 hc.2.1 hc.2.2.1 (hts _ hl) (hts _ hinst) (hts _ hini) (g := F0 m pc ls st) rfl hd hcells hslots hKn.2.1 hH (fun H1 kC hkC e1 z1 o1 => ?_) T0 hT Y
  have o2 : ∀ q, q < H.size → H1[q]? = H[q]? := fun q hq => o1 q (by rw [← hH]; exact hq)
  refine k ls H1 locs h1 (P_push h2 (fun i hi => entP_eq (pset_ne (by omega)) rfl) o2 (fun i hi hi2 => ?_)) (S_push h3 o2 (by omega))
  have hi2 : i < v.2.1 + 1 := hi2
  have : i = v.2.1 := by omega
  subst this
  rw [entP_some (v := (v.1, v.2.1 + 1, pset v.2.2 v.2.1 (some (ci, fs)))) (pset_at _ _ _)]
  exact ⟨_, hci, (u_born ty hts hin hKn hkC e1 hty).to hfs⟩
theorem p_newI (hc : Ok X g cc own ret hx d) (hG : Gq g) {N : Nat} {x : Int32} (hd : decode cc pc = .ok (.newarray .int, 2)) (hn : v.2.2 v.2.1 = none) (hlen : lenI v.2.1 = N) (hN : 0 < N) (hw : v.1 v.2.1 = fun _ => 0) (harr : Cond.arrayClass .int ∈ Ttab) (hx0 : ¬ x < 0) (hxN : x.toNatClampNeg = N) (hb : N * componentBytes .int ≤ 536870912)
    (hcells : kc + 1 ≤ X.2.2.2.1.cells) (hslots : ks + N ≤ X.2.2.2.1.slots) (hsz : X.2.2.2.2.1.heap.size + kc = g.1 0 + v.2.1) (hz : 0 < v.2.1 ∨ kc = 0)
    (k : GoP X g (kc + 1) (ks + N) Q (v.1, v.2.1 + 1, v.2.2) (pc + 2) lp (.ref (g.1 v.2.1) :: st)) : GoP X g kc ks Q v pc lp (.int x :: st) := by
  obtain ⟨p, l, e, R, s, m, args, below, meth, c⟩ := X
  intro ls H locs h1 h2 h3 T0 hT Y
  have hts := hc.2.2.2.1
  have hH := P_size hG Y hT h2 h3 hsz hz
  refine va_newaK hc.1 hc.2.1 (atype := .int) (hts _ harr) (g := F0 m pc ls (.int x :: st)) rfl hd rfl hx0 hxN hb hcells hslots hH (fun H1 cA e1 z1 o1 _ hf => ?_) T0 hT Y
  have hcA : cA = g.2.2.1 := Option.some.inj (hf.symm.trans (hc.2.2.2.2.1.2 0 _ rfl).2)
  subst hcA
  have o2 : ∀ q, q < H.size → H1[q]? = H[q]? := fun q hq => o1 q (by rw [← hH]; exact hq)
  refine k ls H1 locs h1 (P_push h2 (fun i hi => entP_eq rfl rfl) o2 (fun i hi hi2 => ?_)) (S_push h3 o2 (by omega))
  have hi2 : i < v.2.1 + 1 := hi2
  have : i = v.2.1 := by omega
  subst this
  obtain ⟨-, he⟩ := ent_I (q := v.2.1) (by omega) g (v.1 v.2.1)
  rw [entP_none (v := (v.1, v.2.1 + 1, v.2.2)) hn]
  show va_at g.2.1 classes (g.1 v.2.1, ent g (v.1 v.2.1) v.2.1) H1
  rw [he, hlen, hw]
  exact e1
theorem p_newZ (hc : Ok X g cc own ret hx d) (hG : Gq g) {N : Nat} {x : Int32} (hd : decode cc pc = .ok (.newarray .boolean, 2)) (hn : v.2.2 v.2.1 = none) (hlen : lenZ v.2.1 = N) (hN : 0 < N) (hw : v.1 v.2.1 = fun _ => 0) (harr : Cond.arrayClass .boolean ∈ Ttab) (hx0 : ¬ x < 0) (hxN : x.toNatClampNeg = N) (hb : N * componentBytes .boolean ≤ 536870912)
    (hcells : kc + 1 ≤ X.2.2.2.1.cells) (hslots : ks + N ≤ X.2.2.2.1.slots) (hsz : X.2.2.2.2.1.heap.size + kc = g.1 0 + v.2.1) (hz : 0 < v.2.1 ∨ kc = 0)
    (k : GoP X g (kc + 1) (ks + N) Q (v.1, v.2.1 + 1, v.2.2) (pc + 2) lp (.ref (g.1 v.2.1) :: st)) : GoP X g kc ks Q v pc lp (.int x :: st) := by
  obtain ⟨p, l, e, R, s, m, args, below, meth, c⟩ := X
  intro ls H locs h1 h2 h3 T0 hT Y
  have hts := hc.2.2.2.1
  have hH := P_size hG Y hT h2 h3 hsz hz
  refine va_newaK hc.1 hc.2.1 (atype := .boolean) (hts _ harr) (g := F0 m pc ls (.int x :: st)) rfl hd rfl hx0 hxN hb hcells hslots hH (fun H1 cA e1 z1 o1 _ hf => ?_) T0 hT Y
  have hcA : cA = g.2.2.2.1 := Option.some.inj (hf.symm.trans (hc.2.2.2.2.1.2 1 _ rfl).2)
  subst hcA
  have o2 : ∀ q, q < H.size → H1[q]? = H[q]? := fun q hq => o1 q (by rw [← hH]; exact hq)
  refine k ls H1 locs h1 (P_push h2 (fun i hi => entP_eq rfl rfl) o2 (fun i hi hi2 => ?_)) (S_push h3 o2 (by omega))
  have hi2 : i < v.2.1 + 1 := hi2
  have : i = v.2.1 := by omega
  subst this
  obtain ⟨-, he⟩ := ent_Z (q := v.2.1) (by omega) g (v.1 v.2.1)
  rw [entP_none (v := (v.1, v.2.1 + 1, v.2.2)) hn]
  show va_at g.2.1 classes (g.1 v.2.1, ent g (v.1 v.2.1) v.2.1) H1
  rw [he, hlen, hw]
  exact e1
/-- the law's own array of one long -/
theorem p_newL (hc : Ok X g cc own ret hx d) (hG : Gq g) {w : Wd} {pd : Pd} {x : Int32} (hd : decode cc pc = .ok (.newarray .long, 2)) (hn : pd 60 = none) (hw : w 60 = fun _ => 0) (harr : Cond.arrayClass .long ∈ Ttab) (hx0 : ¬ x < 0) (hxN : x.toNatClampNeg = 1)
    (hcells : kc + 1 ≤ X.2.2.2.1.cells) (hslots : ks + 1 ≤ X.2.2.2.1.slots) (hsz : X.2.2.2.2.1.heap.size + kc = g.1 0 + 60)
    (k : GoP X g (kc + 1) (ks + 1) Q (w, NC, pd) (pc + 2) lp (.ref (g.1 60) :: st)) : GoP X g kc ks Q (w, 60, pd) pc lp (.int x :: st) := by
  obtain ⟨p, l, e, R, s, m, args, below, meth, c⟩ := X
  intro ls H locs h1 h2 h3 T0 hT Y
  have hts := hc.2.2.2.1
  have hH := P_size (v := (w, 60, pd)) hG Y hT h2 h3 hsz (Or.inl (show 0 < 60 by decide))
  refine va_newaK hc.1 hc.2.1 (atype := .long) (hts _ harr) (g := F0 m pc ls (.int x :: st)) rfl hd rfl hx0 hxN (by decide) hcells hslots hH (fun H1 cA e1 z1 o1 _ hf => ?_) T0 hT Y
  have hcA : cA = g.2.2.2.2.2 := Option.some.inj (hf.symm.trans (hc.2.2.2.2.1.2 3 _ rfl).2)
  subst hcA
  have o2 : ∀ q, q < H.size → H1[q]? = H[q]? := fun q hq => o1 q (by rw [← hH]; exact hq)
  refine k ls H1 locs h1 (P_push h2 (fun i hi => entP_eq rfl rfl) o2 (fun i hi hi2 => ?_)) (S_push h3 o2 (by omega))
  have hi1 : 60 ≤ i := hi
  have hi2 : i < 61 := hi2
  have : i = 60 := by omega
  subst this
  rw [entP_none (v := (w, NC, pd)) hn]
  show va_at g.2.1 classes (g.1 60, ent g (w 60) 60) H1
  rw [ent_out, hw]
  exact e1
theorem arrV_congr (cI : ClassId) {N : Nat} {f f' : Nat → Value} (h : ∀ j, j < N → f j = f' j) : arrV cI N f = arrV cI N f' := by
  unfold arrV
  congr 1
  exact congrArg Array.ofFn (funext fun j => h j.val j.isLt)
theorem outer_arr (c : ClassId) (N h0 : Nat) : ∀ i : Nat, Jvm.Free.Multi.outerC c N h0 i = arrV c N (fun j => if j < i then .ref (h0 + 1 + j) else .null)
  | 0 => by
    show ({ cls := c, slots := Array.replicate N .null, vm := .none } : Cell) = _
    rw [arrV_new]
    exact arrV_congr c (fun j _ => (if_neg (Nat.not_lt_zero _)).symm)
  | i + 1 => by
    show (Jvm.Free.Multi.outerC c N h0 i).setSlot i (.ref (h0 + 1 + i)) = _
    rw [outer_arr c N h0 i, arrV_store]
    refine arrV_congr c (fun j _ => ?_)
    by_cases e : j = i
    · subst e
      simp [updV]
    · by_cases h : j < i
      · simp [updV, e, h, Nat.lt_succ_of_lt h]
      · simp [updV, e, h, show ¬ j < i + 1 by omega]
theorem p_mna (hc : Ok X g cc own ret hx d) (hG : Gq g) (hao : AO X.2.2.2.2.1) {N K idx : Nat} {x y : Int32} (hd : decode cc pc = .ok (.multianewarray idx 2, 4)) (hl : Cond.classLink own idx "[[I" ∈ Ttab) (harr : Cond.arrayClass .int ∈ Ttab) (hn : ∀ k, v.2.1 ≤ k → v.2.2 k = none) (hA : lenA v.2.1 = N) (hN : 0 < N) (hK : 0 < K) (hrow : ∀ i, i < N → lenI (v.2.1 + 1 + i) = K) (hw : ∀ i, i < N → v.1 (v.2.1 + 1 + i) = fun _ => 0)
    (hx0 : ¬ x < 0) (hy0 : ¬ y < 0) (hxN : x.toNatClampNeg = N) (hyK : y.toNatClampNeg = K) (hb1 : N * 4 ≤ 536870912) (hb2 : K * componentBytes .int ≤ 536870912) (hb3 : K ≤ 536870912)
    (hcells : kc + (1 + N) ≤ X.2.2.2.1.cells) (hslots : ks + (N + N * K) ≤ X.2.2.2.1.slots) (hsz : X.2.2.2.2.1.heap.size + kc = g.1 0 + v.2.1) (hz : 0 < v.2.1 ∨ kc = 0)
    (k : GoP X g (kc + 1 + N) (ks + N + N * K) Q (v.1, v.2.1 + 1 + N, v.2.2) (pc + 4) lp (.ref (g.1 v.2.1) :: st)) : GoP X g kc ks Q v pc lp (.int y :: .int x :: st) := by
  subst hxN
  subst hyK
  obtain ⟨p, l, e, R, s, m, args, below, meth, c⟩ := X
  intro ls H locs h1 h2 h3 T0 hT Y
  have hts := hc.2.2.2.1
  have hH := P_size hG Y hT h2 h3 hsz hz
  obtain ⟨vm₁, cA, comp, -, fA, fC, -, -, X', step⟩ := Y.multianewarray2F hc.1 hc.2.2.1 (ty := .int) (by rw [show ("[" ++ (FieldType.array FieldType.int).toString) = "[[I" by decide +kernel]; exact hts _ hl) (hao _) (hts _ harr) (g := F0 m pc ls (.int y :: .int x :: st)) rfl (by rw [hc.2.1]; exact hd) rfl hx0 hy0 hb1 hb2 hb3 rfl rfl hcells hslots
  have hcA : cA = g.2.2.2.2.1 := Option.some.inj (fA.symm.trans (hc.2.2.2.2.1.2 2 _ rfl).2)
  have hcC : comp = g.2.2.1 := Option.some.inj (fC.symm.trans (by rw [show (FieldType.array FieldType.int).toString = "[" ++ FieldType.int.toString by decide +kernel]; exact (hc.2.2.2.2.1.2 0 _ rfl).2))
  subst hcA
  subst hcC
  have hTh : (T0.setVm vm₁).heap = H := hT
  obtain ⟨f1, f2, -, -⟩ := Jvm.Free.Multi.fill_facts (T0.setVm vm₁) g.2.2.2.2.1 g.2.2.1 x.toNatClampNeg y.toNatClampNeg (defaultValue .int) x.toNatClampNeg
  have hold : ∀ q : Nat, q < H.size → (Jvm.Free.Multi.fill (T0.setVm vm₁) g.2.2.2.2.1 g.2.2.1 x.toNatClampNeg y.toNatClampNeg (defaultValue .int) x.toNatClampNeg).heap[q]? = H[q]? := fun q hq => by
    have h9 := Jvm.Free.Multi.fill_old (T0.setVm vm₁) g.2.2.2.2.1 g.2.2.1 x.toNatClampNeg y.toNatClampNeg (defaultValue .int) (a := q) (by rw [hTh]; exact hq) x.toNatClampNeg
    rw [hTh] at h9
    exact h9
  have hinn := Jvm.Free.Multi.fill_inner (T0.setVm vm₁) g.2.2.2.2.1 g.2.2.1 x.toNatClampNeg y.toNatClampNeg (defaultValue .int) x.toNatClampNeg
  rw [hTh] at f1 f2 hinn
  have hTs : T0.heap.size = g.1 v.2.1 := by rw [hT]; exact hH
  rw [hTs] at step
  have hnew : ∀ i, v.2.1 ≤ i → i < v.2.1 + 1 + x.toNatClampNeg → va_at g.2.1 classes (g.1 i, entP g (v.1, v.2.1 + 1 + x.toNatClampNeg, v.2.2) i) (Jvm.Free.Multi.fill (T0.setVm vm₁) g.2.2.2.2.1 g.2.2.1 x.toNatClampNeg y.toNatClampNeg (defaultValue .int) x.toNatClampNeg).heap := by
    intro i hi hi2
    rw [entP_none (v := (v.1, v.2.1 + 1 + x.toNatClampNeg, v.2.2)) (hn i hi)]
    show va_at g.2.1 classes (g.1 i, ent g (v.1 i) i) _
    by_cases h0 : i = v.2.1
    · subst h0
      obtain ⟨-, he⟩ := ent_A (q := v.2.1) (by omega) g (v.1 v.2.1)
      rw [he, hA]
      show _ = some (vp_cell _ _)
      rw [vp_cell_q]
      rw [hH, outer_arr] at f2
      show (Jvm.Free.Multi.fill (T0.setVm vm₁) g.2.2.2.2.1 g.2.2.1 x.toNatClampNeg y.toNatClampNeg (defaultValue .int) x.toNatClampNeg).heap[g.1 v.2.1]? = _
      rw [f2]
      refine congrArg some (arrV_congr _ (fun j hj => ?_))
      rw [if_pos hj]
      have e8 : g.1 v.2.1 + 1 + j = g.1 (v.2.1 + 1 + j) := by
        have e9 := hG v.2.1
        have e10 := hG (v.2.1 + 1 + j)
        omega
      exact congrArg Value.ref e8
    · obtain ⟨j, hj⟩ : ∃ j, i = v.2.1 + 1 + j := ⟨i - v.2.1 - 1, by omega⟩
      subst hj
      have hjN : j < x.toNatClampNeg := by omega
      obtain ⟨-, he⟩ := ent_I (q := v.2.1 + 1 + j) (by rw [hrow j hjN]; exact hK) g (v.1 (v.2.1 + 1 + j))
      rw [he, hrow j hjN, hw j hjN]
      show (Jvm.Free.Multi.fill (T0.setVm vm₁) g.2.2.2.2.1 g.2.2.1 x.toNatClampNeg y.toNatClampNeg (defaultValue .int) x.toNatClampNeg).heap[g.1 (v.2.1 + 1 + j)]? = some (vp_cell _ _)
      have h7 := hinn j hjN
      rw [hH] at h7
      rw [hG (v.2.1 + 1 + j), show g.1 0 + (v.2.1 + 1 + j) = g.1 v.2.1 + 1 + j by rw [hG v.2.1]; omega, h7, vp_cell_i]
      show some ({ cls := g.2.2.1, slots := Array.replicate y.toNatClampNeg (defaultValue .int), vm := .none } : Cell) = _
      rw [arrV_new]
      rfl
  obtain ⟨t, a1, b1⟩ := k ls _ locs h1 (P_push h2 (fun i hi => entP_eq rfl rfl) hold hnew) (S_push h3 hold (by omega)) _ rfl X'
  exact ⟨t, step t a1, b1⟩
theorem p_vret (hc : Ok X g cc own none hx d) (hd : decode cc pc = .ok (.return_, 1)) : GoP X g kc ks (FenP X g kc ks none v) v pc lp [] := by
  obtain ⟨p, l, e, R, s, m, args, below, meth, c⟩ := X
  intro ls H locs h1 h2 h3
  have hlk : meth.locks = false := hc.2.2.2.2.2.2.1
  have k := W.vret (p := p) (l := l) (e := e) (R := R) (s := s) (m := m) (args := args) (below := below) (meth := meth) (c := c) (H := H) (locs := locs) (cells := kc) (slots := ks) (ls := ls) (pc := pc) (Qc := fun _ _ oc t => oc = .returned none ∧ t.heap = H) (free := AA g s) hc.1 hc.2.1 hc.2.2.2.2.2.2.2.1 (fun t ht _ => ⟨rfl, ht⟩) h3.2.2 hd
  intro T hT Y
  obtain ⟨t, a, oc, b1, b2, ⟨b3, b4⟩, L, ⟨-, hW, hsame⟩, hL⟩ := k T hT Y
  subst b3
  exact ⟨t, a, L, b1, b2, by rw [b4]; exact h2, h3.F b4, hW, hsame, hL⟩
theorem p_iret (hc : Ok X g cc own (some .int) hx d) {x : Int32} (hd : decode cc pc = .ok (.ireturn, 1)) : GoP X g kc ks (FenP X g kc ks (some (.int x)) v) v pc lp [.int x] := by
  obtain ⟨p, l, e, R, s, m, args, below, meth, c⟩ := X
  intro ls H locs h1 h2 h3
  have hlk : meth.locks = false := hc.2.2.2.2.2.2.1
  have k := W.iret (p := p) (l := l) (e := e) (R := R) (s := s) (m := m) (args := args) (below := below) (meth := meth) (c := c) (H := H) (locs := locs) (cells := kc) (slots := ks) (ls := ls) (pc := pc) (v := x) (Qc := fun _ _ oc t => oc = .returned (some (.int x)) ∧ t.heap = H) (free := AA g s) hc.1 hc.2.1 hc.2.2.2.2.2.2.2.1 (fun t ht _ => ⟨rfl, ht⟩) h3.2.2 hd
  intro T hT Y
  obtain ⟨t, a, oc, b1, b2, ⟨b3, b4⟩, L, ⟨-, hW, hsame⟩, hL⟩ := k T hT Y
  subst b3
  exact ⟨t, a, L, b1, b2, by rw [b4]; exact h2, h3.F b4, hW, hsame, hL⟩
theorem p_min (hc : Ok X g cc own ret hx d) {idx : Nat} {x y : Int32} (hd : decode cc pc = .ok (.invokestatic idx, 3)) (hl : Cond.methodLink own idx Lib.Math.min.name ∈ Ttab) (hs : Cond.static Lib.Math.min.name ∈ Ttab) (hi : Cond.initialized "java/lang/Math" ∈ Ttab) (hco : Cond.code Lib.Math.min.name Lib.Math.min.code 2 (some .int) ∈ Ttab) (hd1 : 1 ≤ d) (hst : (st.map fun v => v.category).sum ≤ 8) (hcells : kc ≤ X.2.2.2.1.cells) (hslots : ks ≤ X.2.2.2.1.slots) (k : GoP X g kc ks Q v (pc + 3) lp (.int (if y < x then y else x) :: st)) : GoP X g kc ks Q v pc lp (.int y :: .int x :: st) := by
  obtain ⟨p, l, e, R, s, m, args, below, meth, c⟩ := X
  intro ls H locs h1 h2 h3
  have hts := hc.2.2.2.1
  have hf := hc.2.2.2.2.2.2.2.2.2.1
  have hlo := hc.2.2.2.2.2.2.2.2.2.2.1
  exact va_mmin hc.1 hc.2.1 h1.1.symm hc.2.2.1 (hts _ hl) (hts _ hs) (hts _ hi) (hts _ hco) (Nat.le_trans hd1 hf) (by omega) hcells hslots hd (k ls H locs h1 h2 h3)
theorem p_max (hc : Ok X g cc own ret hx d) {idx : Nat} {x y : Int32} (hd : decode cc pc = .ok (.invokestatic idx, 3)) (hl : Cond.methodLink own idx Lib.Math.max.name ∈ Ttab) (hs : Cond.static Lib.Math.max.name ∈ Ttab) (hi : Cond.initialized "java/lang/Math" ∈ Ttab) (hco : Cond.code Lib.Math.max.name Lib.Math.max.code 2 (some .int) ∈ Ttab) (hd1 : 1 ≤ d) (hst : (st.map fun v => v.category).sum ≤ 8) (hcells : kc ≤ X.2.2.2.1.cells) (hslots : ks ≤ X.2.2.2.1.slots) (k : GoP X g kc ks Q v (pc + 3) lp (.int (if x < y then y else x) :: st)) : GoP X g kc ks Q v pc lp (.int y :: .int x :: st) := by
  obtain ⟨p, l, e, R, s, m, args, below, meth, c⟩ := X
  intro ls H locs h1 h2 h3
  have hts := hc.2.2.2.1
  have hf := hc.2.2.2.2.2.2.2.2.2.1
  have hlo := hc.2.2.2.2.2.2.2.2.2.2.1
  exact va_mmax hc.1 hc.2.1 h1.1.symm hc.2.2.1 (hts _ hl) (hts _ hs) (hts _ hi) (hts _ hco) (Nat.le_trans hd1 hf) (by omega) hcells hslots hd (k ls H locs h1 h2 h3)
/-- a call of a constructor -/
theorem p_core {p : Program} {l : Launch} {e : Env} {R : Room} {s : State} {m : MethodId} {args : Array Value} {below : List Frame} {meth : Method} {c : Code} {U : State} {locs : List Loc} {y : MethodName} {cc' : ByteArray} {nL' d' k n : Nat} {av : List Value} {E : State → Prop} {rv : Option Value} {ret' : Option FieldType} {v' : Pw} (Y0 : Stand p l e R s m args below meth c U locs kc ks) (hc : Ok (p, l, e, R, s, m, args, below, meth, c) g cc own ret hx d) (hG : Gq g) (hE : ∀ (U' : State) (L' : List Loc), s.WarmedH U'.vm → va_S (AA g s) s.heap U'.heap L' → E U') (hcon : ConP l g y cc' nL' ret' d' k n av E rv v v')
    {f : JFrame} (hf : f.method = m) (hsize : f.locals.size = c.maxLocals) {ig : Instr} {len : Nat} (hdg : decode c.code f.pc = .ok (ig, len)) {mk : MethodId} {methk : Method} {ck : Code} (hn : s.methodNamed? y = some mk) (hmk : s.vm.method? mk = some methk) (hck : methk.code = some ck) (hb : ck.code = cc') (hml : ck.maxLocals = nL') (hre : methk.sig.returnType = ret') (hlk : methk.locks = false)
    (hh : ck.exceptionTable.toList.map (fun h => (h.startPc, h.endPc, h.handlerPc, h.catchType)) = []) (hpl : plainFor y = true) (hav : ∀ v ∈ av, v.category = 1) (hal : av.length ≤ nL') (hw : 2 * f.monitorRoom + (f.stack.map fun v => v.category).sum ≤ 8) (hfr : d' + 1 ≤ R.frames) (hlo : 8 + (nL' + 11) + 30 * d' ≤ R.locals) (hcells : kc + k ≤ R.cells) (hslots : ks + n ≤ R.slots)
    (hP : va_P g.2.1 classes (wsP g v) U.heap) (hS : va_S (AA g s) s.heap U.heap locs) (hsz : s.heap.size + kc = g.1 0 + v.2.1) (hz : 0 < v.2.1 ∨ kc = 0) :
    ∃ (T' : State) (locs' : List Loc), Stand p l e R s m args below meth c T' locs' (kc + k) (ks + n) ∧ va_P g.2.1 classes (wsP g v') T'.heap ∧ va_S (AA g s) s.heap T'.heap locs' ∧ Steps p.tables e below (doInvoke e (U.setTop f) [] mk av.toArray).1 (T'.setTop { f with pc := f.pc + len, stack := rv.toList ++ f.stack }) := by
  obtain ⟨c1, -, -, c4, c5, c6, -, -, -, -, -, c12⟩ := hc
  have hmk' : U.vm.method? mk = some methk := by rw [Y0.warmed.alike.method?]; exact hmk
  have hn' : U.methodNamed? y = some mk := Y0.named hn
  have hplain : U.plainMethod mk := State.plainMethod.of_named hpl hn' hmk'
  have hUs := P_size hG Y0 rfl hP hS hsz hz
  obtain ⟨Y, hst⟩ := Y0.into hf hsize hdg av.toArray (R' := { frames := d', cells := k, slots := n, locals := 30 * d' }) hmk' hck hlk hplain hfr (by rw [hml]; show _ + _ + (nL' + 11) + 30 * d' ≤ _; omega) hcells hslots
  have hOk : Ok (p, l, e, { frames := d', cells := k, slots := n, locals := 30 * d' }, U.calling f mk av.toArray, mk, av.toArray, .java f :: below, methk, ck) g cc' y.cls ret' [] d' :=
    ⟨c1, hb, findClass_of_methodNamed hn', Tb.warm (U := U.calling f mk av.toArray) Y0.warmed c4, va_K.moved (u := s) (U := U.calling f mk av.toArray) Y0.warmed.alike c5, c6, hlk, hre, hh, Nat.le_refl _, Nat.le_refl _, c12.1, Zs.move (U := U.calling f mk av.toArray) c12.2 Y0.warmed hS⟩
  have hgo := hcon (p, l, e, { frames := d', cells := k, slots := n, locals := 30 * d' }, U.calling f mk av.toArray, mk, av.toArray, .java f :: below, methk, ck) rfl rfl hml (Nat.le_refl _) (Nat.le_refl _) (name_of_methodNamed hn hmk).1 (by show U.heap.size = _; rw [hUs, hG]) (hE (U.calling f mk av.toArray) locs Y0.warmed hS) hOk
  have hW := hgo _ U.heap [] (by rw [hml]; exact pl_entry hav hal) hP (va_S.rf (A := AA g (U.calling f mk av.toArray)) (H0 := U.heap))
  rw [← lg_entry_eq, ← hml] at hW
  obtain ⟨t, hsteps, L, q2, q3, q5, q6, q7, q8, q9⟩ := hW ((U.setTop f).pushFrame (.java (entryFrame mk av.toArray ck.maxLocals))) rfl Y
  have hst0 := hst []
  have hheap1 : (U.calling f mk av.toArray).heap = U.heap := rfl
  obtain ⟨T', X', -, -, ht⟩ := Y0.outOf hf hdg q3 q7 q8
  have hh1 : t.heap = T'.heap := by rw [ht]; rfl
  refine ⟨T', locs ++ L, X', by rw [← hh1]; exact q5, by rw [← hh1]; exact S_join hS hheap1 q6 q9, ?_⟩
  rw [hst0]
  have hts2 : Steps p.tables e below _ t := steps_weaken (mid := [.java f]) hsteps
  rw [ht] at hts2
  exact hts2
theorem p_calli {y : MethodName} {cc' : ByteArray} {nL' d' k n idx a : Nat} {av : List Value} {v' : Pw} (hc : Ok X g cc own ret hx d) (hG : Gq g) (hao : AO X.2.2.2.2.1) (hd : decode cc pc = .ok (.invokespecial idx, 3)) (hcon : ConP X.2.1 g y cc' nL' none d' k n (.ref a :: av) AO none v v') (hl : Cond.methodLink own idx y ∈ Ttab) (hin : Cond.instanceMethod y ∈ Ttab) (hcode : Cond.code y cc' nL' none ∈ Ttab) (hy1 : y.name = "<init>") (hy : y.cls ≠ "java/lang/invoke/MethodHandle" ∧ y.cls ≠ "java/lang/invoke/VarHandle") (hpl : plainFor y = true) (hnum : (parseMethodDescriptor y.desc).map (fun d => d.parameters.length) = some av.length)
    (hdd : d' + 1 ≤ d) (hnl : nL' ≤ 11) (hav : ∀ v ∈ av, v.category = 1) (hal : av.length + 1 ≤ nL') (hst : (st.map fun v => v.category).sum ≤ 8) (hcells : kc + k ≤ X.2.2.2.1.cells) (hslots : ks + n ≤ X.2.2.2.1.slots) (hsz : X.2.2.2.2.1.heap.size + kc = g.1 0 + v.2.1) (hz : 0 < v.2.1 ∨ kc = 0)
    (kk : GoP X g (kc + k) (ks + n) Q v' (pc + 3) lp st) : GoP X g kc ks Q v pc lp (av.reverse ++ .ref a :: st) := by
  obtain ⟨p, l, e, R, s, m, args, below, meth, c⟩ := X
  intro ls H locs h1 h2 h3 T hT Y
  have hts := hc.2.2.2.1
  have hplat : e.platform.magicAccessors = ({} : Platform).magicAccessors := by rw [Y.admits.platform]
  obtain ⟨mk, methM, hnamed, hmethM, hstM, habM⟩ := Cond.instanceMethod_spec (hts _ hin)
  obtain ⟨methM', cM, hmethM', hck, hb, hml, hre, hlk, hex, hsigM⟩ := Cond.code_spec hnamed (hts _ hcode)
  cases hmethM.symm.trans hmethM'
  obtain ⟨mk2, methM2, cM2, kP, vm₁, hnamed2, hmethM2, hcodeM2, -, hlocalsM2, -, hkP, -, hW₁, hstep₁⟩ := Steps.initColdArgs (e := e) Y.here hc.1 Y.warmed hplat hc.2.2.1 hy1 hy (hts _ hl) (hts _ hin) (hts _ hcode) (f := F0 m pc ls (av.reverse ++ .ref a :: st)) rfl (argsL := av) (fun sig hsig => by have h9 := hnum; rw [hsig] at h9; exact (Option.some.inj h9).symm) rfl (by rw [hc.2.1]; exact hd)
  cases hnamed.symm.trans hnamed2
  have X₁ := Y.noted hW₁
  obtain ⟨T', locs', X', a1, a2, a3⟩ := p_core (f := F0 m pc ls st) X₁ hc hG (fun U' _ hW _ => AO.move (U := U') hao hW) hcon rfl h1.1 (by rw [hc.2.1]; exact hd) hnamed hmethM hck hb hml hre hlk (ex_nil hex) hpl (fun v hv => by rcases List.mem_cons.mp hv with rfl | hv; exact rfl; exact hav v hv) (by simpa using hal) (by show 2 * 0 + (st.map fun v => v.category).sum ≤ 8; omega) (Nat.le_trans hdd hc.2.2.2.2.2.2.2.2.2.1) (by have := hc.2.2.2.2.2.2.2.2.2.2.1; omega) hcells hslots (by show va_P _ _ _ T.heap; rw [hT]; exact h2) (by show va_S _ _ T.heap _; rw [hT]; exact h3) hsz hz
  obtain ⟨t, t1, t2⟩ := kk ls T'.heap locs' h1 a1 a2 T' rfl X'
  exact ⟨t, hstep₁ _ (fun acts => by rw [doInvoke_state]; exact a3.trans t1), t2⟩
theorem p_calliN {host : String} {y : MethodName} {cc' : ByteArray} {nL' d' k n idx a : Nat} {av : List Value} {v' : Pw} (hc : Ok X g cc own ret hx d) (hG : Gq g) (hao : AO X.2.2.2.2.1) (hd : decode cc pc = .ok (.invokespecial idx, 3)) (hcon : ConP X.2.1 g y cc' nL' none d' k n (.ref a :: av) AO none v v') (hl : Cond.methodLinkNest own idx y host ∈ Ttab) (hin : Cond.instanceMethod y ∈ Ttab) (hcode : Cond.code y cc' nL' none ∈ Ttab) (hy1 : y.name = "<init>") (hy : y.cls ≠ "java/lang/invoke/MethodHandle" ∧ y.cls ≠ "java/lang/invoke/VarHandle") (hpl : plainFor y = true) (hnum : (parseMethodDescriptor y.desc).map (fun d => d.parameters.length) = some av.length)
    (hdd : d' + 1 ≤ d) (hnl : nL' ≤ 11) (hav : ∀ v ∈ av, v.category = 1) (hal : av.length + 1 ≤ nL') (hst : (st.map fun v => v.category).sum ≤ 8) (hcells : kc + k ≤ X.2.2.2.1.cells) (hslots : ks + n ≤ X.2.2.2.1.slots) (hsz : X.2.2.2.2.1.heap.size + kc = g.1 0 + v.2.1) (hz : 0 < v.2.1 ∨ kc = 0)
    (kk : GoP X g (kc + k) (ks + n) Q v' (pc + 3) lp st) : GoP X g kc ks Q v pc lp (av.reverse ++ .ref a :: st) := by
  obtain ⟨p, l, e, R, s, m, args, below, meth, c⟩ := X
  intro ls H locs h1 h2 h3 T hT Y
  have hts := hc.2.2.2.1
  have hplat : e.platform.magicAccessors = ({} : Platform).magicAccessors := by rw [Y.admits.platform]
  obtain ⟨mk, methM, hnamed, hmethM, hstM, habM⟩ := Cond.instanceMethod_spec (hts _ hin)
  obtain ⟨methM', cM, hmethM', hck, hb, hml, hre, hlk, hex, hsigM⟩ := Cond.code_spec hnamed (hts _ hcode)
  cases hmethM.symm.trans hmethM'
  obtain ⟨mk2, methM2, cM2, kP, vm₁, hnamed2, hmethM2, hcodeM2, -, hlocalsM2, -, hkP, -, hW₁, hstep₁⟩ := Steps.initColdArgsNest (e := e) Y.here hc.1 Y.warmed hplat hc.2.2.1 hy1 hy (hts _ hl) (hts _ hin) (hts _ hcode) (f := F0 m pc ls (av.reverse ++ .ref a :: st)) rfl (argsL := av) (fun sig hsig => by have h9 := hnum; rw [hsig] at h9; exact (Option.some.inj h9).symm) rfl (by rw [hc.2.1]; exact hd)
  cases hnamed.symm.trans hnamed2
  have X₁ := Y.noted hW₁
  obtain ⟨T', locs', X', a1, a2, a3⟩ := p_core (f := F0 m pc ls st) X₁ hc hG (fun U' _ hW _ => AO.move (U := U') hao hW) hcon rfl h1.1 (by rw [hc.2.1]; exact hd) hnamed hmethM hck hb hml hre hlk (ex_nil hex) hpl (fun v hv => by rcases List.mem_cons.mp hv with rfl | hv; exact rfl; exact hav v hv) (by simpa using hal) (by show 2 * 0 + (st.map fun v => v.category).sum ≤ 8; omega) (Nat.le_trans hdd hc.2.2.2.2.2.2.2.2.2.1) (by have := hc.2.2.2.2.2.2.2.2.2.2.1; omega) hcells hslots (by show va_P _ _ _ T.heap; rw [hT]; exact h2) (by show va_S _ _ T.heap _; rw [hT]; exact h3) hsz hz
  obtain ⟨t, t1, t2⟩ := kk ls T'.heap locs' h1 a1 a2 T' rfl X'
  exact ⟨t, hstep₁ _ (fun acts => by rw [doInvoke_state]; exact a3.trans t1), t2⟩
theorem p_calls {y : MethodName} {cc' : ByteArray} {nL' d' k n idx : Nat} {av : List Value} {E : State → Prop} {rv : Option Value} {ret' : Option FieldType} {v' : Pw} (hc : Ok X g cc own ret hx d) (hG : Gq g) (hE : ∀ (U' : State) (L' : List Loc), X.2.2.2.2.1.WarmedH U'.vm → va_S (AA g X.2.2.2.2.1) X.2.2.2.2.1.heap U'.heap L' → E U') (hd : decode cc pc = .ok (.invokestatic idx, 3)) (hcon : ConP X.2.1 g y cc' nL' ret' d' k n av E rv v v')
    (hl : Cond.methodLink own idx y ∈ Ttab) (hsta : Cond.static y ∈ Ttab) (hini : Cond.initialized y.cls ∈ Ttab) (hcode : Cond.code y cc' nL' ret' ∈ Ttab) (hy : y.cls ≠ "java/lang/invoke/MethodHandle" ∧ y.cls ≠ "java/lang/invoke/VarHandle") (hpl : plainFor y = true) (hnum : (parseMethodDescriptor y.desc).map (fun d => d.parameters.length) = some av.length)
    (hdd : d' + 1 ≤ d) (hnl : nL' ≤ 11) (hav : ∀ v ∈ av, v.category = 1) (hal : av.length ≤ nL') (hst : (st.map fun v => v.category).sum ≤ 8) (hcells : kc + k ≤ X.2.2.2.1.cells) (hslots : ks + n ≤ X.2.2.2.1.slots) (hsz : X.2.2.2.2.1.heap.size + kc = g.1 0 + v.2.1) (hz : 0 < v.2.1 ∨ kc = 0)
    (kk : GoP X g (kc + k) (ks + n) Q v' (pc + 3) lp (rv.toList ++ st)) : GoP X g kc ks Q v pc lp (av.reverse ++ st) := by
  obtain ⟨p, l, e, R, s, m, args, below, meth, c⟩ := X
  intro ls H locs h1 h2 h3 T hT Y
  have hts := hc.2.2.2.1
  obtain ⟨mk, hnamed⟩ := Cond.code_named (hts _ hcode)
  obtain ⟨methM, cM, hmethM, hck, hb, hml, hre, hlk, hex, hsigM⟩ := Cond.code_spec hnamed (hts _ hcode)
  have hstatic : methM.isStatic = true := Cond.static_spec hnamed hmethM (hts _ hsta)
  obtain ⟨kP, hkP, -⟩ := className_of_methodNamed hnamed
  have hinitP : kP.init = .initialized := Cond.initialized_spec (findClass_of_methodNamed hnamed) hkP (hts _ hini)
  obtain ⟨vm₁, X₁, hstep₁⟩ := Y.invokestatic hc.1 hc.2.2.1 (hts _ hl) hnamed hmethM hstatic hkP hinitP hy (g := F0 m pc ls (av.reverse ++ st)) rfl (argsL := av) (rest := st) (by have h9 := hnum; rw [hsigM] at h9; exact (Option.some.inj h9).symm) rfl (by rw [hc.2.1]; exact hd)
  obtain ⟨T', locs', X', a1, a2, a3⟩ := p_core (f := F0 m pc ls st) X₁ hc hG hE hcon rfl h1.1 (by rw [hc.2.1]; exact hd) hnamed hmethM hck hb hml hre hlk (ex_nil hex) hpl hav hal (by show 2 * 0 + (st.map fun v => v.category).sum ≤ 8; omega) (Nat.le_trans hdd hc.2.2.2.2.2.2.2.2.2.1) (by have := hc.2.2.2.2.2.2.2.2.2.2.1; omega) hcells hslots (by show va_P _ _ _ T.heap; rw [hT]; exact h2) (by show va_S _ _ T.heap _; rw [hT]; exact h3) hsz hz
  obtain ⟨t, t1, t2⟩ := kk ls T'.heap locs' h1 a1 a2 T' rfl X'
  exact ⟨t, hstep₁ _ (fun acts => by rw [doInvoke_state]; exact a3.trans t1), t2⟩
/-- the law's script: no cell of the world -/
def SX (g : GG) (b L : Nat) (xs : Nat → Int32) (s : State) : Prop := va_X b L xs s s.heap ∧ b < s.heap.size ∧ ¬ AA g s b
theorem SX.move {b L : Nat} {xs : Nat → Int32} {s U : State} {locs : List Loc} (h : SX g b L xs s) (hW : s.WarmedH U.vm) (hS : va_S (AA g s) s.heap U.heap locs) : SX g b L xs U :=
  ⟨va_X.moved (u := s) (U := U) hW.alike (h.1.kept (hS.2.1 b h.2.1 h.2.2)), Nat.lt_of_lt_of_le h.2.1 hS.1, fun z => h.2.2 (AA_mono hS rfl z)⟩
theorem p_sld {b L : Nat} {xs : Nat → Int32} (hc : Ok X g cc own ret hx d) (hX : SX g b L xs X.2.2.2.2.1) {i : Int32} (hin : vp_in i L) (hd : decode cc pc = .ok (.iaload, 1)) (k : GoP X g kc ks Q v (pc + 1) lp (.int (xs i.toNatClampNeg) :: st)) : GoP X g kc ks Q v pc lp (.int i :: .ref b :: st) := by
  obtain ⟨p, l, e, R, s, m, args, below, meth, c⟩ := X
  intro ls H locs h1 h2 h3
  exact va_sld hc.1 hc.2.1 hX.1 hX.2.1 hX.2.2 h3 hin hd (k ls H locs h1 h2 h3)
theorem p_slen {b L : Nat} {xs : Nat → Int32} (hc : Ok X g cc own ret hx d) (hX : SX g b L xs X.2.2.2.2.1) (hd : decode cc pc = .ok (.arraylength, 1)) (k : GoP X g kc ks Q v (pc + 1) lp (.int (nI L) :: st)) : GoP X g kc ks Q v pc lp (.ref b :: st) := by
  obtain ⟨p, l, e, R, s, m, args, below, meth, c⟩ := X
  intro ls H locs h1 h2 h3
  exact va_slen hc.1 hc.2.1 hX.1 hX.2.1 hX.2.2 h3 hd (k ls H locs h1 h2 h3)
theorem r_sld {w : Wd} {b L : Nat} {xs : Nat → Int32} (hc : Ok X g cc own ret hx d) (hX : SX g b L xs X.2.2.2.2.1) {i : Int32} (hin : vp_in i L) (hd : decode cc pc = .ok (.iaload, 1)) (k : Go X g kc ks Q w (pc + 1) lp (.int (xs i.toNatClampNeg) :: st)) : Go X g kc ks Q w pc lp (.int i :: .ref b :: st) := by
  obtain ⟨p, l, e, R, s, m, args, below, meth, c⟩ := X
  intro ls H locs h1 h2 h3
  exact va_sld hc.1 hc.2.1 hX.1 hX.2.1 hX.2.2 h3 hin hd (k ls H locs h1 h2 h3)
theorem r_slen {w : Wd} {b L : Nat} {xs : Nat → Int32} (hc : Ok X g cc own ret hx d) (hX : SX g b L xs X.2.2.2.2.1) (hd : decode cc pc = .ok (.arraylength, 1)) (k : Go X g kc ks Q w (pc + 1) lp (.int (nI L) :: st)) : Go X g kc ks Q w pc lp (.ref b :: st) := by
  obtain ⟨p, l, e, R, s, m, args, below, meth, c⟩ := X
  intro ls H locs h1 h2 h3
  exact va_slen hc.1 hc.2.1 hX.1 hX.2.1 hX.2.2 h3 hd (k ls H locs h1 h2 h3)
theorem q_getf {w : Wd} {j9 : Nat} {pd : Pd} (hc : Ok X g cc own ret hx d) (q ci j : Nat) {C : String} {T : u_T} {N idx : Nat} {fs : List Value} {x : Value} (hd : decode cc pc = .ok (.getfield idx, 3)) (hq : q < j9) (hn : pd q = none) (he : ent g (w q) q = .inr (ci, fs)) (hci : classes[ci]? = some (C, T, N)) (hj : j < N) (hin : ∀ x ∈ u_ws C T N, x ∈ Ttab) (hT : (T j).1 = C) (hl : Cond.fieldLink own idx C (T j).2.1 (T j).2.2.1 ∈ Ttab) (hv : fs[j]? = some x) (k : GoP X g kc ks Q (w, j9, pd) (pc + 3) lp (x :: st)) : GoP X g kc ks Q (w, j9, pd) pc lp (.ref (g.1 q) :: st) :=
  p_getf (v := (w, j9, pd)) hc q ci j hd hq hn he hci hj hin hT hl hv k
theorem q_putf {w : Wd} {j9 : Nat} {pd : Pd} (hc : Ok X g cc own ret hx d) (hG : Gq g) (q ci j : Nat) {C : String} {T : u_T} {N idx : Nat} {fs : List Value} {x : Int32} {ty0 : Nat → FieldType} {ty : FieldType} (hd : decode cc pc = .ok (.putfield idx, 3)) (hjN : j9 ≤ NC) (hq : q < j9) (hn : pd q = none) (he : ent g (w q) q = .inr (ci, fs)) (hci : classes[ci]? = some (C, T, N)) (hj : j < N) (hin : ∀ x ∈ u_ws C T N, x ∈ Ttab) (hT : (T j).1 = C) (hty : ∀ k, k < N → parseFieldDescriptor (T k).2.2.1 = some (ty0 k)) (hnm : ∀ a, a < N → ∀ b, b < N → a ≠ b → (T a).2.1 ≠ (T b).2.1) (hfin : (T j).2.2.2 = false) (htj : parseFieldDescriptor (T j).2.2.1 = some ty) (hnr : narrow ty (.int x) = .int x) (hfit : fits ty (.int x) = true) (hlen : j < fs.length) (hl : Cond.fieldLink own idx C (T j).2.1 (T j).2.2.1 ∈ Ttab) (he2 : .inr (ci, fs.set j (.int x)) = ent g (upd (w q) j x) q) (k : GoP X g kc ks Q (wu w q j x, j9, pd) (pc + 3) lp st) : GoP X g kc ks Q (w, j9, pd) pc lp (.int x :: .ref (g.1 q) :: st) :=
  p_putf (v := (w, j9, pd)) hc hG q ci j hd hjN hq hn he hci hj hin hT hty hnm hfin htj hnr hfit hlen hl he2 k
theorem q_zast {w : Wd} {j9 : Nat} {pd : Pd} (hc : Ok X g cc own ret hx d) (hG : Gq g) (hd : decode cc pc = .ok (.bastore, 1)) {q : Nat} {i x : Int32} (hjN : j9 ≤ NC) (hq : q < j9) (hn : pd q = none) (hin : vp_in i (lenZ q)) (hx1 : vp_nar .boolean x = x) (k : GoP X g kc ks Q (wu w q i.toNatClampNeg x, j9, pd) (pc + 1) lp st) : GoP X g kc ks Q (w, j9, pd) pc lp (.int x :: .int i :: .ref (g.1 q) :: st) :=
  p_zast (v := (w, j9, pd)) hc hG hd hjN hq hn hin hx1 k
theorem q_new {w : Wd} {j9 : Nat} {pd : Pd} (hc : Ok X g cc own ret hx d) (hG : Gq g) {ci idx N : Nat} {C : String} {T : u_T} {fs : List Value} {ty : Nat → FieldType} (hd : decode cc pc = .ok (.new idx, 3)) (hci : classes[ci]? = some (C, T, N)) (hin : ∀ x ∈ u_ws C T N, x ∈ Ttab) (hty : ∀ k, k < N → parseFieldDescriptor (T k).2.2.1 = some (ty k)) (hl : Cond.classLink own idx C ∈ Ttab) (hinst : Cond.instantiable C N ∈ Ttab) (hini : Cond.initialized C ∈ Ttab) (hfs : ∀ j, j < N → defaultValue (ty j) = vp_V fs j) (hcells : kc + 1 ≤ X.2.2.2.1.cells) (hslots : ks + N ≤ X.2.2.2.1.slots) (hsz : X.2.2.2.2.1.heap.size + kc = g.1 0 + j9) (hz : 0 < j9 ∨ kc = 0) (k : GoP X g (kc + 1) (ks + N) Q (w, j9 + 1, pset pd j9 (some (ci, fs))) (pc + 3) lp (.ref (g.1 j9) :: st)) : GoP X g kc ks Q (w, j9, pd) pc lp st :=
  p_new (v := (w, j9, pd)) hc hG hd hci hin hty hl hinst hini hfs hcells hslots hsz hz k
theorem q_newI {w : Wd} {j9 : Nat} {pd : Pd} (hc : Ok X g cc own ret hx d) (hG : Gq g) {N : Nat} {x : Int32} (hd : decode cc pc = .ok (.newarray .int, 2)) (hn : pd j9 = none) (hlen : lenI j9 = N) (hN : 0 < N) (hw : w j9 = fun _ => 0) (harr : Cond.arrayClass .int ∈ Ttab) (hx0 : ¬ x < 0) (hxN : x.toNatClampNeg = N) (hb : N * componentBytes .int ≤ 536870912) (hcells : kc + 1 ≤ X.2.2.2.1.cells) (hslots : ks + N ≤ X.2.2.2.1.slots) (hsz : X.2.2.2.2.1.heap.size + kc = g.1 0 + j9) (hz : 0 < j9 ∨ kc = 0) (k : GoP X g (kc + 1) (ks + N) Q (w, j9 + 1, pd) (pc + 2) lp (.ref (g.1 j9) :: st)) : GoP X g kc ks Q (w, j9, pd) pc lp (.int x :: st) :=
  p_newI (v := (w, j9, pd)) hc hG hd hn hlen hN hw harr hx0 hxN hb hcells hslots hsz hz k
theorem q_newZ {w : Wd} {j9 : Nat} {pd : Pd} (hc : Ok X g cc own ret hx d) (hG : Gq g) {N : Nat} {x : Int32} (hd : decode cc pc = .ok (.newarray .boolean, 2)) (hn : pd j9 = none) (hlen : lenZ j9 = N) (hN : 0 < N) (hw : w j9 = fun _ => 0) (harr : Cond.arrayClass .boolean ∈ Ttab) (hx0 : ¬ x < 0) (hxN : x.toNatClampNeg = N) (hb : N * componentBytes .boolean ≤ 536870912) (hcells : kc + 1 ≤ X.2.2.2.1.cells) (hslots : ks + N ≤ X.2.2.2.1.slots) (hsz : X.2.2.2.2.1.heap.size + kc = g.1 0 + j9) (hz : 0 < j9 ∨ kc = 0) (k : GoP X g (kc + 1) (ks + N) Q (w, j9 + 1, pd) (pc + 2) lp (.ref (g.1 j9) :: st)) : GoP X g kc ks Q (w, j9, pd) pc lp (.int x :: st) :=
  p_newZ (v := (w, j9, pd)) hc hG hd hn hlen hN hw harr hx0 hxN hb hcells hslots hsz hz k
theorem q_mna {w : Wd} {j9 : Nat} {pd : Pd} (hc : Ok X g cc own ret hx d) (hG : Gq g) (hao : AO X.2.2.2.2.1) {N K idx : Nat} {x y : Int32} (hd : decode cc pc = .ok (.multianewarray idx 2, 4)) (hl : Cond.classLink own idx "[[I" ∈ Ttab) (harr : Cond.arrayClass .int ∈ Ttab) (hn : ∀ k, j9 ≤ k → pd k = none) (hA : lenA j9 = N) (hN : 0 < N) (hK : 0 < K) (hrow : ∀ i, i < N → lenI (j9 + 1 + i) = K) (hw : ∀ i, i < N → w (j9 + 1 + i) = fun _ => 0) (hx0 : ¬ x < 0) (hy0 : ¬ y < 0) (hxN : x.toNatClampNeg = N) (hyK : y.toNatClampNeg = K) (hb1 : N * 4 ≤ 536870912) (hb2 : K * componentBytes .int ≤ 536870912) (hb3 : K ≤ 536870912) (hcells : kc + (1 + N) ≤ X.2.2.2.1.cells) (hslots : ks + (N + N * K) ≤ X.2.2.2.1.slots) (hsz : X.2.2.2.2.1.heap.size + kc = g.1 0 + j9) (hz : 0 < j9 ∨ kc = 0) (k : GoP X g (kc + 1 + N) (ks + N + N * K) Q (w, j9 + 1 + N, pd) (pc + 4) lp (.ref (g.1 j9) :: st)) : GoP X g kc ks Q (w, j9, pd) pc lp (.int y :: .int x :: st) :=
  p_mna (v := (w, j9, pd)) hc hG hao hd hl harr hn hA hN hK hrow hw hx0 hy0 hxN hyK hb1 hb2 hb3 hcells hslots hsz hz k
theorem q_putn {w : Wd} {j9 : Nat} {pd : Pd} (hc : Ok X g cc own ret hx d) (hG : Gq g) (q ci j : Nat) {C : String} {T : u_T} {N idx : Nat} {fs : List Value} {x : Value} {ty0 : Nat → FieldType} {ty : FieldType} (hd : decode cc pc = .ok (.putfield idx, 3)) (hjN : j9 ≤ NC) (hq : q < j9) (hci : classes[ci]? = some (C, T, N)) (hj : j < N) (hin : ∀ x ∈ u_ws C T N, x ∈ Ttab) (hT : (T j).1 = C) (hty : ∀ k, k < N → parseFieldDescriptor (T k).2.2.1 = some (ty0 k)) (hnm : ∀ a, a < N → ∀ b, b < N → a ≠ b → (T a).2.1 ≠ (T b).2.1) (hfin : (T j).2.2.2 = false) (htj : parseFieldDescriptor (T j).2.2.1 = some ty) (hnr : narrow ty x = x) (hfit : fits ty x = true) (hlen : j < fs.length) (hl : Cond.fieldLink own idx C (T j).2.1 (T j).2.2.1 ∈ Ttab) (k : GoP X g kc ks Q (w, j9, pset pd q (some (ci, fs.set j x))) (pc + 3) lp st) : GoP X g kc ks Q (w, j9, pset pd q (some (ci, fs))) pc lp (x :: .ref (g.1 q) :: st) := by
  refine p_putn (v := (w, j9, pset pd q (some (ci, fs)))) hc hG q ci j hd hjN hq (pset_at _ _ _) hci hj hin hT hty hnm hfin htj hnr hfit hlen hl ?_
  show GoP X g kc ks Q (w, j9, pset (pset pd q (some (ci, fs))) q (some (ci, fs.set j x))) (pc + 3) lp st
  rw [pset_pset]
  exact k
theorem q_putF {w : Wd} {j9 : Nat} {pd : Pd} (hc : Ok X g cc own ret hx d) (hG : Gq g) (hini : X.2.2.2.2.2.2.2.2.1.name = "<init>") (q ci j : Nat) {T : u_T} {N idx : Nat} {fs : List Value} {x : Value} {ty0 : Nat → FieldType} {ty : FieldType} (hd : decode cc pc = .ok (.putfield idx, 3)) (hjN : j9 ≤ NC) (hq : q < j9) (hci : classes[ci]? = some (own, T, N)) (hj : j < N) (hin : ∀ x ∈ u_ws own T N, x ∈ Ttab) (hT : (T j).1 = own) (hty : ∀ k, k < N → parseFieldDescriptor (T k).2.2.1 = some (ty0 k)) (hnm : ∀ a, a < N → ∀ b, b < N → a ≠ b → (T a).2.1 ≠ (T b).2.1) (hfin : (T j).2.2.2 = true) (htj : parseFieldDescriptor (T j).2.2.1 = some ty) (hnr : narrow ty x = x) (hfit : fits ty x = true) (hlen : j < fs.length) (hl : Cond.fieldLink own idx own (T j).2.1 (T j).2.2.1 ∈ Ttab) (k : GoP X g kc ks Q (w, j9, pset pd q (some (ci, fs.set j x))) (pc + 3) lp st) : GoP X g kc ks Q (w, j9, pset pd q (some (ci, fs))) pc lp (x :: .ref (g.1 q) :: st) := by
  refine p_putF (v := (w, j9, pset pd q (some (ci, fs)))) hc hG hini q ci j hd hjN hq (pset_at _ _ _) hci hj hin hT hty hnm hfin htj hnr hfit hlen hl ?_
  show GoP X g kc ks Q (w, j9, pset (pset pd q (some (ci, fs))) q (some (ci, fs.set j x))) (pc + 3) lp st
  rw [pset_pset]
  exact k
end GRW
