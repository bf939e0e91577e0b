/-! The judgement Go: a walk over a world of numbers. A world gives for each cell (by its number) and each place an Int32; references never change once the objects stand. -/
/-- a locals' list by places -/
def pl_has (ls : Array Slot) (nL : Nat) (lp : List (Option Value)) : Prop := ls.size = nL ∧ lv_wf ls ∧ lp.length ≤ nL ∧ ∀ (i : Nat) (v : Value), lp[i]? = some (some v) → ls[i]? = some (.val v) ∧ v.category = 1
theorem pl_le {ls : Array Slot} {nL : Nat} {lp : List (Option Value)} (h : pl_has ls nL lp) : lp.length ≤ nL := h.2.2.1
theorem pl_at {ls : Array Slot} {nL : Nat} {lp : List (Option Value)} (h : pl_has ls nL lp) {i : Nat} {v : Value} (hv : lp[i]? = some (some v)) : ls[i]? = some (.val v) := (h.2.2.2 i v hv).1
theorem pl_store {ls : Array Slot} {nL : Nat} {lp : List (Option Value)} {i : Nat} {v : Value} (h : pl_has ls nL lp) (hi : i < nL) (hc : v.category = 1) : ∃ ls', storeLocals ls i v = some ls' ∧ pl_has ls' nL (lp.set i (some v)) := by
  obtain ⟨h1, h2, h4, h3⟩ := h
  obtain ⟨ls', e, hs, hw, hv⟩ := lv_store1 (l := []) (i := i) (v := v) ⟨h1, h2, fun q hq => by cases hq⟩ hi hc
  refine ⟨ls', e, hs, hw, by rw [List.length_set]; exact h4, fun j u hj => ?_⟩
  by_cases hji : j = i
  · subst hji
    have hl : j < (lp.set j (some v)).length := (List.getElem?_eq_some_iff.mp hj).1
    rw [List.length_set] at hl
    rw [List.getElem?_set_self hl] at hj
    have : v = u := by simpa using hj
    subst this
    exact ⟨hv (j, v) List.mem_cons_self, hc⟩
  · rw [List.getElem?_set_ne (Ne.symm hji)] at hj
    obtain ⟨q1, q2⟩ := h3 j u hj
    obtain ⟨ls2, e2, hh⟩ := lv_store1 (l := [(j, u)]) (i := i) (v := v) ⟨h1, h2, fun q hq => by rw [List.mem_singleton] at hq; subst hq; exact q1⟩ hi hc
    rw [e] at e2
    cases e2
    exact ⟨hh.2.2 (j, u) (List.mem_cons_of_mem _ (List.mem_filter.mpr ⟨List.mem_singleton.mpr rfl, by simp [hji, q2]⟩)), q2⟩
theorem pl_weak {ls : Array Slot} {nL : Nat} {lp lp' : List (Option Value)} (h : pl_has ls nL lp) (hl : lp'.length ≤ lp.length) (hh : ∀ (i : Nat) (v : Value), lp'[i]? = some (some v) → lp[i]? = some (some v)) : pl_has ls nL lp' := ⟨h.1, h.2.1, Nat.le_trans hl h.2.2.1, fun i v hv => h.2.2.2 i v (hh i v hv)⟩
/-- the locals' list at a method's entry -/
def lp_of (nL : Nat) (av : List Value) : List (Option Value) := av.map some ++ List.replicate (nL - av.length) none
theorem lv_args_mem : ∀ (av : List Value) (k : Nat), (∀ v ∈ av, v.category = 1) → ∀ (i : Nat) (v : Value), av[i]? = some v → (k + i, v) ∈ lv_args k av
  | [], _, _, i, v, h => by simp at h
  | u :: us, k, hc, i, v, h => by
    have h2 : ¬ u.category = 2 := by rw [hc u List.mem_cons_self]; decide
    rw [lv_args, if_neg h2]
    cases i with
    | zero =>
      have : u = v := by simpa using h
      subst this
      exact List.mem_cons_self
    | succ i =>
      rw [List.getElem?_cons_succ] at h
      have := lv_args_mem us (k + 1) (fun x hx => hc x (List.mem_cons_of_mem _ hx)) i v h
      rw [show k + (i + 1) = k + 1 + i by omega]
      exact List.mem_cons_of_mem _ this
theorem lg_sl_len : ∀ (av : List Value), (∀ v ∈ av, v.category = 1) → (lg_sl av).length = av.length
  | [], _ => rfl
  | u :: us, hc => by
    have h2 : ¬ u.category = 2 := by rw [hc u List.mem_cons_self]; decide
    have ih := lg_sl_len us (fun x hx => hc x (List.mem_cons_of_mem _ hx))
    unfold lg_sl at ih ⊢
    rw [List.flatMap_cons, List.length_append, ih, if_neg h2]
    simp
    omega
theorem pl_entry {av : List Value} {nL : Nat} (hc : ∀ v ∈ av, v.category = 1) (hn : av.length ≤ nL) : pl_has ((lg_sl av ++ List.replicate (nL - (lg_sl av).length) Slot.unset).toArray) nL (lp_of nL av) := by
  have hl := lv_entry av (n := nL) (by rw [lg_sl_len av hc]; exact hn)
  refine ⟨hl.1, hl.2.1, by simp [lp_of]; omega, fun i v hv => ?_⟩
  have hv' : av[i]? = some v := by
    unfold lp_of at hv
    by_cases hi : i < (av.map some).length
    · rw [List.getElem?_append_left hi, List.getElem?_map] at hv
      cases h9 : av[i]? with
      | none => rw [h9] at hv; cases hv
      | some z => rw [h9] at hv; simpa using hv
    · rw [List.getElem?_append_right (by omega)] at hv
      have := List.eq_of_mem_replicate (List.mem_of_getElem? hv)
      cases this
  refine ⟨?_, hc v (List.mem_of_getElem? hv')⟩
  have := hl.2.2 (0 + i, v) (lv_args_mem av 0 hc i v hv')
  simpa using this
/-- a number is written at a place of a cell -/
def wu (w : Wd) (k i : Nat) (x : Int32) : Wd := fun j => if j = k then upd (w k) i x else w j
theorem wu_self (w : Wd) (k i : Nat) (x : Int32) : wu w k i x k = upd (w k) i x := by simp [wu]
theorem wu_ne {w : Wd} {k j i : Nat} {x : Int32} (h : j ≠ k) : wu w k i x j = w j := by simp [wu, h]
theorem cells_len (g : GG) (w : Wd) : (cellsOf g w).length = NC := by simp [cellsOf]
theorem cells_get (g : GG) (w : Wd) {q : Nat} (hq : q < NC) : (cellsOf g w)[q]? = some (g.1 q, ent g (w q) q) := by
  unfold cellsOf
  rw [List.getElem?_map, List.getElem?_range hq]
  rfl
theorem cells_some {g : GG} {w : Wd} {q : Nat} {x : Nat × va_E} (h : (cellsOf g w)[q]? = some x) : q < NC ∧ x = (g.1 q, ent g (w q) q) := by
  have hq : q < NC := by rw [← cells_len g w]; exact (List.getElem?_eq_some_iff.mp h).1
  rw [cells_get g w hq] at h
  exact ⟨hq, (Option.some.inj h).symm⟩
theorem cells_set {g : GG} {w : Wd} {q i : Nat} {x : Int32} {e : va_E} (hq : q < NC) (he : e = ent g (upd (w q) i x) q) : (cellsOf g w).set q (g.1 q, e) = cellsOf g (wu w q i x) := by
  apply List.ext_getElem?
  intro j
  by_cases hj : j = q
  · subst hj
    rw [List.getElem?_set_self (by rw [cells_len]; exact hq), cells_get g _ hq, wu_self, he]
  · rw [List.getElem?_set_ne (Ne.symm hj)]
    by_cases hn : j < NC
    · rw [cells_get g _ hn, cells_get g _ hn, wu_ne hj]
    · rw [List.getElem?_eq_none (by rw [cells_len]; omega), List.getElem?_eq_none (by rw [cells_len]; omega)]
/-- the cells are apart -/
def AD (g : GG) : Prop := ∀ i j : Nat, i < NC → j < NC → g.1 i = g.1 j → i = j
/-- what a walk may change: the world's cells, and new ones -/
def AA (g : GG) (s : State) : Nat → Prop := fun q => (∃ k, k < NC ∧ g.1 k = q) ∨ s.heap.size ≤ q
theorem cells_D {g : GG} (h : AD g) (s : State) (w : Wd) : va_D (AA g s) (cellsOf g w) := by
  refine ⟨fun i j p q hp hq e => ?_, fun k q hk => ?_⟩
  · obtain ⟨a1, rfl⟩ := cells_some hp
    obtain ⟨a2, rfl⟩ := cells_some hq
    exact h i j a1 a2 e
  · obtain ⟨a1, rfl⟩ := cells_some hk
    exact Or.inl ⟨k, a1, rfl⟩
abbrev Cxt : Type := Program × Launch × Env × Room × State × MethodId × Array Value × List Frame × Method × Code
/-- the walk from pc, with the locals lp and the operand stack st, over any heap that holds the world w -/
def Go : Cxt → GG → Nat → Nat → (State → Prop) → Wd → Nat → List (Option Value) → List Value → Prop
  | (p, l, e, R, s, m, args, below, meth, c), g, kc, ks, Q, w, pc, lp, st =>
    ∀ (ls : Array Slot) (H : Heap) (locs : List Loc), pl_has ls c.maxLocals lp → va_P g.2.1 classes (cellsOf g w) H → va_S (AA g s) s.heap H locs → W p l e R s m args below meth c H locs kc ks Q (F0 m pc ls st)
/-- what an exception's making reads of the heap: two constants of Throwable -/
def thAtoms : List Cond := [.laysStatic "java/lang/Throwable" "UNASSIGNED_STACK" "[Ljava/lang/StackTraceElement;", .laysStatic "java/lang/Throwable" "SUPPRESSED_SENTINEL" "Ljava/util/List;", .isRef (.static "java/lang/Throwable" "UNASSIGNED_STACK" "[Ljava/lang/StackTraceElement;"), .isRef (.static "java/lang/Throwable" "SUPPRESSED_SENTINEL" "Ljava/util/List;")]
/-- an exception of the first class is none of the second -/
def nPairs : List (String × String) := [("java/lang/IndexOutOfBoundsException", "java/lang/IllegalStateException"), ("java/util/NoSuchElementException", "java/lang/IllegalStateException"), ("java/lang/IllegalArgumentException", "java/lang/IllegalStateException"), ("java/lang/IllegalStateException", "java/lang/IndexOutOfBoundsException"), ("java/util/NoSuchElementException", "java/lang/IndexOutOfBoundsException"), ("java/lang/IllegalArgumentException", "java/lang/IndexOutOfBoundsException"), ("java/lang/IllegalStateException", "java/util/NoSuchElementException"), ("java/lang/IndexOutOfBoundsException", "java/util/NoSuchElementException"), ("java/lang/IllegalArgumentException", "java/util/NoSuchElementException"), ("java/lang/IllegalStateException", "java/lang/IllegalArgumentException"), ("java/lang/IndexOutOfBoundsException", "java/lang/IllegalArgumentException"), ("java/util/NoSuchElementException", "java/lang/IllegalArgumentException")]
def Nt (s : State) : Prop := ∀ q ∈ nPairs, ∃ c t : ClassId, s.vm.findClass q.1 = some c ∧ s.vm.findClass q.2 = some t ∧ s.vm.assignable c t = false
/-- they stand, whatever else changes -/
def Zs (g : GG) (s : State) : Prop := (∃ (aS : Nat) (c0 : Cell), s.heap[aS]? = some c0 ∧ ¬ AA g s aS ∧ ∀ U : State, s.WarmedH U.vm → U.heap[aS]? = some c0 → ∀ a ∈ thAtoms, ∀ args : Array Value, a.before args U = true) ∧ Nt s
/-- what a walk stands on -/
def Ok : Cxt → GG → ByteArray → String → Option FieldType → List (Nat × Nat × Nat × Nat) → Nat → Prop
  | (p, l, e, R, s, m, args, below, meth, c), g, cc, own, ret, hx, d =>
    p.tables.exec = Jvm.exec ∧ c.code = cc ∧ s.vm.findClass own = some m.cls ∧ Tb args s ∧ va_K g.2.1 classes (tysOf g) s ∧ AD g ∧ meth.locks = false ∧ meth.sig.returnType = ret ∧
      c.exceptionTable.toList.map (fun h => (h.startPc, h.endPc, h.handlerPc, h.catchType)) = hx ∧ d ≤ R.frames ∧ 30 * d ≤ R.locals ∧ l.stackTraces = false ∧ Zs g s
abbrev Rt : Type := Option Value ⊕ String
/-- how a method has ended -/
def OcIs (s : State) (r : Rt) (oc : Outcome) (t : State) : Prop := match r with
  | .inl v => oc = .returned v
  | .inr cn => ∃ (x : Nat) (cell : Cell), oc = .threw x ∧ t.heap[x]? = some cell ∧ s.vm.findClass cn = some cell.cls ∧ cell.vm = .none ∧ s.heap.size ≤ x
def Fen : Cxt → GG → Nat → Nat → (Rt → Wd → Prop) → State → Prop
  | (_, _, _, _, s, _, _, below, _, _), g, k, n, P, t =>
    ∃ (r : Rt) (w : Wd) (oc : Outcome) (L : List Loc), P r w ∧ t.status = .running ∧ Ended t below oc ∧ OcIs s r oc t ∧ va_P g.2.1 classes (cellsOf g w) t.heap ∧ va_F (AA g s) s t ∧ s.WarmedH t.vm ∧ s.sameButNew ({ t with vm := s.vm } : State) L k n ∧ ∀ q ∈ L, AA g s q.base
/-- a method's contract: from arguments av and the world w it ends with an answer r and a world w' of which P says something; at most k cells of n slots are new -/
def Con (l : Launch) (g : GG) (y : MethodName) (cc : ByteArray) (nL : Nat) (ret : Option FieldType) (hx : List (Nat × Nat × Nat × Nat)) (d k n : Nat) (av : List Value) (w : Wd) (P : Rt → Wd → Prop) : Prop :=
  ∀ X : Cxt, X.2.1 = l → X.2.2.2.2.2.2.1 = av.toArray → X.2.2.2.2.2.2.2.2.2.maxLocals = nL → k ≤ X.2.2.2.1.cells → n ≤ X.2.2.2.1.slots → Ok X g cc y.cls ret hx d → Go X g 0 0 (Fen X g k n P) w 0 (lp_of nL av) []
theorem Go.weak {X : Cxt} {g : GG} {kc ks : Nat} {Q : State → Prop} {w : Wd} {pc : Nat} {lp lp' : List (Option Value)} {st : List Value} (hl : lp'.length ≤ lp.length) (hh : ∀ (i : Nat) (v : Value), lp'[i]? = some (some v) → lp[i]? = some (some v)) (k : Go X g kc ks Q w pc lp' st) : Go X g kc ks Q w pc lp st := by
  obtain ⟨p, l, e, R, s, m, args, below, meth, c⟩ := X
  intro ls H locs h1 h2 h3
  exact k ls H locs (pl_weak h1 hl hh) h2 h3
theorem Go.widen {X : Cxt} {g : GG} {kc ks kc' ks' : Nat} {Q : State → Prop} {w : Wd} {pc : Nat} {lp : List (Option Value)} {st : List Value} (h1 : kc ≤ kc') (h2 : ks ≤ ks') (k : Go X g kc' ks' Q w pc lp st) : Go X g kc ks Q w pc lp st := by
  obtain ⟨p, l, e, R, s, m, args, below, meth, c⟩ := X
  intro ls H locs q1 q2 q3
  exact W.widen h1 h2 (k ls H locs q1 q2 q3)
theorem Go.cast {X : Cxt} {g : GG} {kc ks : Nat} {Q : State → Prop} {w w' : Wd} {pc : Nat} {lp lp' : List (Option Value)} {st st' : List Value} (hw : w = w') (hl : lp = lp') (hs : st = st') (k : Go X g kc ks Q w' pc lp' st') : Go X g kc ks Q w pc lp st := by
  subst hw; subst hl; subst hs; exact k
theorem r_iadd {X : Cxt} {g : GG} {cc : ByteArray} {own : String} {ret : Option FieldType} {hx : List (Nat × Nat × Nat × Nat)} {d kc ks : Nat} {Q : State → Prop} {w : Wd} {pc : Nat} {lp : List (Option Value)} {st : List Value} {x y : Int32} (hc : Ok X g cc own ret hx d) (hd : decode cc pc = .ok (.iadd, 1)) (k : Go X g kc ks Q w (pc + 1) lp (.int (x + y) :: st)) : Go X g kc ks Q w pc lp (.int y :: .int x :: st) := by
  obtain ⟨p, l, e, R, s, m, args, below, meth, c⟩ := X
  intro ls H locs h1 h2 h3
  exact lv_iadd hc.1 hc.2.1 hd (k ls H locs h1 h2 h3)
theorem r_isub {X : Cxt} {g : GG} {cc : ByteArray} {own : String} {ret : Option FieldType} {hx : List (Nat × Nat × Nat × Nat)} {d kc ks : Nat} {Q : State → Prop} {w : Wd} {pc : Nat} {lp : List (Option Value)} {st : List Value} {x y : Int32} (hc : Ok X g cc own ret hx d) (hd : decode cc pc = .ok (.isub, 1)) (k : Go X g kc ks Q w (pc + 1) lp (.int (x - y) :: st)) : Go X g kc ks Q w pc lp (.int y :: .int x :: st) := by
  obtain ⟨p, l, e, R, s, m, args, below, meth, c⟩ := X
  intro ls H locs h1 h2 h3
  exact lv_isub hc.1 hc.2.1 hd (k ls H locs h1 h2 h3)
theorem r_imul {X : Cxt} {g : GG} {cc : ByteArray} {own : String} {ret : Option FieldType} {hx : List (Nat × Nat × Nat × Nat)} {d kc ks : Nat} {Q : State → Prop} {w : Wd} {pc : Nat} {lp : List (Option Value)} {st : List Value} {x y : Int32} (hc : Ok X g cc own ret hx d) (hd : decode cc pc = .ok (.imul, 1)) (k : Go X g kc ks Q w (pc + 1) lp (.int (x * y) :: st)) : Go X g kc ks Q w pc lp (.int y :: .int x :: st) := by
  obtain ⟨p, l, e, R, s, m, args, below, meth, c⟩ := X
  intro ls H locs h1 h2 h3
  exact lv_imul hc.1 hc.2.1 hd (k ls H locs h1 h2 h3)
theorem r_iand {X : Cxt} {g : GG} {cc : ByteArray} {own : String} {ret : Option FieldType} {hx : List (Nat × Nat × Nat × Nat)} {d kc ks : Nat} {Q : State → Prop} {w : Wd} {pc : Nat} {lp : List (Option Value)} {st : List Value} {x y : Int32} (hc : Ok X g cc own ret hx d) (hd : decode cc pc = .ok (.iand, 1)) (k : Go X g kc ks Q w (pc + 1) lp (.int (x &&& y) :: st)) : Go X g kc ks Q w pc lp (.int y :: .int x :: st) := by
  obtain ⟨p, l, e, R, s, m, args, below, meth, c⟩ := X
  intro ls H locs h1 h2 h3
  exact lv_iand hc.1 hc.2.1 hd (k ls H locs h1 h2 h3)
theorem r_ior {X : Cxt} {g : GG} {cc : ByteArray} {own : String} {ret : Option FieldType} {hx : List (Nat × Nat × Nat × Nat)} {d kc ks : Nat} {Q : State → Prop} {w : Wd} {pc : Nat} {lp : List (Option Value)} {st : List Value} {x y : Int32} (hc : Ok X g cc own ret hx d) (hd : decode cc pc = .ok (.ior, 1)) (k : Go X g kc ks Q w (pc + 1) lp (.int (x ||| y) :: st)) : Go X g kc ks Q w pc lp (.int y :: .int x :: st) := by
  obtain ⟨p, l, e, R, s, m, args, below, meth, c⟩ := X
  intro ls H locs h1 h2 h3
  exact lv_ior hc.1 hc.2.1 hd (k ls H locs h1 h2 h3)
theorem r_ixor {X : Cxt} {g : GG} {cc : ByteArray} {own : String} {ret : Option FieldType} {hx : List (Nat × Nat × Nat × Nat)} {d kc ks : Nat} {Q : State → Prop} {w : Wd} {pc : Nat} {lp : List (Option Value)} {st : List Value} {x y : Int32} (hc : Ok X g cc own ret hx d) (hd : decode cc pc = .ok (.ixor, 1)) (k : Go X g kc ks Q w (pc + 1) lp (.int (x ^^^ y) :: st)) : Go X g kc ks Q w pc lp (.int y :: .int x :: st) := by
  obtain ⟨p, l, e, R, s, m, args, below, meth, c⟩ := X
  intro ls H locs h1 h2 h3
  exact lv_ixor hc.1 hc.2.1 hd (k ls H locs h1 h2 h3)
theorem r_idiv {X : Cxt} {g : GG} {cc : ByteArray} {own : String} {ret : Option FieldType} {hx : List (Nat × Nat × Nat × Nat)} {d kc ks : Nat} {Q : State → Prop} {w : Wd} {pc : Nat} {lp : List (Option Value)} {st : List Value} {x y : Int32} (hc : Ok X g cc own ret hx d) (hd : decode cc pc = .ok (.idiv, 1)) (hne : ¬ y = 0) (k : Go X g kc ks Q w (pc + 1) lp (.int (x / y) :: st)) : Go X g kc ks Q w pc lp (.int y :: .int x :: st) := by
  obtain ⟨p, l, e, R, s, m, args, below, meth, c⟩ := X
  intro ls H locs h1 h2 h3
  exact lv_idiv hc.1 hc.2.1 hd hne (k ls H locs h1 h2 h3)
theorem r_irem {X : Cxt} {g : GG} {cc : ByteArray} {own : String} {ret : Option FieldType} {hx : List (Nat × Nat × Nat × Nat)} {d kc ks : Nat} {Q : State → Prop} {w : Wd} {pc : Nat} {lp : List (Option Value)} {st : List Value} {x y : Int32} (hc : Ok X g cc own ret hx d) (hd : decode cc pc = .ok (.irem, 1)) (hne : ¬ y = 0) (k : Go X g kc ks Q w (pc + 1) lp (.int (x - x / y * y) :: st)) : Go X g kc ks Q w pc lp (.int y :: .int x :: st) := by
  obtain ⟨p, l, e, R, s, m, args, below, meth, c⟩ := X
  intro ls H locs h1 h2 h3
  exact lv_irem hc.1 hc.2.1 hd hne (k ls H locs h1 h2 h3)
theorem r_ishl {X : Cxt} {g : GG} {cc : ByteArray} {own : String} {ret : Option FieldType} {hx : List (Nat × Nat × Nat × Nat)} {d kc ks : Nat} {Q : State → Prop} {w : Wd} {pc : Nat} {lp : List (Option Value)} {st : List Value} {x y : Int32} (hc : Ok X g cc own ret hx d) (hd : decode cc pc = .ok (.ishl, 1)) (k : Go X g kc ks Q w (pc + 1) lp (.int (x <<< (y &&& 31)) :: st)) : Go X g kc ks Q w pc lp (.int y :: .int x :: st) := by
  obtain ⟨p, l, e, R, s, m, args, below, meth, c⟩ := X
  intro ls H locs h1 h2 h3
  exact lv_ishl hc.1 hc.2.1 hd (k ls H locs h1 h2 h3)
theorem r_ishr {X : Cxt} {g : GG} {cc : ByteArray} {own : String} {ret : Option FieldType} {hx : List (Nat × Nat × Nat × Nat)} {d kc ks : Nat} {Q : State → Prop} {w : Wd} {pc : Nat} {lp : List (Option Value)} {st : List Value} {x y : Int32} (hc : Ok X g cc own ret hx d) (hd : decode cc pc = .ok (.ishr, 1)) (k : Go X g kc ks Q w (pc + 1) lp (.int (x >>> (y &&& 31)) :: st)) : Go X g kc ks Q w pc lp (.int y :: .int x :: st) := by
  obtain ⟨p, l, e, R, s, m, args, below, meth, c⟩ := X
  intro ls H locs h1 h2 h3
  exact lv_ishr hc.1 hc.2.1 hd (k ls H locs h1 h2 h3)
theorem r_iushr {X : Cxt} {g : GG} {cc : ByteArray} {own : String} {ret : Option FieldType} {hx : List (Nat × Nat × Nat × Nat)} {d kc ks : Nat} {Q : State → Prop} {w : Wd} {pc : Nat} {lp : List (Option Value)} {st : List Value} {x y : Int32} (hc : Ok X g cc own ret hx d) (hd : decode cc pc = .ok (.iushr, 1)) (k : Go X g kc ks Q w (pc + 1) lp (.int (x.toUInt32 >>> (y.toUInt32 &&& Int32.toUInt32 31)).toInt32 :: st)) : Go X g kc ks Q w pc lp (.int y :: .int x :: st) := by
  obtain ⟨p, l, e, R, s, m, args, below, meth, c⟩ := X
  intro ls H locs h1 h2 h3
  exact lv_iushr hc.1 hc.2.1 hd rfl (k ls H locs h1 h2 h3)
theorem r_ineg {X : Cxt} {g : GG} {cc : ByteArray} {own : String} {ret : Option FieldType} {hx : List (Nat × Nat × Nat × Nat)} {d kc ks : Nat} {Q : State → Prop} {w : Wd} {pc : Nat} {lp : List (Option Value)} {st : List Value} {x : Int32} (hc : Ok X g cc own ret hx d) (hd : decode cc pc = .ok (.ineg, 1)) (k : Go X g kc ks Q w (pc + 1) lp (.int (-x) :: st)) : Go X g kc ks Q w pc lp (.int x :: st) := by
  obtain ⟨p, l, e, R, s, m, args, below, meth, c⟩ := X
  intro ls H locs h1 h2 h3
  exact lv_ineg hc.1 hc.2.1 hd (k ls H locs h1 h2 h3)
theorem r_i2l {X : Cxt} {g : GG} {cc : ByteArray} {own : String} {ret : Option FieldType} {hx : List (Nat × Nat × Nat × Nat)} {d kc ks : Nat} {Q : State → Prop} {w : Wd} {pc : Nat} {lp : List (Option Value)} {st : List Value} {x : Int32} (hc : Ok X g cc own ret hx d) (hd : decode cc pc = .ok (.i2l, 1)) (k : Go X g kc ks Q w (pc + 1) lp (.long x.toInt64 :: st)) : Go X g kc ks Q w pc lp (.int x :: st) := by
  obtain ⟨p, l, e, R, s, m, args, below, meth, c⟩ := X
  intro ls H locs h1 h2 h3
  exact lv_i2l hc.1 hc.2.1 hd rfl (k ls H locs h1 h2 h3)
theorem r_iconst {X : Cxt} {g : GG} {cc : ByteArray} {own : String} {ret : Option FieldType} {hx : List (Nat × Nat × Nat × Nat)} {d kc ks : Nat} {Q : State → Prop} {w : Wd} {pc : Nat} {lp : List (Option Value)} {st : List Value} {n : Int} (hc : Ok X g cc own ret hx d) (hd : decode cc pc = .ok (.iconst n, 1)) (v : Int32) (hv : Int32.ofInt n = v) (k : Go X g kc ks Q w (pc + 1) lp (.int v :: st)) : Go X g kc ks Q w pc lp st := by
  obtain ⟨p, l, e, R, s, m, args, below, meth, c⟩ := X
  intro ls H locs h1 h2 h3
  exact lv_iconst hc.1 hc.2.1 hd hv (k ls H locs h1 h2 h3)
theorem r_bipush {X : Cxt} {g : GG} {cc : ByteArray} {own : String} {ret : Option FieldType} {hx : List (Nat × Nat × Nat × Nat)} {d kc ks : Nat} {Q : State → Prop} {w : Wd} {pc : Nat} {lp : List (Option Value)} {st : List Value} {n : Int} (hc : Ok X g cc own ret hx d) (hd : decode cc pc = .ok (.bipush n, 2)) (v : Int32) (hv : (Int8.ofInt n).toInt32 = v) (k : Go X g kc ks Q w (pc + 2) lp (.int v :: st)) : Go X g kc ks Q w pc lp st := by
  obtain ⟨p, l, e, R, s, m, args, below, meth, c⟩ := X
  intro ls H locs h1 h2 h3
  exact lv_bipush hc.1 hc.2.1 hd hv (k ls H locs h1 h2 h3)
theorem r_sipush {X : Cxt} {g : GG} {cc : ByteArray} {own : String} {ret : Option FieldType} {hx : List (Nat × Nat × Nat × Nat)} {d kc ks : Nat} {Q : State → Prop} {w : Wd} {pc : Nat} {lp : List (Option Value)} {st : List Value} {n : Int} (hc : Ok X g cc own ret hx d) (hd : decode cc pc = .ok (.sipush n, 3)) (v : Int32) (hv : (Int16.ofInt n).toInt32 = v) (k : Go X g kc ks Q w (pc + 3) lp (.int v :: st)) : Go X g kc ks Q w pc lp st := by
  obtain ⟨p, l, e, R, s, m, args, below, meth, c⟩ := X
  intro ls H locs h1 h2 h3
  exact lv_sipush hc.1 hc.2.1 hd hv (k ls H locs h1 h2 h3)
theorem r_lconst {X : Cxt} {g : GG} {cc : ByteArray} {own : String} {ret : Option FieldType} {hx : List (Nat × Nat × Nat × Nat)} {d kc ks : Nat} {Q : State → Prop} {w : Wd} {pc : Nat} {lp : List (Option Value)} {st : List Value} {n : Fin 2} (hc : Ok X g cc own ret hx d) (hd : decode cc pc = .ok (.lconst n, 1)) (v : Int64) (hv : Int64.ofNat (n : Nat) = v) (k : Go X g kc ks Q w (pc + 1) lp (.long v :: st)) : Go X g kc ks Q w pc lp st := by
  obtain ⟨p, l, e, R, s, m, args, below, meth, c⟩ := X
  intro ls H locs h1 h2 h3
  exact lv_lconst hc.1 hc.2.1 hd hv (k ls H locs h1 h2 h3)
theorem r_iload_n {X : Cxt} {g : GG} {cc : ByteArray} {own : String} {ret : Option FieldType} {hx : List (Nat × Nat × Nat × Nat)} {d kc ks : Nat} {Q : State → Prop} {w : Wd} {pc : Nat} {lp : List (Option Value)} {st : List Value} {j : Fin 4} {x : Int32} (hc : Ok X g cc own ret hx d) (hd : decode cc pc = .ok (.iload_n j, 1)) (hl : lp[(j : Nat)]? = some (some (.int x))) (k : Go X g kc ks Q w (pc + 1) lp (.int x :: st)) : Go X g kc ks Q w pc lp st := by
  obtain ⟨p, l, e, R, s, m, args, below, meth, c⟩ := X
  intro ls H locs h1 h2 h3
  exact lv_iload_n hc.1 hc.2.1 hd rfl (pl_at h1 hl) (k ls H locs h1 h2 h3)
theorem r_iload {X : Cxt} {g : GG} {cc : ByteArray} {own : String} {ret : Option FieldType} {hx : List (Nat × Nat × Nat × Nat)} {d kc ks : Nat} {Q : State → Prop} {w : Wd} {pc : Nat} {lp : List (Option Value)} {st : List Value} {j : Nat} {x : Int32} (hc : Ok X g cc own ret hx d) (hd : decode cc pc = .ok (.iload j, 2)) (hl : lp[j]? = some (some (.int x))) (k : Go X g kc ks Q w (pc + 2) lp (.int x :: st)) : Go X g kc ks Q w pc lp st := by
  obtain ⟨p, l, e, R, s, m, args, below, meth, c⟩ := X
  intro ls H locs h1 h2 h3
  exact lv_iload hc.1 hc.2.1 hd (pl_at h1 hl) (k ls H locs h1 h2 h3)
theorem r_aload_n {X : Cxt} {g : GG} {cc : ByteArray} {own : String} {ret : Option FieldType} {hx : List (Nat × Nat × Nat × Nat)} {d kc ks : Nat} {Q : State → Prop} {w : Wd} {pc : Nat} {lp : List (Option Value)} {st : List Value} {j : Fin 4} {x : Nat} (hc : Ok X g cc own ret hx d) (hd : decode cc pc = .ok (.aload_n j, 1)) (hl : lp[(j : Nat)]? = some (some (.ref x))) (k : Go X g kc ks Q w (pc + 1) lp (.ref x :: st)) : Go X g kc ks Q w pc lp st := by
  obtain ⟨p, l, e, R, s, m, args, below, meth, c⟩ := X
  intro ls H locs h1 h2 h3
  exact lv_aload_n hc.1 hc.2.1 hd rfl (pl_at h1 hl) (k ls H locs h1 h2 h3)
theorem r_aload {X : Cxt} {g : GG} {cc : ByteArray} {own : String} {ret : Option FieldType} {hx : List (Nat × Nat × Nat × Nat)} {d kc ks : Nat} {Q : State → Prop} {w : Wd} {pc : Nat} {lp : List (Option Value)} {st : List Value} {j : Nat} {x : Nat} (hc : Ok X g cc own ret hx d) (hd : decode cc pc = .ok (.aload j, 2)) (hl : lp[j]? = some (some (.ref x))) (k : Go X g kc ks Q w (pc + 2) lp (.ref x :: st)) : Go X g kc ks Q w pc lp st := by
  obtain ⟨p, l, e, R, s, m, args, below, meth, c⟩ := X
  intro ls H locs h1 h2 h3
  exact lv_aload hc.1 hc.2.1 hd (pl_at h1 hl) (k ls H locs h1 h2 h3)
theorem r_istore_n {X : Cxt} {g : GG} {cc : ByteArray} {own : String} {ret : Option FieldType} {hx : List (Nat × Nat × Nat × Nat)} {d kc ks : Nat} {Q : State → Prop} {w : Wd} {pc : Nat} {lp : List (Option Value)} {st : List Value} {j : Fin 4} {x : Int32} (hc : Ok X g cc own ret hx d) (hd : decode cc pc = .ok (.istore_n j, 1)) (hj : (j : Nat) < lp.length) (k : Go X g kc ks Q w (pc + 1) (lp.set (j : Nat) (some (.int x))) st) : Go X g kc ks Q w pc lp (.int x :: st) := by
  obtain ⟨p, l, e, R, s, m, args, below, meth, c⟩ := X
  intro ls H locs h1 h2 h3
  obtain ⟨ls', e', h'⟩ := pl_store (v := .int x) h1 (Nat.lt_of_lt_of_le hj (pl_le h1)) rfl
  intro T hT X
  obtain ⟨t, a, b⟩ := k ls' H locs h' h2 h3 T hT X
  refine ⟨t, ?_, b⟩
  jvm_step X.here [X.here.top, ↓top_set X.here.top, hc.1, hc.2.1, hd, e']
  exact a
theorem r_istore {X : Cxt} {g : GG} {cc : ByteArray} {own : String} {ret : Option FieldType} {hx : List (Nat × Nat × Nat × Nat)} {d kc ks : Nat} {Q : State → Prop} {w : Wd} {pc : Nat} {lp : List (Option Value)} {st : List Value} {j : Nat} {x : Int32} (hc : Ok X g cc own ret hx d) (hd : decode cc pc = .ok (.istore j, 2)) (hj : j < lp.length) (k : Go X g kc ks Q w (pc + 2) (lp.set j (some (.int x))) st) : Go X g kc ks Q w pc lp (.int x :: st) := by
  obtain ⟨p, l, e, R, s, m, args, below, meth, c⟩ := X
  intro ls H locs h1 h2 h3
  obtain ⟨ls', e', h'⟩ := pl_store (v := .int x) h1 (Nat.lt_of_lt_of_le hj (pl_le h1)) rfl
  intro T hT X
  obtain ⟨t, a, b⟩ := k ls' H locs h' h2 h3 T hT X
  refine ⟨t, ?_, b⟩
  jvm_step X.here [X.here.top, ↓top_set X.here.top, hc.1, hc.2.1, hd, e']
  exact a
theorem r_astore_n {X : Cxt} {g : GG} {cc : ByteArray} {own : String} {ret : Option FieldType} {hx : List (Nat × Nat × Nat × Nat)} {d kc ks : Nat} {Q : State → Prop} {w : Wd} {pc : Nat} {lp : List (Option Value)} {st : List Value} {j : Fin 4} {x : Nat} (hc : Ok X g cc own ret hx d) (hd : decode cc pc = .ok (.astore_n j, 1)) (hj : (j : Nat) < lp.length) (k : Go X g kc ks Q w (pc + 1) (lp.set (j : Nat) (some (.ref x))) st) : Go X g kc ks Q w pc lp (.ref x :: st) := by
  obtain ⟨p, l, e, R, s, m, args, below, meth, c⟩ := X
  intro ls H locs h1 h2 h3
  obtain ⟨ls', e', h'⟩ := pl_store (v := .ref x) h1 (Nat.lt_of_lt_of_le hj (pl_le h1)) rfl
  intro T hT X
  obtain ⟨t, a, b⟩ := k ls' H locs h' h2 h3 T hT X
  refine ⟨t, ?_, b⟩
  jvm_step X.here [X.here.top, ↓top_set X.here.top, hc.1, hc.2.1, hd, e']
  exact ⟨rfl, a⟩
theorem r_astore {X : Cxt} {g : GG} {cc : ByteArray} {own : String} {ret : Option FieldType} {hx : List (Nat × Nat × Nat × Nat)} {d kc ks : Nat} {Q : State → Prop} {w : Wd} {pc : Nat} {lp : List (Option Value)} {st : List Value} {j : Nat} {x : Nat} (hc : Ok X g cc own ret hx d) (hd : decode cc pc = .ok (.astore j, 2)) (hj : j < lp.length) (k : Go X g kc ks Q w (pc + 2) (lp.set j (some (.ref x))) st) : Go X g kc ks Q w pc lp (.ref x :: st) := by
  obtain ⟨p, l, e, R, s, m, args, below, meth, c⟩ := X
  intro ls H locs h1 h2 h3
  obtain ⟨ls', e', h'⟩ := pl_store (v := .ref x) h1 (Nat.lt_of_lt_of_le hj (pl_le h1)) rfl
  intro T hT X
  obtain ⟨t, a, b⟩ := k ls' H locs h' h2 h3 T hT X
  refine ⟨t, ?_, b⟩
  jvm_step X.here [X.here.top, ↓top_set X.here.top, hc.1, hc.2.1, hd, e']
  exact ⟨rfl, a⟩
theorem r_iinc {X : Cxt} {g : GG} {cc : ByteArray} {own : String} {ret : Option FieldType} {hx : List (Nat × Nat × Nat × Nat)} {d kc ks : Nat} {Q : State → Prop} {w : Wd} {pc : Nat} {lp : List (Option Value)} {st : List Value} {j : Nat} {n : Int} {x : Int32} (hc : Ok X g cc own ret hx d) (hd : decode cc pc = .ok (.iinc j n, 3)) (hl : lp[j]? = some (some (.int x))) (k : Go X g kc ks Q w (pc + 3) (lp.set j (some (.int (x + Int32.ofInt n)))) st) : Go X g kc ks Q w pc lp st := by
  obtain ⟨p, l, e, R, s, m, args, below, meth, c⟩ := X
  intro ls H locs h1 h2 h3
  have hj : j < lp.length := (List.getElem?_eq_some_iff.mp hl).1
  have hg := (pl_at h1 hl)
  obtain ⟨ls', e', h'⟩ := pl_store (v := .int (x + Int32.ofInt n)) h1 (Nat.lt_of_lt_of_le hj (pl_le h1)) rfl
  intro T hT X
  obtain ⟨t, a, b⟩ := k ls' H locs h' h2 h3 T hT X
  refine ⟨t, ?_, b⟩
  jvm_step X.here [X.here.top, ↓top_set X.here.top, hc.1, hc.2.1, hd, hg, e']
  exact a
theorem r_dup {X : Cxt} {g : GG} {cc : ByteArray} {own : String} {ret : Option FieldType} {hx : List (Nat × Nat × Nat × Nat)} {d kc ks : Nat} {Q : State → Prop} {w : Wd} {pc : Nat} {lp : List (Option Value)} {st : List Value} {va : Value} (hc : Ok X g cc own ret hx d) (hd : decode cc pc = .ok (.dup, 1)) (hva : va.category = 1) (k : Go X g kc ks Q w (pc + 1) lp (va :: va :: st)) : Go X g kc ks Q w pc lp (va :: st) := by
  obtain ⟨p, l, e, R, s, m, args, below, meth, c⟩ := X
  intro ls H locs h1 h2 h3
  exact lv_dup hc.1 hc.2.1 hd hva (k ls H locs h1 h2 h3)
theorem r_pop {X : Cxt} {g : GG} {cc : ByteArray} {own : String} {ret : Option FieldType} {hx : List (Nat × Nat × Nat × Nat)} {d kc ks : Nat} {Q : State → Prop} {w : Wd} {pc : Nat} {lp : List (Option Value)} {st : List Value} {va : Value} (hc : Ok X g cc own ret hx d) (hd : decode cc pc = .ok (.pop, 1)) (hva : va.category = 1) (k : Go X g kc ks Q w (pc + 1) lp st) : Go X g kc ks Q w pc lp (va :: st) := by
  obtain ⟨p, l, e, R, s, m, args, below, meth, c⟩ := X
  intro ls H locs h1 h2 h3
  exact lv_pop hc.1 hc.2.1 hd hva (k ls H locs h1 h2 h3)
theorem r_dup_x1 {X : Cxt} {g : GG} {cc : ByteArray} {own : String} {ret : Option FieldType} {hx : List (Nat × Nat × Nat × Nat)} {d kc ks : Nat} {Q : State → Prop} {w : Wd} {pc : Nat} {lp : List (Option Value)} {st : List Value} {va vb : Value} (hc : Ok X g cc own ret hx d) (hd : decode cc pc = .ok (.dup_x1, 1)) (hva : va.category = 1) (hvb : vb.category = 1) (k : Go X g kc ks Q w (pc + 1) lp (va :: vb :: va :: st)) : Go X g kc ks Q w pc lp (va :: vb :: st) := by
  obtain ⟨p, l, e, R, s, m, args, below, meth, c⟩ := X
  intro ls H locs h1 h2 h3
  exact lv_dup_x1 hc.1 hc.2.1 hd hva hvb (k ls H locs h1 h2 h3)
theorem r_dup2 {X : Cxt} {g : GG} {cc : ByteArray} {own : String} {ret : Option FieldType} {hx : List (Nat × Nat × Nat × Nat)} {d kc ks : Nat} {Q : State → Prop} {w : Wd} {pc : Nat} {lp : List (Option Value)} {st : List Value} {va vb : Value} (hc : Ok X g cc own ret hx d) (hd : decode cc pc = .ok (.dup2, 1)) (hva : va.category = 1) (hvb : vb.category = 1) (k : Go X g kc ks Q w (pc + 1) lp (va :: vb :: va :: vb :: st)) : Go X g kc ks Q w pc lp (va :: vb :: st) := by
  obtain ⟨p, l, e, R, s, m, args, below, meth, c⟩ := X
  intro ls H locs h1 h2 h3
  exact lv_dup2_11 hc.1 hc.2.1 hd hva hvb (k ls H locs h1 h2 h3)
theorem r_if_eq {X : Cxt} {g : GG} {cc : ByteArray} {own : String} {ret : Option FieldType} {hx : List (Nat × Nat × Nat × Nat)} {d kc ks : Nat} {Q : State → Prop} {w : Wd} {pc : Nat} {lp : List (Option Value)} {st : List Value} {x : Int32} {off : Int} {tgt : Nat} (hc : Ok X g cc own ret hx d) (hd : decode cc pc = .ok (.ifCond .eq off, 3)) (ht : (pc : Int) + off = (tgt : Int)) (kt : x = 0 → Go X g kc ks Q w tgt lp st) (kf : ¬ x = 0 → Go X g kc ks Q w (pc + 3) lp st) : Go X g kc ks Q w pc lp (.int x :: st) := by
  obtain ⟨p, l, e, R, s, m, args, below, meth, c⟩ := X
  intro ls H locs h1 h2 h3
  exact lv_if_eq hc.1 hc.2.1 hd ht (fun q => kt q ls H locs h1 h2 h3) (fun q => kf q ls H locs h1 h2 h3)
theorem r_if_ne {X : Cxt} {g : GG} {cc : ByteArray} {own : String} {ret : Option FieldType} {hx : List (Nat × Nat × Nat × Nat)} {d kc ks : Nat} {Q : State → Prop} {w : Wd} {pc : Nat} {lp : List (Option Value)} {st : List Value} {x : Int32} {off : Int} {tgt : Nat} (hc : Ok X g cc own ret hx d) (hd : decode cc pc = .ok (.ifCond .ne off, 3)) (ht : (pc : Int) + off = (tgt : Int)) (kt : ¬ x = 0 → Go X g kc ks Q w tgt lp st) (kf : x = 0 → Go X g kc ks Q w (pc + 3) lp st) : Go X g kc ks Q w pc lp (.int x :: st) := by
  obtain ⟨p, l, e, R, s, m, args, below, meth, c⟩ := X
  intro ls H locs h1 h2 h3
  exact lv_if_ne hc.1 hc.2.1 hd ht (fun q => kt q ls H locs h1 h2 h3) (fun q => kf q ls H locs h1 h2 h3)
theorem r_if_lt {X : Cxt} {g : GG} {cc : ByteArray} {own : String} {ret : Option FieldType} {hx : List (Nat × Nat × Nat × Nat)} {d kc ks : Nat} {Q : State → Prop} {w : Wd} {pc : Nat} {lp : List (Option Value)} {st : List Value} {x : Int32} {off : Int} {tgt : Nat} (hc : Ok X g cc own ret hx d) (hd : decode cc pc = .ok (.ifCond .lt off, 3)) (ht : (pc : Int) + off = (tgt : Int)) (kt : x < 0 → Go X g kc ks Q w tgt lp st) (kf : ¬ x < 0 → Go X g kc ks Q w (pc + 3) lp st) : Go X g kc ks Q w pc lp (.int x :: st) := by
  obtain ⟨p, l, e, R, s, m, args, below, meth, c⟩ := X
  intro ls H locs h1 h2 h3
  exact lv_if_lt hc.1 hc.2.1 hd ht (fun q => kt q ls H locs h1 h2 h3) (fun q => kf q ls H locs h1 h2 h3)
theorem r_if_ge {X : Cxt} {g : GG} {cc : ByteArray} {own : String} {ret : Option FieldType} {hx : List (Nat × Nat × Nat × Nat)} {d kc ks : Nat} {Q : State → Prop} {w : Wd} {pc : Nat} {lp : List (Option Value)} {st : List Value} {x : Int32} {off : Int} {tgt : Nat} (hc : Ok X g cc own ret hx d) (hd : decode cc pc = .ok (.ifCond .ge off, 3)) (ht : (pc : Int) + off = (tgt : Int)) (kt : 0 ≤ x → Go X g kc ks Q w tgt lp st) (kf : ¬ 0 ≤ x → Go X g kc ks Q w (pc + 3) lp st) : Go X g kc ks Q w pc lp (.int x :: st) := by
  obtain ⟨p, l, e, R, s, m, args, below, meth, c⟩ := X
  intro ls H locs h1 h2 h3
  exact lv_if_ge hc.1 hc.2.1 hd ht (fun q => kt q ls H locs h1 h2 h3) (fun q => kf q ls H locs h1 h2 h3)
theorem r_if_gt {X : Cxt} {g : GG} {cc : ByteArray} {own : String} {ret : Option FieldType} {hx : List (Nat × Nat × Nat × Nat)} {d kc ks : Nat} {Q : State → Prop} {w : Wd} {pc : Nat} {lp : List (Option Value)} {st : List Value} {x : Int32} {off : Int} {tgt : Nat} (hc : Ok X g cc own ret hx d) (hd : decode cc pc = .ok (.ifCond .gt off, 3)) (ht : (pc : Int) + off = (tgt : Int)) (kt : 0 < x → Go X g kc ks Q w tgt lp st) (kf : ¬ 0 < x → Go X g kc ks Q w (pc + 3) lp st) : Go X g kc ks Q w pc lp (.int x :: st) := by
  obtain ⟨p, l, e, R, s, m, args, below, meth, c⟩ := X
  intro ls H locs h1 h2 h3
  exact lv_if_gt hc.1 hc.2.1 hd ht (fun q => kt q ls H locs h1 h2 h3) (fun q => kf q ls H locs h1 h2 h3)
theorem r_if_le {X : Cxt} {g : GG} {cc : ByteArray} {own : String} {ret : Option FieldType} {hx : List (Nat × Nat × Nat × Nat)} {d kc ks : Nat} {Q : State → Prop} {w : Wd} {pc : Nat} {lp : List (Option Value)} {st : List Value} {x : Int32} {off : Int} {tgt : Nat} (hc : Ok X g cc own ret hx d) (hd : decode cc pc = .ok (.ifCond .le off, 3)) (ht : (pc : Int) + off = (tgt : Int)) (kt : x ≤ 0 → Go X g kc ks Q w tgt lp st) (kf : ¬ x ≤ 0 → Go X g kc ks Q w (pc + 3) lp st) : Go X g kc ks Q w pc lp (.int x :: st) := by
  obtain ⟨p, l, e, R, s, m, args, below, meth, c⟩ := X
  intro ls H locs h1 h2 h3
  exact lv_if_le hc.1 hc.2.1 hd ht (fun q => kt q ls H locs h1 h2 h3) (fun q => kf q ls H locs h1 h2 h3)
theorem r_ic_eq {X : Cxt} {g : GG} {cc : ByteArray} {own : String} {ret : Option FieldType} {hx : List (Nat × Nat × Nat × Nat)} {d kc ks : Nat} {Q : State → Prop} {w : Wd} {pc : Nat} {lp : List (Option Value)} {st : List Value} {x y : Int32} {off : Int} {tgt : Nat} (hc : Ok X g cc own ret hx d) (hd : decode cc pc = .ok (.if_icmp .eq off, 3)) (ht : (pc : Int) + off = (tgt : Int)) (kt : x = y → Go X g kc ks Q w tgt lp st) (kf : ¬ x = y → Go X g kc ks Q w (pc + 3) lp st) : Go X g kc ks Q w pc lp (.int y :: .int x :: st) := by
  obtain ⟨p, l, e, R, s, m, args, below, meth, c⟩ := X
  intro ls H locs h1 h2 h3
  exact lv_icmp_eq hc.1 hc.2.1 hd ht (fun q => kt q ls H locs h1 h2 h3) (fun q => kf q ls H locs h1 h2 h3)
theorem r_ic_ne {X : Cxt} {g : GG} {cc : ByteArray} {own : String} {ret : Option FieldType} {hx : List (Nat × Nat × Nat × Nat)} {d kc ks : Nat} {Q : State → Prop} {w : Wd} {pc : Nat} {lp : List (Option Value)} {st : List Value} {x y : Int32} {off : Int} {tgt : Nat} (hc : Ok X g cc own ret hx d) (hd : decode cc pc = .ok (.if_icmp .ne off, 3)) (ht : (pc : Int) + off = (tgt : Int)) (kt : ¬ x = y → Go X g kc ks Q w tgt lp st) (kf : x = y → Go X g kc ks Q w (pc + 3) lp st) : Go X g kc ks Q w pc lp (.int y :: .int x :: st) := by
  obtain ⟨p, l, e, R, s, m, args, below, meth, c⟩ := X
  intro ls H locs h1 h2 h3
  exact lv_icmp_ne hc.1 hc.2.1 hd ht (fun q => kt q ls H locs h1 h2 h3) (fun q => kf q ls H locs h1 h2 h3)
theorem r_ic_lt {X : Cxt} {g : GG} {cc : ByteArray} {own : String} {ret : Option FieldType} {hx : List (Nat × Nat × Nat × Nat)} {d kc ks : Nat} {Q : State → Prop} {w : Wd} {pc : Nat} {lp : List (Option Value)} {st : List Value} {x y : Int32} {off : Int} {tgt : Nat} (hc : Ok X g cc own ret hx d) (hd : decode cc pc = .ok (.if_icmp .lt off, 3)) (ht : (pc : Int) + off = (tgt : Int)) (kt : x < y → Go X g kc ks Q w tgt lp st) (kf : ¬ x < y → Go X g kc ks Q w (pc + 3) lp st) : Go X g kc ks Q w pc lp (.int y :: .int x :: st) := by
  obtain ⟨p, l, e, R, s, m, args, below, meth, c⟩ := X
  intro ls H locs h1 h2 h3
  exact lv_icmp_lt hc.1 hc.2.1 hd ht (fun q => kt q ls H locs h1 h2 h3) (fun q => kf q ls H locs h1 h2 h3)
theorem r_ic_ge {X : Cxt} {g : GG} {cc : ByteArray} {own : String} {ret : Option FieldType} {hx : List (Nat × Nat × Nat × Nat)} {d kc ks : Nat} {Q : State → Prop} {w : Wd} {pc : Nat} {lp : List (Option Value)} {st : List Value} {x y : Int32} {off : Int} {tgt : Nat} (hc : Ok X g cc own ret hx d) (hd : decode cc pc = .ok (.if_icmp .ge off, 3)) (ht : (pc : Int) + off = (tgt : Int)) (kt : y ≤ x → Go X g kc ks Q w tgt lp st) (kf : ¬ y ≤ x → Go X g kc ks Q w (pc + 3) lp st) : Go X g kc ks Q w pc lp (.int y :: .int x :: st) := by
  obtain ⟨p, l, e, R, s, m, args, below, meth, c⟩ := X
  intro ls H locs h1 h2 h3
  exact lv_icmp_ge hc.1 hc.2.1 hd ht (fun q => kt q ls H locs h1 h2 h3) (fun q => kf q ls H locs h1 h2 h3)
theorem r_ic_gt {X : Cxt} {g : GG} {cc : ByteArray} {own : String} {ret : Option FieldType} {hx : List (Nat × Nat × Nat × Nat)} {d kc ks : Nat} {Q : State → Prop} {w : Wd} {pc : Nat} {lp : List (Option Value)} {st : List Value} {x y : Int32} {off : Int} {tgt : Nat} (hc : Ok X g cc own ret hx d) (hd : decode cc pc = .ok (.if_icmp .gt off, 3)) (ht : (pc : Int) + off = (tgt : Int)) (kt : y < x → Go X g kc ks Q w tgt lp st) (kf : ¬ y < x → Go X g kc ks Q w (pc + 3) lp st) : Go X g kc ks Q w pc lp (.int y :: .int x :: st) := by
  obtain ⟨p, l, e, R, s, m, args, below, meth, c⟩ := X
  intro ls H locs h1 h2 h3
  exact lv_icmp_gt hc.1 hc.2.1 hd ht (fun q => kt q ls H locs h1 h2 h3) (fun q => kf q ls H locs h1 h2 h3)
theorem r_ic_le {X : Cxt} {g : GG} {cc : ByteArray} {own : String} {ret : Option FieldType} {hx : List (Nat × Nat × Nat × Nat)} {d kc ks : Nat} {Q : State → Prop} {w : Wd} {pc : Nat} {lp : List (Option Value)} {st : List Value} {x y : Int32} {off : Int} {tgt : Nat} (hc : Ok X g cc own ret hx d) (hd : decode cc pc = .ok (.if_icmp .le off, 3)) (ht : (pc : Int) + off = (tgt : Int)) (kt : x ≤ y → Go X g kc ks Q w tgt lp st) (kf : ¬ x ≤ y → Go X g kc ks Q w (pc + 3) lp st) : Go X g kc ks Q w pc lp (.int y :: .int x :: st) := by
  obtain ⟨p, l, e, R, s, m, args, below, meth, c⟩ := X
  intro ls H locs h1 h2 h3
  exact lv_icmp_le hc.1 hc.2.1 hd ht (fun q => kt q ls H locs h1 h2 h3) (fun q => kf q ls H locs h1 h2 h3)
theorem r_goto {X : Cxt} {g : GG} {cc : ByteArray} {own : String} {ret : Option FieldType} {hx : List (Nat × Nat × Nat × Nat)} {d kc ks : Nat} {Q : State → Prop} {w : Wd} {pc : Nat} {lp : List (Option Value)} {st : List Value} {off : Int} {tgt : Nat} (hc : Ok X g cc own ret hx d) (hd : decode cc pc = .ok (.goto off, 3)) (ht : (pc : Int) + off = (tgt : Int)) (k : Go X g kc ks Q w tgt lp st) : Go X g kc ks Q w pc lp st := by
  obtain ⟨p, l, e, R, s, m, args, below, meth, c⟩ := X
  intro ls H locs h1 h2 h3
  exact lv_goto hc.1 hc.2.1 hd ht (k ls H locs h1 h2 h3)
theorem r_lcmp {X : Cxt} {g : GG} {cc : ByteArray} {own : String} {ret : Option FieldType} {hx : List (Nat × Nat × Nat × Nat)} {d kc ks : Nat} {Q : State → Prop} {w : Wd} {pc : Nat} {lp : List (Option Value)} {st : List Value} {x y : Int64} (hc : Ok X g cc own ret hx d) (hd : decode cc pc = .ok (.lcmp, 1)) (k : Go X g kc ks Q w (pc + 1) lp (.int (lg_cmp x y) :: st)) : Go X g kc ks Q w pc lp (.long y :: .long x :: st) := by
  obtain ⟨p, l, e, R, s, m, args, below, meth, c⟩ := X
  intro ls H locs h1 h2 h3
  exact W.lcmp hc.1 hc.2.1 hd (k ls H locs h1 h2 h3)

