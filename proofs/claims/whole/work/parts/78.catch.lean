/-! an exception in flight is caught -/
theorem row_of {c : Code} {pre : List (Nat × Nat × Nat × Nat)} {x : Nat × Nat × Nat × Nat} {rest : List (Nat × Nat × Nat × Nat)} (h : c.exceptionTable.toList.map (fun h => (h.startPc, h.endPc, h.handlerPc, h.catchType)) = pre ++ x :: rest) :
    ∃ (p1 : List ExceptionTableEntry) (y : ExceptionTableEntry) (r1 : List ExceptionTableEntry), c.exceptionTable.toList = p1 ++ y :: r1 ∧ p1.map (fun h => (h.startPc, h.endPc, h.handlerPc, h.catchType)) = pre ∧ (y.startPc, y.endPc, y.handlerPc, y.catchType) = x := by
  obtain ⟨l1, l2, h1, h2, h3⟩ := List.map_eq_append_iff.mp h
  obtain ⟨y, r1, h4, h5, h6⟩ := List.map_eq_cons_iff.mp h3
  exact ⟨l1, y, r1, by rw [h1, h4], h2, h5⟩
/-- a row before it is passed: what it names is another class -/
theorem row_passed {p : Program} {l : Launch} {e : Env} {R : Room} {s : State} {m : MethodId} {args : Array Value} {below : List Frame} {meth : Method} {c : Code} {g : GG} {cc : ByteArray} {own : String} {ret : Option FieldType} {hx : List (Nat × Nat × Nat × Nat)} {d pc : Nat} {cn cm : String} {y : ExceptionTableEntry} {thrown : ClassId}
    (hc : Ok (p, l, e, R, s, m, args, below, meth, c) g cc own ret hx d) (hpl : e.platform.magicAccessors = ({} : Platform).magicAccessors) (h0 : y.catchType ≠ 0) (hl : Cond.classLink own y.catchType cm ∈ Ttab) (hn : (cn, cm) ∈ nPairs) (ht : s.vm.findClass cn = some thrown) : RowPassed e.platform s m.cls pc thrown y := by
  obtain ⟨c', hc', hcl⟩ := Cond.classLink_spec hc.2.2.1 (hc.2.2.2.1 _ hl) e.platform hpl
  obtain ⟨a, b, h1, h2, h3⟩ := hc.2.2.2.2.2.2.2.2.2.2.2.2.2 (cn, cm) hn
  cases Option.some.inj (h1.symm.trans ht)
  cases Option.some.inj (h2.symm.trans hc')
  exact Or.inr ⟨h0, _, hcl, h3⟩
theorem x_catch {X : Cxt} {g : GG} {cc : ByteArray} {own : String} {ret : Option FieldType} {pre rest : List (Nat × Nat × Nat × Nat)} {a b hp ct : Nat} {d kc ks : Nat} {Q : State → Prop} {w : Wd} {pc : Nat} {lp : List (Option Value)} {cn : String}
    (hc : Ok X g cc own ret (pre ++ (a, b, hp, ct) :: rest) d) (hab : a ≤ pc ∧ pc < b) (h0 : ct ≠ 0) (hl : Cond.classLink own ct cn ∈ Ttab) (hcast : Cond.castable cn cn ∈ Ttab)
    (hpre : ∀ r ∈ pre, r.2.2.2 ≠ 0 ∧ ∃ cm, Cond.classLink own r.2.2.2 cm ∈ Ttab ∧ (cn, cm) ∈ nPairs)
    (k : ∀ x : Nat, Go X g kc ks Q w hp lp [.ref x]) : GoX X g kc ks Q w pc lp cn := by
  obtain ⟨p, l, e, R, s, m, args, below, meth, c⟩ := X
  intro ls T locs x cell st h1 Y h2 h3 h4 h5 h6 h7
  have hc0 := hc
  have hpl : e.platform.magicAccessors = ({} : Platform).magicAccessors := by rw [Y.admits.platform]
  obtain ⟨c1, c2, c3, c4, c5, c6, c7, c8, c9, c10, c11, c12⟩ := hc
  obtain ⟨p1, y, r1, e1, e2, e3⟩ := row_of c9
  simp only [Prod.mk.injEq] at e3
  obtain ⟨f1, f2, f3, f4⟩ := e3
  obtain ⟨c3', c4', q3, q4, hasg⟩ := Cond.castable_spec (c4 _ hcast)
  cases Option.some.inj (q3.symm.trans h5)
  cases Option.some.inj (q4.symm.trans h5)
  obtain ⟨hend, hk0⟩ := Y.catches_of_link (own := own) (name := cn) c3 (x := y) (by rw [f4]; exact h0) (by rw [f4]; exact c4 _ hl) h5 hasg
  obtain ⟨vm', Y2, st2⟩ := Y.caughtThrough x (g := F0 m pc ls st) rfl h4 (by rw [h6]; rfl) hk0 p1 y r1 e1 (fun z hz => by
    obtain ⟨n0, cm, n1, n2⟩ := hpre (z.startPc, z.endPc, z.handlerPc, z.catchType) (by rw [← e2]; exact List.mem_map_of_mem hz)
    exact row_passed hc0 hpl n0 n1 n2 h5) (by simp only [covers, f1, f2]; simp; exact hab) hend
  obtain ⟨t, a1, a2⟩ := k x ls (T.setVm vm').heap locs h1 h2 h3 (T.setVm vm') rfl Y2
  refine ⟨t, ?_, a2⟩
  rw [Y.pushThrowing_eq]
  exact st2 t (by rw [f3]; exact a1)
