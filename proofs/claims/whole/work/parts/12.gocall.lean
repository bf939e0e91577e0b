theorem steps_weaken {tb : Tables} {e : Env} {mid below : List Frame} {a b : State} (h : Steps tb e (mid ++ below) a b) : Steps tb e below a b := by
  obtain ⟨n, hn, w⟩ := h
  exact ⟨n, hn, fun k hk => (w k hk).weaken⟩
theorem AA_mono {g : GG} {s s1 : State} {H : Heap} {locs : List Loc} (hS : va_S (AA g s) s.heap H locs) (h1 : s1.heap = H) {q : Nat} (h : AA g s1 q) : AA g s q := by
  rcases h with h | h
  · exact Or.inl h
  · exact Or.inr (Nat.le_trans hS.1 (by rw [← h1]; exact h))
theorem Zs.move {g : GG} {s U : State} {locs : List Loc} (h : Zs g s) (hW : s.WarmedH U.vm) (hS : va_S (AA g s) s.heap U.heap locs) : Zs g U := by
  obtain ⟨⟨aS, c0, h1, h2, h3⟩, h4⟩ := h
  refine ⟨⟨aS, c0, ?_, fun z => h2 (AA_mono hS rfl z), fun V hV hcell => h3 V (State.WarmedH.trans hW hV) hcell⟩, fun q hq => ?_⟩
  · rw [hS.2.1 aS (Array.getElem?_eq_some_iff.mp h1).1 h2]
    exact h1
  · obtain ⟨c, t, a1, a2, a3⟩ := h4 q hq
    exact ⟨c, t, by rw [hW.alike.findClass]; exact a1, by rw [hW.alike.findClass]; exact a2, by rw [hW.alike.assignable]; exact a3⟩
/-- what a callee's frame does to the caller's -/
theorem S_join {g : GG} {s s1 t : State} {H : Heap} {locs L : List Loc} (hS : va_S (AA g s) s.heap H locs) (h1 : s1.heap = H) (hF : va_F (AA g s1) s1 t) (hL : ∀ q ∈ L, AA g s1 q.base) : va_S (AA g s) s.heap t.heap (locs ++ L) := by
  refine ⟨Nat.le_trans hS.1 (by rw [← h1]; exact hF.1), fun q q1 q2 => ?_, fun q hq => ?_⟩
  · have hlt : q < s1.heap.size := by rw [h1]; exact Nat.lt_of_lt_of_le q1 hS.1
    rw [hF.2 q hlt (fun h => q2 (AA_mono hS h1 h)), h1]
    exact hS.2.1 q q1 q2
  · rcases List.mem_append.mp hq with h | h
    · exact hS.2.2 q h
    · exact AA_mono hS h1 (hL q h)
section GCALL
variable {p : Program} {l : Launch} {e : Env} {R : Room} {s : State} {m : MethodId} {args : Array Value} {below : List Frame} {meth : Method} {c : Code} {U : State} {locs : List Loc} {kc ks : Nat}
variable {g : GG} {cc : ByteArray} {own : String} {ret : Option FieldType} {hx : List (Nat × Nat × Nat × Nat)} {d0 : Nat}
variable {y : MethodName} {cc' : ByteArray} {nL' : Nat} {ret' : Option FieldType} {hx' : List (Nat × Nat × Nat × Nat)} {d k n : Nat} {av : List Value} {w : Wd} {P : Rt → Wd → Prop}
theorem call_core (X : Stand p l e R s m args below meth c U locs kc ks) (hc : Ok (p, l, e, R, s, m, args, below, meth, c) g cc own ret hx d0) (hcon : Con l g y cc' nL' ret' hx' d k n av w P)
    {f : JFrame} (hf : f.method = m) (hsize : f.locals.size = c.maxLocals) {ig : Instr} {len : Nat} (hdg : decode c.code f.pc = .ok (ig, len))
    {mk : MethodId} {methk : Method} {ck : Code} (hn : s.methodNamed? y = some mk) (hmk : s.vm.method? mk = some methk) (hck : methk.code = some ck) (hb : ck.code = cc') (hml : ck.maxLocals = nL') (hre : methk.sig.returnType = ret') (hlk : methk.locks = false)
    (hh : ck.exceptionTable.toList.map (fun h => (h.startPc, h.endPc, h.handlerPc, h.catchType)) = hx') (hpl : plainFor y = true) (hav : ∀ v ∈ av, v.category = 1) (hal : av.length ≤ nL')
    (hw : 2 * f.monitorRoom + (f.stack.map fun v => v.category).sum ≤ 8) (hfr : d + 1 ≤ R.frames) (hlo : 8 + (nL' + 11) + 30 * d ≤ R.locals) (hcells : kc + k ≤ R.cells) (hslots : ks + n ≤ R.slots)
    (hP : va_P g.2.1 classes (cellsOf g w) U.heap) (hS : va_S (AA g s) s.heap U.heap locs) :
    ∃ (r : Rt) (w' : Wd), P r w' ∧
      ((∃ v, r = .inl v ∧ ∃ (T' : State) (locs' : List Loc), Stand p l e R s m args below meth c T' locs' (kc + k) (ks + n) ∧ va_P g.2.1 classes (cellsOf g w') T'.heap ∧ va_S (AA g s) s.heap T'.heap locs' ∧
          Steps p.tables e below (doInvoke e (U.setTop f) [] mk av.toArray).1 (T'.setTop { f with pc := f.pc + len, stack := v.toList ++ f.stack })) ∨
        (∃ cn, r = .inr cn ∧ ∃ (T' : State) (locs' : List Loc) (x : Nat) (cell : Cell), Stand p l e R s m args below meth c T' locs' (kc + k) (ks + n) ∧ va_P g.2.1 classes (cellsOf g w') T'.heap ∧ va_S (AA g s) s.heap T'.heap locs' ∧
          T'.heap[x]? = some cell ∧ s.vm.findClass cn = some cell.cls ∧ cell.vm = .none ∧ s.heap.size ≤ x ∧
          Steps p.tables e below (doInvoke e (U.setTop f) [] mk av.toArray).1 ((T'.setTop f).pushFrame (.throwing x)))) := by
  obtain ⟨c1, -, -, c4, c5, c6, -, -, -, -, -, c12⟩ := hc
  have hmk' : U.vm.method? mk = some methk := by rw [X.warmed.alike.method?]; exact hmk
  have hn' : U.methodNamed? y = some mk := X.named hn
  have hplain : U.plainMethod mk := State.plainMethod.of_named hpl hn' hmk'
  obtain ⟨Y, hst⟩ := X.into hf hsize hdg av.toArray (R' := { frames := d, cells := k, slots := n, locals := 30 * d }) hmk' hck hlk hplain hfr (by rw [hml]; show _ + _ + (nL' + 11) + 30 * d ≤ _; omega) hcells hslots
  have hOk : Ok (p, l, e, { frames := d, cells := k, slots := n, locals := 30 * d }, U.calling f mk av.toArray, mk, av.toArray, .java f :: below, methk, ck) g cc' y.cls ret' hx' d :=
    ⟨c1, hb, findClass_of_methodNamed hn', Tb.warm (U := U.calling f mk av.toArray) X.warmed c4, va_K.moved (u := s) (U := U.calling f mk av.toArray) X.warmed.alike c5, c6, hlk, hre, hh, Nat.le_refl _, Nat.le_refl _, c12.1, Zs.move (U := U.calling f mk av.toArray) c12.2 X.warmed hS⟩
  have hgo := hcon _ rfl rfl hml (Nat.le_refl _) (Nat.le_refl _) hOk
  have hW := hgo _ U.heap [] (by rw [hml]; exact pl_entry hav hal) hP (va_S.rf (A := AA g (U.calling f mk av.toArray)) (H0 := U.heap))
  rw [← lg_entry_eq, ← hml] at hW
  obtain ⟨t, hsteps, r, w', oc, L, q1, q2, q3, q4, q5, q6, q7, q8, q9⟩ := hW ((U.setTop f).pushFrame (.java (entryFrame mk av.toArray ck.maxLocals))) rfl Y
  have hst0 := hst []
  have hheap1 : (U.calling f mk av.toArray).heap = U.heap := rfl
  refine ⟨r, w', q1, ?_⟩
  cases r with
  | inl v =>
    have q4 : oc = .returned v := q4
    subst q4
    obtain ⟨T', X', -, -, ht⟩ := X.outOf hf hdg q3 q7 q8
    have hh1 : t.heap = T'.heap := by rw [ht]; rfl
    refine Or.inl ⟨v, rfl, T', locs ++ L, X', by rw [← hh1]; exact q5, by rw [← hh1]; exact S_join hS hheap1 q6 q9, ?_⟩
    rw [hst0, ← ht]
    exact steps_weaken (mid := [.java f]) hsteps
  | inr cn =>
    obtain ⟨x, cell, e1, e2, e3, e4, e5⟩ := q4
    subst e1
    obtain ⟨T', X', -, -, ht⟩ := X.outOfThrown hf q3 q7 q8
    have hh1 : t.heap = T'.heap := by rw [ht]; rfl
    refine Or.inr ⟨cn, rfl, T', locs ++ L, x, cell, X', by rw [← hh1]; exact q5, by rw [← hh1]; exact S_join hS hheap1 q6 q9, by rw [← hh1]; exact e2, ?_, e4, Nat.le_trans hS.1 (by rw [← hheap1]; exact e5), ?_⟩
    · have e3' : U.vm.findClass cn = some cell.cls := e3
      rw [← X.warmed.alike.findClass]
      exact e3'
    · rw [hst0, ← ht]
      exact steps_weaken (mid := [.java f]) hsteps
end GCALL
section GCL
variable {X : Cxt} {g : GG} {cc : ByteArray} {own : String} {ret : Option FieldType} {hx : List (Nat × Nat × Nat × Nat)} {d kc ks : Nat} {Q : State → Prop} {w : Wd} {pc : Nat} {lp : List (Option Value)} {st : List Value}
variable {y : MethodName} {cc' : ByteArray} {nL' : Nat} {ret' : Option FieldType} {hx' : List (Nat × Nat × Nat × Nat)} {d' k n idx : Nat} {av : List Value} {P : Rt → Wd → Prop}
/-- an exception is on its way through the walked method -/
def GoX : Cxt → GG → Nat → Nat → (State → Prop) → Wd → Nat → List (Option Value) → String → Prop
  | (p, l, e, R, s, m, args, below, meth, c), g, kc, ks, Q, w, pc, lp, cn =>
    ∀ (ls : Array Slot) (T : State) (locs : List Loc) (x : Nat) (cell : Cell) (st : List Value), pl_has ls c.maxLocals lp → Stand p l e R s m args below meth c T locs kc ks → va_P g.2.1 classes (cellsOf g w) T.heap → va_S (AA g s) s.heap T.heap locs →
      T.heap[x]? = some cell → s.vm.findClass cn = some cell.cls → cell.vm = .none → s.heap.size ≤ x → ∃ t, Steps p.tables e below ((T.setTop (F0 m pc ls st)).pushFrame (.throwing x)) t ∧ Q t
/-- no handler: the method ends with it -/
theorem x_out {cn : String} (hc : Ok X g cc own ret [] d) (hP : P (.inr cn) w) : GoX X g kc ks (Fen X g kc ks P) w pc lp cn := by
  obtain ⟨p, l, e, R, s, m, args, below, meth, c⟩ := X
  intro ls T locs x cell st h1 Y h2 h3 h4 h5 h6 h7
  have hno : c.exceptionTable.toList = [] := List.map_eq_nil_iff.mp hc.2.2.2.2.2.2.2.2.1
  have hlk : meth.locks = false := hc.2.2.2.2.2.2.1
  obtain ⟨a1, a2, a3, a4, a5⟩ := Y.leaveThrown x (g := F0 m pc ls st) rfl rfl rfl (fun z hz => by rw [hno] at hz; cases hz) hlk
  exact ⟨_, a1, .inr cn, w, .threw x, locs, hP, a2, a3, ⟨x, cell, rfl, h4, h5, h6, h7⟩, h2, h3.F rfl, a4, a5, h3.2.2⟩
theorem ex_nil {c : Code} (h : c.exceptionTable.isEmpty = true) : c.exceptionTable.toList.map (fun h => (h.startPc, h.endPc, h.handlerPc, h.catchType)) = [] := by
  have : c.exceptionTable = #[] := by simpa using h
  rw [this]
  rfl
theorem r_callv {q ci : Nat} {C : String} {Tc : u_T} {N : Nat} {fs : List Value} (hc : Ok X g cc own ret hx d) (hd : decode cc pc = .ok (.invokevirtual idx, 3)) (hcon : Con X.2.1 g y cc' nL' ret' [] d' k n (.ref (g.1 q) :: av) w P)
    (hl : Cond.methodLink own idx y ∈ Ttab) (hin : Cond.instanceMethod y ∈ Ttab) (hsel : Cond.selects C y y ∈ Ttab) (hcode : Cond.code y cc' nL' ret' ∈ Ttab) (hy : y.cls ≠ "java/lang/invoke/MethodHandle" ∧ y.cls ≠ "java/lang/invoke/VarHandle") (hpl : plainFor y = true) (hnum : (parseMethodDescriptor y.desc).map (fun d => d.parameters.length) = some av.length)
    (hq : q < NC) (hob : ent g (w q) q = .inr (ci, fs)) (hci : classes[ci]? = some (C, Tc, N)) (hdd : d' + 1 ≤ d) (hnl : nL' ≤ 11) (hav : ∀ v ∈ av, v.category = 1) (hal : av.length + 1 ≤ nL') (hst : (st.map fun v => v.category).sum ≤ 8) (hcells : kc + k ≤ X.2.2.2.1.cells) (hslots : ks + n ≤ X.2.2.2.1.slots)
    (hret : ∀ (v : Option Value) (w' : Wd), P (.inl v) w' → Go X g (kc + k) (ks + n) Q w' (pc + 3) lp (v.toList ++ st)) (hthr : ∀ (cn : String) (w' : Wd), P (.inr cn) w' → GoX X g (kc + k) (ks + n) Q w' pc lp cn) : Go X g kc ks Q w pc lp (av.reverse ++ .ref (g.1 q) :: st) := by
  obtain ⟨p, l, e, R, s, m, args, below, meth, c⟩ := X
  intro ls H locs h1 h2 h3 T hT Y
  have hts := hc.2.2.2.1
  obtain ⟨mk, methM, hnamed, hmethM, hstM, habM⟩ := Cond.instanceMethod_spec (hts _ hin)
  obtain ⟨methM', cM, hmethM', hck, hb, hml, hre, hlk, hex, hsigM⟩ := Cond.code_spec hnamed (hts _ hcode)
  cases hmethM.symm.trans hmethM'
  obtain ⟨c2, r2, m2, q1, q2, q3, q4, kP, hkP, hkPi⟩ := Cond.selects_spec (hts _ hsel)
  obtain ⟨r0, e1, cellB, b1, b2, b3, b4⟩ := h2 q _ (by rw [cells_get g w hq, hob])
  have hr0 : r0 = (C, Tc, N) := Option.some.inj (e1.symm.trans hci)
  subst hr0
  have hcls : s.vm.findClass C = some cellB.cls := by rw [b2]; exact (hc.2.2.2.2.1.1 ci _ hci).2.1
  cases hcls.symm.trans q1
  cases (State.methodFound?_of_named hnamed hy).symm.trans q2
  cases hnamed.symm.trans q3
  have hselP : selectMethod e.platform s.vm cellB.cls mk = .method mk := by rw [Launch.admits_selectMethod Y.admits]; exact q4
  obtain ⟨vm₁, X₁, hstep₁⟩ := Y.invokevirtual hc.1 hc.2.2.1 (hts _ hl) hnamed hmethM hstM hkP hkPi hy (a := g.1 q) (cell := cellB) (by rw [hT]; exact b1)
    (fun z h => by rw [b3] at h; cases h) hselP hmethM habM hkP hkPi (g := F0 m pc ls (av.reverse ++ .ref (g.1 q) :: st)) rfl (argsL := av) (rest := st) (by have h9 := hnum; rw [hsigM] at h9; exact (Option.some.inj h9).symm) rfl (by rw [hc.2.1]; exact hd)
  have hK := call_core (f := F0 m pc ls st) X₁ hc hcon rfl h1.1 (by rw [hc.2.1]; exact hd) hnamed hmethM hck hb hml hre hlk (ex_nil hex) hpl (fun v hv => by rcases List.mem_cons.mp hv with rfl | hv; exact rfl; exact hav v hv) (by simpa using hal) (by show 2 * 0 + (st.map fun v => v.category).sum ≤ 8; omega) (Nat.le_trans hdd hc.2.2.2.2.2.2.2.2.2.1) (by have := hc.2.2.2.2.2.2.2.2.2.2.1; omega) hcells hslots (by show va_P _ _ _ T.heap; rw [hT]; exact h2) (by show va_S _ _ T.heap _; rw [hT]; exact h3)
  obtain ⟨r, w', hP, hres⟩ := hK
  rcases hres with ⟨v, rfl, T', locs', X', a1, a2, a3⟩ | ⟨cn, rfl, T', locs', x, cl, X', a1, a2, b4, b5, b6, b7, a3⟩
  · obtain ⟨t, t1, t2⟩ := hret v w' hP ls T'.heap locs' h1 a1 a2 T' rfl X'
    exact ⟨t, hstep₁ _ (fun acts => by rw [doInvoke_state]; exact a3.trans t1), t2⟩
  · obtain ⟨t, t1, t2⟩ := hthr cn w' hP ls T' locs' x cl st h1 X' a1 a2 b4 b5 b6 b7
    exact ⟨t, hstep₁ _ (fun acts => by rw [doInvoke_state]; exact a3.trans t1), t2⟩
theorem r_callvN {host : String} {q ci : Nat} {C : String} {Tc : u_T} {N : Nat} {fs : List Value} (hc : Ok X g cc own ret hx d) (hd : decode cc pc = .ok (.invokevirtual idx, 3)) (hcon : Con X.2.1 g y cc' nL' ret' [] d' k n (.ref (g.1 q) :: av) w P)
    (hl : Cond.methodLinkNest own idx y host ∈ Ttab) (hin : Cond.instanceMethod y ∈ Ttab) (hsel : Cond.selects C y y ∈ Ttab) (hcode : Cond.code y cc' nL' ret' ∈ Ttab) (hy : y.cls ≠ "java/lang/invoke/MethodHandle" ∧ y.cls ≠ "java/lang/invoke/VarHandle") (hpl : plainFor y = true) (hnum : (parseMethodDescriptor y.desc).map (fun d => d.parameters.length) = some av.length)
    (hq : q < NC) (hob : ent g (w q) q = .inr (ci, fs)) (hci : classes[ci]? = some (C, Tc, N)) (hdd : d' + 1 ≤ d) (hnl : nL' ≤ 11) (hav : ∀ v ∈ av, v.category = 1) (hal : av.length + 1 ≤ nL') (hst : (st.map fun v => v.category).sum ≤ 8) (hcells : kc + k ≤ X.2.2.2.1.cells) (hslots : ks + n ≤ X.2.2.2.1.slots)
    (hret : ∀ (v : Option Value) (w' : Wd), P (.inl v) w' → Go X g (kc + k) (ks + n) Q w' (pc + 3) lp (v.toList ++ st)) (hthr : ∀ (cn : String) (w' : Wd), P (.inr cn) w' → GoX X g (kc + k) (ks + n) Q w' pc lp cn) : Go X g kc ks Q w pc lp (av.reverse ++ .ref (g.1 q) :: st) := by
  obtain ⟨p, l, e, R, s, m, args, below, meth, c⟩ := X
  intro ls H locs h1 h2 h3 T hT Y
  have hts := hc.2.2.2.1
  obtain ⟨mk, methM, hnamed, hmethM, hstM, habM⟩ := Cond.instanceMethod_spec (hts _ hin)
  obtain ⟨methM', cM, hmethM', hck, hb, hml, hre, hlk, hex, hsigM⟩ := Cond.code_spec hnamed (hts _ hcode)
  cases hmethM.symm.trans hmethM'
  obtain ⟨c2, r2, m2, q1, q2, q3, q4, kP, hkP, hkPi⟩ := Cond.selects_spec (hts _ hsel)
  obtain ⟨r0, e1, cellB, b1, b2, b3, b4⟩ := h2 q _ (by rw [cells_get g w hq, hob])
  have hr0 : r0 = (C, Tc, N) := Option.some.inj (e1.symm.trans hci)
  subst hr0
  have hcls : s.vm.findClass C = some cellB.cls := by rw [b2]; exact (hc.2.2.2.2.1.1 ci _ hci).2.1
  cases hcls.symm.trans q1
  cases (State.methodFound?_of_named hnamed hy).symm.trans q2
  cases hnamed.symm.trans q3
  have hselP : selectMethod e.platform s.vm cellB.cls mk = .method mk := by rw [Launch.admits_selectMethod Y.admits]; exact q4
  obtain ⟨vm₁, X₁, hstep₁⟩ := Y.invokevirtualNest hc.1 hc.2.2.1 (hts _ hl) hnamed hmethM hstM hkP hkPi hy (a := g.1 q) (cell := cellB) (by rw [hT]; exact b1)
    (fun z h => by rw [b3] at h; cases h) hselP hmethM habM hkP hkPi (g := F0 m pc ls (av.reverse ++ .ref (g.1 q) :: st)) rfl (argsL := av) (rest := st) (by have h9 := hnum; rw [hsigM] at h9; exact (Option.some.inj h9).symm) rfl (by rw [hc.2.1]; exact hd)
  have hK := call_core (f := F0 m pc ls st) X₁ hc hcon rfl h1.1 (by rw [hc.2.1]; exact hd) hnamed hmethM hck hb hml hre hlk (ex_nil hex) hpl (fun v hv => by rcases List.mem_cons.mp hv with rfl | hv; exact rfl; exact hav v hv) (by simpa using hal) (by show 2 * 0 + (st.map fun v => v.category).sum ≤ 8; omega) (Nat.le_trans hdd hc.2.2.2.2.2.2.2.2.2.1) (by have := hc.2.2.2.2.2.2.2.2.2.2.1; omega) hcells hslots (by show va_P _ _ _ T.heap; rw [hT]; exact h2) (by show va_S _ _ T.heap _; rw [hT]; exact h3)
  obtain ⟨r, w', hP, hres⟩ := hK
  rcases hres with ⟨v, rfl, T', locs', X', a1, a2, a3⟩ | ⟨cn, rfl, T', locs', x, cl, X', a1, a2, b4, b5, b6, b7, a3⟩
  · obtain ⟨t, t1, t2⟩ := hret v w' hP ls T'.heap locs' h1 a1 a2 T' rfl X'
    exact ⟨t, hstep₁ _ (fun acts => by rw [doInvoke_state]; exact a3.trans t1), t2⟩
  · obtain ⟨t, t1, t2⟩ := hthr cn w' hP ls T' locs' x cl st h1 X' a1 a2 b4 b5 b6 b7
    exact ⟨t, hstep₁ _ (fun acts => by rw [doInvoke_state]; exact a3.trans t1), t2⟩
theorem r_calls (hc : Ok X g cc own ret hx d) (hd : decode cc pc = .ok (.invokestatic idx, 3)) (hcon : Con X.2.1 g y cc' nL' ret' [] d' k n av w P)
    (hl : Cond.methodLink own idx y ∈ Ttab) (hsta : Cond.static y ∈ Ttab) (hini : Cond.initialized y.cls ∈ Ttab) (hcode : Cond.code y cc' nL' ret' ∈ Ttab) (hy : y.cls ≠ "java/lang/invoke/MethodHandle" ∧ y.cls ≠ "java/lang/invoke/VarHandle") (hpl : plainFor y = true) (hnum : (parseMethodDescriptor y.desc).map (fun d => d.parameters.length) = some av.length)
    (hdd : d' + 1 ≤ d) (hnl : nL' ≤ 11) (hav : ∀ v ∈ av, v.category = 1) (hal : av.length ≤ nL') (hst : (st.map fun v => v.category).sum ≤ 8) (hcells : kc + k ≤ X.2.2.2.1.cells) (hslots : ks + n ≤ X.2.2.2.1.slots)
    (hret : ∀ (v : Option Value) (w' : Wd), P (.inl v) w' → Go X g (kc + k) (ks + n) Q w' (pc + 3) lp (v.toList ++ st)) (hthr : ∀ (cn : String) (w' : Wd), P (.inr cn) w' → GoX X g (kc + k) (ks + n) Q w' pc lp cn) : Go X g kc ks Q w pc lp (av.reverse ++ st) := by
  obtain ⟨p, l, e, R, s, m, args, below, meth, c⟩ := X
  intro ls H locs h1 h2 h3 T hT Y
  have hts := hc.2.2.2.1
  obtain ⟨mk, hnamed⟩ := Cond.code_named (hts _ hcode)
  obtain ⟨methM, cM, hmethM, hck, hb, hml, hre, hlk, hex, hsigM⟩ := Cond.code_spec hnamed (hts _ hcode)
  have hstatic : methM.isStatic = true := Cond.static_spec hnamed hmethM (hts _ hsta)
  obtain ⟨kP, hkP, -⟩ := className_of_methodNamed hnamed
  have hinitP : kP.init = .initialized := Cond.initialized_spec (findClass_of_methodNamed hnamed) hkP (hts _ hini)
  obtain ⟨vm₁, X₁, hstep₁⟩ := Y.invokestatic hc.1 hc.2.2.1 (hts _ hl) hnamed hmethM hstatic hkP hinitP hy (g := F0 m pc ls (av.reverse ++ st)) rfl (argsL := av) (rest := st) (by have h9 := hnum; rw [hsigM] at h9; exact (Option.some.inj h9).symm) rfl (by rw [hc.2.1]; exact hd)
  have hK := call_core (f := F0 m pc ls st) X₁ hc hcon rfl h1.1 (by rw [hc.2.1]; exact hd) hnamed hmethM hck hb hml hre hlk (ex_nil hex) hpl hav hal (by show 2 * 0 + (st.map fun v => v.category).sum ≤ 8; omega) (Nat.le_trans hdd hc.2.2.2.2.2.2.2.2.2.1) (by have := hc.2.2.2.2.2.2.2.2.2.2.1; omega) hcells hslots (by show va_P _ _ _ T.heap; rw [hT]; exact h2) (by show va_S _ _ T.heap _; rw [hT]; exact h3)
  obtain ⟨r, w', hP, hres⟩ := hK
  rcases hres with ⟨v, rfl, T', locs', X', a1, a2, a3⟩ | ⟨cn, rfl, T', locs', x, cl, X', a1, a2, b4, b5, b6, b7, a3⟩
  · obtain ⟨t, t1, t2⟩ := hret v w' hP ls T'.heap locs' h1 a1 a2 T' rfl X'
    exact ⟨t, hstep₁ _ (fun acts => by rw [doInvoke_state]; exact a3.trans t1), t2⟩
  · obtain ⟨t, t1, t2⟩ := hthr cn w' hP ls T' locs' x cl st h1 X' a1 a2 b4 b5 b6 b7
    exact ⟨t, hstep₁ _ (fun acts => by rw [doInvoke_state]; exact a3.trans t1), t2⟩
theorem r_callsN {host : String} (hc : Ok X g cc own ret hx d) (hd : decode cc pc = .ok (.invokestatic idx, 3)) (hcon : Con X.2.1 g y cc' nL' ret' [] d' k n av w P)
    (hl : Cond.methodLinkNest own idx y host ∈ Ttab) (hsta : Cond.static y ∈ Ttab) (hini : Cond.initialized y.cls ∈ Ttab) (hcode : Cond.code y cc' nL' ret' ∈ Ttab) (hy : y.cls ≠ "java/lang/invoke/MethodHandle" ∧ y.cls ≠ "java/lang/invoke/VarHandle") (hpl : plainFor y = true) (hnum : (parseMethodDescriptor y.desc).map (fun d => d.parameters.length) = some av.length)
    (hdd : d' + 1 ≤ d) (hnl : nL' ≤ 11) (hav : ∀ v ∈ av, v.category = 1) (hal : av.length ≤ nL') (hst : (st.map fun v => v.category).sum ≤ 8) (hcells : kc + k ≤ X.2.2.2.1.cells) (hslots : ks + n ≤ X.2.2.2.1.slots)
    (hret : ∀ (v : Option Value) (w' : Wd), P (.inl v) w' → Go X g (kc + k) (ks + n) Q w' (pc + 3) lp (v.toList ++ st)) (hthr : ∀ (cn : String) (w' : Wd), P (.inr cn) w' → GoX X g (kc + k) (ks + n) Q w' pc lp cn) : Go X g kc ks Q w pc lp (av.reverse ++ st) := by
  obtain ⟨p, l, e, R, s, m, args, below, meth, c⟩ := X
  intro ls H locs h1 h2 h3 T hT Y
  have hts := hc.2.2.2.1
  obtain ⟨mk, hnamed⟩ := Cond.code_named (hts _ hcode)
  obtain ⟨methM, cM, hmethM, hck, hb, hml, hre, hlk, hex, hsigM⟩ := Cond.code_spec hnamed (hts _ hcode)
  have hstatic : methM.isStatic = true := Cond.static_spec hnamed hmethM (hts _ hsta)
  obtain ⟨kP, hkP, -⟩ := className_of_methodNamed hnamed
  have hinitP : kP.init = .initialized := Cond.initialized_spec (findClass_of_methodNamed hnamed) hkP (hts _ hini)
  obtain ⟨vm₁, X₁, hstep₁⟩ := Y.invokestaticNest hc.1 hc.2.2.1 (hts _ hl) hnamed hmethM hstatic hkP hinitP hy (g := F0 m pc ls (av.reverse ++ st)) rfl (argsL := av) (rest := st) (by have h9 := hnum; rw [hsigM] at h9; exact (Option.some.inj h9).symm) rfl (by rw [hc.2.1]; exact hd)
  have hK := call_core (f := F0 m pc ls st) X₁ hc hcon rfl h1.1 (by rw [hc.2.1]; exact hd) hnamed hmethM hck hb hml hre hlk (ex_nil hex) hpl hav hal (by show 2 * 0 + (st.map fun v => v.category).sum ≤ 8; omega) (Nat.le_trans hdd hc.2.2.2.2.2.2.2.2.2.1) (by have := hc.2.2.2.2.2.2.2.2.2.2.1; omega) hcells hslots (by show va_P _ _ _ T.heap; rw [hT]; exact h2) (by show va_S _ _ T.heap _; rw [hT]; exact h3)
  obtain ⟨r, w', hP, hres⟩ := hK
  rcases hres with ⟨v, rfl, T', locs', X', a1, a2, a3⟩ | ⟨cn, rfl, T', locs', x, cl, X', a1, a2, b4, b5, b6, b7, a3⟩
  · obtain ⟨t, t1, t2⟩ := hret v w' hP ls T'.heap locs' h1 a1 a2 T' rfl X'
    exact ⟨t, hstep₁ _ (fun acts => by rw [doInvoke_state]; exact a3.trans t1), t2⟩
  · obtain ⟨t, t1, t2⟩ := hthr cn w' hP ls T' locs' x cl st h1 X' a1 a2 b4 b5 b6 b7
    exact ⟨t, hstep₁ _ (fun acts => by rw [doInvoke_state]; exact a3.trans t1), t2⟩
end GCL

