/-! a throw of a new exception with a constant message -/
theorem covers_nil {c : Code} (h : c.exceptionTable.toList.map (fun h => (h.startPc, h.endPc, h.handlerPc, h.catchType)) = []) (n : Nat) : ∀ x ∈ c.exceptionTable.toList, covers x n = false := by
  have : c.exceptionTable.toList = [] := List.map_eq_nil_iff.mp h
  rw [this]
  intro x hx
  cases hx
set_option maxHeartbeats 1000000 in
theorem r_throw {X : Cxt} {g : GG} {cc : ByteArray} {own : String} {ret : Option FieldType} {d kc ks : Nat} {w : Wd} {pc : Nat} {lp : List (Option Value)} {st : List Value} {P : Rt → Wd → Prop} {cls tx : String} {ix ik ic : Nat}
    (hc : Ok X g cc own ret [] d) (hd : 6 ≤ d) (hst : (st.map fun v => v.category).sum ≤ 8) (hcls : Bundle.fit cls = true) (hat : ∀ a ∈ Bundle.ownAtoms own ic cls up2, a ∈ Ttab ∨ a ∈ thAtoms)
    (h0 : Cond.classLink own ix cls ∈ Ttab) (h1 : Cond.instantiable cls 6 ∈ Ttab) (h2 : Cond.initialized cls ∈ Ttab) (h3 : Cond.stringRef own ik tx ∈ Ttab)
    (d0 : decode cc pc = .ok (.new ix, 3)) (d3 : decode cc (pc + 3) = .ok (.dup, 1)) (d4 : decode cc (pc + 4) = .ok (.ldc ik, 2)) (d6 : decode cc (pc + 6) = .ok (.invokespecial ic, 3)) (d9 : decode cc (pc + 9) = .ok (.athrow, 1))
    (hrc : kc + 1 ≤ X.2.2.2.1.cells) (hrs : ks + 6 ≤ X.2.2.2.1.slots) (hP : P (.inr cls) w) : Go X g kc ks (Fen X g (kc + 1) (ks + 6) P) w pc lp st := by
  obtain ⟨p, l, e, R, s, m, args, below, meth, c⟩ := X
  intro ls H locs q1 q2 q3 T hT Y
  obtain ⟨c1, c2, c3, c4, c5, c6, c7, c8, c9, c10, c11, c12, c13⟩ := hc
  have hrc : kc + 1 ≤ R.cells := hrc
  have hrs : ks + 6 ≤ R.slots := hrs
  have Z := st_again Y (by omega) (by omega)
  have hvm2 : (T.setFrames (.invoking m args :: below)).vm = T.vm := rfl
  have hh2 : (T.setFrames (.invoking m args :: below)).heap = T.heap := rfl
  have hsl2 : (T.setFrames (.invoking m args :: below)).slotsUsed = T.slotsUsed := rfl
  have hfs2 : ∀ fs, (T.setFrames (.invoking m args :: below)).setFrames fs = T.setFrames fs := fun fs => State.setFrames_setFrames _ _ _
  generalize T.setFrames (.invoking m args :: below) = s2 at Z hvm2 hh2 hsl2 hfs2
  have hW2 : s.WarmedH s2.vm := by rw [hvm2]; exact Y.warmed
  have hT2 : Tb args s2 := Tb.warm (U := s2) hW2 c4
  have hown2 : s2.vm.findClass own = some m.cls := by rw [hW2.alike.findClass]; exact c3
  have hZs : Zs g s2 := Zs.move c13 hW2 (by rw [hh2, hT]; exact q3)
  have hatoms : ∀ a ∈ Bundle.ownAtoms own ic cls up2, a.before args s2 = true := by
    intro a ha
    rcases hat a ha with z | z
    · exact hT2 a z
    · obtain ⟨⟨aS, c0, z1, z2, z3⟩, -⟩ := hZs
      exact z3 s2 (State.WarmedH.refl s2) z1 a z args
  obtain ⟨vm1, cX, kX, hfX, hkX, -, -, X1, st1⟩ := Z.newCold c1 (own := own) (C := cls) (index := ix) (n := 6) hown2 (hT2 _ h0) (hT2 _ h1) (hT2 _ h2) (g := F0 m pc ls st) rfl (by rw [c2]; exact d0) (by show 0 + 1 ≤ R.cells - kc; omega) (by show 0 + 6 ≤ R.slots - ks; omega)
  have hcellA : ((T.setVm vm1).pushCell { cls := cX, slots := kX.instanceTypes.map defaultValue, vm := .none }).heap[T.heap.size]? = some (freshCell cX kX) := State.heap_pushCell_size _ _
  generalize (T.setVm vm1).pushCell { cls := cX, slots := kX.instanceTypes.map defaultValue, vm := .none } = T1 at X1 st1 hcellA
  obtain ⟨_, _, _, sa, _, _, _, _, _, hev⟩ := Cond.stringRef_spec hown2 (hT2 _ h3)
  have hsz : ls.size = c.maxLocals := q1.1
  have kW : W p l e { frames := R.frames, locals := R.locals, cells := R.cells - kc, slots := R.slots - ks } s2 m args below meth c T1.heap [] (0 + 1) (0 + 6) (Fen (p, l, e, R, s, m, args, below, meth, c) g (kc + 1) (ks + 6) P) (F0 m (pc + 3) ls (.ref T.heap.size :: st)) := by
    refine lv_dup c1 c2 d3 rfl ?_
    intro T2 hT2h X2
    obtain ⟨U, hsteps, hrun, hend, hW, hsame, ce, hce, K⟩ := X2.ctorThrowS c1 (by rw [X2.admits.platform]; exact c12) (own := own) (cls := cls) (names := up2) (ic := ic) hown2 hcls (by decide +kernel) hatoms (fun y hy => by cases hy) hfX hkX (a := T.heap.size) (by rw [hT2h]; exact hcellA) (by rw [hh2]; exact Nat.le_refl _) (msg := .ref sa) rfl
      (g := F0 m (pc + 6) ls (.ref sa :: .ref T.heap.size :: .ref T.heap.size :: st)) rfl hsz rfl rfl (rest := st) rfl (by rw [c2]; exact d6) (by rw [c2]; exact d9) (covers_nil c9 _) (by show 2 + 3 < R.frames; omega) (by show 2 * 0 + (1 + (st.map fun v => v.category).sum) + (13 * (2 + 1) + 42) ≤ R.locals; omega) c7
    refine ⟨U, X2.ldcString c1 hown2 (hT2 _ h3) hev (g := F0 m (pc + 4) ls (.ref T.heap.size :: .ref T.heap.size :: st)) rfl (by rw [c2]; exact d4) U hsteps, ?_⟩
    have hkeep : ∀ (y : Nat) (cy : Cell), T.heap[y]? = some cy → U.heap[y]? = some cy := fun y cy hy => kept_of_same (keep := fun _ => True) hsame (fun q hq => by cases hq) y cy trivial (by rw [hh2]; exact hy)
    have hgrow : T.heap.size ≤ U.heap.size := by have := hsame.2.1; rw [hh2] at this; exact this
    have hWU : s.WarmedH U.vm := State.WarmedH.trans hW2 hW
    refine ⟨.inr cls, w, .threw T.heap.size, locs ++ [], hP, hrun, hend, ⟨T.heap.size, ce, rfl, hce, ?_, K.vm, ?_⟩, ?_, ⟨?_, fun q z1 z2 => ?_⟩, hWU, ?_, fun q hq => q3.2.2 q (by simpa using hq)⟩
    · rw [← hW2.alike.findClass]; exact K.cls
    · rw [hT]; exact q3.1
    · refine q2.kept (fun k q hk => ?_)
      have hlt : q.1 < H.size := (q2 k q hk).lt
      rw [← hT] at hlt ⊢
      rw [Array.getElem?_eq_getElem hlt]
      exact hkeep q.1 _ (Array.getElem?_eq_getElem hlt)
    · exact Nat.le_trans (by rw [hT]; exact q3.1) hgrow
    · have hlt : q < T.heap.size := by rw [hT]; exact Nat.lt_of_lt_of_le z1 q3.1
      rw [hkeep q _ (Array.getElem?_eq_getElem hlt), ← Array.getElem?_eq_getElem hlt, hT]
      exact q3.2.1 q z1 z2
    · have hB : T.sameButNew ({ U with vm := T.vm } : State) [] 1 6 := by
        obtain ⟨b1, b2, b3, b4, b5, b6⟩ := hsame
        rw [hfs2, hvm2] at b1
        rw [hh2] at b2 b3 b4 b5 b6
        rw [hsl2] at b4
        exact ⟨b1, b2, b3, b4, b5, b6⟩
      exact Y.same.trans (hB.setVm s.vm)
  obtain ⟨t, a1, b1⟩ := kW T1 rfl X1
  exact ⟨t, st1 t a1, b1⟩
