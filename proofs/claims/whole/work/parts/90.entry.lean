/-! what the law's start has: Throwable's constants stay -/
theorem st_keep {C n d : String} {s : State} {args : Array Value} (hl : (Cond.laysStatic C n d).before args s = true) (hr : (Cond.isRef (.static C n d)).before args s = true) :
    ∃ (c : ClassId) (k : Class) (a : Nat) (cell : Cell), s.vm.findClass C = some c ∧ s.vm.classes[c]? = some k ∧ k.statics = some a ∧ s.heap[a]? = some cell ∧ ∀ U : State, s.WarmedH U.vm → U.heap[a]? = some cell → ∀ args' : Array Value, (Cond.laysStatic C n d).before args' U = true ∧ (Cond.isRef (.static C n d)).before args' U = true := by
  obtain ⟨c, k, i, f, a, cell, hc, hi, hst, ha, hcell, hs, hcls, hlt, hty⟩ := Cond.laysStatic_spec hl
  refine ⟨c, k, a, cell, hc, (State.fieldFound?_spec hi).1, ha, hcell, fun U hW hUc args' => ?_⟩
  obtain ⟨k', hi', hek⟩ := State.fieldFound?_setVm hW.alike hi
  have hi2 : U.fieldFound? C n d = some (c, k', i, f) := hi'
  refine ⟨Cond.laysStatic_of (s := U) (by rw [hW.alike.findClass]; exact hc) hi2 hst (by rw [hek]; exact ha) hUc hs hcls hlt (by rw [hek]; exact hty), ?_⟩
  cases he : (Term.static C n d).eval args s none [] s with
  | none =>
    simp only [Cond.before, Cond.holds, Cond.value] at hr
    rw [he] at hr
    simp at hr
  | some v =>
    obtain ⟨-, a', cell', ha', hcell', -, hslot⟩ := Term.static_spec hi he
    cases ha.symm.trans ha'
    cases hcell.symm.trans hcell'
    have hU : (Term.static C n d).eval args' U none [] U = some v := Term.static_eval hi2 hst (by rw [hek]; exact ha) hUc hs hslot
    simp only [Cond.before, Cond.holds, Cond.value] at hr ⊢
    rw [he] at hr
    rw [hU]
    exact hr
theorem Zs_of {g : GG} {s : State} {args : Array Value} (hA : ∀ a, a < s.heap.size → ¬ AA g s a) (hw : ∀ a ∈ thAtoms, a.before args s = true) (hnt : Nt s) : Zs g s := by
  obtain ⟨c, k, a, cell, h1, h2, h3, h4, h5⟩ := st_keep (hw (.laysStatic "java/lang/Throwable" "UNASSIGNED_STACK" "[Ljava/lang/StackTraceElement;") (by simp [thAtoms])) (hw _ (by simp [thAtoms]))
  obtain ⟨c', k', a', cell', h1', h2', h3', h4', h5'⟩ := st_keep (hw (.laysStatic "java/lang/Throwable" "SUPPRESSED_SENTINEL" "Ljava/util/List;") (by simp [thAtoms])) (hw _ (by simp [thAtoms]))
  cases Option.some.inj (h1.symm.trans h1')
  cases Option.some.inj (h2.symm.trans h2')
  cases Option.some.inj (h3.symm.trans h3')
  cases Option.some.inj (h4.symm.trans h4')
  refine ⟨⟨a, cell, h4, hA a (Array.getElem?_eq_some_iff.mp h4).1, fun U hW hU x hx args' => ?_⟩, hnt⟩
  unfold thAtoms at hx
  simp only [List.mem_cons, List.not_mem_nil, or_false] at hx
  rcases hx with rfl | rfl | rfl | rfl
  · exact (h5 U hW hU args').1
  · exact (h5' U hW hU args').1
  · exact (h5 U hW hU args').2
  · exact (h5' U hW hU args').2
