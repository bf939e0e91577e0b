/-! a walk that begins anew at the state where it stands -/
section REB
variable {p : Program} {l : Launch} {e : Env} {R : Room} {s : State} {m : MethodId} {args : Array Value} {below : List Frame} {meth : Method} {c : Code} {T : State} {locs : List Loc} {cells slots : Nat}
theorem st_again (X : Stand p l e R s m args below meth c T locs cells slots) (h1 : cells ≤ R.cells) (h2 : slots ≤ R.slots) :
    Stand p l e { frames := R.frames, locals := R.locals, cells := R.cells - cells, slots := R.slots - slots } (T.setFrames (.invoking m args :: below)) m args below meth c T [] 0 0 := by
  obtain ⟨g₀, hg₀⟩ := X.frames_eq
  have hcur : T.cur < T.threads.size := State.cur_lt_of_frames hg₀
  have hfr : (T.setFrames (.invoking m args :: below)).frames = .invoking m args :: below := State.frames_setFrames _ hcur
  have hmt : T.vm.method? m = some meth := by rw [X.warmed.alike.method?]; exact X.method
  obtain ⟨th, hth, -⟩ := State.frames_cons hfr
  have hcur2 : (T.setFrames (.invoking m args :: below)).cur < (T.setFrames (.invoking m args :: below)).threads.size := State.cur_lt_of_frames hfr
  have hback : (T.setFrames (.invoking m args :: below)).setFrames T.frames = T := by
    rw [State.setFrames_setFrames]
    obtain ⟨t2, ht2, -⟩ := State.frames_cons hg₀
    exact State.setFrames_self ht2
  refine ⟨X.admits, X.cas, X.clock, hfr, ?_, ?_, hmt, X.code, X.here, X.tail, State.WarmedH.refl (T.setFrames (.invoking m args :: below)), ?_, ?_, ?_⟩
  · have h := X.room
    have hz := X.same
    have hlim := X.limits
    have hby := X.bytes
    simp only [State.hasRoom, Bool.and_eq_true, decide_eq_true_eq] at h ⊢
    have hloc : (T.setFrames (.invoking m args :: below)).localsInUse = s.localsInUse := by
      unfold State.localsInUse
      rw [hfr, X.frames]
      show _ + ((((T.vm.method? m).bind (·.code)).map (·.maxLocals)).getD 0 + 11) = _ + ((((s.vm.method? m).bind (·.code)).map (·.maxLocals)).getD 0 + 11)
      rw [hmt, X.method]
    have hlen : (T.setFrames (.invoking m args :: below)).frames.length = s.frames.length := by rw [hfr, X.frames]
    have hlm : e.platform.stackLimits (T.setFrames (.invoking m args :: below)).me = e.platform.stackLimits s.me := by rw [State.stackLimits_setFrames]; exact hlim
    have hbt : (T.setFrames (.invoking m args :: below)).me.stackBytes = s.me.stackBytes := by rw [State.stackBytes_setFrames]; exact hby
    rw [hloc, hlen, hlm, hbt]
    obtain ⟨⟨⟨⟨a0, a1, a2, a3, a4, a5⟩, b1⟩, c1⟩, -⟩ := h
    have z1 : T.heap.size ≤ s.heap.size + cells := X.heapSize
    have z2 : T.slotsUsed ≤ s.slotsUsed + slots := X.used
    refine ⟨⟨⟨⟨a0, a1, a2, a3, a4, a5⟩, ?_⟩, ?_⟩, X.book⟩
    · show T.heap.size + (R.cells - cells) ≤ _
      omega
    · show T.slotsUsed + (R.slots - slots) ≤ _
      omega
  · have h := X.hears
    rcases below with _ | ⟨b, below⟩
    · simp only [State.hears] at h ⊢
      show (T.vm.method? m).any _ = true
      rw [hmt, ← X.method]
      exact h
    · have e1 : ∀ q, (T.setFrames (.invoking m args :: b :: below)).code? q = s.code? q := fun q => by
        rw [State.code?_eq, State.code?_eq]
        show (T.vm.method? q).bind _ = _
        rw [X.warmed.alike.method?]
      have e2 : (T.setFrames (.invoking m args :: b :: below)).vm.method? m = s.vm.method? m := by
        show T.vm.method? m = _
        rw [hmt, X.method]
      cases b <;> simp only [State.hears, e1, e2] at h ⊢ <;> exact h
  · rw [State.stackLimits_setFrames]
  · rw [State.stackBytes_setFrames]
  · have h := (State.sameButNew.refl (T.setFrames (.invoking m args :: below)) hth).setFrames T.frames hcur2
    rw [hback] at h
    exact h
end REB
