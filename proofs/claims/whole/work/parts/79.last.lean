/-! the law's own cell: a long is laid down -/
theorem updL_of (f : Nat → Int32) (x : Int32) : vp_updL (fun i => (f i).toInt64) 0 x.toInt64 = fun i => (upd f 0 x i).toInt64 := by
  funext i
  by_cases h : i = 0
  · subst h
    rw [pk_uLs, pk_us]
  · rw [pk_uLn h, pk_un h]
theorem r_last0 {X : Cxt} {g : GG} {cc : ByteArray} {own : String} {ret : Option FieldType} {hx : List (Nat × Nat × Nat × Nat)} {d kc ks : Nat} {Q : State → Prop} {w : Wd} {pc : Nat} {lp : List (Option Value)} {st : List Value} {x : Int32} (hc : Ok X g cc own ret hx d) (hd : decode cc pc = .ok (.lastore, 1)) (k : Go X g kc ks Q (wu w 60 0 x) (pc + 1) lp st) : Go X g kc ks Q w pc lp (.long x.toInt64 :: .int (nI 0) :: .ref (g.1 60) :: st) := by
  obtain ⟨p, l, e, R, s, m, args, below, meth, c⟩ := X
  intro ls H locs h1 h2 h3
  refine va_last (D := g.2.1) (cl := classes) (tys := tysOf g) hc.1 hc.2.1 hc.2.2.2.2.1 h2 (cells_D hc.2.2.2.2.2.1 s w) h3 60 3 (cA := g.2.2.2.2.2) (n := 1) (f := fun i => (w 60 i).toInt64) (by rw [cells_get g w (by decide)]; rfl) rfl (vp_in_nI (by decide) (by decide)) hd (fun H1 locs1 a1 _ a3 => ?_)
  have he : (Sum.inl (g.2.2.2.2.2, 1, .inr (.inl (vp_updL (fun i => (w 60 i).toInt64) 0 x.toInt64))) : va_E) = ent g (upd (w 60) 0 x) 60 := by rw [updL_of]; rfl
  have hcl : (nI 0).toNatClampNeg = 0 := nI_clamp (by decide)
  rw [hcl, cells_set (i := 0) (x := x) (by decide) he] at a1
  exact k ls H1 locs1 h1 a1 a3
