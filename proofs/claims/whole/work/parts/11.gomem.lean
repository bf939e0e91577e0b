section GMEM
variable {X : Cxt} {g : GG} {cc : ByteArray} {own : String} {ret : Option FieldType} {hx : List (Nat × Nat × Nat × Nat)} {d kc ks : Nat} {Q : State → Prop} {w : Wd} {pc : Nat} {lp : List (Option Value)} {st : List Value}
theorem lt_of_in {i : Int32} {n : Nat} (h : vp_in i n) : 0 < n := Nat.pos_of_ne_zero (fun q => by subst q; exact h (Or.inr (Nat.zero_le _)))
theorem r_iald (hc : Ok X g cc own ret hx d) (hd : decode cc pc = .ok (.iaload, 1)) {q : Nat} {i : Int32} (hin : vp_in i (lenI q)) (k : Go X g kc ks Q w (pc + 1) lp (.int (w q i.toNatClampNeg) :: st)) : Go X g kc ks Q w pc lp (.int i :: .ref (g.1 q) :: st) := by
  obtain ⟨p, l, e, R, s, m, args, below, meth, c⟩ := X
  intro ls H locs h1 h2 h3
  obtain ⟨hq, he⟩ := ent_I (lt_of_in hin) g (w q)
  exact va_iald (D := g.2.1) (cl := classes) (tys := tysOf g) hc.1 hc.2.1 hc.2.2.2.2.1 h2 q 0 (by rw [cells_get g w hq, he]) rfl hin hd (k ls H locs h1 h2 h3)
theorem r_iast (hc : Ok X g cc own ret hx d) (hd : decode cc pc = .ok (.iastore, 1)) {q : Nat} {i x : Int32} (hin : vp_in i (lenI q)) (k : Go X g kc ks Q (wu w q i.toNatClampNeg x) (pc + 1) lp st) : Go X g kc ks Q w pc lp (.int x :: .int i :: .ref (g.1 q) :: st) := by
  obtain ⟨p, l, e, R, s, m, args, below, meth, c⟩ := X
  intro ls H locs h1 h2 h3
  obtain ⟨hq, he⟩ := ent_I (lt_of_in hin) g (w q)
  obtain ⟨-, he2⟩ := ent_I (lt_of_in hin) g (upd (w q) i.toNatClampNeg x)
  refine va_iast (D := g.2.1) (cl := classes) (tys := tysOf g) hc.1 hc.2.1 hc.2.2.2.2.1 h2 (cells_D hc.2.2.2.2.2.1 s w) h3 q 0 (by rw [cells_get g w hq, he]) rfl hin hd (fun H1 locs1 a1 _ a3 => ?_)
  rw [cells_set (i := i.toNatClampNeg) (x := x) hq he2.symm] at a1
  exact k ls H1 locs1 h1 a1 a3
theorem r_zald (hc : Ok X g cc own ret hx d) (hd : decode cc pc = .ok (.baload, 1)) {q : Nat} {i : Int32} (hin : vp_in i (lenZ q)) (k : Go X g kc ks Q w (pc + 1) lp (.int (w q i.toNatClampNeg) :: st)) : Go X g kc ks Q w pc lp (.int i :: .ref (g.1 q) :: st) := by
  obtain ⟨p, l, e, R, s, m, args, below, meth, c⟩ := X
  intro ls H locs h1 h2 h3
  obtain ⟨hq, he⟩ := ent_Z (lt_of_in hin) g (w q)
  exact va_zald (D := g.2.1) (cl := classes) (tys := tysOf g) hc.1 hc.2.1 hc.2.2.2.2.1 h2 q 1 (by rw [cells_get g w hq, he]) rfl hin hd (k ls H locs h1 h2 h3)
theorem r_zast (hc : Ok X g cc own ret hx d) (hd : decode cc pc = .ok (.bastore, 1)) {q : Nat} {i x : Int32} (hin : vp_in i (lenZ q)) (hx1 : vp_nar .boolean x = x) (k : Go X g kc ks Q (wu w q i.toNatClampNeg x) (pc + 1) lp st) : Go X g kc ks Q w pc lp (.int x :: .int i :: .ref (g.1 q) :: st) := by
  obtain ⟨p, l, e, R, s, m, args, below, meth, c⟩ := X
  intro ls H locs h1 h2 h3
  obtain ⟨hq, he⟩ := ent_Z (lt_of_in hin) g (w q)
  obtain ⟨-, he2⟩ := ent_Z (lt_of_in hin) g (upd (w q) i.toNatClampNeg x)
  refine va_zast (D := g.2.1) (cl := classes) (tys := tysOf g) hc.1 hc.2.1 hc.2.2.2.2.1 h2 (cells_D hc.2.2.2.2.2.1 s w) h3 q 1 (by rw [cells_get g w hq, he]) rfl hin hd (fun H1 locs1 a1 _ a3 => ?_)
  rw [hx1, cells_set (i := i.toNatClampNeg) (x := x) hq he2.symm] at a1
  exact k ls H1 locs1 h1 a1 a3
theorem r_aald (hc : Ok X g cc own ret hx d) (hd : decode cc pc = .ok (.aaload, 1)) {q : Nat} {i : Int32} (hin : vp_in i (lenA q)) (k : Go X g kc ks Q w (pc + 1) lp (.ref (g.1 (q + 1 + i.toNatClampNeg)) :: st)) : Go X g kc ks Q w pc lp (.int i :: .ref (g.1 q) :: st) := by
  obtain ⟨p, l, e, R, s, m, args, below, meth, c⟩ := X
  intro ls H locs h1 h2 h3
  obtain ⟨hq, he⟩ := ent_A (lt_of_in hin) g (w q)
  have ha : (cellsOf g w)[q]? = some (g.1 q, .inl (g.2.2.2.2.1, lenA q, .inr (.inr (.inr (.inr (fun j => some (g.1 (q + 1 + j)))))))) := by rw [cells_get g w hq, he]
  have hlt : i.toNatClampNeg < lenA q := Nat.not_le.mp fun z => hin (Or.inr z)
  exact W.aald (v := .ref (g.1 (q + 1 + i.toNatClampNeg))) (ty := .array .int) hc.1 hc.2.1 (h2 q _ ha) ((hc.2.2.2.2.1.2 2 _ rfl).1 (lenA q) (fun j => va_rf (some (g.1 (q + 1 + j))))) rfl (fun z => by cases z) (by show ¬ (i < 0 ∨ (arrV _ _ _).slots.size ≤ _); rw [arrV_size]; exact hin) (by show (arrV _ _ _).slots[_]? = _; rw [arrV_read _ _ hlt]; rfl) rfl rfl hd (k ls H locs h1 h2 h3)
theorem r_alen (hc : Ok X g cc own ret hx d) (hd : decode cc pc = .ok (.arraylength, 1)) {q : Nat} (hq0 : 0 < lenI q) (k : Go X g kc ks Q w (pc + 1) lp (.int (nI (lenI q)) :: st)) : Go X g kc ks Q w pc lp (.ref (g.1 q) :: st) := by
  obtain ⟨p, l, e, R, s, m, args, below, meth, c⟩ := X
  intro ls H locs h1 h2 h3
  obtain ⟨hq, he⟩ := ent_I hq0 g (w q)
  exact va_alen (D := g.2.1) (cl := classes) (tys := tysOf g) (x := (lenI q, .inl (w q))) hc.1 hc.2.1 hc.2.2.2.2.1 h2 q 0 (by rw [cells_get g w hq, he]) rfl rfl hd (k ls H locs h1 h2 h3)
theorem r_getf (hc : Ok X g cc own ret hx d) (q ci j : Nat) {C : String} {T : u_T} {N idx : Nat} {fs : List Value} {v : Value} (hd : decode cc pc = .ok (.getfield idx, 3)) (hq : q < NC) (he : ent g (w q) q = .inr (ci, fs)) (hci : classes[ci]? = some (C, T, N)) (hj : j < N) (hin : ∀ x ∈ u_ws C T N, x ∈ Ttab) (hT : (T j).1 = C)
    (hl : Cond.fieldLink own idx C (T j).2.1 (T j).2.2.1 ∈ Ttab) (hv : fs[j]? = some v) (k : Go X g kc ks Q w (pc + 3) lp (v :: st)) : Go X g kc ks Q w pc lp (.ref (g.1 q) :: st) := by
  obtain ⟨p, l, e, R, s, m, args, below, meth, c⟩ := X
  intro ls H locs h1 h2 h3
  exact va_get (D := g.2.1) (cl := classes) (tys := tysOf g) hc.1 hc.2.1 hc.2.2.2.1 hin hc.2.2.1 hc.2.2.2.2.1 h2 q (by rw [cells_get g w hq, he]) hci j hj (hc.2.2.2.1 _ hl) (fun x h => by rw [hT] at h; exact h) hv hd (k ls H locs h1 h2 h3)
theorem r_putf (hc : Ok X g cc own ret hx d) (q ci j : Nat) {C : String} {T : u_T} {N idx : Nat} {fs : List Value} {x : Int32} {ty0 : Nat → FieldType} {ty : FieldType} (hd : decode cc pc = .ok (.putfield idx, 3)) (hq : q < NC) (he : ent g (w q) q = .inr (ci, fs)) (hci : classes[ci]? = some (C, T, N)) (hj : j < N) (hin : ∀ x ∈ u_ws C T N, x ∈ Ttab) (hT : (T j).1 = C)
    (hty : ∀ k, k < N → parseFieldDescriptor (T k).2.2.1 = some (ty0 k)) (hnm : ∀ a, a < N → ∀ b, b < N → a ≠ b → (T a).2.1 ≠ (T b).2.1) (hfin : (T j).2.2.2 = false) (htj : parseFieldDescriptor (T j).2.2.1 = some ty) (hnr : narrow ty (.int x) = .int x) (hfit : fits ty (.int x) = true) (hlen : j < fs.length)
    (hl : Cond.fieldLink own idx C (T j).2.1 (T j).2.2.1 ∈ Ttab) (he2 : .inr (ci, fs.set j (.int x)) = ent g (upd (w q) j x) q) (k : Go X g kc ks Q (wu w q j x) (pc + 3) lp st) : Go X g kc ks Q w pc lp (.int x :: .ref (g.1 q) :: st) := by
  obtain ⟨p, l, e, R, s, m, args, below, meth, c⟩ := X
  intro ls H locs h1 h2 h3
  refine va_put (D := g.2.1) (cl := classes) (tys := tysOf g) hc.1 hc.2.1 hc.2.2.2.1 hin ty0 hty hnm hc.2.2.1 hc.2.2.2.2.1 h2 (cells_D hc.2.2.2.2.2.1 s w) h3 q (by rw [cells_get g w hq, he]) hci j hj (hc.2.2.2.1 _ hl) (fun x h => by rw [hT] at h; exact h) hfin htj hnr hfit hlen hd (fun H1 locs1 a1 _ a3 => ?_)
  rw [cells_set (i := j) (x := x) hq he2] at a1
  exact k ls H1 locs1 h1 a1 a3
theorem r_iret {v : Int32} {P : Rt → Wd → Prop} (hc : Ok X g cc own (some .int) hx d) (hd : decode cc pc = .ok (.ireturn, 1)) (hP : P (.inl (some (.int v))) w) : Go X g kc ks (Fen X g kc ks P) w pc lp [.int v] := by
  obtain ⟨p, l, e, R, s, m, args, below, meth, c⟩ := X
  intro ls H locs h1 h2 h3
  have hlk : meth.locks = false := hc.2.2.2.2.2.2.1
  have k := W.iret (p := p) (l := l) (e := e) (R := R) (s := s) (m := m) (args := args) (below := below) (meth := meth) (c := c) (H := H) (locs := locs) (cells := kc) (slots := ks) (ls := ls) (pc := pc) (v := v) (Qc := fun _ _ oc t => oc = .returned (some (.int v)) ∧ t.heap = H) (free := AA g s) hc.1 hc.2.1 hc.2.2.2.2.2.2.2.1 (fun t ht _ => ⟨rfl, ht⟩) h3.2.2 hd
  intro T hT Y
  obtain ⟨t, a, oc, b1, b2, ⟨b3, b4⟩, L, ⟨-, hW, hsame⟩, hL⟩ := k T hT Y
  exact ⟨t, a, .inl (some (.int v)), w, oc, L, hP, b1, b2, b3, by rw [b4]; exact h2, h3.F b4, hW, hsame, hL⟩
theorem r_zret {v : Int32} {P : Rt → Wd → Prop} (hc : Ok X g cc own (some .boolean) hx d) (hd : decode cc pc = .ok (.ireturn, 1)) (hn : narrow .boolean (.int v) = .int v) (hP : P (.inl (some (.int v))) w) : Go X g kc ks (Fen X g kc ks P) w pc lp [.int v] := by
  obtain ⟨p, l, e, R, s, m, args, below, meth, c⟩ := X
  intro ls H locs h1 h2 h3
  have hlk : meth.locks = false := hc.2.2.2.2.2.2.1
  have k := W.zret (p := p) (l := l) (e := e) (R := R) (s := s) (m := m) (args := args) (below := below) (meth := meth) (c := c) (H := H) (locs := locs) (cells := kc) (slots := ks) (ls := ls) (pc := pc) (v := v) (ty := .boolean) (Qc := fun _ _ oc t => oc = .returned (some (.int v)) ∧ t.heap = H) (free := AA g s) hc.1 hc.2.1 hc.2.2.2.2.2.2.2.1 hn (fun t ht _ => ⟨rfl, ht⟩) h3.2.2 hd
  intro T hT Y
  obtain ⟨t, a, oc, b1, b2, ⟨b3, b4⟩, L, ⟨-, hW, hsame⟩, hL⟩ := k T hT Y
  exact ⟨t, a, .inl (some (.int v)), w, oc, L, hP, b1, b2, b3, by rw [b4]; exact h2, h3.F b4, hW, hsame, hL⟩
theorem r_vret {P : Rt → Wd → Prop} (hc : Ok X g cc own none hx d) (hd : decode cc pc = .ok (.return_, 1)) (hP : P (.inl none) w) : Go X g kc ks (Fen X g kc ks P) w pc lp [] := by
  obtain ⟨p, l, e, R, s, m, args, below, meth, c⟩ := X
  intro ls H locs h1 h2 h3
  have hlk : meth.locks = false := hc.2.2.2.2.2.2.1
  have k := W.vret (p := p) (l := l) (e := e) (R := R) (s := s) (m := m) (args := args) (below := below) (meth := meth) (c := c) (H := H) (locs := locs) (cells := kc) (slots := ks) (ls := ls) (pc := pc) (Qc := fun _ _ oc t => oc = .returned none ∧ t.heap = H) (free := AA g s) hc.1 hc.2.1 hc.2.2.2.2.2.2.2.1 (fun t ht _ => ⟨rfl, ht⟩) h3.2.2 hd
  intro T hT Y
  obtain ⟨t, a, oc, b1, b2, ⟨b3, b4⟩, L, ⟨-, hW, hsame⟩, hL⟩ := k T hT Y
  exact ⟨t, a, .inl none, w, oc, L, hP, b1, b2, b3, by rw [b4]; exact h2, h3.F b4, hW, hsame, hL⟩
end GMEM
