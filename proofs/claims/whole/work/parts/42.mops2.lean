/-! the reference: had, tell, apart, enter -/
theorem r_tin {X : Cxt} {g : GG} {cc : ByteArray} {own : String} {ret : Option FieldType} {hx : List (Nat × Nat × Nat × Nat)} {d kc ks : Nat} {Q : State → Prop} {w : Wd} {pc : Nat} {lp : List (Option Value)} {st : List Value} {dflt lo hi : Int} {offs : Array Int} {len : Nat} {x : Int32} {off : Int} {tgt : Nat} (hc : Ok X g cc own ret hx d) (hd : decode cc pc = .ok (.tableswitch dflt lo hi offs, len)) (h1 : ¬ x.toInt < lo) (h2 : ¬ hi < x.toInt) (ho : offs[(x.toInt - lo).toNat]? = some off) (ht : (pc : Int) + off = (tgt : Int)) (k : Go X g kc ks Q w tgt lp st) : Go X g kc ks Q w pc lp (.int x :: st) := by
  obtain ⟨p, l, e, R, s, m, args, below, meth, c⟩ := X
  intro ls H locs q1 q2 q3
  exact lv_tableIn hc.1 hc.2.1 hd h1 h2 ho ht (k ls H locs q1 q2 q3)
theorem r_tout {X : Cxt} {g : GG} {cc : ByteArray} {own : String} {ret : Option FieldType} {hx : List (Nat × Nat × Nat × Nat)} {d kc ks : Nat} {Q : State → Prop} {w : Wd} {pc : Nat} {lp : List (Option Value)} {st : List Value} {dflt lo hi : Int} {offs : Array Int} {len : Nat} {x : Int32} {tgt : Nat} (hc : Ok X g cc own ret hx d) (hd : decode cc pc = .ok (.tableswitch dflt lo hi offs, len)) (h : x.toInt < lo ∨ hi < x.toInt) (ht : (pc : Int) + dflt = (tgt : Int)) (k : Go X g kc ks Q w tgt lp st) : Go X g kc ks Q w pc lp (.int x :: st) := by
  obtain ⟨p, l, e, R, s, m, args, below, meth, c⟩ := X
  intro ls H locs q1 q2 q3
  exact lv_tableOut hc.1 hc.2.1 hd h ht (k ls H locs q1 q2 q3)
def figI (G : Nat → Nat → Ce) (n p : Nat) : Nat → Int32
  | 0 => nI (f_sc G n p)
  | 1 => Int32.ofInt (f_ba G n p)
  | 2 => nI (f_bu G (f_sc G n) n p)
  | 3 => nI (f_be G (f_sc G n) n p)
  | 4 => nI (f_wi G n p)
  | 5 => nI (f_by G n p)
  | _ => nI (f_gm G n p)
def inR (y : Int32) (k : Nat) : Bool := decide (0 ≤ y ∧ y ≤ nI k)
theorem inR_t {y : Int32} {k : Nat} (h : inR y k = true) (hk : k < 1000) : ∃ j, j ≤ k ∧ y = nI j := by
  obtain ⟨h1, h2⟩ := of_decide_eq_true h
  obtain ⟨j, hj, rfl⟩ := nI_of (Int32.not_lt.mpr h1)
  exact ⟨j, (nI_leI hj (by omega)).mp h2, rfl⟩
theorem cM_tell (l : Launch) (g : GG) (d : Nat) (w : Wd) (m : Nat) (inn : Nat → Bool) (ap : Nat → Nat → Bool) (n : Nat) (op : Bool) (G : Nat → Nat → Ce) (x y : Int32) (hF : FOk m inn ap n op G) (hS : MS w m inn ap n op G) : Con l g yM_tell bM_tell 3 ((some .int)) [] (d + 2) 0 0 [.ref (g.1 48), .int x, .int y] w (Rp (MPost w (rfK (!(isP m x && inR y 6)) false false) (if isP m x && inR y 6 then vIs (figI G n (pN x) (pN y)) else vAny) m inn ap n op G)) := by
  intro X hl ha hm' hk hn' hc
  subst hl
  have hm := hF.1.2
  have hn16 := hF.2.1
  obtain ⟨Q, hQ⟩ : ∃ Q, Q = Fen X g 0 0 (Rp (MPost w (rfK (!(isP m x && inR y 6)) false false) (if isP m x && inR y 6 then vIs (figI G n (pN x) (pN y)) else vAny) m inn ap n op G)) := ⟨_, rfl⟩
  rw [← hQ]
  generalize hKK : rfK (!(isP m x && inR y 6)) false false = K at hQ
  have hS1 := hS.thr (nI K)
  have h29 : Go X g 0 0 Q (wu w 48 0 (nI K)) 29 [some (.ref (g.1 48)), some (.int x), some (.int y)] [.int (bI (!(isP m x && inR y 6) || false || false))] := by
    cases hb : (isP m x && inR y 6) with
    | false =>
      rw [hb] at hQ
      refine r_if_eq_f hc dM_tell_29 (tgt := 34) (by decide) (by decide) ?_
      refine r_iconst hc dM_tell_32 (nI 0) (by decide) ?_
      subst hQ
      exact r_iret hc dM_tell_33 ⟨⟨_, rfl⟩, wu_at _ _ _ _, hS1, (FrM.rf w).put 48 0 _ (by decide)⟩
    | true =>
      rw [hb, if_pos rfl] at hQ
      rw [Bool.and_eq_true] at hb
      obtain ⟨p, hp, rfl⟩ := isP_t hb.1 hm
      obtain ⟨j, hj, rfl⟩ := inR_t hb.2 (by decide)
      rw [pN_nI (by omega), pN_nI (by omega)] at hQ
      have hpost : ∀ v, v = figI G n p j → MPost w K (vIs (figI G n p j)) m inn ap n op G (some (.int v)) (wu w 48 0 (nI K)) := fun v hv => ⟨by rw [hv]; rfl, wu_at _ _ _ _, hS1, (FrM.rf w).put 48 0 _ (by decide)⟩
      refine r_if_eq_t hc dM_tell_29 (tgt := 34) (by decide) rfl ?_
      refine r_iload_n hc dM_tell_34 rfl ?_
      rcases (show j = 0 ∨ j = 1 ∨ j = 2 ∨ j = 3 ∨ j = 4 ∨ j = 5 ∨ j = 6 by omega) with rfl | rfl | rfl | rfl | rfl | rfl | rfl
      · refine r_tin hc dM_tell_35 (tgt := 72) (by decide) (by decide) rfl (by decide) ?_
        refine r_aload_n hc dM_tell_72 rfl ?_
        refine r_iload_n hc dM_tell_73 rfl ?_
        refine kM_70r hc dM_tell_74 (cM_scoreOf _ g d _ G n p hS1.rep hF.2.2.2.1 hn16 hS1.2.1 (by omega)) (by omega) (Nat.le_of_ble_eq_true rfl) ?_
        rintro _ _ ⟨rfl, rfl⟩
        subst hQ
        exact r_iret hc dM_tell_77 (hpost _ rfl)
      · refine r_tin hc dM_tell_35 (tgt := 78) (by decide) (by decide) rfl (by decide) ?_
        refine r_aload_n hc dM_tell_78 rfl ?_
        refine r_iload_n hc dM_tell_79 rfl ?_
        refine kM_74r hc dM_tell_80 (cM_balanceOf _ g d _ G n p hS1.rep hn16 hS1.2.1 (by omega)) (by omega) (Nat.le_of_ble_eq_true rfl) ?_
        rintro _ _ ⟨rfl, rfl⟩
        subst hQ
        exact r_iret hc dM_tell_83 (hpost _ rfl)
      · refine r_tin hc dM_tell_35 (tgt := 84) (by decide) (by decide) rfl (by decide) ?_
        refine r_aload_n hc dM_tell_84 rfl ?_
        refine r_iload_n hc dM_tell_85 rfl ?_
        refine kM_129r hc dM_tell_86 (cM_buchholzOf _ g d _ G n p hS1.rep hF.2.2.2.1 hn16 hS1.2.1 (by omega)) (by omega) (Nat.le_of_ble_eq_true rfl) ?_
        rintro _ _ ⟨rfl, rfl⟩
        subst hQ
        exact r_iret hc dM_tell_89 (hpost _ rfl)
      · refine r_tin hc dM_tell_35 (tgt := 90) (by decide) (by decide) rfl (by decide) ?_
        refine r_aload_n hc dM_tell_90 rfl ?_
        refine r_iload_n hc dM_tell_91 rfl ?_
        refine kM_132r hc dM_tell_92 (cM_bergerOf _ g d _ G n p hS1.rep hF.2.2.2.1 hn16 hS1.2.1 (by omega)) (by omega) (Nat.le_of_ble_eq_true rfl) ?_
        rintro _ _ ⟨rfl, rfl⟩
        subst hQ
        exact r_iret hc dM_tell_95 (hpost _ rfl)
      · refine r_tin hc dM_tell_35 (tgt := 96) (by decide) (by decide) rfl (by decide) ?_
        refine r_aload_n hc dM_tell_96 rfl ?_
        refine r_iload_n hc dM_tell_97 rfl ?_
        refine kM_135r hc dM_tell_98 (cM_wonOf _ g d _ G n p hS1.rep hF.2.2.2.1 hn16 hS1.2.1 (by omega)) (by omega) (Nat.le_of_ble_eq_true rfl) ?_
        rintro _ _ ⟨rfl, rfl⟩
        subst hQ
        exact r_iret hc dM_tell_101 (hpost _ rfl)
      · refine r_tin hc dM_tell_35 (tgt := 102) (by decide) (by decide) rfl (by decide) ?_
        refine r_aload_n hc dM_tell_102 rfl ?_
        refine r_iload_n hc dM_tell_103 rfl ?_
        refine kM_87r hc dM_tell_104 (cM_byesOf _ g d _ G n p hS1.rep hn16 hS1.2.1 (by omega)) (by omega) (Nat.le_of_ble_eq_true rfl) ?_
        rintro _ _ ⟨rfl, rfl⟩
        subst hQ
        exact r_iret hc dM_tell_107 (hpost _ rfl)
      · refine r_tout hc dM_tell_35 (tgt := 108) (by decide) (by decide) ?_
        refine r_aload_n hc dM_tell_108 rfl ?_
        refine r_iload_n hc dM_tell_109 rfl ?_
        refine kM_138r hc dM_tell_110 (cM_gamesOf _ g d _ G n p hS1.rep hn16 hS1.2.1 (by omega)) (by omega) (Nat.le_of_ble_eq_true rfl) ?_
        rintro _ _ ⟨rfl, rfl⟩
        subst hQ
        exact r_iret hc dM_tell_113 (hpost _ rfl)
  have h24 : Go X g 0 0 Q w 24 [some (.ref (g.1 48)), some (.int x), some (.int y)] [.int (bI (!(isP m x && inR y 6))), .ref (g.1 48)] := by
    refine r_iconst hc dM_tell_24 (nI 0) (by decide) ?_
    refine r_iconst hc dM_tell_25 (nI 0) (by decide) ?_
    refine kM_55r hc dM_tell_26 (cM_refused _ g d w _ false false) (by omega) (Nat.le_of_ble_eq_true rfl) ?_
    rintro _ _ ⟨rfl, rfl⟩
    rw [hKK]
    exact h29
  refine r_aload_n hc dM_tell_0 rfl ?_
  refine r_aload_n hc dM_tell_1 rfl ?_
  refine r_iload_n hc dM_tell_2 rfl ?_
  refine kM_59r hc dM_tell_3 (cM_isPlayer _ g d w m x hS.1) (by omega) (Nat.le_of_ble_eq_true rfl) ?_
  rintro _ _ ⟨rfl, rfl⟩
  cases hx : isP m x with
  | false =>
    rw [hx] at h24
    refine r_if_eq_t hc dM_tell_6 (tgt := 19) (by decide) rfl ?_
    refine r_iconst hc dM_tell_19 (nI 1) (by decide) ?_
    refine r_goto hc dM_tell_20 (tgt := 24) (by decide) ?_
    exact h24
  | true =>
    rw [hx] at h24
    refine r_if_eq_f hc dM_tell_6 (tgt := 19) (by decide) (by decide) ?_
    refine r_iload_n hc dM_tell_9 rfl ?_
    refine r_if_lt hc dM_tell_10 (tgt := 19) (by decide) (fun h1 => ?_) (fun h1 => ?_)
    · rw [show inR y 6 = false from decide_eq_false (fun z => absurd h1 (Int32.not_lt.mpr z.1))] at h24
      refine r_iconst hc dM_tell_19 (nI 1) (by decide) ?_
      refine r_goto hc dM_tell_20 (tgt := 24) (by decide) ?_
      exact h24
    · refine r_iload_n hc dM_tell_13 rfl ?_
      refine r_bipush hc dM_tell_14 (nI 6) (by decide) ?_
      refine r_ic_le hc dM_tell_16 (tgt := 23) (by decide) (fun h2 => ?_) (fun h2 => ?_)
      · rw [show inR y 6 = true from decide_eq_true ⟨Int32.not_lt.mp h1, h2⟩] at h24
        refine r_iconst hc dM_tell_23 (nI 0) (by decide) ?_
        exact h24
      · rw [show inR y 6 = false from decide_eq_false (fun z => h2 z.2)] at h24
        refine r_iconst hc dM_tell_19 (nI 1) (by decide) ?_
        refine r_goto hc dM_tell_20 (tgt := 24) (by decide) ?_
        exact h24
def inL (y : Int32) (k : Nat) : Bool := decide (0 ≤ y ∧ y < nI k)
theorem cM_had (l : Launch) (g : GG) (d : Nat) (w : Wd) (m : Nat) (inn : Nat → Bool) (ap : Nat → Nat → Bool) (n : Nat) (op : Bool) (G : Nat → Nat → Ce) (x y : Int32) (hF : FOk m inn ap n op G) (hS : MS w m inn ap n op G) : Con l g yM_had bM_had 5 ((some .int)) [] (d + 1) 0 0 [.ref (g.1 48), .int x, .int y] w (Rp (MPost w (rfK (!(isP m y && isP n x)) false false) (if isP m y && isP n x then vIs (ce_code (G (pN x) (pN y))) else vAny) m inn ap n op G)) := by
  intro X hl ha hm' hk hn' hc
  subst hl
  have hm := hF.1.2
  have hn16 := hF.2.1
  obtain ⟨Q, hQ⟩ : ∃ Q, Q = Fen X g 0 0 (Rp (MPost w (rfK (!(isP m y && isP n x)) false false) (if isP m y && isP n x then vIs (ce_code (G (pN x) (pN y))) else vAny) m inn ap n op G)) := ⟨_, rfl⟩
  rw [← hQ]
  generalize hKK : rfK (!(isP m y && isP n x)) false false = K at hQ
  have hS1 := hS.thr (nI K)
  have h31 : Go X g 0 0 Q (wu w 48 0 (nI K)) 31 [some (.ref (g.1 48)), some (.int x), some (.int y), none, none] [.int (bI (!(isP m y && isP n x) || false || false))] := by
    cases hb : (isP m y && isP n x) with
    | false =>
      rw [hb] at hQ
      refine r_if_eq_f hc dM_had_31 (tgt := 36) (by decide) (by decide) ?_
      refine r_iconst hc dM_had_34 (nI 0) (by decide) ?_
      subst hQ
      exact r_iret hc dM_had_35 ⟨⟨_, rfl⟩, wu_at _ _ _ _, hS1, (FrM.rf w).put 48 0 _ (by decide)⟩
    | true =>
      rw [hb, if_pos rfl] at hQ
      rw [Bool.and_eq_true] at hb
      obtain ⟨p, hp, rfl⟩ := isP_t hb.1 hm
      obtain ⟨r, hr, rfl⟩ : ∃ r, r < n ∧ x = nI r := by
        obtain ⟨h1, h2⟩ := of_decide_eq_true hb.2
        obtain ⟨j, hj, rfl⟩ := nI_of (Int32.not_lt.mpr h1)
        exact ⟨j, (nI_ltI hj (by omega)).mp h2, rfl⟩
      rw [pN_nI (by omega), pN_nI (by omega)] at hQ
      have hM := hS1.rep r hr p (by omega)
      have hT := hF.2.2.2.1 r hr p (by omega)
      have hpost : ∀ v, v = ce_code (G r p) → MPost w K (vIs (ce_code (G r p))) m inn ap n op G (some (.int v)) (wu w 48 0 (nI K)) := fun v hv => ⟨by rw [hv]; rfl, wu_at _ _ _ _, hS1, (FrM.rf w).put 48 0 _ (by decide)⟩
      subst hQ
      refine r_if_eq_t hc dM_had_31 (tgt := 36) (by decide) rfl ?_
      refine r_bipush hc dM_had_36 (nI 12) (by decide) ?_
      refine r_iload_n hc dM_had_38 rfl ?_
      refine r_imul hc dM_had_39 ?_
      refine r_iload_n hc dM_had_40 rfl ?_
      refine r_iadd hc dM_had_41 ?_
      rw [ix12]
      refine r_istore_n hc dM_had_42 (Nat.le_of_ble_eq_true rfl) ?_
      refine r_aload_n hc dM_had_43 rfl ?_
      refine gM_16 hc dM_had_44 ?_
      refine r_iload_n hc dM_had_47 rfl ?_
      refine r_ialdN hc dM_had_48 rfl (by first | omega | (show _ < 12; omega) | (show _ < 204; omega) | (show _ < 144; omega) | (show _ < 2048; omega) | (show _ < 4096; omega) | (show _ < 16; omega)) ?_
      rcases hg : G r p with _ | _ | ⟨q, b, k⟩ <;> rw [hg] at hM <;> simp only [McOk] at hM <;> rw [hg] at hpost
      · rw [hM]
        refine r_istore hc dM_had_49 (Nat.le_of_ble_eq_true rfl) ?_
        refine r_iload hc dM_had_51 rfl ?_
        refine r_bipush hc dM_had_53 (nI 12) (by decide) ?_
        refine r_ic_ne_t hc dM_had_55 (tgt := 63) (by decide) (by decide) ?_
        refine r_iload hc dM_had_63 rfl ?_
        refine r_if_ge_f hc dM_had_65 (tgt := 72) (by decide) (by decide) ?_
        refine r_iconst hc dM_had_68 (-1) (by decide) ?_
        refine r_goto hc dM_had_69 (tgt := 100) (by decide) ?_
        exact r_iret hc dM_had_100 (hpost _ rfl)
      · rw [hM]
        refine r_istore hc dM_had_49 (Nat.le_of_ble_eq_true rfl) ?_
        refine r_iload hc dM_had_51 rfl ?_
        refine r_bipush hc dM_had_53 (nI 12) (by decide) ?_
        refine r_ic_ne_f hc dM_had_55 (tgt := 63) (by decide) rfl ?_
        refine r_bipush hc dM_had_58 (nI 76) (by decide) ?_
        refine r_goto hc dM_had_60 (tgt := 100) (by decide) ?_
        exact r_iret hc dM_had_100 (hpost _ rfl)
      · obtain ⟨q1, q2, q3, q4, q5⟩ := hM
        have hk2 : k ≤ 2 := hT q b k hg
        rw [if_neg (by omega)] at q5
        rw [q2]
        refine r_istore hc dM_had_49 (Nat.le_of_ble_eq_true rfl) ?_
        refine r_iload hc dM_had_51 rfl ?_
        refine r_bipush hc dM_had_53 (nI 12) (by decide) ?_
        refine r_ic_ne_t hc dM_had_55 (tgt := 63) (by decide) (fun z => by rw [nI_eq (by omega) (by decide)] at z; omega) ?_
        refine r_iload hc dM_had_63 rfl ?_
        refine r_if_ge_t hc dM_had_65 (tgt := 72) (by decide) (nI_pos' (by omega)) ?_
        refine r_iload hc dM_had_72 rfl ?_
        refine r_aload_n hc dM_had_74 rfl ?_
        refine gM_20 hc dM_had_75 ?_
        refine r_iload_n hc dM_had_78 rfl ?_
        refine r_zaldN hc dM_had_79 rfl (by first | omega | (show _ < 12; omega) | (show _ < 204; omega) | (show _ < 144; omega) | (show _ < 2048; omega) | (show _ < 4096; omega) | (show _ < 16; omega)) ?_
        rw [q3]
        cases b with
        | true =>
          refine r_if_eq_f hc dM_had_80 (tgt := 88) (by decide) (by decide) ?_
          refine r_bipush hc dM_had_83 (nI 16) (by decide) ?_
          refine r_goto hc dM_had_85 (tgt := 89) (by decide) ?_
          refine r_iadd hc dM_had_89 ?_
          refine r_bipush hc dM_had_90 (nI 32) (by decide) ?_
          refine r_aload_n hc dM_had_92 rfl ?_
          refine gM_23 hc dM_had_93 ?_
          refine r_iload_n hc dM_had_96 rfl ?_
          refine r_ialdN hc dM_had_97 rfl (by first | omega | (show _ < 12; omega) | (show _ < 204; omega) | (show _ < 144; omega) | (show _ < 2048; omega) | (show _ < 4096; omega) | (show _ < 16; omega)) ?_
          rw [q5]
          refine r_imul hc dM_had_98 ?_
          refine r_iadd hc dM_had_99 ?_
          rw [pk_mul, nI_add, nI_add]
          exact r_iret hc dM_had_100 (hpost _ rfl)
        | false =>
          refine r_if_eq_t hc dM_had_80 (tgt := 88) (by decide) rfl ?_
          refine r_iconst hc dM_had_88 (nI 0) (by decide) ?_
          refine r_iadd hc dM_had_89 ?_
          refine r_bipush hc dM_had_90 (nI 32) (by decide) ?_
          refine r_aload_n hc dM_had_92 rfl ?_
          refine gM_23 hc dM_had_93 ?_
          refine r_iload_n hc dM_had_96 rfl ?_
          refine r_ialdN hc dM_had_97 rfl (by first | omega | (show _ < 12; omega) | (show _ < 204; omega) | (show _ < 144; omega) | (show _ < 2048; omega) | (show _ < 4096; omega) | (show _ < 16; omega)) ?_
          rw [q5]
          refine r_imul hc dM_had_98 ?_
          refine r_iadd hc dM_had_99 ?_
          rw [pk_mul, nI_add, nI_add]
          exact r_iret hc dM_had_100 (hpost _ rfl)
  have h26 : Go X g 0 0 Q w 26 [some (.ref (g.1 48)), some (.int x), some (.int y), none, none] [.int (bI (!(isP m y && isP n x))), .ref (g.1 48)] := by
    refine r_iconst hc dM_had_26 (nI 0) (by decide) ?_
    refine r_iconst hc dM_had_27 (nI 0) (by decide) ?_
    refine kM_55r hc dM_had_28 (cM_refused _ g d w _ false false) (by omega) (Nat.le_of_ble_eq_true rfl) ?_
    rintro _ _ ⟨rfl, rfl⟩
    rw [hKK]
    exact h31
  refine r_aload_n hc dM_had_0 rfl ?_
  refine r_aload_n hc dM_had_1 rfl ?_
  refine r_iload_n hc dM_had_2 rfl ?_
  refine kM_59r hc dM_had_3 (cM_isPlayer _ g d w m y hS.1) (by omega) (Nat.le_of_ble_eq_true rfl) ?_
  rintro _ _ ⟨rfl, rfl⟩
  cases hx : isP m y with
  | false =>
    rw [hx] at h26
    refine r_if_eq_t hc dM_had_6 (tgt := 21) (by decide) rfl ?_
    refine r_iconst hc dM_had_21 (nI 1) (by decide) ?_
    refine r_goto hc dM_had_22 (tgt := 26) (by decide) ?_
    exact h26
  | true =>
    rw [hx] at h26
    refine r_if_eq_f hc dM_had_6 (tgt := 21) (by decide) (by decide) ?_
    refine r_iload_n hc dM_had_9 rfl ?_
    refine r_if_lt hc dM_had_10 (tgt := 21) (by decide) (fun h1 => ?_) (fun h1 => ?_)
    · rw [show isP n x = false from decide_eq_false (fun z => absurd h1 (Int32.not_lt.mpr z.1))] at h26
      refine r_iconst hc dM_had_21 (nI 1) (by decide) ?_
      refine r_goto hc dM_had_22 (tgt := 26) (by decide) ?_
      exact h26
    · refine r_iload_n hc dM_had_13 rfl ?_
      refine r_aload_n hc dM_had_14 rfl ?_
      refine gM_63 hc dM_had_15 ?_
      rw [hS.2.1]
      refine r_ic_lt hc dM_had_18 (tgt := 25) (by decide) (fun h2 => ?_) (fun h2 => ?_)
      · rw [show isP n x = true from decide_eq_true ⟨Int32.not_lt.mp h1, h2⟩] at h26
        refine r_iconst hc dM_had_25 (nI 0) (by decide) ?_
        exact h26
      · rw [show isP n x = false from decide_eq_false (fun z => h2 z.2)] at h26
        refine r_iconst hc dM_had_21 (nI 1) (by decide) ?_
        refine r_goto hc dM_had_22 (tgt := 26) (by decide) ?_
        exact h26
