/-! the reference's state, and its simple calls -/
def rnd (n : Nat) (op : Bool) : Nat := if op then n + 1 else n
def MS (w : Wd) (m : Nat) (inn : Nat → Bool) (ap : Nat → Nat → Bool) (n : Nat) (op : Bool) (G : Nat → Nat → Ce) : Prop :=
  w 48 1 = nI m ∧ w 48 4 = nI n ∧ w 48 5 = bI op ∧ MIn w inn m ∧ MKept w ap ∧ MRep w G (rnd n op)
def RowOk (m : Nat) (R : Nat → Ce) : Prop := (∀ p, m ≤ p → R p = none) ∧ ∀ p q b k, R p = some (some (q, b, k)) → q < m ∧ q ≠ p ∧ k ≤ 3 ∧ R q = some (some (p, !b, if k = 3 then 3 else 2 - k))
/-- what every state keeps -/
def FOk (m : Nat) (inn : Nat → Bool) (ap : Nat → Nat → Bool) (n : Nat) (op : Bool) (G : Nat → Nat → Ce) : Prop :=
  (2 ≤ m ∧ m ≤ 12) ∧ n ≤ 16 ∧ (op = true → n < 16) ∧ GTold G n ∧ (∀ p q, ap p q = ap q p) ∧ (∀ p q, m ≤ p → ap p q = false) ∧ (∀ r, r < rnd n op → RowOk m (G r)) ∧ (op = true → canP G n ap inn m = true)
/-- the reference writes its own cells alone -/
def FrM (w w' : Wd) : Prop := ∀ k, (k < 48 ∨ 59 < k) → w' k = w k
theorem FrM.rf (w : Wd) : FrM w w := fun _ _ => rfl
theorem FrM.tr {w w1 w2 : Wd} (h : FrM w w1) (h2 : FrM w1 w2) : FrM w w2 := fun k hk => (h2 k hk).trans (h k hk)
theorem FrM.put {w w1 : Wd} (h : FrM w w1) (k i : Nat) (x : Int32) (hk : 48 ≤ k ∧ k ≤ 59) : FrM w (wu w1 k i x) := fun j hj => by rw [wu_ne (by omega)]; exact h j hj
section MST
variable {w w' : Wd} {m : Nat} {inn : Nat → Bool} {ap : Nat → Nat → Bool} {n : Nat} {op : Bool} {G : Nat → Nat → Ce}
theorem MS.congr (h : MS w m inn ap n op G) (h1 : w' 48 1 = w 48 1) (h4 : w' 48 4 = w 48 4) (h5 : w' 48 5 = w 48 5) (hk : ∀ k, 49 ≤ k → k ≤ 53 → w' k = w k) : MS w' m inn ap n op G := by
  obtain ⟨a1, a2, a3, a4, a5, a6⟩ := h
  refine ⟨h1.trans a1, h4.trans a2, h5.trans a3, fun p hp => ?_, fun p q hp hq => ?_, a6.congr (hk 51 (by decide) (by decide)) (hk 52 (by decide) (by decide)) (hk 53 (by decide) (by decide))⟩
  · rw [hk 49 (by decide) (by decide)]; exact a4 p hp
  · rw [hk 50 (by decide) (by decide)]; exact a5 p q hp hq
theorem MS.thr (h : MS w m inn ap n op G) (x : Int32) : MS (wu w 48 0 x) m inn ap n op G := h.congr (wu_o2 (by decide)) (wu_o2 (by decide)) (wu_o2 (by decide)) (fun k h1 _ => wu_ne (by omega))
theorem MRep.mono {k : Nat} (h : MRep w G n) (hk : k ≤ n) : MRep w G k := fun r hr => h r (by omega)
theorem MS.rep (h : MS w m inn ap n op G) : MRep w G n := h.2.2.2.2.2.mono (by unfold rnd; split <;> omega)
end MST
theorem isP_t {m : Nat} {x : Int32} (h : isP m x = true) (hm : m ≤ 12) : ∃ p, p < m ∧ x = nI p := by
  obtain ⟨h1, h2⟩ := of_decide_eq_true h
  obtain ⟨j, hj, rfl⟩ := nI_of (Int32.not_lt.mpr h1)
  exact ⟨j, (nI_ltI hj (by omega)).mp h2, rfl⟩
theorem isP_nI {m p : Nat} (h : p < m) (hm : m ≤ 12) : isP m (nI p) = true := decide_eq_true ⟨nI_pos' (by omega), nI_lt h (by omega)⟩
/-- how a call of the reference has ended -/
def MPost (w : Wd) (k : Nat) (val : Option Value → Prop) (m : Nat) (inn : Nat → Bool) (ap : Nat → Nat → Bool) (n : Nat) (op : Bool) (G : Nat → Nat → Ce) : Option Value → Wd → Prop := fun v w' => val v ∧ w' 48 0 = nI k ∧ MS w' m inn ap n op G ∧ FrM w w'
def vAny : Option Value → Prop := fun v => ∃ x : Int32, v = some (.int x)
def vIs (x : Int32) : Option Value → Prop := fun v => v = some (.int x)
theorem cM_players (l : Launch) (g : GG) (d : Nat) (w : Wd) (m : Nat) (inn : Nat → Bool) (ap : Nat → Nat → Bool) (n : Nat) (op : Bool) (G : Nat → Nat → Ce) (hS : MS w m inn ap n op G) : Con l g yM_players bM_players 1 ((some .int)) [] d 0 0 [.ref (g.1 48)] w (Rp (MPost w 0 (vIs (nI m)) m inn ap n op G)) := by
  intro X hl ha hm' hk hn' hc
  subst hl
  refine r_aload_n hc dM_players_0 rfl ?_
  refine r_iconst hc dM_players_1 (nI 0) (by decide) ?_
  refine pM_48 hc dM_players_2 ?_
  refine r_aload_n hc dM_players_5 rfl ?_
  refine gM_44 hc dM_players_6 ?_
  exact r_iret hc dM_players_9 ⟨by rw [(hS.thr _).1]; rfl, wu_at _ _ _ _, hS.thr _, (FrM.rf w).put 48 0 _ (by decide)⟩
theorem cM_rounds (l : Launch) (g : GG) (d : Nat) (w : Wd) (m : Nat) (inn : Nat → Bool) (ap : Nat → Nat → Bool) (n : Nat) (op : Bool) (G : Nat → Nat → Ce) (hS : MS w m inn ap n op G) : Con l g yM_rounds bM_rounds 1 ((some .int)) [] d 0 0 [.ref (g.1 48)] w (Rp (MPost w 0 (vIs (nI n)) m inn ap n op G)) := by
  intro X hl ha hm' hk hn' hc
  subst hl
  refine r_aload_n hc dM_rounds_0 rfl ?_
  refine r_iconst hc dM_rounds_1 (nI 0) (by decide) ?_
  refine pM_48 hc dM_rounds_2 ?_
  refine r_aload_n hc dM_rounds_5 rfl ?_
  refine gM_63 hc dM_rounds_6 ?_
  exact r_iret hc dM_rounds_9 ⟨by rw [(hS.thr _).2.1]; rfl, wu_at _ _ _ _, hS.thr _, (FrM.rf w).put 48 0 _ (by decide)⟩
/-- the number that x is -/
def pN (x : Int32) : Nat := x.toNatClampNeg
theorem pN_nI {p : Nat} (h : p < 2 ^ 31) : pN (nI p) = p := nI_clamp h
theorem cM_isIn (l : Launch) (g : GG) (d : Nat) (w : Wd) (m : Nat) (inn : Nat → Bool) (ap : Nat → Nat → Bool) (n : Nat) (op : Bool) (G : Nat → Nat → Ce) (x : Int32) (hm : m ≤ 12) (hS : MS w m inn ap n op G) : Con l g yM_isIn bM_isIn 2 ((some .boolean)) [] (d + 1) 0 0 [.ref (g.1 48), .int x] w (Rp (MPost w 0 (vIs (bI (isP m x && inn (pN x)))) m inn ap n op G)) := by
  intro X hl ha hm' hk hn' hc
  subst hl
  have hS1 := hS.thr (nI 0)
  have hpost : ∀ v, v = bI (isP m x && inn (pN x)) → MPost w 0 (vIs (bI (isP m x && inn (pN x)))) m inn ap n op G (some (.int v)) (wu w 48 0 (nI 0)) := fun v hv => ⟨by rw [hv]; rfl, wu_at _ _ _ _, hS1, (FrM.rf w).put 48 0 _ (by decide)⟩
  refine r_aload_n hc dM_isIn_0 rfl ?_
  refine r_iconst hc dM_isIn_1 (nI 0) (by decide) ?_
  refine pM_48 hc dM_isIn_2 ?_
  refine r_aload_n hc dM_isIn_5 rfl ?_
  refine r_iload_n hc dM_isIn_6 rfl ?_
  refine kM_59r hc dM_isIn_7 (cM_isPlayer _ g d _ m x hS1.1) (Nat.le_refl _) (Nat.le_of_ble_eq_true rfl) ?_
  rintro _ _ ⟨rfl, rfl⟩
  cases hx : isP m x with
  | false =>
    rw [hx] at hpost
    refine r_if_eq_t hc dM_isIn_10 (tgt := 26) (by decide) rfl ?_
    refine r_iconst hc dM_isIn_26 (nI 0) (by decide) ?_
    exact r_zret hc dM_isIn_27 rfl (hpost _ rfl)
  | true =>
    rw [hx] at hpost
    obtain ⟨p, hp, rfl⟩ := isP_t hx hm
    rw [pN_nI (by omega)] at hpost ⊢
    refine r_if_eq_f hc dM_isIn_10 (tgt := 26) (by decide) (by decide) ?_
    refine r_aload_n hc dM_isIn_13 rfl ?_
    refine gM_7 hc dM_isIn_14 ?_
    refine r_iload_n hc dM_isIn_17 rfl ?_
    refine r_zaldN hc dM_isIn_18 rfl (by first | omega | (show _ < 12; omega) | (show _ < 204; omega) | (show _ < 144; omega) | (show _ < 2048; omega) | (show _ < 4096; omega) | (show _ < 16; omega)) ?_
    rw [hS1.2.2.2.1 p hp]
    cases hi : inn p with
    | false =>
      rw [hi] at hpost
      refine r_if_eq_t hc dM_isIn_19 (tgt := 26) (by decide) rfl ?_
      refine r_iconst hc dM_isIn_26 (nI 0) (by decide) ?_
      exact r_zret hc dM_isIn_27 rfl (hpost _ rfl)
    | true =>
      rw [hi] at hpost
      refine r_if_eq_f hc dM_isIn_19 (tgt := 26) (by decide) (by decide) ?_
      refine r_iconst hc dM_isIn_22 (nI 1) (by decide) ?_
      refine r_goto hc dM_isIn_23 (tgt := 27) (by decide) ?_
      exact r_zret hc dM_isIn_27 rfl (hpost _ rfl)
theorem cM_leave (l : Launch) (g : GG) (d : Nat) (w : Wd) (m : Nat) (inn : Nat → Bool) (ap : Nat → Nat → Bool) (n : Nat) (op : Bool) (G : Nat → Nat → Ce) (x : Int32) (hm : m ≤ 12) (hS : MS w m inn ap n op G) : Con l g yM_leave bM_leave 2 ((none : Option Jvm.ClassFile.FieldType)) [] (d + 1) 0 0 [.ref (g.1 48), .int x] w (Rp (MPost w (rfK (!isP m x) (isP m x && !inn (pN x)) op) (fun v => v = none) m (if isP m x && inn (pN x) && !op then fun p => if p = pN x then false else inn p else inn) ap n op G)) := by
  intro X hl ha hm' hk hn' hc
  subst hl
  -- the three questions
  have h1 : ∀ Q, (∀ w1, w1 = wu w 48 0 (nI (rfK (!isP m x) (isP m x && !inn (pN x)) op)) → Go X g 0 0 Q w1 43 [some (.ref (g.1 48)), some (.int x)] [.int (bI (!isP m x || (isP m x && !inn (pN x)) || op))]) → Go X g 0 0 Q w 0 [some (.ref (g.1 48)), some (.int x)] [] := by
    intro Q hK
    have h36 : Go X g 0 0 Q w 36 [some (.ref (g.1 48)), some (.int x)] [.int (bI (isP m x && !inn (pN x))), .int (bI (!isP m x)), .ref (g.1 48)] := by
      refine r_aload_n hc dM_leave_36 rfl ?_
      refine gM_51 hc dM_leave_37 ?_
      rw [hS.2.2.1]
      refine kM_55r hc dM_leave_40 (cM_refused _ g d w _ _ _) (Nat.le_refl _) (Nat.le_of_ble_eq_true rfl) ?_
      rintro _ _ ⟨rfl, rfl⟩
      exact hK _ rfl
    have h14 : Go X g 0 0 Q w 14 [some (.ref (g.1 48)), some (.int x)] [.int (bI (!isP m x)), .ref (g.1 48)] := by
      refine r_aload_n hc dM_leave_14 rfl ?_
      refine r_iload_n hc dM_leave_15 rfl ?_
      refine kM_59r hc dM_leave_16 (cM_isPlayer _ g d w m x hS.1) (Nat.le_refl _) (Nat.le_of_ble_eq_true rfl) ?_
      rintro _ _ ⟨rfl, rfl⟩
      cases hx : isP m x with
      | false =>
        rw [hx] at h36
        refine r_if_eq_t hc dM_leave_19 (tgt := 35) (by decide) rfl ?_
        refine r_iconst hc dM_leave_35 (nI 0) (by decide) ?_
        exact h36
      | true =>
        rw [hx] at h36
        obtain ⟨p, hp, rfl⟩ := isP_t hx hm
        rw [pN_nI (by omega)] at h36
        refine r_if_eq_f hc dM_leave_19 (tgt := 35) (by decide) (by decide) ?_
        refine r_aload_n hc dM_leave_22 rfl ?_
        refine gM_7 hc dM_leave_23 ?_
        refine r_iload_n hc dM_leave_26 rfl ?_
        refine r_zaldN hc dM_leave_27 rfl (by first | omega | (show _ < 12; omega) | (show _ < 204; omega) | (show _ < 144; omega) | (show _ < 2048; omega) | (show _ < 4096; omega) | (show _ < 16; omega)) ?_
        rw [hS.2.2.2.1 p hp]
        cases hi : inn p with
        | false =>
          rw [hi] at h36
          refine r_if_ne_f hc dM_leave_28 (tgt := 35) (by decide) rfl ?_
          refine r_iconst hc dM_leave_31 (nI 1) (by decide) ?_
          refine r_goto hc dM_leave_32 (tgt := 36) (by decide) ?_
          exact h36
        | true =>
          rw [hi] at h36
          refine r_if_ne_t hc dM_leave_28 (tgt := 35) (by decide) (by decide) ?_
          refine r_iconst hc dM_leave_35 (nI 0) (by decide) ?_
          exact h36
    refine r_aload_n hc dM_leave_0 rfl ?_
    refine r_aload_n hc dM_leave_1 rfl ?_
    refine r_iload_n hc dM_leave_2 rfl ?_
    refine kM_59r hc dM_leave_3 (cM_isPlayer _ g d w m x hS.1) (Nat.le_refl _) (Nat.le_of_ble_eq_true rfl) ?_
    rintro _ _ ⟨rfl, rfl⟩
    cases hx : isP m x with
    | false =>
      rw [hx] at h14
      refine r_if_ne_f hc dM_leave_6 (tgt := 13) (by decide) rfl ?_
      refine r_iconst hc dM_leave_9 (nI 1) (by decide) ?_
      refine r_goto hc dM_leave_10 (tgt := 14) (by decide) ?_
      exact h14
    | true =>
      rw [hx] at h14
      refine r_if_ne_t hc dM_leave_6 (tgt := 13) (by decide) (by decide) ?_
      refine r_iconst hc dM_leave_13 (nI 0) (by decide) ?_
      exact h14
  refine h1 _ ?_
  rintro w1 rfl
  have hS1 := hS.thr (nI (rfK (!isP m x) (isP m x && !inn (pN x)) op))
  by_cases hb : (isP m x && inn (pN x) && !op) = true
  · rw [if_pos hb]
    rw [Bool.and_eq_true, Bool.and_eq_true] at hb
    obtain ⟨⟨b1, b2⟩, b3⟩ := hb
    obtain ⟨p, hp, rfl⟩ := isP_t b1 hm
    rw [pN_nI (by omega)] at b2 hS1 ⊢
    simp only [b1, b2, show op = false by simpa using b3] at hS1 ⊢
    refine r_if_ne_f hc dM_leave_43 (tgt := 53) (by decide) rfl ?_
    refine r_aload_n hc dM_leave_46 rfl ?_
    refine gM_7 hc dM_leave_47 ?_
    refine r_iload_n hc dM_leave_50 rfl ?_
    refine r_iconst hc dM_leave_51 (nI 0) (by decide) ?_
    refine r_zastN hc dM_leave_52 rfl (by first | omega | (show _ < 12; omega) | (show _ < 204; omega) | (show _ < 144; omega) | (show _ < 2048; omega) | (show _ < 4096; omega) | (show _ < 16; omega)) (by first | exact Or.inl rfl | exact Or.inr rfl | assumption) ?_
    refine r_vret hc dM_leave_53 ⟨rfl, ?_, ⟨?_, ?_, ?_, fun q hq => ?_, fun a b q1 q2 => ?_, fun r hr a q1 => ?_⟩, ((FrM.rf w).put 48 0 _ (by decide)).put 49 p _ (by decide)⟩
    · rw [wu_o1 (by decide), wu_at]
    · rw [wu_o1 (by decide)]; exact hS1.1
    · rw [wu_o1 (by decide)]; exact hS1.2.1
    · rw [wu_o1 (by decide)]; exact hS1.2.2.1
    · show _ = bI (if q = p then false else inn q)
      by_cases hqp : q = p
      · subst hqp
        rw [wu_at, if_pos rfl]
        rfl
      · rw [wu_o2 hqp, if_neg hqp]
        exact hS1.2.2.2.1 q hq
    · rw [wu_o1 (by decide)]; exact hS1.2.2.2.2.1 a b q1 q2
    · rw [wu_o1 (by decide), wu_o1 (by decide), wu_o1 (by decide)]; exact hS1.2.2.2.2.2 r hr a q1
  · rw [if_neg hb]
    have hor : (!isP m x || (isP m x && !inn (pN x)) || op) = true := by
      revert hb
      cases isP m x <;> cases inn (pN x) <;> cases op <;> simp
    rw [hor]
    refine r_if_ne_t hc dM_leave_43 (tgt := 53) (by decide) (by decide) ?_
    exact r_vret hc dM_leave_53 ⟨rfl, wu_at _ _ _ _, hS1, (FrM.rf w).put 48 0 _ (by decide)⟩
