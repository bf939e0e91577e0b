/-! The field's numbers, without a machine. A cell: nothing; a bye; a game (opponent, white?, result; 3: not told yet). -/
abbrev Ce : Type := Option (Option (Nat × Bool × Nat))
def ce_code : Ce → Int32
  | none => -1
  | some none => 76
  | some (some (o, b, k)) => nI (o + (if b then 16 else 0) + 32 * k)
def ce_pts : Ce → Nat
  | none => 0
  | some none => 2
  | some (some (_, _, k)) => k
def ce_col (b : Bool) : Int := if b then 1 else -1
/-- score over the first rounds -/
def f_sc (G : Nat → Nat → Ce) : Nat → Nat → Nat
  | 0, _ => 0
  | r + 1, p => f_sc G r p + ce_pts (G r p)
def f_ba (G : Nat → Nat → Ce) : Nat → Nat → Int
  | 0, _ => 0
  | r + 1, p => match G r p with
    | some (some (_, b, _)) => f_ba G r p + ce_col b
    | _ => f_ba G r p
/-- colour of the latest game -/
def f_la (G : Nat → Nat → Ce) : Nat → Nat → Int
  | 0, _ => 0
  | r + 1, p => match G r p with
    | some (some (_, b, _)) => ce_col b
    | _ => f_la G r p
/-- colour of the one before it -/
def f_lb (G : Nat → Nat → Ce) : Nat → Nat → Int
  | 0, _ => 0
  | r + 1, p => match G r p with
    | some (some _) => f_la G r p
    | _ => f_lb G r p
def f_by (G : Nat → Nat → Ce) : Nat → Nat → Nat
  | 0, _ => 0
  | r + 1, p => match G r p with
    | some none => f_by G r p + 1
    | _ => f_by G r p
def f_wi (G : Nat → Nat → Ce) : Nat → Nat → Nat
  | 0, _ => 0
  | r + 1, p => match G r p with
    | some (some (_, _, k)) => if k = 2 then f_wi G r p + 1 else f_wi G r p
    | _ => f_wi G r p
def f_gm (G : Nat → Nat → Ce) : Nat → Nat → Nat
  | 0, _ => 0
  | r + 1, p => match G r p with
    | some (some _) => f_gm G r p + 1
    | _ => f_gm G r p
/-- the sum of the opponents' scores (s), over the first rounds -/
def f_bu (G : Nat → Nat → Ce) (s : Nat → Nat) : Nat → Nat → Nat
  | 0, _ => 0
  | r + 1, p => match G r p with
    | some (some (o, _, _)) => f_bu G s r p + s o
    | _ => f_bu G s r p
def f_be (G : Nat → Nat → Ce) (s : Nat → Nat) : Nat → Nat → Nat
  | 0, _ => 0
  | r + 1, p => match G r p with
    | some (some (o, _, k)) => f_be G s r p + k * s o
    | _ => f_be G s r p
/-- have they played -/
def f_mt (G : Nat → Nat → Ce) : Nat → Nat → Nat → Bool
  | 0, _, _ => false
  | r + 1, p, q => match G r p with
    | some (some (o, _, _)) => f_mt G r p q || o == q
    | _ => f_mt G r p q
/-- the closed rounds hold what a round can hold -/
def CeOk (n : Nat) (c : Ce) : Prop := match c with
  | some (some (o, _, k)) => o < n ∧ k ≤ 2
  | _ => True
theorem f_sc_le {G : Nat → Nat → Ce} {n : Nat} : ∀ (r p : Nat), (∀ i, i < r → CeOk n (G i p)) → f_sc G r p ≤ 2 * r
  | 0, _, _ => Nat.le_refl _
  | r + 1, p, h => by
    have ih := f_sc_le r p (fun i hi => h i (by omega))
    have h1 := h r (by omega)
    have : ce_pts (G r p) ≤ 2 := by
      unfold CeOk at h1
      unfold ce_pts
      split <;> simp_all
    simp only [f_sc]
    omega
/-! the order -/
def bk (s : Nat → Nat) (el : Nat → Bool) (n : Nat) : Nat → List Nat
  | 0 => []
  | k + 1 => (List.range n).filter (fun p => el p && s p == k) ++ bk s el n k
theorem bk_mem {s : Nat → Nat} {el : Nat → Bool} {n q : Nat} : ∀ {K : Nat}, q ∈ bk s el n K ↔ q < n ∧ el q = true ∧ s q < K
  | 0 => by simp [bk]
  | K + 1 => by
    simp only [bk, List.mem_append, List.mem_filter, List.mem_range, Bool.and_eq_true, beq_iff_eq, bk_mem (K := K)]
    constructor
    · rintro (⟨h1, h2, h3⟩ | ⟨h1, h2, h3⟩)
      · exact ⟨h1, h2, by omega⟩
      · exact ⟨h1, h2, by omega⟩
    · rintro ⟨h1, h2, h3⟩
      by_cases h : s q = K
      · exact Or.inl ⟨h1, h2, h⟩
      · exact Or.inr ⟨h1, h2, by omega⟩
theorem bk_skip {s : Nat → Nat} {el : Nat → Bool} {p : Nat} : ∀ {K : Nat}, (el p = false ∨ K ≤ s p) → bk s el (p + 1) K = bk s el p K
  | 0, _ => rfl
  | K + 1, h => by
    have h1 : (el p && s p == K) = false := by
      rcases h with h | h
      · simp [h]
      · have : ¬ s p = K := by omega
        simp [this]
    have ih : bk s el (p + 1) K = bk s el p K := bk_skip (h.imp id (by omega))
    simp only [bk, List.range_succ, List.filter_append, ih]
    simp [h1]
theorem bk_ins {s : Nat → Nat} {el : Nat → Bool} {p : Nat} (he : el p = true) : ∀ {K : Nat}, s p < K → ∃ A B : List Nat, bk s el p K = A ++ B ∧ bk s el (p + 1) K = A ++ p :: B ∧ (∀ q ∈ A, s p ≤ s q) ∧ ∀ q ∈ B, s q < s p
  | 0, h => absurd h (Nat.not_lt_zero _)
  | K + 1, h => by
    by_cases hk : s p = K
    · refine ⟨(List.range p).filter (fun p => el p && s p == K), bk s el p K, rfl, ?_, fun q hq => ?_, fun q hq => ?_⟩
      · simp only [bk, List.range_succ, List.filter_append, bk_skip (s := s) (el := el) (p := p) (K := K) (Or.inr (by omega))]
        simp [he, hk]
      · simp only [List.mem_filter, Bool.and_eq_true, beq_iff_eq] at hq
        omega
      · have := (bk_mem.mp hq).2.2
        omega
    · obtain ⟨A, B, h1, h2, h3, h4⟩ := bk_ins (s := s) he (K := K) (by omega)
      refine ⟨(List.range p).filter (fun p => el p && s p == K) ++ A, B, by simp [bk, h1], ?_, fun q hq => ?_, h4⟩
      · have hf : (el p && s p == K) = false := by simp [hk]
        simp only [bk, List.range_succ, List.filter_append, h2]
        simp [hf]
      · rcases List.mem_append.mp hq with hq | hq
        · simp only [List.mem_filter, Bool.and_eq_true, beq_iff_eq] at hq
          omega
        · exact h3 q hq
theorem bk_nodup {s : Nat → Nat} {el : Nat → Bool} {n : Nat} : ∀ {K : Nat}, (bk s el n K).Nodup
  | 0 => List.nodup_nil
  | K + 1 => by
    simp only [bk]
    rw [List.nodup_append]
    refine ⟨List.Pairwise.filter _ List.nodup_range, bk_nodup, ?_⟩
    intro a ha b hb hab
    subst hab
    simp only [List.mem_filter, Bool.and_eq_true, beq_iff_eq] at ha
    have := (bk_mem.mp hb).2.2
    omega
