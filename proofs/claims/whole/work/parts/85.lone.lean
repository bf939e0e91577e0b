/-! the law's helpers, each in one contract, in the words of the reference's -/
theorem Ok.le {X : Cxt} {g : GG} {cc : ByteArray} {own : String} {ret : Option FieldType} {hx : List (Nat × Nat × Nat × Nat)} {d d' : Nat} (h : Ok X g cc own ret hx d') (hd : d ≤ d') : Ok X g cc own ret hx d := by
  obtain ⟨p, l, e, R, s, m, args, below, meth, c⟩ := X
  obtain ⟨a1, a2, a3, a4, a5, a6, a7, a8, a9, a10, a11, a12⟩ := h
  exact ⟨a1, a2, a3, a4, a5, a6, a7, a8, a9, Nat.le_trans hd a10, Nat.le_trans (Nat.mul_le_mul_left 30 hd) a11, a12⟩
theorem Con.up {l : Launch} {g : GG} {y : MethodName} {cc : ByteArray} {nL : Nat} {ret : Option FieldType} {hx : List (Nat × Nat × Nat × Nat)} {d k n d' k' n' : Nat} {av : List Value} {w : Wd} {P P' : Rt → Wd → Prop} (h : Con l g y cc nL ret hx d k n av w P) (hd : d ≤ d') (hk : k ≤ k') (hn : n ≤ n') (hP : ∀ r w', P r w' → P' r w') : Con l g y cc nL ret hx d' k' n' av w P' := by
  intro X h1 h2 h3 h4 h5 hc
  have h6 := h X h1 h2 h3 (Nat.le_trans hk h4) (Nat.le_trans hn h5) (hc.le hd)
  obtain ⟨p, l, e, R, s, m, args, below, meth, c⟩ := X
  intro ls H locs q1 q2 q3 T hT Y
  obtain ⟨t, st, r, w', oc, L, r1, r2, r3, r4, r5, r6, r7, r8, r9⟩ := h6 ls H locs q1 q2 q3 T hT Y
  exact ⟨t, st, r, w', oc, L, hP _ _ r1, r2, r3, r4, r5, r6, r7, r8.mono hk hn, r9⟩
theorem Rp.mono {P P' : Option Value → Wd → Prop} (h : ∀ v w', P v w' → P' v w') : ∀ r w', Rp P r w' → Rp P' r w'
  | .inl v, w', q => h v w' q
  | .inr _, _, q => absurd q Rp_r
def FrL (w w' : Wd) : Prop := ∀ k, 48 ≤ k → k < 60 → w' k = w k
def LPost (w : Wd) (k : Nat) (val : Option Value → Prop) (m : Nat) (inn : Nat → Bool) (ap : Nat → Nat → Bool) (n : Nat) (op : Bool) (G : Nat → Nat → Ce) : Option Value → Wd → Prop := fun v w' => v = some (.int (nI k)) ∧ (k = 0 → val (some (.int (w' 60 0)))) ∧ CS w' m inn ap n op G ∧ FOk m inn ap n op G ∧ FrL w w'
section LPS
variable {w : Wd} {k : Nat} {val : Option Value → Prop} {m : Nat} {inn : Nat → Bool} {ap : Nat → Nat → Bool} {n : Nat} {op : Bool} {G : Nat → Nat → Ce} {v : Option Value} {w' : Wd}
theorem FOk.rnd (hF : FOk m inn ap n op G) : rnd n op ≤ 17 := by
  have := hF.2.1
  show (if op then n + 1 else n) ≤ 17
  split <;> omega
theorem CS.out (hF : FOk m inn ap n op G) (h : CS w m inn ap n op G) (x : Int32) : CS (wu w 60 0 x) m inn ap n op G := h.congr hF.rnd (fun k hk => wu_ne (by omega))
theorem LP_n (hF : FOk m inn ap n op G) (hS : CS w m inn ap n op G) (hk : k ≠ 0) (q : An (some (.int (nI k))) w v w') : LPost w k val m inn ap n op G v w' := by
  obtain ⟨rfl, rfl⟩ := q
  exact ⟨rfl, fun h => absurd h hk, hS, hF, fun _ _ _ => rfl⟩
theorem LP_cs (hF : FOk m inn ap n op G) (hk : k ≠ 0) (q : v = some (.int (nI k)) ∧ CS w' m inn ap n op G ∧ FrC w w') : LPost w k val m inn ap n op G v w' := by
  obtain ⟨rfl, q2, q3⟩ := q
  exact ⟨rfl, fun h => absurd h hk, q2, hF, fun j h _ => q3 j (by omega)⟩
theorem LP_v (hF : FOk m inn ap n op G) (q : v = some (.int (nI 0)) ∧ CS w' m inn ap n op G ∧ FrC w w') : LPost w 0 (fun _ => True) m inn ap n op G v w' := by
  obtain ⟨rfl, q2, q3⟩ := q
  exact ⟨rfl, fun _ => trivial, q2, hF, fun j h _ => q3 j (by omega)⟩
theorem LP_y {x : Int32} (hF : FOk m inn ap n op G) (hv : val (some (.int x))) (q : v = some (.int (nI 0)) ∧ ∃ w1, CS w1 m inn ap n op G ∧ FrC w w1 ∧ w' = wu w1 60 0 x) : LPost w 0 val m inn ap n op G v w' := by
  obtain ⟨rfl, w1, q2, q3, rfl⟩ := q
  exact ⟨rfl, fun _ => by rw [wu_at]; exact hv, q2.out hF x, hF, fun j h h2 => by rw [wu_ne (by omega)]; exact q3 j (by omega)⟩
theorem LP_a {x : Int32} (hF : FOk m inn ap n op G) (hS : CS w m inn ap n op G) (hv : val (some (.int x))) (q : An (some (.int (nI 0))) (wu w 60 0 x) v w') : LPost w 0 val m inn ap n op G v w' := by
  obtain ⟨rfl, rfl⟩ := q
  exact LP_y hF hv ⟨rfl, w, hS, FrC.rf w, rfl⟩
end LPS
section LONE
variable (l : Launch) (g : GG) (d : Nat) (w : Wd) (m : Nat) (inn : Nat → Bool) (ap : Nat → Nat → Bool) (n : Nat) (op : Bool) (G : Nat → Nat → Ce) (x y : Int32) (b : Bool)
theorem cL_leave (hF : FOk m inn ap n op G) (hS : CS w m inn ap n op G) : Con l g yL_leave bL_leave 3 ((some .int)) [(0, 5, 8, 19), (0, 5, 11, 21), (0, 5, 14, 13)] (d + 8) 1 6 [.ref (g.1 0), .int x] w (Rp (LPost w (rfK (!isP m x) (isP m x && !inn (pN x)) op) (fun _ => True) m (if isP m x && inn (pN x) && !op then fun p => if p = pN x then false else inn p else inn) ap n op G)) := by
  cases h : isP m x with
  | false => exact (cL_leave_nP l g d w m inn ap n op G x hF hS h).up (Nat.le_refl _) (Nat.le_refl _) (Nat.le_refl _) (Rp.mono fun v w' q => LP_n hF hS (Nat.succ_ne_zero _) q)
  | true =>
    cases hi : inn (pN x) with
    | false => exact (cL_leave_nE l g d w m inn ap n op G x hF hS h hi).up (Nat.le_refl _) (Nat.le_refl _) (Nat.le_refl _) (Rp.mono fun v w' q => LP_n hF hS (Nat.succ_ne_zero _) q)
    | true =>
      cases op with
      | true => exact (cL_leave_nO l g d w m inn ap n G x hF hS h hi).up (Nat.le_refl _) (Nat.le_refl _) (Nat.le_refl _) (Rp.mono fun v w' q => LP_n hF hS (Nat.succ_ne_zero _) q)
      | false => exact (cL_leave_y l g d w m inn ap n G x hF hS h hi).up (by omega) (by omega) (by omega) (Rp.mono fun v w' q => LP_v hF.leave q)
theorem cL_enter (hF : FOk m inn ap n op G) (hS : CS w m inn ap n op G) : Con l g yL_enter bL_enter 3 ((some .int)) [(0, 8, 11, 13)] (d + 8) 1 6 [.ref (g.1 0), .ref (g.1 60)] w (Rp (LPost w (rfK (op || decide (m = 12)) false false) (if op || decide (m = 12) then vAny else vIs (nI m)) (if op || decide (m = 12) then m else m + 1) (if op || decide (m = 12) then inn else fun p => if p = m then true else inn p) ap n op G)) := by
  cases h : (op || decide (m = 12)) with
  | true => exact (cL_enter_n l g d w m inn ap n op G hF hS h).up (Nat.le_refl _) (Nat.le_refl _) (Nat.le_refl _) (Rp.mono fun v w' q => LP_n hF hS (Nat.succ_ne_zero _) q)
  | false =>
    obtain ⟨h1, h2⟩ := Bool.or_eq_false_iff.mp h
    subst h1
    have h3 := of_decide_eq_false h2
    exact (cL_enter_y l g d w m inn ap n G hF hS h3).up (by omega) (by omega) (by omega) (Rp.mono fun v w' q => LP_y (hF.enter h3) rfl q)
theorem cL_apart (hF : FOk m inn ap n op G) (hS : CS w m inn ap n op G) : Con l g yL_apart bL_apart 6 ((some .int)) [(0, 19, 22, 19), (0, 19, 26, 27), (0, 19, 30, 13)] (d + 8) 1 6 [.ref (g.1 0), .int x, .int y, .int (bI b), .ref (g.1 60)] w (Rp (LPost w (rfK (!(isP m x && isP m y)) (decide (x = y)) op) (if apOk m op x y then vIs (bI (ap (pN x) (pN y) != b)) else vAny) m inn (if apOk m op x y then apUp ap (pN x) (pN y) b else ap) n op G)) := by
  unfold apOk
  cases h : (isP m x && isP m y) with
  | false => exact (cL_apart_nP l g d w m inn ap n op G x y b hF hS h).up (Nat.le_refl _) (Nat.le_refl _) (Nat.le_refl _) (Rp.mono fun v w' q => LP_n hF hS (Nat.succ_ne_zero _) q)
  | true =>
    obtain ⟨h1, h2⟩ := Bool.and_eq_true_iff.mp h
    cases hd : decide (x = y) with
    | true => exact (cL_apart_nS l g d w m inn ap n op G x y b hF hS h1 h2 (of_decide_eq_true hd)).up (Nat.le_refl _) (Nat.le_refl _) (Nat.le_refl _) (Rp.mono fun v w' q => LP_n hF hS (Nat.succ_ne_zero _) q)
    | false =>
      cases op with
      | true => exact (cL_apart_nO l g d w m inn ap n G x y b hF hS h1 h2 (of_decide_eq_false hd)).up (Nat.le_refl _) (Nat.le_refl _) (Nat.le_refl _) (Rp.mono fun v w' q => LP_n hF hS (Nat.succ_ne_zero _) q)
      | false =>
        obtain ⟨p, hp, e1⟩ := isP_t h1 hF.1.2
        obtain ⟨p2, hp2, e2⟩ := isP_t h2 hF.1.2
        have hm := hF.1.2
        exact (cL_apart_y l g d w m inn ap n G x y b hF hS h1 h2 (of_decide_eq_false hd)).up (by omega) (by omega) (by omega) (Rp.mono fun v w' q => LP_y (hF.apart (by rw [e1, pN_nI (by omega)]; exact hp) (by rw [e2, pN_nI (by omega)]; exact hp2)) rfl q)
theorem cL_pair (hF : FOk m inn ap n op G) (hS : CS w m inn ap n op G) : Con l g yL_pair bL_pair 3 ((some .int)) [(0, 8, 11, 13), (0, 8, 14, 21)] (d + 8) 1 6 [.ref (g.1 0), .ref (g.1 60)] w (Rp (LPost w (rfK (prBad n op) (!canP G n ap inn m) false) (if !prBad n op && canP G n ap inn m then vIs (nI (newGames G n ap inn m)) else vAny) m inn ap n (if !prBad n op && canP G n ap inn m then true else op) (if !prBad n op && canP G n ap inn m then gUp G n (newRow G n ap inn m) else G))) := by
  cases h : prBad n op with
  | true => exact (cL_pair_nS l g d w m inn ap n op G hF hS h).up (Nat.le_refl _) (Nat.le_refl _) (Nat.le_refl _) (Rp.mono fun v w' q => LP_n hF hS (Nat.succ_ne_zero _) q)
  | false =>
    obtain ⟨h1, h2⟩ := Bool.or_eq_false_iff.mp h
    subst h1
    have h3 := of_decide_eq_false h2
    have h4 := hF.2.1
    have h5 : n < 16 := by omega
    cases hcan : canP G n ap inn m with
    | false => exact (cL_pair_nE l g d w m inn ap n G hF hS h5 hcan).up (Nat.le_refl _) (Nat.le_refl _) (Nat.le_refl _) (Rp.mono fun v w' q => LP_cs hF (Nat.succ_ne_zero _) q)
    | true => exact (cL_pair_y l g d w m inn ap n G hF hS h5 hcan).up (by omega) (by omega) (by omega) (Rp.mono fun v w' q => LP_y (hF.opened h5 hcan) rfl q)
theorem cL_cost (hF : FOk m inn ap n op G) (hS : CS w m inn ap n op G) : Con l g yL_cost bL_cost 3 ((some .int)) [(0, 8, 11, 21)] (d + 8) 1 6 [.ref (g.1 0), .ref (g.1 60)] w (Rp (LPost w (rfK (!canP G n ap inn m) false false) (if canP G n ap inn m then vIs (nI (solT G n ap inn m (topS G n inn m)).1) else vAny) m inn ap n op G)) := by
  cases hcan : canP G n ap inn m with
  | false => exact (cL_cost_nE l g d w m inn ap n op G hF hS hcan).up (Nat.le_refl _) (Nat.le_refl _) (Nat.le_refl _) (Rp.mono fun v w' q => LP_cs hF (Nat.succ_ne_zero _) q)
  | true => exact (cL_cost_y l g d w m inn ap n op G hF hS hcan).up (by omega) (by omega) (by omega) (Rp.mono fun v w' q => LP_y hF rfl q)
theorem cL_opponent (hF : FOk m inn ap n op G) (hS : CS w m inn ap n op G) : Con l g yL_opponent bL_opponent 4 ((some .int)) [(0, 9, 12, 19), (0, 9, 15, 13)] (d + 8) 1 6 [.ref (g.1 0), .int x, .ref (g.1 60)] w (Rp (LPost w (rfK (!isP m x) (!op) false) (if isP m x && op then vIs (oppI (G n (pN x))) else vAny) m inn ap n op G)) := by
  cases h : isP m x with
  | false => exact (cL_opponent_nP l g d w m inn ap n op G x hF hS h).up (Nat.le_refl _) (Nat.le_refl _) (Nat.le_refl _) (Rp.mono fun v w' q => LP_n hF hS (Nat.succ_ne_zero _) q)
  | true =>
    cases op with
    | false => exact (cL_opponent_nR l g d w m inn ap n G x hF hS h).up (Nat.le_refl _) (Nat.le_refl _) (Nat.le_refl _) (Rp.mono fun v w' q => LP_n hF hS (Nat.succ_ne_zero _) q)
    | true => exact (cL_opponent_y l g d w m inn ap n G x hF hS h).up (by omega) (by omega) (by omega) (Rp.mono fun v w' q => LP_a hF hS rfl q)
theorem cL_isWhite (hF : FOk m inn ap n op G) (hS : CS w m inn ap n op G) : Con l g yL_isWhite bL_isWhite 4 ((some .int)) [(0, 16, 19, 19), (0, 16, 22, 13)] (d + 8) 1 6 [.ref (g.1 0), .int x, .ref (g.1 60)] w (Rp (LPost w (rfK (!isP m x) (!op) false) (if isP m x && op then vIs (bI (whB (G n (pN x)))) else vAny) m inn ap n op G)) := by
  cases h : isP m x with
  | false => exact (cL_isWhite_nP l g d w m inn ap n op G x hF hS h).up (Nat.le_refl _) (Nat.le_refl _) (Nat.le_refl _) (Rp.mono fun v w' q => LP_n hF hS (Nat.succ_ne_zero _) q)
  | true =>
    cases op with
    | false => exact (cL_isWhite_nR l g d w m inn ap n G x hF hS h).up (Nat.le_refl _) (Nat.le_refl _) (Nat.le_refl _) (Rp.mono fun v w' q => LP_n hF hS (Nat.succ_ne_zero _) q)
    | true => exact (cL_isWhite_y l g d w m inn ap n G x hF hS h).up (by omega) (by omega) (by omega) (Rp.mono fun v w' q => LP_a hF hS rfl q)
theorem cL_report (hF : FOk m inn ap n op G) (hS : CS w m inn ap n op G) : Con l g yL_report bL_report 4 ((some .int)) [(0, 6, 9, 19), (0, 6, 12, 27), (0, 6, 15, 13)] (d + 8) 1 6 [.ref (g.1 0), .int x, .int y] w (Rp (LPost w (rfK (!isP m x) (!inR y 2) (!rpOk m n op G x)) (fun _ => True) m inn ap n op (if inR y 2 && rpOk m n op G x then gUp G n (rowTold (G n) (pN x) (pN y)) else G))) := by
  cases h2 : inR y 2 with
  | false =>
    cases h : isP m x with
    | false => exact (cL_report_nP l g d w m inn ap n op G x y hF hS h).up (Nat.le_refl _) (Nat.le_refl _) (Nat.le_refl _) (Rp.mono fun v w' q => LP_n hF hS (Nat.succ_ne_zero _) q)
    | true => exact (cL_report_nA l g d w m inn ap n op G x y hF hS h h2).up (Nat.le_refl _) (Nat.le_refl _) (Nat.le_refl _) (Rp.mono fun v w' q => LP_n hF hS (Nat.succ_ne_zero _) q)
  | true =>
    cases h3 : rpOk m n op G x with
    | false =>
      cases h : isP m x with
      | false => exact (cL_report_nP l g d w m inn ap n op G x y hF hS h).up (Nat.le_refl _) (Nat.le_refl _) (Nat.le_refl _) (Rp.mono fun v w' q => LP_n hF hS (Nat.succ_ne_zero _) q)
      | true => exact (cL_report_nS l g d w m inn ap n op G x y hF hS h h2 h3).up (Nat.le_refl _) (Nat.le_refl _) (Nat.le_refl _) (Rp.mono fun v w' q => LP_n hF hS (Nat.succ_ne_zero _) q)
    | true =>
      obtain ⟨h4, h5⟩ := Bool.and_eq_true_iff.mp h3
      obtain ⟨h6, h7⟩ := Bool.and_eq_true_iff.mp h4
      subst h6
      obtain ⟨p, hp, e1⟩ := isP_t h7 hF.1.2
      obtain ⟨k, hk, e2⟩ := inR_t h2 (by decide)
      have hm := hF.1.2
      rw [h7]
      exact (cL_report_y l g d w m inn ap n G x y hF hS h7 h2 h5).up (by omega) (by omega) (by omega) (Rp.mono fun v w' q => LP_v (hF.report (by rw [e1, pN_nI (by omega)]; exact hp) (by rw [e2, pN_nI (by omega)]; exact hk) h5) q)
theorem cL_missing (hF : FOk m inn ap n op G) (hS : CS w m inn ap n op G) : Con l g yL_missing bL_missing 3 ((some .int)) [(0, 8, 11, 13)] (d + 8) 1 6 [.ref (g.1 0), .ref (g.1 60)] w (Rp (LPost w (rfK (!op) false false) (if op then vIs (nI (f_un (G n) m / 2)) else vAny) m inn ap n op G)) := by
  cases op with
  | false => exact (cL_missing_n l g d w hS.2.2.1).up (Nat.le_refl _) (Nat.le_refl _) (Nat.le_refl _) (Rp.mono fun v w' q => LP_n hF hS (Nat.succ_ne_zero _) q)
  | true => exact (cL_missing_y l g d w m inn ap n G hF hS).up (by omega) (by omega) (by omega) (Rp.mono fun v w' q => LP_a hF hS rfl q)
theorem cL_close (hF : FOk m inn ap n op G) (hS : CS w m inn ap n op G) : Con l g yL_close bL_close 3 ((some .int)) [(0, 8, 11, 13)] (d + 8) 1 6 [.ref (g.1 0), .ref (g.1 60)] w (Rp (LPost w (rfK (!clOk op (G n) m) false false) (if clOk op (G n) m then vIs (nI (n + 1)) else vAny) m inn ap (if clOk op (G n) m then n + 1 else n) (if clOk op (G n) m then false else op) G)) := by
  cases h : clOk op (G n) m with
  | false => exact (cL_close_n l g d w m inn ap n op G hF hS h).up (Nat.le_refl _) (Nat.le_refl _) (Nat.le_refl _) (Rp.mono fun v w' q => LP_n hF hS (Nat.succ_ne_zero _) q)
  | true =>
    obtain ⟨h1, h2⟩ := Bool.and_eq_true_iff.mp h
    subst h1
    have h3 := of_decide_eq_true h2
    exact (cL_close_y l g d w m inn ap n G hF hS h3 (hF.told h3)).up (by omega) (by omega) (by omega) (Rp.mono fun v w' q => LP_y (hF.close h3) rfl q)
theorem cL_back (hF : FOk m inn ap n op G) (hS : CS w m inn ap n op G) : Con l g yL_back bL_back 3 ((some .int)) [(0, 8, 11, 13)] (d + 8) 1 6 [.ref (g.1 0), .ref (g.1 60)] w (Rp (LPost w (rfK (!op && decide (n = 0)) false false) (if op || decide (0 < n) then vIs (nI (if op then n else n - 1)) else vAny) m inn ap (if op then n else n - 1) false G)) := by
  cases op with
  | true => exact (cL_back_yO l g d w m inn ap n G hF hS).up (by omega) (by omega) (by omega) (Rp.mono fun v w' q => LP_y hF.backO rfl q)
  | false =>
    by_cases h : n = 0
    · subst h
      exact (cL_back_n l g d w m inn ap 0 G hF hS rfl).up (Nat.le_refl _) (Nat.le_refl _) (Nat.le_refl _) (Rp.mono fun v w' q => LP_n hF hS (Nat.succ_ne_zero _) q)
    · rw [show decide (n = 0) = false from decide_eq_false h, show decide (0 < n) = true from decide_eq_true (by omega)]
      exact (cL_back_yC l g d w m inn ap n G hF hS (by omega)).up (by omega) (by omega) (by omega) (Rp.mono fun v w' q => LP_y hF.backC rfl q)
theorem cL_play (hF : FOk m inn ap n op G) (hS : CS w m inn ap n op G) : Con l g yL_play bL_play 4 ((some .int)) [(0, 9, 12, 27), (0, 9, 15, 13)] (d + 8) 1 6 [.ref (g.1 0), .int x, .ref (g.1 60)] w (Rp (LPost w (rfK (!inR x 16) op false) (if inR x 16 && !op then vIs (nI ((plS ap inn m (pN x) n G).1 - n)) else vAny) m inn ap (if inR x 16 && !op then (plS ap inn m (pN x) n G).1 else n) op (if inR x 16 && !op then (plS ap inn m (pN x) n G).2 else G))) := by
  cases h : inR x 16 with
  | false => exact (cL_play_nA l g d w m inn ap n op G x hF hS h).up (Nat.le_refl _) (Nat.le_refl _) (Nat.le_refl _) (Rp.mono fun v w' q => LP_n hF hS (Nat.succ_ne_zero _) q)
  | true =>
    cases op with
    | true => exact (cL_play_nO l g d w m inn ap n G x hF hS h).up (Nat.le_refl _) (Nat.le_refl _) (Nat.le_refl _) (Rp.mono fun v w' q => LP_n hF hS (Nat.succ_ne_zero _) q)
    | false => exact (cL_play_y l g d w m inn ap n G x hF hS h).up (by omega) (by omega) (by omega) (Rp.mono fun v w' q => LP_y (FOk.plays _ _ _ hF) rfl q)
theorem cL_tell (hF : FOk m inn ap n op G) (hS : CS w m inn ap n op G) : Con l g yL_tell bL_tell 5 ((some .int)) [(0, 10, 13, 19)] (d + 8) 1 6 [.ref (g.1 0), .int x, .int y, .ref (g.1 60)] w (Rp (LPost w (rfK (!(isP m x && inR y 6)) false false) (if isP m x && inR y 6 then vIs (figI G n (pN x) (pN y)) else vAny) m inn ap n op G)) := by
  cases h : (isP m x && inR y 6) with
  | false => exact (cL_tell_n l g d w m inn ap n op G x y hF hS h).up (Nat.le_refl _) (Nat.le_refl _) (Nat.le_refl _) (Rp.mono fun v w' q => LP_n hF hS (Nat.succ_ne_zero _) q)
  | true =>
    obtain ⟨h1, h2⟩ := Bool.and_eq_true_iff.mp h
    exact (cL_tell_y l g d w m inn ap n op G x y hF hS h1 h2).up (by omega) (by omega) (by omega) (Rp.mono fun v w' q => LP_a hF hS rfl q)
theorem cL_had (hF : FOk m inn ap n op G) (hS : CS w m inn ap n op G) : Con l g yL_had bL_had 5 ((some .int)) [(0, 10, 13, 19)] (d + 8) 1 6 [.ref (g.1 0), .int x, .int y, .ref (g.1 60)] w (Rp (LPost w (rfK (!(isP m y && isP n x)) false false) (if isP m y && isP n x then vIs (ce_code (G (pN x) (pN y))) else vAny) m inn ap n op G)) := by
  cases h : (isP m y && isP n x) with
  | false => exact (cL_had_n l g d w m inn ap n op G x y hF hS h).up (Nat.le_refl _) (Nat.le_refl _) (Nat.le_refl _) (Rp.mono fun v w' q => LP_n hF hS (Nat.succ_ne_zero _) q)
  | true =>
    obtain ⟨h1, h2⟩ := Bool.and_eq_true_iff.mp h
    exact (cL_had_y l g d w m inn ap n op G x y hF hS h1 h2).up (by omega) (by omega) (by omega) (Rp.mono fun v w' q => LP_a hF hS rfl q)
theorem cL_table (hF : FOk m inn ap n op G) (hS : CS w m inn ap n op G) : Con l g yL_table bL_table 4 ((some .int)) [(0, 9, 12, 19)] (d + 8) 1 6 [.ref (g.1 0), .int x, .ref (g.1 60)] w (Rp (LPost w (rfK (!isP m x) false false) (if isP m x then (fun v => ∃ p, p < m ∧ f_rk G n p m = pN x ∧ v = some (.int (nI p))) else vAny) m inn ap n op G)) := by
  cases h : isP m x with
  | false => exact (cL_table_n l g d w m inn ap n op G x hF hS h).up (Nat.le_refl _) (Nat.le_refl _) (Nat.le_refl _) (Rp.mono fun v w' q => LP_n hF hS (Nat.succ_ne_zero _) q)
  | true =>
    refine (cL_table_y l g d w m inn ap n op G x hF hS h).up (by omega) (by omega) (by omega) (Rp.mono fun v w' q => ?_)
    obtain ⟨q1, p, hp1, hp2, q2⟩ := q
    exact LP_y (x := nI p) hF ⟨p, hp1, hp2, rfl⟩ ⟨q1, w, hS, FrC.rf w, q2⟩
end LONE
