/-! the reference: play -/
def tRes (p q : Nat) : Nat := if (p + q) % 3 = 0 then 1 else if p < q then 2 else 0
/-- the games with a player below k are told, by their numbers -/
def toldUp (R : Nat → Ce) (k : Nat) : Nat → Ce := fun p => match R p with
  | some (some (q, b, r)) => if p < k ∨ q < k then some (some (q, b, tRes p q)) else some (some (q, b, r))
  | c => c
def toldRow (R : Nat → Ce) (m : Nat) : Nat → Ce := toldUp R m
theorem tRes_le (p q : Nat) : tRes p q ≤ 2 := by
  unfold tRes
  split
  · omega
  · split <;> omega
theorem tRes_sym {p q : Nat} (h : p ≠ q) : tRes q p = 2 - tRes p q := by
  unfold tRes
  rw [Nat.add_comm q p]
  by_cases h3 : (p + q) % 3 = 0
  · rw [if_pos h3, if_pos h3]
  · rw [if_neg h3, if_neg h3]
    by_cases h4 : p < q
    · rw [if_pos h4, if_neg (by omega)]
    · rw [if_neg h4, if_pos (by omega)]
theorem told_ok {m : Nat} {R : Nat → Ce} (h : RowNew m R) : RowOk m (toldRow R m) ∧ ∀ p q b k, toldRow R m p = some (some (q, b, k)) → k ≤ 2 := by
  have key : ∀ p q b k, toldRow R m p = some (some (q, b, k)) → k = tRes p q ∧ R p = some (some (q, b, 3)) := by
    intro p q b k hp
    unfold toldRow toldUp at hp
    rcases hg : R p with _ | _ | ⟨q2, b2, k2⟩ <;> rw [hg] at hp
    · cases hp
    · cases hp
    · obtain ⟨rfl, h2, -, -⟩ := h.2 p q2 b2 k2 hg
      simp only [if_pos (show p < m ∨ q2 < m from Or.inr h2), Option.some.injEq, Prod.mk.injEq] at hp
      obtain ⟨rfl, rfl, rfl⟩ := hp
      exact ⟨rfl, rfl⟩
  refine ⟨⟨fun p hp => ?_, fun p q b k hp => ?_⟩, fun p q b k hp => ?_⟩
  · unfold toldRow toldUp
    rw [h.1 p hp]
  · obtain ⟨rfl, hR⟩ := key p q b k hp
    obtain ⟨-, h2, h3, h4⟩ := h.2 p q b 3 hR
    have h5 := tRes_le p q
    refine ⟨h2, h3, by omega, ?_⟩
    rw [if_neg (by omega)]
    unfold toldRow toldUp
    rw [h4]
    simp only [if_pos (show q < m ∨ p < m from Or.inl h2)]
    rw [tRes_sym (fun z => h3 z.symm)]
  · obtain ⟨rfl, -⟩ := key p q b k hp
    exact tRes_le p q
/-- so many rounds are played, as far as they can be: the rounds then, and what they held -/
def plS (ap : Nat → Nat → Bool) (inn : Nat → Bool) (m : Nat) : Nat → Nat → (Nat → Nat → Ce) → Nat × (Nat → Nat → Ce)
  | 0, n, G => (n, G)
  | k + 1, n, G => if n < 16 ∧ canP G n ap inn m = true then plS ap inn m k (n + 1) (gUp G n (toldRow (newRow G n ap inn m) m)) else (n, G)
theorem plS_le {ap : Nat → Nat → Bool} {inn : Nat → Bool} {m : Nat} : ∀ k n G, n ≤ (plS ap inn m k n G).1
  | 0, _, _ => Nat.le_refl _
  | k + 1, n, G => by
    simp only [plS]
    split
    · have := plS_le (ap := ap) (inn := inn) (m := m) k (n + 1) (gUp G n (toldRow (newRow G n ap inn m) m))
      omega
    · exact Nat.le_refl _
theorem gUp_lt {G : Nat → Nat → Ce} {n r : Nat} {R : Nat → Ce} (h : r ≠ n) : gUp G n R r = G r := by simp [gUp, h]
theorem gUp_at (G : Nat → Nat → Ce) (n : Nat) (R : Nat → Ce) : gUp G n R n = R := by simp [gUp]
theorem FOk.played {m : Nat} {inn : Nat → Bool} {ap : Nat → Nat → Bool} {n : Nat} {G : Nat → Nat → Ce} (hF : FOk m inn ap n false G) (hn : n < 16) (hcan : canP G n ap inn m = true) : FOk m inn ap (n + 1) false (gUp G n (toldRow (newRow G n ap inn m) m)) := by
  obtain ⟨h1, h2, h3, h4, h5, h6, h7, h8⟩ := hF
  obtain ⟨t1, t2⟩ := told_ok (newRow_new h1.2 hcan)
  refine ⟨h1, (by omega), (fun h => absurd h (by decide)), fun r hr p hp q b k hg => ?_, h5, h6, fun r hr => ?_, (fun h => absurd h (by decide))⟩
  · by_cases hrn : r = n
    · subst hrn
      rw [gUp_at] at hg
      exact t2 p q b k hg
    · rw [gUp_lt hrn] at hg
      exact h4 r (by omega) p hp q b k hg
  · by_cases hrn : r = n
    · subst hrn
      rw [gUp_at]
      exact t1
    · rw [gUp_lt hrn]
      exact h7 r (by simp [rnd] at hr ⊢; omega)
theorem FOk.opened {m : Nat} {inn : Nat → Bool} {ap : Nat → Nat → Bool} {n : Nat} {G : Nat → Nat → Ce} (hF : FOk m inn ap n false G) (hn : n < 16) (hcan : canP G n ap inn m = true) : FOk m inn ap n true (gUp G n (newRow G n ap inn m)) := by
  obtain ⟨h1, h2, h3, h4, h5, h6, h7, h8⟩ := hF
  refine ⟨h1, h2, fun _ => hn, fun r hr p hp q b k hg => ?_, h5, h6, fun r hr => ?_, fun _ => ?_⟩
  · rw [gUp_lt (by omega)] at hg
    exact h4 r hr p hp q b k hg
  · by_cases hrn : r = n
    · subst hrn
      rw [gUp_at]
      exact (newRow_new h1.2 hcan).ok
    · rw [gUp_lt hrn]
      exact h7 r (by simp [rnd] at hr ⊢; omega)
  · rw [← hcan]
    exact canP_congr (fun r hr => gUp_lt (by omega)) ap inn m
theorem rem3 {n : Nat} (h : n ≤ 100) : nI n - nI n / nI 3 * nI 3 = nI (n % 3) := pk_rem (by omega) (by decide) (by decide)
set_option maxHeartbeats 4000000 in
theorem cM_play (l : Launch) (g : GG) (d : Nat) (w : Wd) (m : Nat) (inn : Nat → Bool) (ap : Nat → Nat → Bool) (n : Nat) (op : Bool) (G : Nat → Nat → Ce) (x : Int32) (hF : FOk m inn ap n op G) (hS : MS w m inn ap n op G) : Con l g yM_play bM_play 7 ((some .int)) [] (d + 7) 0 0 [.ref (g.1 48), .int x] w (Rp (MPost w (rfK (!inR x 16) op false) (if inR x 16 && !op then vIs (nI ((plS ap inn m (pN x) n G).1 - n)) else vAny) m inn ap (if inR x 16 && !op then (plS ap inn m (pN x) n G).1 else n) op (if inR x 16 && !op then (plS ap inn m (pN x) n G).2 else G))) := by
  intro X hl ha hm' hk hn' hc
  subst hl
  have hm := hF.1.2
  obtain ⟨Q, hQ⟩ : ∃ Q, Q = Fen X g 0 0 (Rp (MPost w (rfK (!inR x 16) op false) (if inR x 16 && !op then vIs (nI ((plS ap inn m (pN x) n G).1 - n)) else vAny) m inn ap (if inR x 16 && !op then (plS ap inn m (pN x) n G).1 else n) op (if inR x 16 && !op then (plS ap inn m (pN x) n G).2 else G))) := ⟨_, rfl⟩
  rw [← hQ]
  generalize hKK : rfK (!inR x 16) op false = K at hQ
  have hS1 := hS.thr (nI K)
  have h24 : Go X g 0 0 Q (wu w 48 0 (nI K)) 24 [some (.ref (g.1 48)), some (.int x), none, none, none, none, none] [.int (bI (!inR x 16 || op || false))] := by
    cases hb : (inR x 16 && !op) with
    | false =>
      simp only [hb, Bool.false_eq_true, if_false] at hQ
      rw [show (!inR x 16 || op || false) = true by revert hb; cases inR x 16 <;> cases op <;> simp]
      refine r_if_eq_f hc dM_play_24 (tgt := 29) (by decide) (by decide) ?_
      refine r_iconst hc dM_play_27 (nI 0) (by decide) ?_
      subst hQ
      exact r_iret hc dM_play_28 ⟨⟨_, rfl⟩, wu_at _ _ _ _, hS1, (FrM.rf w).put 48 0 _ (by decide)⟩
    | true =>
      simp only [hb, if_true] at hQ
      rw [show (!inR x 16 || op || false) = false by revert hb; cases inR x 16 <;> cases op <;> simp]
      rw [Bool.and_eq_true] at hb
      have hop : op = false := by simpa using hb.2
      subst hop
      obtain ⟨N, hN, rfl⟩ := inR_t hb.1 (by decide)
      rw [pN_nI (by omega)] at hQ
      refine r_if_eq_t hc dM_play_24 (tgt := 29) (by decide) rfl ?_
      refine r_iconst hc dM_play_29 (nI 0) (by decide) ?_
      refine r_istore_n hc dM_play_30 (Nat.le_of_ble_eq_true rfl) ?_
      have hgen : ∀ k j n1 G1 w1, j + k = N → FOk m inn ap n1 false G1 → MS w1 m inn ap n1 false G1 → w1 48 0 = nI K → FrM w w1 → plS ap inn m k n1 G1 = plS ap inn m N n G → n1 = n + j → Go X g 0 0 Q w1 31 [some (.ref (g.1 48)), some (.int (nI N)), some (.int (nI j)), none, none, none, none] [] := by
        intro k
        induction k with
        | zero =>
          intro j n1 G1 w1 e1 e2 e3 e4 e5 e6 e7
          refine r_iload_n hc dM_play_31 rfl ?_
          refine r_iload_n hc dM_play_32 rfl ?_
          refine r_ic_ge_t hc dM_play_33 (tgt := 195) (by decide) (nI_le (by omega) (by omega)) ?_
          refine r_iload_n hc dM_play_195 rfl ?_
          subst hQ
          simp only [plS] at e6
          refine r_iret hc dM_play_196 ⟨?_, e4, ?_, e5⟩
          · rw [← e6, e7]
            show _ = some (Value.int (nI (n + j - n)))
            rw [show n + j - n = j by omega]
          · rw [← e6]; exact e3
        | succ k ih =>
          intro j n1 G1 w1 e1 e2 e3 e4 e5 e6 e7
          have hstop : plS ap inn m (k + 1) n1 G1 = (n1, G1) → Go X g 0 0 Q w1 195 [some (.ref (g.1 48)), some (.int (nI N)), some (.int (nI j)), none, none, none, none] [] := by
            intro hs
            refine r_iload_n hc dM_play_195 rfl ?_
            subst hQ
            rw [hs] at e6
            refine r_iret hc dM_play_196 ⟨?_, e4, ?_, e5⟩
            · rw [← e6, e7]
              show _ = some (Value.int (nI (n + j - n)))
              rw [show n + j - n = j by omega]
            · rw [← e6]; exact e3
          refine r_iload_n hc dM_play_31 rfl ?_
          refine r_iload_n hc dM_play_32 rfl ?_
          refine r_ic_ge_f hc dM_play_33 (tgt := 195) (by decide) (nI_ge (by omega) (by omega)) ?_
          refine r_aload_n hc dM_play_36 rfl ?_
          refine gM_63 hc dM_play_37 ?_
          refine r_bipush hc dM_play_40 (nI 16) (by decide) ?_
          rw [e3.2.1]
          have hn1 := e2.2.1
          by_cases h16 : n1 < 16
          · refine r_ic_ge_f hc dM_play_42 (tgt := 195) (by decide) (nI_ge h16 (by decide)) ?_
            refine r_aload_n hc dM_play_45 rfl ?_
            refine kM_119r hc dM_play_46 (cM_canPair _ g d w1 G1 n1 ap inn m e3.rep e2.2.2.2.1 hn1 e3.2.1 e3.2.2.2.1 hm e3.1 e3.2.2.2.2.1) (by omega) (Nat.le_of_ble_eq_true rfl) ?_
            rintro _ w2 ⟨rfl, hw2⟩
            have m2 := e3.wk hw2
            cases hcan : canP G1 n1 ap inn m with
            | false =>
              refine r_if_eq_t hc dM_play_49 (tgt := 195) (by decide) rfl ?_
              -- the answer is the same over the changed work rows
              have hs : plS ap inn m (k + 1) n1 G1 = (n1, G1) := by simp only [plS]; rw [if_neg (fun z => by rw [hcan] at z; exact absurd z.2 (by decide))]
              refine r_iload_n hc dM_play_195 rfl ?_
              subst hQ
              rw [hs] at e6
              refine r_iret hc dM_play_196 ⟨?_, ?_, ?_, e5.tr (FrM.wk hw2)⟩
              · rw [← e6, e7]
                show _ = some (Value.int (nI (n + j - n)))
                rw [show n + j - n = j by omega]
              · rw [hw2.2.1 0 (by decide) (by decide)]; exact e4
              · rw [← e6]; exact m2
            | true =>
              have hcan2 : (solT G1 n1 ap inn m (topS G1 n1 inn m)).1 < dpE := by have h := hcan; unfold canP at h; rw [Bool.and_eq_true] at h; exact of_decide_eq_true h.2
              have hnew := newRow_new hm hcan
              have hps : plS ap inn m (k + 1) n1 G1 = plS ap inn m k (n1 + 1) (gUp G1 n1 (toldRow (newRow G1 n1 ap inn m) m)) := by simp only [plS]; rw [if_pos ⟨h16, hcan⟩]
              rw [hps] at e6
              refine r_if_eq_f hc dM_play_49 (tgt := 195) (by decide) (by decide) ?_
              refine r_aload_n hc dM_play_52 rfl ?_
              refine kM_123r hc dM_play_53 (cM_openRound _ g d w1 w2 G1 n1 ap inn m m2.rep h16 m2.2.1 hm hw2 hcan2) (by omega) (Nat.le_of_ble_eq_true rfl) ?_
              rintro _ w3 ⟨rfl, hO, ho⟩
              have m3 := m2.opened hO ho
              have f3 : FrM w w3 := (e5.tr (FrM.wk hw2)).tr (FrM.opened hO)
              have k3 : w3 48 0 = nI K := by rw [hO.2.1 0 (by decide), hw2.2.1 0 (by decide) (by decide)]; exact e4
              refine r_istore_n hc dM_play_56 (Nat.le_of_ble_eq_true rfl) ?_
              refine r_iconst hc dM_play_57 (nI 0) (by decide) ?_
              refine r_istore hc dM_play_58 (Nat.le_of_ble_eq_true rfl) ?_
              -- the results, player by player
              have hres : ∀ p, p ≤ m → ∀ w4, w4 48 0 = nI K → FrM w w4 → MS w4 m inn ap n1 true (gUp G1 n1 (toldUp (newRow G1 n1 ap inn m) p)) → Go X g 0 0 Q w4 60 [some (.ref (g.1 48)), some (.int (nI N)), some (.int (nI j)), some (.int (nI (newGames G1 n1 ap inn m))), some (.int (nI p)), none, none] [] := by
                refine lp_up (P := fun p => ∀ w4, w4 48 0 = nI K → FrM w w4 → MS w4 m inn ap n1 true (gUp G1 n1 (toldUp (newRow G1 n1 ap inn m) p)) → Go X g 0 0 Q w4 60 [some (.ref (g.1 48)), some (.int (nI N)), some (.int (nI j)), some (.int (nI (newGames G1 n1 ap inn m))), some (.int (nI p)), none, none] []) ?_
                intro p hp ihp w4 k4 f4 m4
                refine r_iload hc dM_play_60 rfl ?_
                refine r_aload_n hc dM_play_62 rfl ?_
                refine gM_44 hc dM_play_63 ?_
                rw [m4.1]
                refine r_ic_ge hc dM_play_66 (tgt := 165) (by decide) (fun hpm => ?_) (fun hpm => ?_)
                · have hp2 : p = m := by have := nle_to hpm (by omega) (by omega); omega
                  subst hp2
                  refine r_aload_n hc dM_play_165 rfl ?_
                  refine r_iconst hc dM_play_166 (nI 0) (by decide) ?_
                  refine pM_51 hc dM_play_167 (by first | exact Or.inl rfl | exact Or.inr rfl | assumption) ?_
                  refine r_aload_n hc dM_play_170 rfl ?_
                  refine r_dup hc dM_play_171 rfl ?_
                  refine gM_63 hc dM_play_172 ?_
                  rw [wu_o2 (by decide), m4.2.1]
                  refine r_iconst hc dM_play_175 (nI 1) (by decide) ?_
                  refine r_iadd hc dM_play_176 ?_
                  rw [nI_add]
                  refine pM_63 hc dM_play_177 ?_
                  refine r_iload_n hc dM_play_180 rfl ?_
                  have hgm : newGames G1 n1 ap inn p < 2 ^ 31 := by
                    have key : ∀ i, (rsT G1 n1 ap inn p i).2.2 ≤ i := by
                      intro i
                      induction i with
                      | zero => exact Nat.le_refl _
                      | succ i ihi =>
                        simp only [rsT]
                        split <;> (try simp) <;> omega
                    have h1 := key (ordOf G1 n1 inn p).length
                    have h2 : (ordOf G1 n1 inn p).length ≤ p := bk_len _ _ _ _
                    unfold newGames
                    omega
                  refine r_if_lt_f hc dM_play_181 (tgt := 190) (by decide) (nI_pos hgm) ?_
                  refine r_iload_n hc dM_play_184 rfl ?_
                  refine r_iconst hc dM_play_185 (nI 1) (by decide) ?_
                  refine r_iadd hc dM_play_186 ?_
                  rw [nI_add]
                  refine r_goto hc dM_play_187 (tgt := 191) (by decide) ?_
                  refine r_istore_n hc dM_play_191 (Nat.le_of_ble_eq_true rfl) ?_
                  refine r_goto hc dM_play_192 (tgt := 31) (by decide) ?_
                  refine Go.drop 3 (Go.drop 4 ?_)
                  refine ih (j + 1) (n1 + 1) _ _ (by omega) (e2.played h16 hcan) ⟨?_, ?_, ?_, fun a ha1 => ?_, fun a b q1 q2 => ?_, fun s hs a ha1 => ?_⟩ ?_ ((f4.put 48 5 _ (by decide)).put 48 4 _ (by decide)) e6 (by omega)
                  · rw [wu_o2 (by decide), wu_o2 (by decide)]; exact m4.1
                  · rw [wu_at]
                  · rw [wu_o2 (by decide), wu_at]; rfl
                  · rw [wu_o1 (by decide), wu_o1 (by decide)]; exact m4.2.2.2.1 a ha1
                  · rw [wu_o1 (by decide), wu_o1 (by decide)]; exact m4.2.2.2.2.1 a b q1 q2
                  · rw [wu_o1 (by decide), wu_o1 (by decide), wu_o1 (by decide), wu_o1 (by decide), wu_o1 (by decide), wu_o1 (by decide)]; exact m4.2.2.2.2.2 s hs a ha1
                  · rw [wu_o2 (by decide), wu_o2 (by decide)]; exact k4
                · have hp2 : p < m := nle_of hpm (by omega) (by omega)
                  have ihp := ihp hp2
                  simp only [← nI_add] at ihp
                  have hM := m4.2.2.2.2.2 n1 (by simp [rnd]) p (by omega)
                  rw [gUp_at] at hM
                  -- nothing to tell here
                  have hnone : (∀ a, toldUp (newRow G1 n1 ap inn m) (p + 1) a = toldUp (newRow G1 n1 ap inn m) p a) → Go X g 0 0 Q w4 159 [some (.ref (g.1 48)), some (.int (nI N)), some (.int (nI j)), some (.int (nI (newGames G1 n1 ap inn m))), some (.int (nI p)), none, none] [] := by
                    intro hsame
                    refine r_iinc hc dM_play_159 rfl ?_
                    refine r_goto hc dM_play_162 (tgt := 60) (by decide) ?_
                    rw [show toldUp (newRow G1 n1 ap inn m) (p + 1) = toldUp (newRow G1 n1 ap inn m) p from funext hsame] at ihp
                    exact ihp w4 k4 f4 m4
                  refine r_aload_n hc dM_play_69 rfl ?_
                  refine gM_16 hc dM_play_70 ?_
                  refine r_bipush hc dM_play_73 (nI 12) (by decide) ?_
                  refine r_aload_n hc dM_play_75 rfl ?_
                  refine gM_63 hc dM_play_76 ?_
                  rw [m4.2.1]
                  refine r_imul hc dM_play_79 ?_
                  refine r_iload hc dM_play_80 rfl ?_
                  refine r_iadd hc dM_play_82 ?_
                  rw [ix12]
                  refine r_ialdN hc dM_play_83 rfl (by first | omega | (show _ < 12; omega) | (show _ < 204; omega) | (show _ < 144; omega) | (show _ < 2048; omega) | (show _ < 4096; omega) | (show _ < 16; omega)) ?_
                  rw [hM.opp]
                  refine r_istore hc dM_play_84 (Nat.le_of_ble_eq_true rfl) ?_
                  refine r_aload_n hc dM_play_86 rfl ?_
                  refine r_aload_n hc dM_play_87 rfl ?_
                  refine gM_63 hc dM_play_88 ?_
                  rw [m4.2.1]
                  refine r_iload hc dM_play_91 rfl ?_
                  refine kM_66r hc dM_play_93 (cM_hadGame _ g d w4 _ (n1 + 1) n1 p m4.2.2.2.2.2 (by omega) (by omega) (by omega)) (by omega) (Nat.le_of_ble_eq_true rfl) ?_
                  rintro _ _ ⟨rfl, rfl⟩
                  rw [gUp_at]
                  rcases hg : newRow G1 n1 ap inn m p with _ | _ | ⟨q, b, k0⟩
                  · rw [show toldUp (newRow G1 n1 ap inn m) p p = none by unfold toldUp; rw [hg]]
                    refine r_if_eq_t hc dM_play_96 (tgt := 159) (by decide) rfl ?_
                    refine Go.drop 5 ?_
                    refine hnone (fun a => ?_)
                    unfold toldUp
                    rcases hga : newRow G1 n1 ap inn m a with _ | _ | ⟨c, b2, k2⟩
                    · rfl
                    · rfl
                    · obtain ⟨-, -, -, hx⟩ := hnew.2 a c b2 k2 hga
                      have : ¬ a = p := fun z => by rw [z, hg] at hga; cases hga
                      have : ¬ c = p := fun z => by rw [z, hg] at hx; cases hx
                      simp only
                      simp only [show (a < p + 1 ∨ c < p + 1) ↔ (a < p ∨ c < p) by omega]
                  · rw [show toldUp (newRow G1 n1 ap inn m) p p = some none by unfold toldUp; rw [hg]]
                    refine r_if_eq_t hc dM_play_96 (tgt := 159) (by decide) rfl ?_
                    refine Go.drop 5 ?_
                    refine hnone (fun a => ?_)
                    unfold toldUp
                    rcases hga : newRow G1 n1 ap inn m a with _ | _ | ⟨c, b2, k2⟩
                    · rfl
                    · rfl
                    · obtain ⟨-, -, -, hx⟩ := hnew.2 a c b2 k2 hga
                      have : ¬ a = p := fun z => by rw [z, hg] at hga; cases hga
                      have : ¬ c = p := fun z => by rw [z, hg] at hx; cases hx
                      simp only
                      simp only [show (a < p + 1 ∨ c < p + 1) ↔ (a < p ∨ c < p) by omega]
                  · obtain ⟨rfl, h2, h3, h4⟩ := hnew.2 p q b k0 hg
                    have hcg : ce_g (toldUp (newRow G1 n1 ap inn m) p p) = true ∧ oppI (toldUp (newRow G1 n1 ap inn m) p p) = nI q := by
                      unfold toldUp
                      rw [hg]
                      simp only
                      split <;> exact ⟨rfl, rfl⟩
                    rw [hcg.1, hcg.2]
                    refine r_if_eq_f hc dM_play_96 (tgt := 159) (by decide) (by decide) ?_
                    refine r_iload hc dM_play_99 rfl ?_
                    refine r_iload hc dM_play_101 rfl ?_
                    -- who has a game with p or q
                    have hother : ∀ a c b2 k2, newRow G1 n1 ap inn m a = some (some (c, b2, k2)) → a ≠ p → a ≠ q → c ≠ p ∧ c ≠ q := by
                      intro a c b2 k2 hga n1' n2'
                      obtain ⟨-, -, -, hx⟩ := hnew.2 a c b2 k2 hga
                      refine ⟨fun z => ?_, fun z => ?_⟩
                      · rw [z, hg] at hx
                        simp only [Option.some.injEq, Prod.mk.injEq] at hx
                        omega
                      · rw [z, h4] at hx
                        simp only [Option.some.injEq, Prod.mk.injEq] at hx
                        omega
                    by_cases hpq : p < q
                    · refine r_ic_ge_f hc dM_play_103 (tgt := 159) (by decide) (nI_ge hpq (by omega)) ?_
                      refine r_iload hc dM_play_106 rfl ?_
                      refine r_iload hc dM_play_108 rfl ?_
                      refine r_iadd hc dM_play_110 ?_
                      rw [nI_add]
                      refine r_iconst hc dM_play_111 (nI 3) (by decide) ?_
                      refine r_irem hc dM_play_112 (by decide) ?_
                      rw [rem3 (by omega)]
                      have hput : ∀ v : Nat, v = tRes p q → Go X g 0 0 Q w4 121 [some (.ref (g.1 48)), some (.int (nI N)), some (.int (nI j)), some (.int (nI (newGames G1 n1 ap inn m))), some (.int (nI p)), some (.int (nI q)), none] [.int (nI v)] := by
                        intro v hv
                        have hv2 : v ≤ 2 := by rw [hv]; exact tRes_le p q
                        have hv3 : 2 - v = tRes q p := by rw [hv]; exact (tRes_sym (by omega)).symm
                        refine r_istore hc dM_play_121 (Nat.le_of_ble_eq_true rfl) ?_
                        refine r_aload_n hc dM_play_123 rfl ?_
                        refine gM_23 hc dM_play_124 ?_
                        refine r_bipush hc dM_play_127 (nI 12) (by decide) ?_
                        refine r_aload_n hc dM_play_129 rfl ?_
                        refine gM_63 hc dM_play_130 ?_
                        rw [m4.2.1]
                        refine r_imul hc dM_play_133 ?_
                        refine r_iload hc dM_play_134 rfl ?_
                        refine r_iadd hc dM_play_136 ?_
                        rw [ix12]
                        refine r_iload hc dM_play_137 rfl ?_
                        refine r_iastN hc dM_play_139 rfl (by first | omega | (show _ < 12; omega) | (show _ < 204; omega) | (show _ < 144; omega) | (show _ < 2048; omega) | (show _ < 4096; omega) | (show _ < 16; omega)) ?_
                        refine r_aload_n hc dM_play_140 rfl ?_
                        refine gM_23 hc dM_play_141 ?_
                        refine r_bipush hc dM_play_144 (nI 12) (by decide) ?_
                        refine r_aload_n hc dM_play_146 rfl ?_
                        refine gM_63 hc dM_play_147 ?_
                        rw [wu_o1 (by decide), m4.2.1]
                        refine r_imul hc dM_play_150 ?_
                        refine r_iload hc dM_play_151 rfl ?_
                        refine r_iadd hc dM_play_153 ?_
                        rw [ix12]
                        refine r_iconst hc dM_play_154 (nI 2) (by decide) ?_
                        refine r_iload hc dM_play_155 rfl ?_
                        refine r_isub hc dM_play_157 ?_
                        rw [pk_sub (by omega)]
                        refine r_iastN hc dM_play_158 rfl (by first | omega | (show _ < 12; omega) | (show _ < 204; omega) | (show _ < 144; omega) | (show _ < 2048; omega) | (show _ < 4096; omega) | (show _ < 16; omega)) ?_
                        refine r_iinc hc dM_play_159 rfl ?_
                        refine r_goto hc dM_play_162 (tgt := 60) (by decide) ?_
                        refine Go.drop 5 (Go.drop 6 ?_)
                        refine ihp _ ?_ ((f4.put 53 _ _ (by decide)).put 53 _ _ (by decide)) ⟨?_, ?_, ?_, fun a ha1 => ?_, fun a b q1 q2 => ?_, fun s hs a ha1 => ?_⟩
                        · rw [wu_o1 (by decide), wu_o1 (by decide)]; exact k4
                        · rw [wu_o1 (by decide), wu_o1 (by decide)]; exact m4.1
                        · rw [wu_o1 (by decide), wu_o1 (by decide)]; exact m4.2.1
                        · rw [wu_o1 (by decide), wu_o1 (by decide)]; exact m4.2.2.1
                        · rw [wu_o1 (by decide), wu_o1 (by decide)]; exact m4.2.2.2.1 a ha1
                        · rw [wu_o1 (by decide), wu_o1 (by decide)]; exact m4.2.2.2.2.1 a b q1 q2
                        · rw [wu_o1 (k' := 51) (by decide), wu_o1 (k' := 51) (by decide), wu_o1 (k' := 52) (by decide), wu_o1 (k' := 52) (by decide)]
                          have hold := m4.2.2.2.2.2 s hs a ha1
                          by_cases hsn : s = n1
                          · subst hsn
                            rw [gUp_at] at hold ⊢
                            by_cases haq : a = q
                            · subst haq
                              rw [wu_at]
                              have e : toldUp (newRow G1 s ap inn m) (p + 1) a = some (some (p, !b, tRes a p)) := by unfold toldUp; rw [h4]; simp
                              have e' : toldUp (newRow G1 s ap inn m) p a = some (some (p, !b, 3)) := by unfold toldUp; rw [h4]; simp only; rw [if_neg (by omega)]
                              rw [e'] at hold
                              rw [e]
                              have := tRes_le a p
                              exact ⟨by omega, hold.2.1, hold.2.2.1, by omega, by rw [if_neg (by omega), hv3]⟩
                            · rw [wu_o2 (by omega)]
                              by_cases hap : a = p
                              · subst hap
                                rw [wu_at]
                                have e : toldUp (newRow G1 s ap inn m) (a + 1) a = some (some (q, b, tRes a q)) := by unfold toldUp; rw [hg]; simp
                                have e' : toldUp (newRow G1 s ap inn m) a a = some (some (q, b, 3)) := by unfold toldUp; rw [hg]; simp only; rw [if_neg (by omega)]
                                rw [e'] at hold
                                rw [e]
                                have := tRes_le a q
                                exact ⟨by omega, hold.2.1, hold.2.2.1, by omega, by rw [if_neg (by omega), hv]⟩
                              · rw [wu_o2 (by omega)]
                                have e : toldUp (newRow G1 s ap inn m) (p + 1) a = toldUp (newRow G1 s ap inn m) p a := by
                                  unfold toldUp
                                  rcases hga : newRow G1 s ap inn m a with _ | _ | ⟨c, b2, k2⟩
                                  · rfl
                                  · rfl
                                  · obtain ⟨c1, c2⟩ := hother a c b2 k2 hga hap haq
                                    simp only
                                    simp only [show (a < p + 1 ∨ c < p + 1) ↔ (a < p ∨ c < p) by omega]
                                rw [e]
                                exact hold
                          · rw [wu_o2 (by omega), wu_o2 (by omega)]
                            rw [gUp_lt hsn] at hold ⊢
                            exact hold
                      by_cases h3m : (p + q) % 3 = 0
                      · rw [h3m]
                        refine r_if_ne_f hc dM_play_113 (tgt := 120) (by decide) rfl ?_
                        refine r_iconst hc dM_play_116 (nI 1) (by decide) ?_
                        refine r_goto hc dM_play_117 (tgt := 121) (by decide) ?_
                        exact hput 1 (by unfold tRes; rw [if_pos h3m])
                      · refine r_if_ne_t hc dM_play_113 (tgt := 120) (by decide) (nI_ne0 (by omega) (by omega)) ?_
                        refine r_iconst hc dM_play_120 (nI 2) (by decide) ?_
                        exact hput 2 (by unfold tRes; rw [if_neg h3m, if_pos hpq])
                    · refine r_ic_ge_t hc dM_play_103 (tgt := 159) (by decide) (nI_le (by omega) (by omega)) ?_
                      refine Go.drop 5 ?_
                      refine hnone (fun a => ?_)
                      unfold toldUp
                      rcases hga : newRow G1 n1 ap inn m a with _ | _ | ⟨c, b2, k2⟩
                      · rfl
                      · rfl
                      · have hcond : (a < p + 1 ∨ c < p + 1) ↔ (a < p ∨ c < p) := by
                          by_cases hap : a = p
                          · subst hap
                            rw [hg] at hga
                            simp only [Option.some.injEq, Prod.mk.injEq] at hga
                            omega
                          · by_cases haq : a = q
                            · subst haq
                              rw [h4] at hga
                              simp only [Option.some.injEq, Prod.mk.injEq] at hga
                              omega
                            · have := hother a c b2 k2 hga hap haq
                              omega
                        simp only [hcond]
              refine hres 0 (Nat.zero_le _) w3 k3 f3 ?_
              rw [show toldUp (newRow G1 n1 ap inn m) 0 = newRow G1 n1 ap inn m by
                funext a
                unfold toldUp
                split
                · rename_i heq
                  rw [if_neg (by omega), heq]
                · rfl]
              exact m3
          · refine r_ic_ge_t hc dM_play_42 (tgt := 195) (by decide) (nI_le (by omega) (by omega)) ?_
            exact hstop (by simp only [plS]; rw [if_neg (fun z => h16 z.1)])
      exact hgen N 0 n G _ (by omega) hF hS1 (wu_at _ _ _ _) ((FrM.rf w).put 48 0 _ (by decide)) rfl rfl
  have h16 : Go X g 0 0 Q w 16 [some (.ref (g.1 48)), some (.int x), none, none, none, none, none] [.int (bI (!inR x 16)), .ref (g.1 48)] := by
    refine r_aload_n hc dM_play_16 rfl ?_
    refine gM_51 hc dM_play_17 ?_
    rw [hS.2.2.1]
    refine r_iconst hc dM_play_20 (nI 0) (by decide) ?_
    refine kM_55r hc dM_play_21 (cM_refused _ g d w (!inR x 16) op false) (by omega) (Nat.le_of_ble_eq_true rfl) ?_
    rintro _ _ ⟨rfl, rfl⟩
    rw [hKK]
    exact h24
  refine r_aload_n hc dM_play_0 rfl ?_
  refine r_iload_n hc dM_play_1 rfl ?_
  refine r_if_lt hc dM_play_2 (tgt := 11) (by decide) (fun h1 => ?_) (fun h1 => ?_)
  · rw [show inR x 16 = false from decide_eq_false (fun z => absurd h1 (Int32.not_lt.mpr z.1))] at h16
    refine r_iconst hc dM_play_11 (nI 1) (by decide) ?_
    refine r_goto hc dM_play_12 (tgt := 16) (by decide) ?_
    exact h16
  · refine r_iload_n hc dM_play_5 rfl ?_
    refine r_bipush hc dM_play_6 (nI 16) (by decide) ?_
    refine r_ic_le hc dM_play_8 (tgt := 15) (by decide) (fun h2 => ?_) (fun h2 => ?_)
    · rw [show inR x 16 = true from decide_eq_true ⟨Int32.not_lt.mp h1, h2⟩] at h16
      refine r_iconst hc dM_play_15 (nI 0) (by decide) ?_
      exact h16
    · rw [show inR x 16 = false from decide_eq_false (fun z => h2 z.2)] at h16
      refine r_iconst hc dM_play_11 (nI 1) (by decide) ?_
      refine r_goto hc dM_play_12 (tgt := 16) (by decide) ?_
      exact h16
