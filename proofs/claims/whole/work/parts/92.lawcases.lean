theorem val_is {c : Bool} {z y : Int32} (hc : c = true) (h : (if c then vIs z else vAny) (some (.int y))) : y = z := by
  subst hc
  have e1 : some (Value.int y) = some (Value.int z) := h
  simp only [Option.some.injEq, Value.int.injEq] at e1
  exact e1
theorem MS.frC {w w' : Wd} {m : Nat} {inn : Nat → Bool} {ap : Nat → Nat → Bool} {n : Nat} {op : Bool} {G : Nat → Nat → Ce} (h : MS w m inn ap n op G) (hf : FrC w w') : MS w' m inn ap n op G := h.frL (fun k h1 _ => hf k (by omega))
/-! the law's cases: what is asked of both is answered alike -/
section LCS
variable {X : Cxt} {g : GG} {d kc ks : Nat} {Q : State → Prop} {w : Wd} {m : Nat} {inn : Nat → Bool} {ap : Nat → Nat → Bool} {n : Nat} {op : Bool} {G : Nat → Nat → Ce} {b L i : Nat} {xs : Nat → Int32} {hx : List (Nat × Nat × Nat × Nat)}
theorem law_0 (hc : Ok X g code "PairedFieldLaw" (some .boolean) hx 11) (hX : SX g b L xs X.2.2.2.2.1) (hL : L < 2 ^ 31) (hi : i + 3 < L) (hI : LwInv w m inn ap n op G) (hk : kc + 1 ≤ X.2.2.2.1.cells) (hs : ks + 6 ≤ X.2.2.2.1.slots) (hnext : ∀ (w : Wd) (m : Nat) (inn : Nat → Bool) (ap : Nat → Nat → Bool) (n : Nat) (op : Bool) (G : Nat → Nat → Ce), LwInv w m inn ap n op G → Go X g (kc + 1) (ks + 6) Q w 1022 (LPl g b i) []) : Go X g kc ks Q w 140 (LPl g b i) [] := by
  obtain ⟨hC, hM, hF⟩ := hI
  refine r_aload_n hc dL_law_140 rfl ?_
  refine r_aload_n hc dL_law_141 rfl ?_
  refine kW_80 hc dL_law_142 (cL_enter _ g 0 w m inn ap n op G hF hC) (by decide) (Nat.le_of_ble_eq_true rfl) hk hs ?_
  rintro _ w1 ⟨rfl, hv, hC1, hF1, hfr⟩
  have hM1 := hM.frL hfr
  refine r_istore hc dL_law_145 (Nat.le_of_ble_eq_true rfl) ?_
  refine r_aload_n hc dL_law_147 rfl ?_
  refine kL_83 (kc := kc + 1) (ks := ks + 6) hc dL_law_148 (cM_enter _ g 0 w1 m inn ap n op G hF hM1) (by decide) (Nat.le_of_ble_eq_true rfl) hk hs ?_ (fun cn w' h => absurd h Rp_r)
  rintro v w2 ⟨hv2, ht, hM2, hfr2⟩
  obtain ⟨y, rfl⟩ := (val_s (fun h => h) vIs_any hv2)
  refine r_istore hc dL_law_151 (Nat.le_of_ble_eq_true rfl) ?_
  refine r_aload_n hc dL_law_153 rfl ?_
  refine kL_84 (kc := kc + 1) (ks := ks + 6) hc dL_law_154 (cM_thrown _ g 0 w2) (by decide) (Nat.le_of_ble_eq_true rfl) hk hs ?_ (fun cn w' h => absurd h Rp_r)
  rintro _ _ ⟨rfl, rfl⟩
  rw [ht]
  refine r_iload hc dL_law_157 rfl ?_
  refine r_ic_eq_t hc dL_law_159 (tgt := 164) (by decide) rfl ?_
  refine r_iload hc dL_law_164 rfl ?_
  refine r_if_ne hc dL_law_166 (tgt := 181) (by decide) (fun h => ?_) (fun h => ?_)
  · refine r_goto hc dL_law_181 (tgt := 1022) (by decide) ?_
    exact Go.drop 5 (Go.drop 6 (hnext w2 _ _ _ _ _ _ ⟨hC1.frM hF1 hfr2, hM2, hF1⟩))
  · have hK0 := nI_rfK h
    have hy : w2 60 0 = y := by rw [hfr2 60 (Or.inr (by decide))]; exact (val_eq' (rfK_0 hK0).1 (hv hK0) hv2)
    refine r_aload_n hc dL_law_169 rfl ?_
    refine r_iconst hc dL_law_170 (nI 0) (by decide) ?_
    refine r_lald0 hc dL_law_171 ?_
    rw [hy]
    refine r_iload hc dL_law_172 rfl ?_
    refine r_i2l hc dL_law_174 ?_
    refine r_lcmp hc dL_law_175 ?_
    rw [lg_cmp_self]
    refine r_if_eq_t hc dL_law_176 (tgt := 181) (by decide) rfl ?_
    refine r_goto hc dL_law_181 (tgt := 1022) (by decide) ?_
    exact Go.drop 5 (Go.drop 6 (hnext w2 _ _ _ _ _ _ ⟨hC1.frM hF1 hfr2, hM2, hF1⟩))
theorem law_1 (hc : Ok X g code "PairedFieldLaw" (some .boolean) hx 11) (hX : SX g b L xs X.2.2.2.2.1) (hL : L < 2 ^ 31) (hi : i + 3 < L) (hI : LwInv w m inn ap n op G) (hk : kc + 1 ≤ X.2.2.2.1.cells) (hs : ks + 6 ≤ X.2.2.2.1.slots) (hnext : ∀ (w : Wd) (m : Nat) (inn : Nat → Bool) (ap : Nat → Nat → Bool) (n : Nat) (op : Bool) (G : Nat → Nat → Ce), LwInv w m inn ap n op G → Go X g (kc + 1) (ks + 6) Q w 1022 (LPl g b i) []) : Go X g kc ks Q w 184 (LPl g b i) [] := by
  obtain ⟨hC, hM, hF⟩ := hI
  refine r_aload_n hc dL_law_184 rfl ?_
  refine r_aload_n hc dL_law_185 rfl ?_
  refine r_iload hc dL_law_186 rfl ?_
  refine r_iconst hc dL_law_188 (nI 1) (by decide) ?_
  refine r_iadd hc dL_law_189 ?_
  rw [nI_add]
  refine r_sld hc hX (vp_in_nI (by omega) hL) dL_law_190 ?_
  rw [nI_clamp (show i + 1 < 2 ^ 31 by omega)]
  refine kW_87 hc dL_law_191 (cL_leave _ g 0 w m inn ap n op G (xs (i + 1)) hF hC) (by decide) (Nat.le_of_ble_eq_true rfl) hk hs ?_
  rintro _ w1 ⟨rfl, hv, hC1, hF1, hfr⟩
  have hM1 := hM.frL hfr
  refine r_istore hc dL_law_194 (Nat.le_of_ble_eq_true rfl) ?_
  refine r_aload_n hc dL_law_196 rfl ?_
  refine r_aload_n hc dL_law_197 rfl ?_
  refine r_iload hc dL_law_198 rfl ?_
  refine r_iconst hc dL_law_200 (nI 1) (by decide) ?_
  refine r_iadd hc dL_law_201 ?_
  rw [nI_add]
  refine r_sld hc hX (vp_in_nI (by omega) hL) dL_law_202 ?_
  rw [nI_clamp (show i + 1 < 2 ^ 31 by omega)]
  refine kL_90 (kc := kc + 1) (ks := ks + 6) hc dL_law_203 (cM_leave _ g 0 w1 m inn ap n op G (xs (i + 1)) hF.1.2 hM1) (by decide) (Nat.le_of_ble_eq_true rfl) hk hs ?_ (fun cn w' h => absurd h Rp_r)
  rintro v w2 ⟨hv2, ht, hM2, hfr2⟩
  have hv2 : v = none := hv2
  subst hv2
  refine r_aload_n hc dL_law_206 rfl ?_
  refine kL_84 (kc := kc + 1) (ks := ks + 6) hc dL_law_207 (cM_thrown _ g 0 w2) (by decide) (Nat.le_of_ble_eq_true rfl) hk hs ?_ (fun cn w' h => absurd h Rp_r)
  rintro _ _ ⟨rfl, rfl⟩
  rw [ht]
  refine r_iload hc dL_law_210 rfl ?_
  refine r_ic_eq_t hc dL_law_212 (tgt := 217) (by decide) rfl ?_
  refine r_goto hc dL_law_217 (tgt := 1022) (by decide) ?_
  exact Go.drop 5 (Go.drop 6 (hnext w2 _ _ _ _ _ _ ⟨hC1.frM hF1 hfr2, hM2, hF1⟩))
theorem law_2 (hc : Ok X g code "PairedFieldLaw" (some .boolean) hx 11) (hX : SX g b L xs X.2.2.2.2.1) (hL : L < 2 ^ 31) (hi : i + 3 < L) (hI : LwInv w m inn ap n op G) (hk : kc + 1 ≤ X.2.2.2.1.cells) (hs : ks + 6 ≤ X.2.2.2.1.slots) (hnext : ∀ (w : Wd) (m : Nat) (inn : Nat → Bool) (ap : Nat → Nat → Bool) (n : Nat) (op : Bool) (G : Nat → Nat → Ce), LwInv w m inn ap n op G → Go X g (kc + 1) (ks + 6) Q w 1022 (LPl g b i) []) : Go X g kc ks Q w 220 (LPl g b i) [] := by
  obtain ⟨hC, hM, hF⟩ := hI
  obtain ⟨bb, hbb⟩ : ∃ bb : Bool, bb = !decide (xs (i + 3) = 0) := ⟨_, rfl⟩
  have hj : Go X g kc ks Q w 247 (LPl g b i) [.int (bI bb), .int (xs (i + 2)), .int (xs (i + 1)), .ref (g.1 0)] := by
    refine r_aload_n hc dL_law_247 rfl ?_
    refine kW_91 hc dL_law_248 (cL_apart _ g 0 w m inn ap n op G (xs (i + 1)) (xs (i + 2)) bb hF hC) (by decide) (Nat.le_of_ble_eq_true rfl) hk hs ?_
    rintro _ w1 ⟨rfl, hv, hC1, hF1, hfr⟩
    have hM1 := hM.frL hfr
    refine r_istore hc dL_law_251 (Nat.le_of_ble_eq_true rfl) ?_
    have hj2 : Go X g (kc + 1) (ks + 6) Q w1 280 [some (.ref b), some (.ref (g.1 0)), some (.ref (g.1 48)), some (.ref (g.1 60)), some (.int (nI i)), some (.int (nI (rfK (!(isP m (xs (i + 1)) && isP m (xs (i + 2)))) (decide (xs (i + 1) = xs (i + 2))) op))), none] [.int (bI bb), .int (xs (i + 2)), .int (xs (i + 1)), .ref (g.1 48)] := by
      refine kL_94 (kc := kc + 1) (ks := ks + 6) hc dL_law_280 (cM_apart _ g 0 w1 m inn ap n op G (xs (i + 1)) (xs (i + 2)) bb hF hM1) (by decide) (Nat.le_of_ble_eq_true rfl) hk hs ?_ (fun cn w' h => absurd h Rp_r)
      rintro v w2 ⟨hv2, ht, hM2, hfr2⟩
      obtain ⟨y, rfl⟩ := (val_s vIs_any (fun h => h) hv2)
      refine r_istore hc dL_law_283 (Nat.le_of_ble_eq_true rfl) ?_
      refine r_aload_n hc dL_law_285 rfl ?_
      refine kL_84 (kc := kc + 1) (ks := ks + 6) hc dL_law_286 (cM_thrown _ g 0 w2) (by decide) (Nat.le_of_ble_eq_true rfl) hk hs ?_ (fun cn w' h => absurd h Rp_r)
      rintro _ _ ⟨rfl, rfl⟩
      rw [ht]
      refine r_iload hc dL_law_289 rfl ?_
      refine r_ic_eq_t hc dL_law_291 (tgt := 296) (by decide) rfl ?_
      refine r_iload hc dL_law_296 rfl ?_
      refine r_if_ne hc dL_law_298 (tgt := 320) (by decide) (fun h => ?_) (fun h => ?_)
      · refine r_goto hc dL_law_320 (tgt := 1022) (by decide) ?_
        exact Go.drop 5 (Go.drop 6 (hnext w2 _ _ _ _ _ _ ⟨hC1.frM hF1 hfr2, hM2, hF1⟩))
      · have hK0 := nI_rfK h
        have hy : w2 60 0 = y := by rw [hfr2 60 (Or.inr (by decide))]; exact (val_eq (by obtain ⟨a1, a2, a3⟩ := rfK_0 hK0; unfold apOk; rw [show (isP m (xs (i + 1)) && isP m (xs (i + 2))) = true by simpa using a1, a2, a3]; rfl) (hv hK0) hv2)
        refine r_aload_n hc dL_law_301 rfl ?_
        refine r_iconst hc dL_law_302 (nI 0) (by decide) ?_
        refine r_lald0 hc dL_law_303 ?_
        rw [hy]
        obtain ⟨tb, rfl⟩ : ∃ tb : Bool, y = bI tb := ⟨(ap (pN (xs (i + 1))) (pN (xs (i + 2))) != bb), val_is (by obtain ⟨a1, a2, a3⟩ := rfK_0 hK0; unfold apOk; rw [show (isP m (xs (i + 1)) && isP m (xs (i + 2))) = true by simpa using a1, a2, a3]; rfl) hv2⟩
        refine r_iload hc dL_law_304 rfl ?_
        cases tb with
        | false =>
          refine r_if_eq_t hc dL_law_306 (tgt := 313) (by decide) rfl ?_
          refine r_lconst hc dL_law_313 ((bI false).toInt64) (by decide) ?_
          refine r_lcmp hc dL_law_314 ?_
          rw [lg_cmp_self]
          refine r_if_eq_t hc dL_law_315 (tgt := 320) (by decide) rfl ?_
          refine r_goto hc dL_law_320 (tgt := 1022) (by decide) ?_
          exact Go.drop 5 (Go.drop 6 (hnext w2 _ _ _ _ _ _ ⟨hC1.frM hF1 hfr2, hM2, hF1⟩))
        | true =>
          refine r_if_eq_f hc dL_law_306 (tgt := 313) (by decide) (by decide) ?_
          refine r_lconst hc dL_law_309 ((bI true).toInt64) (by decide) ?_
          refine r_goto hc dL_law_310 (tgt := 314) (by decide) ?_
          refine r_lcmp hc dL_law_314 ?_
          rw [lg_cmp_self]
          refine r_if_eq_t hc dL_law_315 (tgt := 320) (by decide) rfl ?_
          refine r_goto hc dL_law_320 (tgt := 1022) (by decide) ?_
          exact Go.drop 5 (Go.drop 6 (hnext w2 _ _ _ _ _ _ ⟨hC1.frM hF1 hfr2, hM2, hF1⟩))
    refine r_aload_n hc dL_law_253 rfl ?_
    refine r_aload_n hc dL_law_254 rfl ?_
    refine r_iload hc dL_law_255 rfl ?_
    refine r_iconst hc dL_law_257 (nI 1) (by decide) ?_
    refine r_iadd hc dL_law_258 ?_
    rw [nI_add]
    refine r_sld hc hX (vp_in_nI (by omega) hL) dL_law_259 ?_
    rw [nI_clamp (show i + 1 < 2 ^ 31 by omega)]
    refine r_aload_n hc dL_law_260 rfl ?_
    refine r_iload hc dL_law_261 rfl ?_
    refine r_iconst hc dL_law_263 (nI 2) (by decide) ?_
    refine r_iadd hc dL_law_264 ?_
    rw [nI_add]
    refine r_sld hc hX (vp_in_nI (by omega) hL) dL_law_265 ?_
    rw [nI_clamp (show i + 2 < 2 ^ 31 by omega)]
    refine r_aload_n hc dL_law_266 rfl ?_
    refine r_iload hc dL_law_267 rfl ?_
    refine r_iconst hc dL_law_269 (nI 3) (by decide) ?_
    refine r_iadd hc dL_law_270 ?_
    rw [nI_add]
    refine r_sld hc hX (vp_in_nI (by omega) hL) dL_law_271 ?_
    rw [nI_clamp (show i + 3 < 2 ^ 31 by omega)]
    refine r_if_eq hc dL_law_272 (tgt := 279) (by decide) (fun h => ?_) (fun h => ?_)
    · refine r_iconst hc dL_law_279 (nI 0) (by decide) ?_
      rw [hbb, decide_eq_true h] at hj2
      exact hj2
    · refine r_iconst hc dL_law_275 (nI 1) (by decide) ?_
      refine r_goto hc dL_law_276 (tgt := 280) (by decide) ?_
      rw [hbb, decide_eq_false h] at hj2
      exact hj2
  refine r_aload_n hc dL_law_220 rfl ?_
  refine r_aload_n hc dL_law_221 rfl ?_
  refine r_iload hc dL_law_222 rfl ?_
  refine r_iconst hc dL_law_224 (nI 1) (by decide) ?_
  refine r_iadd hc dL_law_225 ?_
  rw [nI_add]
  refine r_sld hc hX (vp_in_nI (by omega) hL) dL_law_226 ?_
  rw [nI_clamp (show i + 1 < 2 ^ 31 by omega)]
  refine r_aload_n hc dL_law_227 rfl ?_
  refine r_iload hc dL_law_228 rfl ?_
  refine r_iconst hc dL_law_230 (nI 2) (by decide) ?_
  refine r_iadd hc dL_law_231 ?_
  rw [nI_add]
  refine r_sld hc hX (vp_in_nI (by omega) hL) dL_law_232 ?_
  rw [nI_clamp (show i + 2 < 2 ^ 31 by omega)]
  refine r_aload_n hc dL_law_233 rfl ?_
  refine r_iload hc dL_law_234 rfl ?_
  refine r_iconst hc dL_law_236 (nI 3) (by decide) ?_
  refine r_iadd hc dL_law_237 ?_
  rw [nI_add]
  refine r_sld hc hX (vp_in_nI (by omega) hL) dL_law_238 ?_
  rw [nI_clamp (show i + 3 < 2 ^ 31 by omega)]
  refine r_if_eq hc dL_law_239 (tgt := 246) (by decide) (fun h => ?_) (fun h => ?_)
  · refine r_iconst hc dL_law_246 (nI 0) (by decide) ?_
    rw [hbb, decide_eq_true h] at hj
    exact hj
  · refine r_iconst hc dL_law_242 (nI 1) (by decide) ?_
    refine r_goto hc dL_law_243 (tgt := 247) (by decide) ?_
    rw [hbb, decide_eq_false h] at hj
    exact hj
theorem law_3 (hc : Ok X g code "PairedFieldLaw" (some .boolean) hx 11) (hX : SX g b L xs X.2.2.2.2.1) (hL : L < 2 ^ 31) (hi : i + 3 < L) (hI : LwInv w m inn ap n op G) (hk : kc + 1 ≤ X.2.2.2.1.cells) (hs : ks + 6 ≤ X.2.2.2.1.slots) (hnext : ∀ (w : Wd) (m : Nat) (inn : Nat → Bool) (ap : Nat → Nat → Bool) (n : Nat) (op : Bool) (G : Nat → Nat → Ce), LwInv w m inn ap n op G → Go X g (kc + 1) (ks + 6) Q w 1022 (LPl g b i) []) : Go X g kc ks Q w 323 (LPl g b i) [] := by
  obtain ⟨hC, hM, hF⟩ := hI
  refine r_aload_n hc dL_law_323 rfl ?_
  refine r_aload_n hc dL_law_324 rfl ?_
  refine kW_95 hc dL_law_325 (cL_pair _ g 0 w m inn ap n op G hF hC) (by decide) (Nat.le_of_ble_eq_true rfl) hk hs ?_
  rintro _ w1 ⟨rfl, hv, hC1, hF1, hfr⟩
  have hM1 := hM.frL hfr
  refine r_istore hc dL_law_328 (Nat.le_of_ble_eq_true rfl) ?_
  refine r_aload_n hc dL_law_330 rfl ?_
  refine kL_97 (kc := kc + 1) (ks := ks + 6) hc dL_law_331 (cM_pair _ g 0 w1 m inn ap n op G hF hM1) (by decide) (Nat.le_of_ble_eq_true rfl) hk hs ?_ (fun cn w' h => absurd h Rp_r)
  rintro v w2 ⟨hv2, ht, hM2, hfr2⟩
  obtain ⟨y, rfl⟩ := (val_s vIs_any (fun h => h) hv2)
  refine r_istore hc dL_law_334 (Nat.le_of_ble_eq_true rfl) ?_
  refine r_aload_n hc dL_law_336 rfl ?_
  refine kL_84 (kc := kc + 1) (ks := ks + 6) hc dL_law_337 (cM_thrown _ g 0 w2) (by decide) (Nat.le_of_ble_eq_true rfl) hk hs ?_ (fun cn w' h => absurd h Rp_r)
  rintro _ _ ⟨rfl, rfl⟩
  rw [ht]
  refine r_iload hc dL_law_340 rfl ?_
  refine r_ic_eq_t hc dL_law_342 (tgt := 347) (by decide) rfl ?_
  refine r_iload hc dL_law_347 rfl ?_
  refine r_if_ne hc dL_law_349 (tgt := 364) (by decide) (fun h => ?_) (fun h => ?_)
  · refine r_goto hc dL_law_364 (tgt := 1022) (by decide) ?_
    exact Go.drop 5 (Go.drop 6 (hnext w2 _ _ _ _ _ _ ⟨hC1.frM hF1 hfr2, hM2, hF1⟩))
  · have hK0 := nI_rfK h
    have hy : w2 60 0 = y := by rw [hfr2 60 (Or.inr (by decide))]; exact (val_eq (by obtain ⟨a1, a2, a3⟩ := rfK_0 hK0; rw [a1, show canP G n ap inn m = true by simpa using a2]; rfl) (hv hK0) hv2)
    refine r_aload_n hc dL_law_352 rfl ?_
    refine r_iconst hc dL_law_353 (nI 0) (by decide) ?_
    refine r_lald0 hc dL_law_354 ?_
    rw [hy]
    refine r_iload hc dL_law_355 rfl ?_
    refine r_i2l hc dL_law_357 ?_
    refine r_lcmp hc dL_law_358 ?_
    rw [lg_cmp_self]
    refine r_if_eq_t hc dL_law_359 (tgt := 364) (by decide) rfl ?_
    refine r_goto hc dL_law_364 (tgt := 1022) (by decide) ?_
    exact Go.drop 5 (Go.drop 6 (hnext w2 _ _ _ _ _ _ ⟨hC1.frM hF1 hfr2, hM2, hF1⟩))
theorem law_4 (hc : Ok X g code "PairedFieldLaw" (some .boolean) hx 11) (hX : SX g b L xs X.2.2.2.2.1) (hL : L < 2 ^ 31) (hi : i + 3 < L) (hI : LwInv w m inn ap n op G) (hk : kc + 1 ≤ X.2.2.2.1.cells) (hs : ks + 6 ≤ X.2.2.2.1.slots) (hnext : ∀ (w : Wd) (m : Nat) (inn : Nat → Bool) (ap : Nat → Nat → Bool) (n : Nat) (op : Bool) (G : Nat → Nat → Ce), LwInv w m inn ap n op G → Go X g (kc + 1) (ks + 6) Q w 1022 (LPl g b i) []) : Go X g kc ks Q w 367 (LPl g b i) [] := by
  obtain ⟨hC, hM, hF⟩ := hI
  refine r_aload_n hc dL_law_367 rfl ?_
  refine r_aload_n hc dL_law_368 rfl ?_
  refine kW_98 hc dL_law_369 (cL_cost _ g 0 w m inn ap n op G hF hC) (by decide) (Nat.le_of_ble_eq_true rfl) hk hs ?_
  rintro _ w1 ⟨rfl, hv, hC1, hF1, hfr⟩
  have hM1 := hM.frL hfr
  refine r_istore hc dL_law_372 (Nat.le_of_ble_eq_true rfl) ?_
  refine r_aload_n hc dL_law_374 rfl ?_
  refine kL_100 (kc := kc + 1) (ks := ks + 6) hc dL_law_375 (cM_cost _ g 0 w1 m inn ap n op G hF hM1) (by decide) (Nat.le_of_ble_eq_true rfl) hk hs ?_ (fun cn w' h => absurd h Rp_r)
  rintro v w2 ⟨hv2, ht, hM2, hfr2⟩
  obtain ⟨y, rfl⟩ := (val_s vIs_any (fun h => h) hv2)
  refine r_istore hc dL_law_378 (Nat.le_of_ble_eq_true rfl) ?_
  refine r_aload_n hc dL_law_380 rfl ?_
  refine kL_84 (kc := kc + 1) (ks := ks + 6) hc dL_law_381 (cM_thrown _ g 0 w2) (by decide) (Nat.le_of_ble_eq_true rfl) hk hs ?_ (fun cn w' h => absurd h Rp_r)
  rintro _ _ ⟨rfl, rfl⟩
  rw [ht]
  refine r_iload hc dL_law_384 rfl ?_
  refine r_ic_eq_t hc dL_law_386 (tgt := 391) (by decide) rfl ?_
  refine r_iload hc dL_law_391 rfl ?_
  refine r_if_ne hc dL_law_393 (tgt := 408) (by decide) (fun h => ?_) (fun h => ?_)
  · refine r_goto hc dL_law_408 (tgt := 1022) (by decide) ?_
    exact Go.drop 5 (Go.drop 6 (hnext w2 _ _ _ _ _ _ ⟨hC1.frM hF1 hfr2, hM2, hF1⟩))
  · have hK0 := nI_rfK h
    have hy : w2 60 0 = y := by rw [hfr2 60 (Or.inr (by decide))]; exact (val_eq (by simpa using (rfK_0 hK0).1) (hv hK0) hv2)
    refine r_aload_n hc dL_law_396 rfl ?_
    refine r_iconst hc dL_law_397 (nI 0) (by decide) ?_
    refine r_lald0 hc dL_law_398 ?_
    rw [hy]
    refine r_iload hc dL_law_399 rfl ?_
    refine r_i2l hc dL_law_401 ?_
    refine r_lcmp hc dL_law_402 ?_
    rw [lg_cmp_self]
    refine r_if_eq_t hc dL_law_403 (tgt := 408) (by decide) rfl ?_
    refine r_goto hc dL_law_408 (tgt := 1022) (by decide) ?_
    exact Go.drop 5 (Go.drop 6 (hnext w2 _ _ _ _ _ _ ⟨hC1.frM hF1 hfr2, hM2, hF1⟩))
theorem law_5 (hc : Ok X g code "PairedFieldLaw" (some .boolean) hx 11) (hX : SX g b L xs X.2.2.2.2.1) (hL : L < 2 ^ 31) (hi : i + 3 < L) (hI : LwInv w m inn ap n op G) (hk : kc + 1 ≤ X.2.2.2.1.cells) (hs : ks + 6 ≤ X.2.2.2.1.slots) (hnext : ∀ (w : Wd) (m : Nat) (inn : Nat → Bool) (ap : Nat → Nat → Bool) (n : Nat) (op : Bool) (G : Nat → Nat → Ce), LwInv w m inn ap n op G → Go X g (kc + 1) (ks + 6) Q w 1022 (LPl g b i) []) : Go X g kc ks Q w 411 (LPl g b i) [] := by
  obtain ⟨hC, hM, hF⟩ := hI
  refine r_aload_n hc dL_law_411 rfl ?_
  refine kL_101 (kc := kc) (ks := ks) hc dL_law_412 (cF_ways _ g 0 w m inn ap n op G hF hC) (by decide) (Nat.le_of_ble_eq_true rfl) (by omega) (by omega) ?_ (fun cn w' h => absurd h Rp_r)
  rintro _ w1 ⟨rfl, hC1, hfr⟩
  have hM1 : MS w1 m inn ap n op G := hM.frC hfr
  refine r_aload_n hc dL_law_415 rfl ?_
  refine kL_104 (kc := kc) (ks := ks) hc dL_law_416 (cM_ways _ g 0 w1 m inn ap n op G hF hM1) (by decide) (Nat.le_of_ble_eq_true rfl) (by omega) (by omega) ?_ (fun cn w' h => absurd h Rp_r)
  rintro v w2 ⟨hv2, ht, hM2, hfr2⟩
  have hv2 : v = some (.int _) := hv2
  subst hv2
  refine r_ic_eq_t hc dL_law_419 (tgt := 1022) (by decide) rfl ?_
  exact Go.widen (Nat.le_succ _) (Nat.le_add_right _ _) (hnext w2 _ _ _ _ _ _ ⟨hC1.frM hF hfr2, hM2, hF⟩)
theorem law_6 (hc : Ok X g code "PairedFieldLaw" (some .boolean) hx 11) (hX : SX g b L xs X.2.2.2.2.1) (hL : L < 2 ^ 31) (hi : i + 3 < L) (hI : LwInv w m inn ap n op G) (hk : kc + 1 ≤ X.2.2.2.1.cells) (hs : ks + 6 ≤ X.2.2.2.1.slots) (hnext : ∀ (w : Wd) (m : Nat) (inn : Nat → Bool) (ap : Nat → Nat → Bool) (n : Nat) (op : Bool) (G : Nat → Nat → Ce), LwInv w m inn ap n op G → Go X g (kc + 1) (ks + 6) Q w 1022 (LPl g b i) []) : Go X g kc ks Q w 424 (LPl g b i) [] := by
  obtain ⟨hC, hM, hF⟩ := hI
  refine r_aload_n hc dL_law_424 rfl ?_
  refine r_aload_n hc dL_law_425 rfl ?_
  refine r_iload hc dL_law_426 rfl ?_
  refine r_iconst hc dL_law_428 (nI 1) (by decide) ?_
  refine r_iadd hc dL_law_429 ?_
  rw [nI_add]
  refine r_sld hc hX (vp_in_nI (by omega) hL) dL_law_430 ?_
  rw [nI_clamp (show i + 1 < 2 ^ 31 by omega)]
  refine r_aload_n hc dL_law_431 rfl ?_
  refine kW_105 hc dL_law_432 (cL_opponent _ g 0 w m inn ap n op G (xs (i + 1)) hF hC) (by decide) (Nat.le_of_ble_eq_true rfl) hk hs ?_
  rintro _ w1 ⟨rfl, hv, hC1, hF1, hfr⟩
  have hM1 := hM.frL hfr
  refine r_istore hc dL_law_435 (Nat.le_of_ble_eq_true rfl) ?_
  refine r_aload_n hc dL_law_437 rfl ?_
  refine r_aload_n hc dL_law_438 rfl ?_
  refine r_iload hc dL_law_439 rfl ?_
  refine r_iconst hc dL_law_441 (nI 1) (by decide) ?_
  refine r_iadd hc dL_law_442 ?_
  rw [nI_add]
  refine r_sld hc hX (vp_in_nI (by omega) hL) dL_law_443 ?_
  rw [nI_clamp (show i + 1 < 2 ^ 31 by omega)]
  refine kL_108 (kc := kc + 1) (ks := ks + 6) hc dL_law_444 (cM_opponent _ g 0 w1 m inn ap n op G (xs (i + 1)) hF hM1) (by decide) (Nat.le_of_ble_eq_true rfl) hk hs ?_ (fun cn w' h => absurd h Rp_r)
  rintro v w2 ⟨hv2, ht, hM2, hfr2⟩
  obtain ⟨y, rfl⟩ := (val_s vIs_any (fun h => h) hv2)
  refine r_istore hc dL_law_447 (Nat.le_of_ble_eq_true rfl) ?_
  refine r_aload_n hc dL_law_449 rfl ?_
  refine kL_84 (kc := kc + 1) (ks := ks + 6) hc dL_law_450 (cM_thrown _ g 0 w2) (by decide) (Nat.le_of_ble_eq_true rfl) hk hs ?_ (fun cn w' h => absurd h Rp_r)
  rintro _ _ ⟨rfl, rfl⟩
  rw [ht]
  refine r_iload hc dL_law_453 rfl ?_
  refine r_ic_eq_t hc dL_law_455 (tgt := 460) (by decide) rfl ?_
  refine r_iload hc dL_law_460 rfl ?_
  refine r_if_ne hc dL_law_462 (tgt := 477) (by decide) (fun h => ?_) (fun h => ?_)
  · refine r_goto hc dL_law_477 (tgt := 1022) (by decide) ?_
    exact Go.drop 5 (Go.drop 6 (hnext w2 _ _ _ _ _ _ ⟨hC1.frM hF1 hfr2, hM2, hF1⟩))
  · have hK0 := nI_rfK h
    have hy : w2 60 0 = y := by rw [hfr2 60 (Or.inr (by decide))]; exact (val_eq (by obtain ⟨a1, a2, a3⟩ := rfK_0 hK0; rw [show isP m (xs (i + 1)) = true by simpa using a1, show op = true by simpa using a2]; rfl) (hv hK0) hv2)
    refine r_aload_n hc dL_law_465 rfl ?_
    refine r_iconst hc dL_law_466 (nI 0) (by decide) ?_
    refine r_lald0 hc dL_law_467 ?_
    rw [hy]
    refine r_iload hc dL_law_468 rfl ?_
    refine r_i2l hc dL_law_470 ?_
    refine r_lcmp hc dL_law_471 ?_
    rw [lg_cmp_self]
    refine r_if_eq_t hc dL_law_472 (tgt := 477) (by decide) rfl ?_
    refine r_goto hc dL_law_477 (tgt := 1022) (by decide) ?_
    exact Go.drop 5 (Go.drop 6 (hnext w2 _ _ _ _ _ _ ⟨hC1.frM hF1 hfr2, hM2, hF1⟩))
theorem law_7 (hc : Ok X g code "PairedFieldLaw" (some .boolean) hx 11) (hX : SX g b L xs X.2.2.2.2.1) (hL : L < 2 ^ 31) (hi : i + 3 < L) (hI : LwInv w m inn ap n op G) (hk : kc + 1 ≤ X.2.2.2.1.cells) (hs : ks + 6 ≤ X.2.2.2.1.slots) (hnext : ∀ (w : Wd) (m : Nat) (inn : Nat → Bool) (ap : Nat → Nat → Bool) (n : Nat) (op : Bool) (G : Nat → Nat → Ce), LwInv w m inn ap n op G → Go X g (kc + 1) (ks + 6) Q w 1022 (LPl g b i) []) : Go X g kc ks Q w 480 (LPl g b i) [] := by
  obtain ⟨hC, hM, hF⟩ := hI
  refine r_aload_n hc dL_law_480 rfl ?_
  refine r_aload_n hc dL_law_481 rfl ?_
  refine r_iload hc dL_law_482 rfl ?_
  refine r_iconst hc dL_law_484 (nI 1) (by decide) ?_
  refine r_iadd hc dL_law_485 ?_
  rw [nI_add]
  refine r_sld hc hX (vp_in_nI (by omega) hL) dL_law_486 ?_
  rw [nI_clamp (show i + 1 < 2 ^ 31 by omega)]
  refine r_aload_n hc dL_law_487 rfl ?_
  refine kW_109 hc dL_law_488 (cL_isWhite _ g 0 w m inn ap n op G (xs (i + 1)) hF hC) (by decide) (Nat.le_of_ble_eq_true rfl) hk hs ?_
  rintro _ w1 ⟨rfl, hv, hC1, hF1, hfr⟩
  have hM1 := hM.frL hfr
  refine r_istore hc dL_law_491 (Nat.le_of_ble_eq_true rfl) ?_
  refine r_aload_n hc dL_law_493 rfl ?_
  refine r_aload_n hc dL_law_494 rfl ?_
  refine r_iload hc dL_law_495 rfl ?_
  refine r_iconst hc dL_law_497 (nI 1) (by decide) ?_
  refine r_iadd hc dL_law_498 ?_
  rw [nI_add]
  refine r_sld hc hX (vp_in_nI (by omega) hL) dL_law_499 ?_
  rw [nI_clamp (show i + 1 < 2 ^ 31 by omega)]
  refine kL_111 (kc := kc + 1) (ks := ks + 6) hc dL_law_500 (cM_isWhite _ g 0 w1 m inn ap n op G (xs (i + 1)) hF hM1) (by decide) (Nat.le_of_ble_eq_true rfl) hk hs ?_ (fun cn w' h => absurd h Rp_r)
  rintro v w2 ⟨hv2, ht, hM2, hfr2⟩
  obtain ⟨y, rfl⟩ := (val_s vIs_any (fun h => h) hv2)
  refine r_istore hc dL_law_503 (Nat.le_of_ble_eq_true rfl) ?_
  refine r_aload_n hc dL_law_505 rfl ?_
  refine kL_84 (kc := kc + 1) (ks := ks + 6) hc dL_law_506 (cM_thrown _ g 0 w2) (by decide) (Nat.le_of_ble_eq_true rfl) hk hs ?_ (fun cn w' h => absurd h Rp_r)
  rintro _ _ ⟨rfl, rfl⟩
  rw [ht]
  refine r_iload hc dL_law_509 rfl ?_
  refine r_ic_eq_t hc dL_law_511 (tgt := 516) (by decide) rfl ?_
  refine r_iload hc dL_law_516 rfl ?_
  refine r_if_ne hc dL_law_518 (tgt := 540) (by decide) (fun h => ?_) (fun h => ?_)
  · refine r_goto hc dL_law_540 (tgt := 1022) (by decide) ?_
    exact Go.drop 5 (Go.drop 6 (hnext w2 _ _ _ _ _ _ ⟨hC1.frM hF1 hfr2, hM2, hF1⟩))
  · have hK0 := nI_rfK h
    have hy : w2 60 0 = y := by rw [hfr2 60 (Or.inr (by decide))]; exact (val_eq (by obtain ⟨a1, a2, a3⟩ := rfK_0 hK0; rw [show isP m (xs (i + 1)) = true by simpa using a1, show op = true by simpa using a2]; rfl) (hv hK0) hv2)
    refine r_aload_n hc dL_law_521 rfl ?_
    refine r_iconst hc dL_law_522 (nI 0) (by decide) ?_
    refine r_lald0 hc dL_law_523 ?_
    rw [hy]
    obtain ⟨tb, rfl⟩ : ∃ tb : Bool, y = bI tb := ⟨whB (G n (pN (xs (i + 1)))), val_is (by obtain ⟨a1, a2, a3⟩ := rfK_0 hK0; rw [show isP m (xs (i + 1)) = true by simpa using a1, show op = true by simpa using a2]; rfl) hv2⟩
    refine r_iload hc dL_law_524 rfl ?_
    cases tb with
    | false =>
      refine r_if_eq_t hc dL_law_526 (tgt := 533) (by decide) rfl ?_
      refine r_lconst hc dL_law_533 ((bI false).toInt64) (by decide) ?_
      refine r_lcmp hc dL_law_534 ?_
      rw [lg_cmp_self]
      refine r_if_eq_t hc dL_law_535 (tgt := 540) (by decide) rfl ?_
      refine r_goto hc dL_law_540 (tgt := 1022) (by decide) ?_
      exact Go.drop 5 (Go.drop 6 (hnext w2 _ _ _ _ _ _ ⟨hC1.frM hF1 hfr2, hM2, hF1⟩))
    | true =>
      refine r_if_eq_f hc dL_law_526 (tgt := 533) (by decide) (by decide) ?_
      refine r_lconst hc dL_law_529 ((bI true).toInt64) (by decide) ?_
      refine r_goto hc dL_law_530 (tgt := 534) (by decide) ?_
      refine r_lcmp hc dL_law_534 ?_
      rw [lg_cmp_self]
      refine r_if_eq_t hc dL_law_535 (tgt := 540) (by decide) rfl ?_
      refine r_goto hc dL_law_540 (tgt := 1022) (by decide) ?_
      exact Go.drop 5 (Go.drop 6 (hnext w2 _ _ _ _ _ _ ⟨hC1.frM hF1 hfr2, hM2, hF1⟩))
theorem law_8 (hc : Ok X g code "PairedFieldLaw" (some .boolean) hx 11) (hX : SX g b L xs X.2.2.2.2.1) (hL : L < 2 ^ 31) (hi : i + 3 < L) (hI : LwInv w m inn ap n op G) (hk : kc + 1 ≤ X.2.2.2.1.cells) (hs : ks + 6 ≤ X.2.2.2.1.slots) (hnext : ∀ (w : Wd) (m : Nat) (inn : Nat → Bool) (ap : Nat → Nat → Bool) (n : Nat) (op : Bool) (G : Nat → Nat → Ce), LwInv w m inn ap n op G → Go X g (kc + 1) (ks + 6) Q w 1022 (LPl g b i) []) : Go X g kc ks Q w 543 (LPl g b i) [] := by
  obtain ⟨hC, hM, hF⟩ := hI
  refine r_aload_n hc dL_law_543 rfl ?_
  refine r_aload_n hc dL_law_544 rfl ?_
  refine r_iload hc dL_law_545 rfl ?_
  refine r_iconst hc dL_law_547 (nI 1) (by decide) ?_
  refine r_iadd hc dL_law_548 ?_
  rw [nI_add]
  refine r_sld hc hX (vp_in_nI (by omega) hL) dL_law_549 ?_
  rw [nI_clamp (show i + 1 < 2 ^ 31 by omega)]
  refine r_aload_n hc dL_law_550 rfl ?_
  refine r_iload hc dL_law_551 rfl ?_
  refine r_iconst hc dL_law_553 (nI 2) (by decide) ?_
  refine r_iadd hc dL_law_554 ?_
  rw [nI_add]
  refine r_sld hc hX (vp_in_nI (by omega) hL) dL_law_555 ?_
  rw [nI_clamp (show i + 2 < 2 ^ 31 by omega)]
  refine kW_112 hc dL_law_556 (cL_report _ g 0 w m inn ap n op G (xs (i + 1)) (xs (i + 2)) hF hC) (by decide) (Nat.le_of_ble_eq_true rfl) hk hs ?_
  rintro _ w1 ⟨rfl, hv, hC1, hF1, hfr⟩
  have hM1 := hM.frL hfr
  refine r_istore hc dL_law_559 (Nat.le_of_ble_eq_true rfl) ?_
  refine r_aload_n hc dL_law_561 rfl ?_
  refine r_aload_n hc dL_law_562 rfl ?_
  refine r_iload hc dL_law_563 rfl ?_
  refine r_iconst hc dL_law_565 (nI 1) (by decide) ?_
  refine r_iadd hc dL_law_566 ?_
  rw [nI_add]
  refine r_sld hc hX (vp_in_nI (by omega) hL) dL_law_567 ?_
  rw [nI_clamp (show i + 1 < 2 ^ 31 by omega)]
  refine r_aload_n hc dL_law_568 rfl ?_
  refine r_iload hc dL_law_569 rfl ?_
  refine r_iconst hc dL_law_571 (nI 2) (by decide) ?_
  refine r_iadd hc dL_law_572 ?_
  rw [nI_add]
  refine r_sld hc hX (vp_in_nI (by omega) hL) dL_law_573 ?_
  rw [nI_clamp (show i + 2 < 2 ^ 31 by omega)]
  refine kL_115 (kc := kc + 1) (ks := ks + 6) hc dL_law_574 (cM_report _ g 0 w1 m inn ap n op G (xs (i + 1)) (xs (i + 2)) hF hM1) (by decide) (Nat.le_of_ble_eq_true rfl) hk hs ?_ (fun cn w' h => absurd h Rp_r)
  rintro v w2 ⟨hv2, ht, hM2, hfr2⟩
  have hv2 : v = none := hv2
  subst hv2
  refine r_aload_n hc dL_law_577 rfl ?_
  refine kL_84 (kc := kc + 1) (ks := ks + 6) hc dL_law_578 (cM_thrown _ g 0 w2) (by decide) (Nat.le_of_ble_eq_true rfl) hk hs ?_ (fun cn w' h => absurd h Rp_r)
  rintro _ _ ⟨rfl, rfl⟩
  rw [ht]
  refine r_iload hc dL_law_581 rfl ?_
  refine r_ic_eq_t hc dL_law_583 (tgt := 588) (by decide) rfl ?_
  refine r_goto hc dL_law_588 (tgt := 1022) (by decide) ?_
  exact Go.drop 5 (Go.drop 6 (hnext w2 _ _ _ _ _ _ ⟨hC1.frM hF1 hfr2, hM2, hF1⟩))
theorem law_9 (hc : Ok X g code "PairedFieldLaw" (some .boolean) hx 11) (hX : SX g b L xs X.2.2.2.2.1) (hL : L < 2 ^ 31) (hi : i + 3 < L) (hI : LwInv w m inn ap n op G) (hk : kc + 1 ≤ X.2.2.2.1.cells) (hs : ks + 6 ≤ X.2.2.2.1.slots) (hnext : ∀ (w : Wd) (m : Nat) (inn : Nat → Bool) (ap : Nat → Nat → Bool) (n : Nat) (op : Bool) (G : Nat → Nat → Ce), LwInv w m inn ap n op G → Go X g (kc + 1) (ks + 6) Q w 1022 (LPl g b i) []) : Go X g kc ks Q w 591 (LPl g b i) [] := by
  obtain ⟨hC, hM, hF⟩ := hI
  refine r_aload_n hc dL_law_591 rfl ?_
  refine r_aload_n hc dL_law_592 rfl ?_
  refine kW_116 hc dL_law_593 (cL_missing _ g 0 w m inn ap n op G hF hC) (by decide) (Nat.le_of_ble_eq_true rfl) hk hs ?_
  rintro _ w1 ⟨rfl, hv, hC1, hF1, hfr⟩
  have hM1 := hM.frL hfr
  refine r_istore hc dL_law_596 (Nat.le_of_ble_eq_true rfl) ?_
  refine r_aload_n hc dL_law_598 rfl ?_
  refine kL_118 (kc := kc + 1) (ks := ks + 6) hc dL_law_599 (cM_missing _ g 0 w1 m inn ap n op G hF hM1) (by decide) (Nat.le_of_ble_eq_true rfl) hk hs ?_ (fun cn w' h => absurd h Rp_r)
  rintro v w2 ⟨hv2, ht, hM2, hfr2⟩
  obtain ⟨y, rfl⟩ := (val_s vIs_any (fun h => h) hv2)
  refine r_istore hc dL_law_602 (Nat.le_of_ble_eq_true rfl) ?_
  refine r_aload_n hc dL_law_604 rfl ?_
  refine kL_84 (kc := kc + 1) (ks := ks + 6) hc dL_law_605 (cM_thrown _ g 0 w2) (by decide) (Nat.le_of_ble_eq_true rfl) hk hs ?_ (fun cn w' h => absurd h Rp_r)
  rintro _ _ ⟨rfl, rfl⟩
  rw [ht]
  refine r_iload hc dL_law_608 rfl ?_
  refine r_ic_eq_t hc dL_law_610 (tgt := 615) (by decide) rfl ?_
  refine r_iload hc dL_law_615 rfl ?_
  refine r_if_ne hc dL_law_617 (tgt := 632) (by decide) (fun h => ?_) (fun h => ?_)
  · refine r_goto hc dL_law_632 (tgt := 1022) (by decide) ?_
    exact Go.drop 5 (Go.drop 6 (hnext w2 _ _ _ _ _ _ ⟨hC1.frM hF1 hfr2, hM2, hF1⟩))
  · have hK0 := nI_rfK h
    have hy : w2 60 0 = y := by rw [hfr2 60 (Or.inr (by decide))]; exact (val_eq (by simpa using (rfK_0 hK0).1) (hv hK0) hv2)
    refine r_aload_n hc dL_law_620 rfl ?_
    refine r_iconst hc dL_law_621 (nI 0) (by decide) ?_
    refine r_lald0 hc dL_law_622 ?_
    rw [hy]
    refine r_iload hc dL_law_623 rfl ?_
    refine r_i2l hc dL_law_625 ?_
    refine r_lcmp hc dL_law_626 ?_
    rw [lg_cmp_self]
    refine r_if_eq_t hc dL_law_627 (tgt := 632) (by decide) rfl ?_
    refine r_goto hc dL_law_632 (tgt := 1022) (by decide) ?_
    exact Go.drop 5 (Go.drop 6 (hnext w2 _ _ _ _ _ _ ⟨hC1.frM hF1 hfr2, hM2, hF1⟩))
theorem law_10 (hc : Ok X g code "PairedFieldLaw" (some .boolean) hx 11) (hX : SX g b L xs X.2.2.2.2.1) (hL : L < 2 ^ 31) (hi : i + 3 < L) (hI : LwInv w m inn ap n op G) (hk : kc + 1 ≤ X.2.2.2.1.cells) (hs : ks + 6 ≤ X.2.2.2.1.slots) (hnext : ∀ (w : Wd) (m : Nat) (inn : Nat → Bool) (ap : Nat → Nat → Bool) (n : Nat) (op : Bool) (G : Nat → Nat → Ce), LwInv w m inn ap n op G → Go X g (kc + 1) (ks + 6) Q w 1022 (LPl g b i) []) : Go X g kc ks Q w 635 (LPl g b i) [] := by
  obtain ⟨hC, hM, hF⟩ := hI
  refine r_aload_n hc dL_law_635 rfl ?_
  refine r_aload_n hc dL_law_636 rfl ?_
  refine kW_119 hc dL_law_637 (cL_close _ g 0 w m inn ap n op G hF hC) (by decide) (Nat.le_of_ble_eq_true rfl) hk hs ?_
  rintro _ w1 ⟨rfl, hv, hC1, hF1, hfr⟩
  have hM1 := hM.frL hfr
  refine r_istore hc dL_law_640 (Nat.le_of_ble_eq_true rfl) ?_
  refine r_aload_n hc dL_law_642 rfl ?_
  refine kL_121 (kc := kc + 1) (ks := ks + 6) hc dL_law_643 (cM_close _ g 0 w1 m inn ap n op G hF hM1) (by decide) (Nat.le_of_ble_eq_true rfl) hk hs ?_ (fun cn w' h => absurd h Rp_r)
  rintro v w2 ⟨hv2, ht, hM2, hfr2⟩
  obtain ⟨y, rfl⟩ := (val_s vIs_any (fun h => h) hv2)
  refine r_istore hc dL_law_646 (Nat.le_of_ble_eq_true rfl) ?_
  refine r_aload_n hc dL_law_648 rfl ?_
  refine kL_84 (kc := kc + 1) (ks := ks + 6) hc dL_law_649 (cM_thrown _ g 0 w2) (by decide) (Nat.le_of_ble_eq_true rfl) hk hs ?_ (fun cn w' h => absurd h Rp_r)
  rintro _ _ ⟨rfl, rfl⟩
  rw [ht]
  refine r_iload hc dL_law_652 rfl ?_
  refine r_ic_eq_t hc dL_law_654 (tgt := 659) (by decide) rfl ?_
  refine r_iload hc dL_law_659 rfl ?_
  refine r_if_ne hc dL_law_661 (tgt := 676) (by decide) (fun h => ?_) (fun h => ?_)
  · refine r_goto hc dL_law_676 (tgt := 1022) (by decide) ?_
    exact Go.drop 5 (Go.drop 6 (hnext w2 _ _ _ _ _ _ ⟨hC1.frM hF1 hfr2, hM2, hF1⟩))
  · have hK0 := nI_rfK h
    have hy : w2 60 0 = y := by rw [hfr2 60 (Or.inr (by decide))]; exact (val_eq (by simpa using (rfK_0 hK0).1) (hv hK0) hv2)
    refine r_aload_n hc dL_law_664 rfl ?_
    refine r_iconst hc dL_law_665 (nI 0) (by decide) ?_
    refine r_lald0 hc dL_law_666 ?_
    rw [hy]
    refine r_iload hc dL_law_667 rfl ?_
    refine r_i2l hc dL_law_669 ?_
    refine r_lcmp hc dL_law_670 ?_
    rw [lg_cmp_self]
    refine r_if_eq_t hc dL_law_671 (tgt := 676) (by decide) rfl ?_
    refine r_goto hc dL_law_676 (tgt := 1022) (by decide) ?_
    exact Go.drop 5 (Go.drop 6 (hnext w2 _ _ _ _ _ _ ⟨hC1.frM hF1 hfr2, hM2, hF1⟩))
theorem law_11 (hc : Ok X g code "PairedFieldLaw" (some .boolean) hx 11) (hX : SX g b L xs X.2.2.2.2.1) (hL : L < 2 ^ 31) (hi : i + 3 < L) (hI : LwInv w m inn ap n op G) (hk : kc + 1 ≤ X.2.2.2.1.cells) (hs : ks + 6 ≤ X.2.2.2.1.slots) (hnext : ∀ (w : Wd) (m : Nat) (inn : Nat → Bool) (ap : Nat → Nat → Bool) (n : Nat) (op : Bool) (G : Nat → Nat → Ce), LwInv w m inn ap n op G → Go X g (kc + 1) (ks + 6) Q w 1022 (LPl g b i) []) : Go X g kc ks Q w 679 (LPl g b i) [] := by
  obtain ⟨hC, hM, hF⟩ := hI
  refine r_aload_n hc dL_law_679 rfl ?_
  refine r_aload_n hc dL_law_680 rfl ?_
  refine kW_122 hc dL_law_681 (cL_back _ g 0 w m inn ap n op G hF hC) (by decide) (Nat.le_of_ble_eq_true rfl) hk hs ?_
  rintro _ w1 ⟨rfl, hv, hC1, hF1, hfr⟩
  have hM1 := hM.frL hfr
  refine r_istore hc dL_law_684 (Nat.le_of_ble_eq_true rfl) ?_
  refine r_aload_n hc dL_law_686 rfl ?_
  refine kL_124 (kc := kc + 1) (ks := ks + 6) hc dL_law_687 (cM_back _ g 0 w1 m inn ap n op G hF hM1) (by decide) (Nat.le_of_ble_eq_true rfl) hk hs ?_ (fun cn w' h => absurd h Rp_r)
  rintro v w2 ⟨hv2, ht, hM2, hfr2⟩
  obtain ⟨y, rfl⟩ := (val_s vIs_any (fun h => h) hv2)
  refine r_istore hc dL_law_690 (Nat.le_of_ble_eq_true rfl) ?_
  refine r_aload_n hc dL_law_692 rfl ?_
  refine kL_84 (kc := kc + 1) (ks := ks + 6) hc dL_law_693 (cM_thrown _ g 0 w2) (by decide) (Nat.le_of_ble_eq_true rfl) hk hs ?_ (fun cn w' h => absurd h Rp_r)
  rintro _ _ ⟨rfl, rfl⟩
  rw [ht]
  refine r_iload hc dL_law_696 rfl ?_
  refine r_ic_eq_t hc dL_law_698 (tgt := 703) (by decide) rfl ?_
  refine r_iload hc dL_law_703 rfl ?_
  refine r_if_ne hc dL_law_705 (tgt := 720) (by decide) (fun h => ?_) (fun h => ?_)
  · refine r_goto hc dL_law_720 (tgt := 1022) (by decide) ?_
    exact Go.drop 5 (Go.drop 6 (hnext w2 _ _ _ _ _ _ ⟨hC1.frM hF1 hfr2, hM2, hF1⟩))
  · have hK0 := nI_rfK h
    have hy : w2 60 0 = y := by rw [hfr2 60 (Or.inr (by decide))]; exact (val_eq (by have a1 := (rfK_0 hK0).1; cases op with | true => rfl | false => (have : ¬ n = 0 := of_decide_eq_false a1); exact decide_eq_true (by omega)) (hv hK0) hv2)
    refine r_aload_n hc dL_law_708 rfl ?_
    refine r_iconst hc dL_law_709 (nI 0) (by decide) ?_
    refine r_lald0 hc dL_law_710 ?_
    rw [hy]
    refine r_iload hc dL_law_711 rfl ?_
    refine r_i2l hc dL_law_713 ?_
    refine r_lcmp hc dL_law_714 ?_
    rw [lg_cmp_self]
    refine r_if_eq_t hc dL_law_715 (tgt := 720) (by decide) rfl ?_
    refine r_goto hc dL_law_720 (tgt := 1022) (by decide) ?_
    exact Go.drop 5 (Go.drop 6 (hnext w2 _ _ _ _ _ _ ⟨hC1.frM hF1 hfr2, hM2, hF1⟩))
theorem law_12 (hc : Ok X g code "PairedFieldLaw" (some .boolean) hx 11) (hX : SX g b L xs X.2.2.2.2.1) (hL : L < 2 ^ 31) (hi : i + 3 < L) (hI : LwInv w m inn ap n op G) (hk : kc + 1 ≤ X.2.2.2.1.cells) (hs : ks + 6 ≤ X.2.2.2.1.slots) (hnext : ∀ (w : Wd) (m : Nat) (inn : Nat → Bool) (ap : Nat → Nat → Bool) (n : Nat) (op : Bool) (G : Nat → Nat → Ce), LwInv w m inn ap n op G → Go X g (kc + 1) (ks + 6) Q w 1022 (LPl g b i) []) : Go X g kc ks Q w 723 (LPl g b i) [] := by
  obtain ⟨hC, hM, hF⟩ := hI
  refine r_aload_n hc dL_law_723 rfl ?_
  refine r_aload_n hc dL_law_724 rfl ?_
  refine r_iload hc dL_law_725 rfl ?_
  refine r_iconst hc dL_law_727 (nI 1) (by decide) ?_
  refine r_iadd hc dL_law_728 ?_
  rw [nI_add]
  refine r_sld hc hX (vp_in_nI (by omega) hL) dL_law_729 ?_
  rw [nI_clamp (show i + 1 < 2 ^ 31 by omega)]
  refine r_aload_n hc dL_law_730 rfl ?_
  refine kW_125 hc dL_law_731 (cL_play _ g 0 w m inn ap n op G (xs (i + 1)) hF hC) (by decide) (Nat.le_of_ble_eq_true rfl) hk hs ?_
  rintro _ w1 ⟨rfl, hv, hC1, hF1, hfr⟩
  have hM1 := hM.frL hfr
  refine r_istore hc dL_law_734 (Nat.le_of_ble_eq_true rfl) ?_
  refine r_aload_n hc dL_law_736 rfl ?_
  refine r_aload_n hc dL_law_737 rfl ?_
  refine r_iload hc dL_law_738 rfl ?_
  refine r_iconst hc dL_law_740 (nI 1) (by decide) ?_
  refine r_iadd hc dL_law_741 ?_
  rw [nI_add]
  refine r_sld hc hX (vp_in_nI (by omega) hL) dL_law_742 ?_
  rw [nI_clamp (show i + 1 < 2 ^ 31 by omega)]
  refine kL_127 (kc := kc + 1) (ks := ks + 6) hc dL_law_743 (cM_play _ g 0 w1 m inn ap n op G (xs (i + 1)) hF hM1) (by decide) (Nat.le_of_ble_eq_true rfl) hk hs ?_ (fun cn w' h => absurd h Rp_r)
  rintro v w2 ⟨hv2, ht, hM2, hfr2⟩
  obtain ⟨y, rfl⟩ := (val_s vIs_any (fun h => h) hv2)
  refine r_istore hc dL_law_746 (Nat.le_of_ble_eq_true rfl) ?_
  refine r_aload_n hc dL_law_748 rfl ?_
  refine kL_84 (kc := kc + 1) (ks := ks + 6) hc dL_law_749 (cM_thrown _ g 0 w2) (by decide) (Nat.le_of_ble_eq_true rfl) hk hs ?_ (fun cn w' h => absurd h Rp_r)
  rintro _ _ ⟨rfl, rfl⟩
  rw [ht]
  refine r_iload hc dL_law_752 rfl ?_
  refine r_ic_eq_t hc dL_law_754 (tgt := 759) (by decide) rfl ?_
  refine r_iload hc dL_law_759 rfl ?_
  refine r_if_ne hc dL_law_761 (tgt := 776) (by decide) (fun h => ?_) (fun h => ?_)
  · refine r_goto hc dL_law_776 (tgt := 1022) (by decide) ?_
    exact Go.drop 5 (Go.drop 6 (hnext w2 _ _ _ _ _ _ ⟨hC1.frM hF1 hfr2, hM2, hF1⟩))
  · have hK0 := nI_rfK h
    have hy : w2 60 0 = y := by rw [hfr2 60 (Or.inr (by decide))]; exact (val_eq (by obtain ⟨a1, a2, a3⟩ := rfK_0 hK0; rw [show inR (xs (i + 1)) 16 = true by simpa using a1, a2]; rfl) (hv hK0) hv2)
    refine r_aload_n hc dL_law_764 rfl ?_
    refine r_iconst hc dL_law_765 (nI 0) (by decide) ?_
    refine r_lald0 hc dL_law_766 ?_
    rw [hy]
    refine r_iload hc dL_law_767 rfl ?_
    refine r_i2l hc dL_law_769 ?_
    refine r_lcmp hc dL_law_770 ?_
    rw [lg_cmp_self]
    refine r_if_eq_t hc dL_law_771 (tgt := 776) (by decide) rfl ?_
    refine r_goto hc dL_law_776 (tgt := 1022) (by decide) ?_
    exact Go.drop 5 (Go.drop 6 (hnext w2 _ _ _ _ _ _ ⟨hC1.frM hF1 hfr2, hM2, hF1⟩))
theorem law_13 (hc : Ok X g code "PairedFieldLaw" (some .boolean) hx 11) (hX : SX g b L xs X.2.2.2.2.1) (hL : L < 2 ^ 31) (hi : i + 3 < L) (hI : LwInv w m inn ap n op G) (hk : kc + 1 ≤ X.2.2.2.1.cells) (hs : ks + 6 ≤ X.2.2.2.1.slots) (hnext : ∀ (w : Wd) (m : Nat) (inn : Nat → Bool) (ap : Nat → Nat → Bool) (n : Nat) (op : Bool) (G : Nat → Nat → Ce), LwInv w m inn ap n op G → Go X g (kc + 1) (ks + 6) Q w 1022 (LPl g b i) []) : Go X g kc ks Q w 779 (LPl g b i) [] := by
  obtain ⟨hC, hM, hF⟩ := hI
  refine r_aload_n hc dL_law_779 rfl ?_
  refine kL_128 (kc := kc) (ks := ks) hc dL_law_780 (cF_players _ g 0 w) (by decide) (Nat.le_of_ble_eq_true rfl) (by omega) (by omega) ?_ (fun cn w' h => absurd h Rp_r)
  rintro _ w1 ⟨rfl, rfl⟩
  have hM1 : MS w m inn ap n op G := hM
  have hC1 := hC
  rw [hC.1]
  refine r_aload_n hc dL_law_783 rfl ?_
  refine kL_131 (kc := kc) (ks := ks) hc dL_law_784 (cM_players _ g 0 w m inn ap n op G hM1) (by decide) (Nat.le_of_ble_eq_true rfl) (by omega) (by omega) ?_ (fun cn w' h => absurd h Rp_r)
  rintro v w2 ⟨hv2, ht, hM2, hfr2⟩
  have hv2 : v = some (.int _) := hv2
  subst hv2
  refine r_ic_eq_t hc dL_law_787 (tgt := 1022) (by decide) rfl ?_
  exact Go.widen (Nat.le_succ _) (Nat.le_add_right _ _) (hnext w2 _ _ _ _ _ _ ⟨hC1.frM hF hfr2, hM2, hF⟩)
theorem law_14 (hc : Ok X g code "PairedFieldLaw" (some .boolean) hx 11) (hX : SX g b L xs X.2.2.2.2.1) (hL : L < 2 ^ 31) (hi : i + 3 < L) (hI : LwInv w m inn ap n op G) (hk : kc + 1 ≤ X.2.2.2.1.cells) (hs : ks + 6 ≤ X.2.2.2.1.slots) (hnext : ∀ (w : Wd) (m : Nat) (inn : Nat → Bool) (ap : Nat → Nat → Bool) (n : Nat) (op : Bool) (G : Nat → Nat → Ce), LwInv w m inn ap n op G → Go X g (kc + 1) (ks + 6) Q w 1022 (LPl g b i) []) : Go X g kc ks Q w 792 (LPl g b i) [] := by
  obtain ⟨hC, hM, hF⟩ := hI
  refine r_aload_n hc dL_law_792 rfl ?_
  refine kL_132 (kc := kc) (ks := ks) hc dL_law_793 (cF_rounds _ g 0 w) (by decide) (Nat.le_of_ble_eq_true rfl) (by omega) (by omega) ?_ (fun cn w' h => absurd h Rp_r)
  rintro _ w1 ⟨rfl, rfl⟩
  have hM1 : MS w m inn ap n op G := hM
  have hC1 := hC
  rw [hC.2.1]
  refine r_aload_n hc dL_law_796 rfl ?_
  refine kL_135 (kc := kc) (ks := ks) hc dL_law_797 (cM_rounds _ g 0 w m inn ap n op G hM1) (by decide) (Nat.le_of_ble_eq_true rfl) (by omega) (by omega) ?_ (fun cn w' h => absurd h Rp_r)
  rintro v w2 ⟨hv2, ht, hM2, hfr2⟩
  have hv2 : v = some (.int _) := hv2
  subst hv2
  refine r_ic_eq_t hc dL_law_800 (tgt := 1022) (by decide) rfl ?_
  exact Go.widen (Nat.le_succ _) (Nat.le_add_right _ _) (hnext w2 _ _ _ _ _ _ ⟨hC1.frM hF hfr2, hM2, hF⟩)
theorem law_15 (hc : Ok X g code "PairedFieldLaw" (some .boolean) hx 11) (hX : SX g b L xs X.2.2.2.2.1) (hL : L < 2 ^ 31) (hi : i + 3 < L) (hI : LwInv w m inn ap n op G) (hk : kc + 1 ≤ X.2.2.2.1.cells) (hs : ks + 6 ≤ X.2.2.2.1.slots) (hnext : ∀ (w : Wd) (m : Nat) (inn : Nat → Bool) (ap : Nat → Nat → Bool) (n : Nat) (op : Bool) (G : Nat → Nat → Ce), LwInv w m inn ap n op G → Go X g (kc + 1) (ks + 6) Q w 1022 (LPl g b i) []) : Go X g kc ks Q w 805 (LPl g b i) [] := by
  obtain ⟨hC, hM, hF⟩ := hI
  refine r_aload_n hc dL_law_805 rfl ?_
  refine r_aload_n hc dL_law_806 rfl ?_
  refine r_iload hc dL_law_807 rfl ?_
  refine r_iconst hc dL_law_809 (nI 1) (by decide) ?_
  refine r_iadd hc dL_law_810 ?_
  rw [nI_add]
  refine r_sld hc hX (vp_in_nI (by omega) hL) dL_law_811 ?_
  rw [nI_clamp (show i + 1 < 2 ^ 31 by omega)]
  refine kL_136 (kc := kc) (ks := ks) hc dL_law_812 (cF_isIn _ g 0 w m inn ap n op G (xs (i + 1)) hF.1.2 hC) (by decide) (Nat.le_of_ble_eq_true rfl) (by omega) (by omega) ?_ (fun cn w' h => absurd h Rp_r)
  rintro _ w1 ⟨rfl, rfl⟩
  have hM1 : MS w m inn ap n op G := hM
  have hC1 := hC
  refine r_aload_n hc dL_law_815 rfl ?_
  refine r_aload_n hc dL_law_816 rfl ?_
  refine r_iload hc dL_law_817 rfl ?_
  refine r_iconst hc dL_law_819 (nI 1) (by decide) ?_
  refine r_iadd hc dL_law_820 ?_
  rw [nI_add]
  refine r_sld hc hX (vp_in_nI (by omega) hL) dL_law_821 ?_
  rw [nI_clamp (show i + 1 < 2 ^ 31 by omega)]
  refine kL_139 (kc := kc) (ks := ks) hc dL_law_822 (cM_isIn _ g 0 w m inn ap n op G (xs (i + 1)) hF.1.2 hM1) (by decide) (Nat.le_of_ble_eq_true rfl) (by omega) (by omega) ?_ (fun cn w' h => absurd h Rp_r)
  rintro v w2 ⟨hv2, ht, hM2, hfr2⟩
  have hv2 : v = some (.int _) := hv2
  subst hv2
  refine r_ic_eq_t hc dL_law_825 (tgt := 1022) (by decide) rfl ?_
  exact Go.widen (Nat.le_succ _) (Nat.le_add_right _ _) (hnext w2 _ _ _ _ _ _ ⟨hC1.frM hF hfr2, hM2, hF⟩)
theorem law_16 (hc : Ok X g code "PairedFieldLaw" (some .boolean) hx 11) (hX : SX g b L xs X.2.2.2.2.1) (hL : L < 2 ^ 31) (hi : i + 3 < L) (hI : LwInv w m inn ap n op G) (hk : kc + 1 ≤ X.2.2.2.1.cells) (hs : ks + 6 ≤ X.2.2.2.1.slots) (hnext : ∀ (w : Wd) (m : Nat) (inn : Nat → Bool) (ap : Nat → Nat → Bool) (n : Nat) (op : Bool) (G : Nat → Nat → Ce), LwInv w m inn ap n op G → Go X g (kc + 1) (ks + 6) Q w 1022 (LPl g b i) []) : Go X g kc ks Q w 830 (LPl g b i) [] := by
  obtain ⟨hC, hM, hF⟩ := hI
  refine r_aload_n hc dL_law_830 rfl ?_
  refine r_aload_n hc dL_law_831 rfl ?_
  refine r_iload hc dL_law_832 rfl ?_
  refine r_iconst hc dL_law_834 (nI 1) (by decide) ?_
  refine r_iadd hc dL_law_835 ?_
  rw [nI_add]
  refine r_sld hc hX (vp_in_nI (by omega) hL) dL_law_836 ?_
  rw [nI_clamp (show i + 1 < 2 ^ 31 by omega)]
  refine r_aload_n hc dL_law_837 rfl ?_
  refine r_iload hc dL_law_838 rfl ?_
  refine r_iconst hc dL_law_840 (nI 2) (by decide) ?_
  refine r_iadd hc dL_law_841 ?_
  rw [nI_add]
  refine r_sld hc hX (vp_in_nI (by omega) hL) dL_law_842 ?_
  rw [nI_clamp (show i + 2 < 2 ^ 31 by omega)]
  refine r_aload_n hc dL_law_843 rfl ?_
  refine kW_140 hc dL_law_844 (cL_tell _ g 0 w m inn ap n op G (xs (i + 1)) (xs (i + 2)) hF hC) (by decide) (Nat.le_of_ble_eq_true rfl) hk hs ?_
  rintro _ w1 ⟨rfl, hv, hC1, hF1, hfr⟩
  have hM1 := hM.frL hfr
  refine r_istore hc dL_law_847 (Nat.le_of_ble_eq_true rfl) ?_
  refine r_aload_n hc dL_law_849 rfl ?_
  refine r_aload_n hc dL_law_850 rfl ?_
  refine r_iload hc dL_law_851 rfl ?_
  refine r_iconst hc dL_law_853 (nI 1) (by decide) ?_
  refine r_iadd hc dL_law_854 ?_
  rw [nI_add]
  refine r_sld hc hX (vp_in_nI (by omega) hL) dL_law_855 ?_
  rw [nI_clamp (show i + 1 < 2 ^ 31 by omega)]
  refine r_aload_n hc dL_law_856 rfl ?_
  refine r_iload hc dL_law_857 rfl ?_
  refine r_iconst hc dL_law_859 (nI 2) (by decide) ?_
  refine r_iadd hc dL_law_860 ?_
  rw [nI_add]
  refine r_sld hc hX (vp_in_nI (by omega) hL) dL_law_861 ?_
  rw [nI_clamp (show i + 2 < 2 ^ 31 by omega)]
  refine kL_143 (kc := kc + 1) (ks := ks + 6) hc dL_law_862 (cM_tell _ g 0 w1 m inn ap n op G (xs (i + 1)) (xs (i + 2)) hF hM1) (by decide) (Nat.le_of_ble_eq_true rfl) hk hs ?_ (fun cn w' h => absurd h Rp_r)
  rintro v w2 ⟨hv2, ht, hM2, hfr2⟩
  obtain ⟨y, rfl⟩ := (val_s vIs_any (fun h => h) hv2)
  refine r_istore hc dL_law_865 (Nat.le_of_ble_eq_true rfl) ?_
  refine r_aload_n hc dL_law_867 rfl ?_
  refine kL_84 (kc := kc + 1) (ks := ks + 6) hc dL_law_868 (cM_thrown _ g 0 w2) (by decide) (Nat.le_of_ble_eq_true rfl) hk hs ?_ (fun cn w' h => absurd h Rp_r)
  rintro _ _ ⟨rfl, rfl⟩
  rw [ht]
  refine r_iload hc dL_law_871 rfl ?_
  refine r_ic_eq_t hc dL_law_873 (tgt := 878) (by decide) rfl ?_
  refine r_iload hc dL_law_878 rfl ?_
  refine r_if_ne hc dL_law_880 (tgt := 895) (by decide) (fun h => ?_) (fun h => ?_)
  · refine r_goto hc dL_law_895 (tgt := 1022) (by decide) ?_
    exact Go.drop 5 (Go.drop 6 (hnext w2 _ _ _ _ _ _ ⟨hC1.frM hF1 hfr2, hM2, hF1⟩))
  · have hK0 := nI_rfK h
    have hy : w2 60 0 = y := by rw [hfr2 60 (Or.inr (by decide))]; exact (val_eq (by simpa using (rfK_0 hK0).1) (hv hK0) hv2)
    refine r_aload_n hc dL_law_883 rfl ?_
    refine r_iconst hc dL_law_884 (nI 0) (by decide) ?_
    refine r_lald0 hc dL_law_885 ?_
    rw [hy]
    refine r_iload hc dL_law_886 rfl ?_
    refine r_i2l hc dL_law_888 ?_
    refine r_lcmp hc dL_law_889 ?_
    rw [lg_cmp_self]
    refine r_if_eq_t hc dL_law_890 (tgt := 895) (by decide) rfl ?_
    refine r_goto hc dL_law_895 (tgt := 1022) (by decide) ?_
    exact Go.drop 5 (Go.drop 6 (hnext w2 _ _ _ _ _ _ ⟨hC1.frM hF1 hfr2, hM2, hF1⟩))
theorem law_17 (hc : Ok X g code "PairedFieldLaw" (some .boolean) hx 11) (hX : SX g b L xs X.2.2.2.2.1) (hL : L < 2 ^ 31) (hi : i + 3 < L) (hI : LwInv w m inn ap n op G) (hk : kc + 1 ≤ X.2.2.2.1.cells) (hs : ks + 6 ≤ X.2.2.2.1.slots) (hnext : ∀ (w : Wd) (m : Nat) (inn : Nat → Bool) (ap : Nat → Nat → Bool) (n : Nat) (op : Bool) (G : Nat → Nat → Ce), LwInv w m inn ap n op G → Go X g (kc + 1) (ks + 6) Q w 1022 (LPl g b i) []) : Go X g kc ks Q w 898 (LPl g b i) [] := by
  obtain ⟨hC, hM, hF⟩ := hI
  refine r_aload_n hc dL_law_898 rfl ?_
  refine r_aload_n hc dL_law_899 rfl ?_
  refine r_iload hc dL_law_900 rfl ?_
  refine r_iconst hc dL_law_902 (nI 1) (by decide) ?_
  refine r_iadd hc dL_law_903 ?_
  rw [nI_add]
  refine r_sld hc hX (vp_in_nI (by omega) hL) dL_law_904 ?_
  rw [nI_clamp (show i + 1 < 2 ^ 31 by omega)]
  refine r_aload_n hc dL_law_905 rfl ?_
  refine r_iload hc dL_law_906 rfl ?_
  refine r_iconst hc dL_law_908 (nI 2) (by decide) ?_
  refine r_iadd hc dL_law_909 ?_
  rw [nI_add]
  refine r_sld hc hX (vp_in_nI (by omega) hL) dL_law_910 ?_
  rw [nI_clamp (show i + 2 < 2 ^ 31 by omega)]
  refine r_aload_n hc dL_law_911 rfl ?_
  refine kW_144 hc dL_law_912 (cL_had _ g 0 w m inn ap n op G (xs (i + 1)) (xs (i + 2)) hF hC) (by decide) (Nat.le_of_ble_eq_true rfl) hk hs ?_
  rintro _ w1 ⟨rfl, hv, hC1, hF1, hfr⟩
  have hM1 := hM.frL hfr
  refine r_istore hc dL_law_915 (Nat.le_of_ble_eq_true rfl) ?_
  refine r_aload_n hc dL_law_917 rfl ?_
  refine r_aload_n hc dL_law_918 rfl ?_
  refine r_iload hc dL_law_919 rfl ?_
  refine r_iconst hc dL_law_921 (nI 1) (by decide) ?_
  refine r_iadd hc dL_law_922 ?_
  rw [nI_add]
  refine r_sld hc hX (vp_in_nI (by omega) hL) dL_law_923 ?_
  rw [nI_clamp (show i + 1 < 2 ^ 31 by omega)]
  refine r_aload_n hc dL_law_924 rfl ?_
  refine r_iload hc dL_law_925 rfl ?_
  refine r_iconst hc dL_law_927 (nI 2) (by decide) ?_
  refine r_iadd hc dL_law_928 ?_
  rw [nI_add]
  refine r_sld hc hX (vp_in_nI (by omega) hL) dL_law_929 ?_
  rw [nI_clamp (show i + 2 < 2 ^ 31 by omega)]
  refine kL_146 (kc := kc + 1) (ks := ks + 6) hc dL_law_930 (cM_had _ g 0 w1 m inn ap n op G (xs (i + 1)) (xs (i + 2)) hF hM1) (by decide) (Nat.le_of_ble_eq_true rfl) hk hs ?_ (fun cn w' h => absurd h Rp_r)
  rintro v w2 ⟨hv2, ht, hM2, hfr2⟩
  obtain ⟨y, rfl⟩ := (val_s vIs_any (fun h => h) hv2)
  refine r_istore hc dL_law_933 (Nat.le_of_ble_eq_true rfl) ?_
  refine r_aload_n hc dL_law_935 rfl ?_
  refine kL_84 (kc := kc + 1) (ks := ks + 6) hc dL_law_936 (cM_thrown _ g 0 w2) (by decide) (Nat.le_of_ble_eq_true rfl) hk hs ?_ (fun cn w' h => absurd h Rp_r)
  rintro _ _ ⟨rfl, rfl⟩
  rw [ht]
  refine r_iload hc dL_law_939 rfl ?_
  refine r_ic_eq_t hc dL_law_941 (tgt := 946) (by decide) rfl ?_
  refine r_iload hc dL_law_946 rfl ?_
  refine r_if_ne hc dL_law_948 (tgt := 963) (by decide) (fun h => ?_) (fun h => ?_)
  · refine r_goto hc dL_law_963 (tgt := 1022) (by decide) ?_
    exact Go.drop 5 (Go.drop 6 (hnext w2 _ _ _ _ _ _ ⟨hC1.frM hF1 hfr2, hM2, hF1⟩))
  · have hK0 := nI_rfK h
    have hy : w2 60 0 = y := by rw [hfr2 60 (Or.inr (by decide))]; exact (val_eq (by simpa using (rfK_0 hK0).1) (hv hK0) hv2)
    refine r_aload_n hc dL_law_951 rfl ?_
    refine r_iconst hc dL_law_952 (nI 0) (by decide) ?_
    refine r_lald0 hc dL_law_953 ?_
    rw [hy]
    refine r_iload hc dL_law_954 rfl ?_
    refine r_i2l hc dL_law_956 ?_
    refine r_lcmp hc dL_law_957 ?_
    rw [lg_cmp_self]
    refine r_if_eq_t hc dL_law_958 (tgt := 963) (by decide) rfl ?_
    refine r_goto hc dL_law_963 (tgt := 1022) (by decide) ?_
    exact Go.drop 5 (Go.drop 6 (hnext w2 _ _ _ _ _ _ ⟨hC1.frM hF1 hfr2, hM2, hF1⟩))
theorem law_18 (hc : Ok X g code "PairedFieldLaw" (some .boolean) hx 11) (hX : SX g b L xs X.2.2.2.2.1) (hL : L < 2 ^ 31) (hi : i + 3 < L) (hI : LwInv w m inn ap n op G) (hk : kc + 1 ≤ X.2.2.2.1.cells) (hs : ks + 6 ≤ X.2.2.2.1.slots) (hnext : ∀ (w : Wd) (m : Nat) (inn : Nat → Bool) (ap : Nat → Nat → Bool) (n : Nat) (op : Bool) (G : Nat → Nat → Ce), LwInv w m inn ap n op G → Go X g (kc + 1) (ks + 6) Q w 1022 (LPl g b i) []) : Go X g kc ks Q w 966 (LPl g b i) [] := by
  obtain ⟨hC, hM, hF⟩ := hI
  refine r_aload_n hc dL_law_966 rfl ?_
  refine r_aload_n hc dL_law_967 rfl ?_
  refine r_iload hc dL_law_968 rfl ?_
  refine r_iconst hc dL_law_970 (nI 1) (by decide) ?_
  refine r_iadd hc dL_law_971 ?_
  rw [nI_add]
  refine r_sld hc hX (vp_in_nI (by omega) hL) dL_law_972 ?_
  rw [nI_clamp (show i + 1 < 2 ^ 31 by omega)]
  refine r_aload_n hc dL_law_973 rfl ?_
  refine kW_147 hc dL_law_974 (cL_table _ g 0 w m inn ap n op G (xs (i + 1)) hF hC) (by decide) (Nat.le_of_ble_eq_true rfl) hk hs ?_
  rintro _ w1 ⟨rfl, hv, hC1, hF1, hfr⟩
  have hM1 := hM.frL hfr
  refine r_istore hc dL_law_977 (Nat.le_of_ble_eq_true rfl) ?_
  refine r_aload_n hc dL_law_979 rfl ?_
  refine r_aload_n hc dL_law_980 rfl ?_
  refine r_iload hc dL_law_981 rfl ?_
  refine r_iconst hc dL_law_983 (nI 1) (by decide) ?_
  refine r_iadd hc dL_law_984 ?_
  rw [nI_add]
  refine r_sld hc hX (vp_in_nI (by omega) hL) dL_law_985 ?_
  rw [nI_clamp (show i + 1 < 2 ^ 31 by omega)]
  refine kL_149 (kc := kc + 1) (ks := ks + 6) hc dL_law_986 (cM_table _ g 0 w1 m inn ap n op G (xs (i + 1)) hF hM1) (by decide) (Nat.le_of_ble_eq_true rfl) hk hs ?_ (fun cn w' h => absurd h Rp_r)
  rintro v w2 ⟨hv2, ht, hM2, hfr2⟩
  obtain ⟨y, rfl⟩ := (val_s (fun ⟨p, _, _, h⟩ => ⟨_, h⟩) (fun h => h) hv2)
  refine r_istore hc dL_law_989 (Nat.le_of_ble_eq_true rfl) ?_
  refine r_aload_n hc dL_law_991 rfl ?_
  refine kL_84 (kc := kc + 1) (ks := ks + 6) hc dL_law_992 (cM_thrown _ g 0 w2) (by decide) (Nat.le_of_ble_eq_true rfl) hk hs ?_ (fun cn w' h => absurd h Rp_r)
  rintro _ _ ⟨rfl, rfl⟩
  rw [ht]
  refine r_iload hc dL_law_995 rfl ?_
  refine r_ic_eq_t hc dL_law_997 (tgt := 1002) (by decide) rfl ?_
  refine r_iload hc dL_law_1002 rfl ?_
  refine r_if_ne hc dL_law_1004 (tgt := 1019) (by decide) (fun h => ?_) (fun h => ?_)
  · refine r_goto hc dL_law_1019 (tgt := 1022) (by decide) ?_
    exact Go.drop 5 (Go.drop 6 (hnext w2 _ _ _ _ _ _ ⟨hC1.frM hF1 hfr2, hM2, hF1⟩))
  · have hK0 := nI_rfK h
    have hy : w2 60 0 = y := by rw [hfr2 60 (Or.inr (by decide))]; exact (val_eqT (by simpa using (rfK_0 hK0).1) (hv hK0) hv2)
    refine r_aload_n hc dL_law_1007 rfl ?_
    refine r_iconst hc dL_law_1008 (nI 0) (by decide) ?_
    refine r_lald0 hc dL_law_1009 ?_
    rw [hy]
    refine r_iload hc dL_law_1010 rfl ?_
    refine r_i2l hc dL_law_1012 ?_
    refine r_lcmp hc dL_law_1013 ?_
    rw [lg_cmp_self]
    refine r_if_eq_t hc dL_law_1014 (tgt := 1019) (by decide) rfl ?_
    refine r_goto hc dL_law_1019 (tgt := 1022) (by decide) ?_
    exact Go.drop 5 (Go.drop 6 (hnext w2 _ _ _ _ _ _ ⟨hC1.frM hF1 hfr2, hM2, hF1⟩))
end LCS
