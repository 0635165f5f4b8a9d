/-! ===== the law's own method: its loop over the waters ===== -/
def bU (h : Nat → Int) (q : Pt) (w : Nat) : Nat := if ord h q = true then (min 4320 (max 0 (pT h q w))).toNat else 0
/-- the room that w rounds take -/
def bud (h : Nat → Int) (q : Pt) (w : Nat) : Nat := 25 * w + 2 * tm h w + bU h q w
theorem bU_le (h : Nat → Int) (q : Pt) (w : Nat) : bU h q w ≤ 4320 := by
  unfold bU
  split
  · omega
  · exact Nat.zero_le _
theorem bud_le {h : Nat → Int} {q : Pt} {w : Nat} (hw : w ≤ 4320) : bud h q w ≤ 130000 := by
  have h1 := bU_le h q w
  have h2 := tm_le h w
  unfold bud
  omega
theorem bU_t {h : Nat → Int} {q : Pt} (ho : ord h q = true) (w : Nat) : bU h q w = (min 4320 (max 0 (pT h q w))).toNat := if_pos ho
theorem bU_f {h : Nat → Int} {q : Pt} (ho : ord h q = false) (w : Nat) : bU h q w = 0 := if_neg (by rw [ho]; decide)
theorem wat_ne {h : Nat → Int} {k : Nat} (hk : k + 1 < nW h) (e : h (tm h k) = h (tm h (k + 1))) : False := by
  cases ex : hi h k with
  | true =>
    have := (wat_hi hk ex).2.1
    omega
  | false =>
    have := (wat_lo hk ex).2.1
    omega
set_option maxHeartbeats 4000000 in
set_option maxRecDepth 100000 in
theorem law_147 {θ : Kt} {κ : Kx} {Q : State → Prop} {tt : Nat} {σ : Sg} (hts : θ.2.1.stackTraces = false) (hs : SgOk σ) (hend : LEnd θ κ Q) (hp : 0 < σ.2.1) : ∀ (j w : Nat) (L : List Nat) (f : Nat → wE) (k n : Nat), nW (hT σ.1) ≤ w + j → w ≤ nW (hT σ.1) → k ≤ 100 + bud (hT σ.1) (σ.2.2.1 0) w → n ≤ 6 * k + 30000 → CS κ L f tt σ → k_G θ κ cL_law 16 (some .boolean) RL room_1 Q L f k n 147 [(6, .int (iI (w : Int))), (5, .int (iI (nW (hT σ.1) : Int))), (3, .int (iI 0)), (1, .ref tt)] [] := by
  intro j
  have hnn := nW_le (hT σ.1)
  have hok : PtOk (σ.2.2.1 0) := hs.2.1.2 0 hp
  induction j with
  | zero =>
    intro w L f k n h1 h2 hk hn hC
    refine k_iload 0 dL_law_147 rfl ?_
    refine k_iconst dL_law_149 ?_
    refine k_iadd dL_law_150 ?_
    refine k_iload 1 dL_law_151 rfl ?_
    refine k_icmp_ge 533 dL_law_153 (by decide) (inI_mk (by omega) (by omega)) (inI_mk (by omega) (by omega)) (fun h153 => ?_) (fun h153 => ?_)
    · have hbd := bud_le (h := hT σ.1) (q := σ.2.2.1 0) (w := w) (by omega)
      exact law_533 hts hs hend (by omega) (by omega) hC
    · omega
  | succ j ih =>
    intro w L f k n h1 h2 hk hn hC
    refine k_iload 0 dL_law_147 rfl ?_
    refine k_iconst dL_law_149 ?_
    refine k_iadd dL_law_150 ?_
    refine k_iload 1 dL_law_151 rfl ?_
    refine k_icmp_ge 533 dL_law_153 (by decide) (inI_mk (by omega) (by omega)) (inI_mk (by omega) (by omega)) (fun h153 => ?_) (fun h153 => ?_)
    · have hbd := bud_le (h := hT σ.1) (q := σ.2.2.1 0) (w := w) (by omega)
      exact law_533 hts hs hend (by omega) (by omega) hC
    · have hw : w + 1 < nW (hT σ.1) := by omega
      have hb0 := hT_bd hs.1 (tm (hT σ.1) w)
      have hb1 := hT_bd hs.1 (tm (hT σ.1) (w + 1))
      have htn := (tm_next hw).1
      have ht0 := (tm_spec (h := hT σ.1) (k := w) (by omega)).1
      have ht1 := (tm_spec hw).1
      have halt := hi_alt hw
      have hbd := bud_le (h := hT σ.1) (q := σ.2.2.1 0) (w := w) (by omega)
      have hbd1 := bud_le (h := hT σ.1) (q := σ.2.2.1 0) (w := w + 1) (by omega)
      have hbu : bU (hT σ.1) (σ.2.2.1 0) w ≤ bU (hT σ.1) (σ.2.2.1 0) (w + 1) := by
        cases ho : ord (hT σ.1) (σ.2.2.1 0) with
        | true =>
          have e := ord_lt ho hw
          rw [bU_t ho, bU_t ho]
          omega
        | false =>
          rw [bU_f ho, bU_f ho]
          exact Nat.le_refl _
      have ebd : bud (hT σ.1) (σ.2.2.1 0) w = 25 * w + 2 * tm (hT σ.1) w + bU (hT σ.1) (σ.2.2.1 0) w := rfl
      have ebd1 : bud (hT σ.1) (σ.2.2.1 0) (w + 1) = 25 * (w + 1) + 2 * tm (hT σ.1) (w + 1) + bU (hT σ.1) (σ.2.2.1 0) (w + 1) := rfl
      have J527 : ∀ (L8 : List Nat) (f8 : Nat → wE) (k8 n8 : Nat), k8 ≤ 100 + bud (hT σ.1) (σ.2.2.1 0) (w + 1) → n8 ≤ 6 * k8 + 30000 → CS κ L8 f8 tt σ → k_G θ κ cL_law 16 (some .boolean) RL room_1 Q L8 f8 k8 n8 527 [(6, .int (iI (w : Int))), (5, .int (iI (nW (hT σ.1) : Int))), (3, .int (iI 0)), (1, .ref tt)] [] := by
        intro L8 f8 k8 n8 hk8 hn8 hC
        refine k_iinc 0 [(6, .int (iI ((w : Int) + 1))), (5, .int (iI (nW (hT σ.1) : Int))), (3, .int (iI 0)), (1, .ref tt)] dL_law_527 rfl (by decide) rfl ?_
        refine k_goto 147 dL_law_530 (by decide) ?_
        exact ih (w + 1) _ _ _ _ (by omega) (by omega) hk8 hn8 hC
      refine k_aload_n 3 1 dL_law_156 rfl rfl ?_
      refine k_iload 0 dL_law_157 rfl ?_
      refine k_iconst dL_law_159 ?_
      refine a_water2 w hts hs hC (by omega) (by omega) (by omega) (by omega) (Nat.le_of_ble_eq_true rfl) dL_law_160 (fun L15 f15 hC => ?_)
      have J172 : k_G θ κ cL_law 16 (some .boolean) RL room_1 Q L15 f15 (k + 1) (n + 6) 172 [(6, .int (iI (w : Int))), (5, .int (iI (nW (hT σ.1) : Int))), (3, .int (iI 0)), (1, .ref tt)] [.int (iI (bI (hi (hT σ.1) w)))] := by
        refine k_istore [(7, .int (iI (bI (hi (hT σ.1) w)))), (6, .int (iI (w : Int))), (5, .int (iI (nW (hT σ.1) : Int))), (3, .int (iI 0)), (1, .ref tt)] dL_law_172 (by decide) rfl ?_
        refine k_aload_n 4 1 dL_law_174 rfl rfl ?_
        refine k_iload 1 dL_law_175 rfl ?_
        refine k_iconst dL_law_177 ?_
        refine k_iadd dL_law_178 ?_
        refine k_iconst dL_law_179 ?_
        refine a_water2 (w + 1) hts hs hC (by omega) (by omega) (by omega) (by omega) (Nat.le_of_ble_eq_true rfl) dL_law_180 (fun L16 f16 hC => ?_)
        refine k_aload_n 4 1 dL_law_183 rfl rfl ?_
        refine k_iload 1 dL_law_184 rfl ?_
        refine k_iconst dL_law_186 ?_
        refine a_water2 w hts hs hC (by omega) (by omega) (by omega) (by omega) (Nat.le_of_ble_eq_true rfl) dL_law_187 (fun L17 f17 hC => ?_)
        refine k_icmp_eq 212 dL_law_190 (by decide) (bI_in _) (bI_in _) (fun h190 => ?_) (fun h190 => ?_)
        · exact absurd (halt.symm.trans (bI_inj h190)) (by cases hi (hT σ.1) w <;> decide)
        · refine k_aload_n 4 1 dL_law_193 rfl rfl ?_
          refine k_iload 1 dL_law_194 rfl ?_
          refine k_iconst dL_law_196 ?_
          refine k_iadd dL_law_197 ?_
          refine k_iconst dL_law_198 ?_
          refine a_water0 (w + 1) hts hs hC (by omega) (by omega) (by omega) (by omega) (Nat.le_of_ble_eq_true rfl) dL_law_199 (fun L18 f18 hC => ?_)
          refine k_aload_n 4 1 dL_law_202 rfl rfl ?_
          refine k_iload 1 dL_law_203 rfl ?_
          refine k_iconst dL_law_205 ?_
          refine a_water0 w hts hs hC (by omega) (by omega) (by omega) (by omega) (Nat.le_of_ble_eq_true rfl) dL_law_206 (fun L19 f19 hC => ?_)
          refine k_icmp_gt 214 dL_law_209 (by decide) (inI_mk (by omega) (by omega)) (inI_mk (by omega) (by omega)) (fun h209 => ?_) (fun h209 => ?_)
          · refine k_aload_n 4 1 dL_law_214 rfl rfl ?_
            refine k_iload 1 dL_law_215 rfl ?_
            refine k_iconst dL_law_217 ?_
            refine a_water1 w hts hs hC (by omega) (by omega) (by omega) (by omega) (Nat.le_of_ble_eq_true rfl) dL_law_218 (fun L20 f20 hC => ?_)
            refine k_istore [(8, .int (iI (hT σ.1 (tm (hT σ.1) w)))), (7, .int (iI (bI (hi (hT σ.1) w)))), (6, .int (iI (w : Int))), (5, .int (iI (nW (hT σ.1) : Int))), (3, .int (iI 0)), (1, .ref tt)] dL_law_221 (by decide) rfl ?_
            refine k_aload_n 5 1 dL_law_223 rfl rfl ?_
            refine k_iload 2 dL_law_224 rfl ?_
            refine k_iconst dL_law_226 ?_
            refine a_water0 w hts hs hC (by omega) (by omega) (by omega) (by omega) (Nat.le_of_ble_eq_true rfl) dL_law_227 (fun L21 f21 hC => ?_)
            refine k_istore [(9, .int (iI (tm (hT σ.1) w : Int))), (8, .int (iI (hT σ.1 (tm (hT σ.1) w)))), (7, .int (iI (bI (hi (hT σ.1) w)))), (6, .int (iI (w : Int))), (5, .int (iI (nW (hT σ.1) : Int))), (3, .int (iI 0)), (1, .ref tt)] dL_law_230 (by decide) rfl ?_
            refine law_232 hts hs (K := ((((((((k + 1) + 1) + 1) + 1) + 1) + 1) + 1) + 2 * (tm (hT σ.1) (w + 1) + 1 - tm (hT σ.1) w) + 1)) hw (by omega) (fun L9 f9 k9 n9 hk9 hn9 hC => ?_) (tm (hT σ.1) (w + 1) + 1 - tm (hT σ.1) w) _ _ _ _ _ _ (by omega) (Nat.le_refl _) (by omega) (Or.inl ⟨rfl, rfl⟩) (Nat.le_refl _) (by omega) hC
            refine k_iload 0 dL_law_288 rfl ?_
            refine k_aload_n 5 1 dL_law_290 rfl rfl ?_
            refine k_iload 2 dL_law_291 rfl ?_
            refine k_iconst dL_law_293 ?_
            refine k_iadd dL_law_294 ?_
            refine k_iconst dL_law_295 ?_
            refine a_water1 (w + 1) hts hs hC (by omega) (by omega) (by omega) (by omega) (Nat.le_of_ble_eq_true rfl) dL_law_296 (fun L22 f22 hC => ?_)
            refine k_icmp_ne 314 dL_law_299 (by decide) (inI_mk (by omega) (by omega)) (inI_mk (by omega) (by omega)) (fun h299 => ?_) (fun h299 => ?_)
            · exact absurd rfl h299
            · refine k_aload_n 5 1 dL_law_302 rfl rfl ?_
              refine k_iload 2 dL_law_303 rfl ?_
              refine k_iconst dL_law_305 ?_
              refine a_water1 w hts hs hC (by omega) (by omega) (by omega) (by omega) (Nat.le_of_ble_eq_true rfl) dL_law_306 (fun L23 f23 hC => ?_)
              refine k_iload 0 dL_law_309 rfl ?_
              refine k_icmp_ne 316 dL_law_311 (by decide) (inI_mk (by omega) (by omega)) (inI_mk (by omega) (by omega)) (fun h311 => ?_) (fun h311 => ?_)
              · refine k_aload_n 5 1 dL_law_316 rfl rfl ?_
                refine k_aload_n 5 1 dL_law_317 rfl rfl ?_
                refine k_iload 2 dL_law_318 rfl ?_
                refine k_iconst dL_law_320 ?_
                refine a_water0 w hts hs hC (by omega) (by omega) (by omega) (by omega) (Nat.le_of_ble_eq_true rfl) dL_law_321 (fun L24 f24 hC => ?_)
                refine k_iload 1 dL_law_324 rfl ?_
                refine a_next (b := (hi (hT σ.1) w)) (tm (hT σ.1) w) hts hs hC (by omega) (by omega) (by omega) (by omega) (Nat.le_of_ble_eq_true rfl) dL_law_326 (fun L25 f25 hC => ?_)
                refine k_topi (w : Int) (next_same (by omega)) ?_
                refine k_iload 2 dL_law_329 rfl ?_
                refine k_icmp_ne 364 dL_law_331 (by decide) (inI_mk (by omega) (by omega)) (inI_mk (by omega) (by omega)) (fun h331 => ?_) (fun h331 => ?_)
                · exact absurd rfl h331
                · refine k_aload_n 5 1 dL_law_334 rfl rfl ?_
                  refine k_aload_n 5 1 dL_law_335 rfl rfl ?_
                  refine k_iload 2 dL_law_336 rfl ?_
                  refine k_iconst dL_law_338 ?_
                  refine a_water0 w hts hs hC (by omega) (by omega) (by omega) (by omega) (Nat.le_of_ble_eq_true rfl) dL_law_339 (fun L26 f26 hC => ?_)
                  refine k_iconst dL_law_342 ?_
                  refine k_iadd dL_law_343 ?_
                  refine k_iload 1 dL_law_344 rfl ?_
                  have J354 : k_G θ κ cL_law 16 (some .boolean) RL room_1 Q L26 f26 (((((k9 + 1) + 1) + 1) + 1) + 1) (((((n9 + 6) + 6) + 6) + 6) + 6) 354 [(8, .int (iI (hT σ.1 (tm (hT σ.1) (w + 1))))), (7, .int (iI (bI (hi (hT σ.1) w)))), (6, .int (iI (w : Int))), (5, .int (iI (nW (hT σ.1) : Int))), (3, .int (iI 0)), (1, .ref tt)] [.int (iI (bI (!(hi (hT σ.1) w)))), .int (iI ((tm (hT σ.1) w : Int) + 1)), .ref tt] := by
                    refine a_next (b := (!(hi (hT σ.1) w))) (tm (hT σ.1) w + 1) hts hs hC (by omega) (by omega) (by omega) (by omega) (Nat.le_of_ble_eq_true rfl) dL_law_354 (fun L27 f27 hC => ?_)
                    refine k_topi ((w + 1 : Nat) : Int) (next_other hw) ?_
                    refine k_iload 2 dL_law_357 rfl ?_
                    refine k_iconst dL_law_359 ?_
                    refine k_iadd dL_law_360 ?_
                    refine k_icmp_eq 366 dL_law_361 (by decide) (inI_mk (by omega) (by omega)) (inI_mk (by omega) (by omega)) (fun h361 => ?_) (fun h361 => ?_)
                    · refine k_aload_n 5 1 dL_law_366 rfl rfl ?_
                      refine k_iload_n 4 3 dL_law_367 rfl rfl ?_
                      refine a_isInOrder  hts hs hC hp (by omega) (by omega) (Nat.le_of_ble_eq_true rfl) dL_law_368 (fun L28 f28 hC => ?_)
                      refine k_ifb_ne 377 dL_law_371 (by decide) (fun h371 => ?_) (fun h371 => ?_)
                      · have ho : ord (hT σ.1) (σ.2.2.1 0) = true := h371
                        have hlt0 := ord_lt ho hw
                        have hq0 := pH_bd hok (fun t => hT_bd hs.1 t) w
                        have hq1 := pH_bd hok (fun t => hT_bd hs.1 t) (w + 1)
                        have hp0 := pT_bd (h := hT σ.1) hok (show w < nW (hT σ.1) by omega)
                        have hp1 := pT_bd (h := hT σ.1) hok hw
                        have hu0 := bU_t ho w
                        have hu1 := bU_t ho (w + 1)
                        refine k_aload_n 5 1 dL_law_377 rfl rfl ?_
                        refine k_iload_n 4 3 dL_law_378 rfl rfl ?_
                        refine k_iload 2 dL_law_379 rfl ?_
                        refine k_iconst dL_law_381 ?_
                        refine a_portWater1 w hts hs hC hp (by omega) (by omega) (by omega) (by omega) (Nat.le_of_ble_eq_true rfl) dL_law_382 (fun L29 f29 hC => ?_)
                        refine k_istore [(9, .int (iI (pT (hT σ.1) (σ.2.2.1 0) w))), (8, .int (iI (hT σ.1 (tm (hT σ.1) (w + 1))))), (7, .int (iI (bI (hi (hT σ.1) w)))), (6, .int (iI (w : Int))), (5, .int (iI (nW (hT σ.1) : Int))), (3, .int (iI 0)), (1, .ref tt)] dL_law_385 (by decide) rfl ?_
                        refine k_aload_n 6 1 dL_law_387 rfl rfl ?_
                        refine k_iload_n 5 3 dL_law_388 rfl rfl ?_
                        refine k_iload 3 dL_law_389 rfl ?_
                        refine k_iconst dL_law_391 ?_
                        refine k_iadd dL_law_392 ?_
                        refine k_iconst dL_law_393 ?_
                        refine a_portWater1 (w + 1) hts hs hC hp (by omega) (by omega) (by omega) (by omega) (Nat.le_of_ble_eq_true rfl) dL_law_394 (fun L30 f30 hC => ?_)
                        refine k_istore [(10, .int (iI (pT (hT σ.1) (σ.2.2.1 0) (w + 1)))), (9, .int (iI (pT (hT σ.1) (σ.2.2.1 0) w))), (8, .int (iI (hT σ.1 (tm (hT σ.1) (w + 1))))), (7, .int (iI (bI (hi (hT σ.1) w)))), (6, .int (iI (w : Int))), (5, .int (iI (nW (hT σ.1) : Int))), (3, .int (iI 0)), (1, .ref tt)] dL_law_397 (by decide) rfl ?_
                        refine k_aload_n 7 1 dL_law_399 rfl rfl ?_
                        refine k_iload_n 6 3 dL_law_400 rfl rfl ?_
                        refine k_iload 4 dL_law_401 rfl ?_
                        refine k_iconst dL_law_403 ?_
                        refine a_portWater0 w hts hs hC hp (by omega) (by omega) (by omega) (by omega) (Nat.le_of_ble_eq_true rfl) dL_law_404 (fun L31 f31 hC => ?_)
                        refine k_istore [(11, .int (iI (pH (hT σ.1) (σ.2.2.1 0) w))), (10, .int (iI (pT (hT σ.1) (σ.2.2.1 0) (w + 1)))), (9, .int (iI (pT (hT σ.1) (σ.2.2.1 0) w))), (8, .int (iI (hT σ.1 (tm (hT σ.1) (w + 1))))), (7, .int (iI (bI (hi (hT σ.1) w)))), (6, .int (iI (w : Int))), (5, .int (iI (nW (hT σ.1) : Int))), (3, .int (iI 0)), (1, .ref tt)] dL_law_407 (by decide) rfl ?_
                        refine k_aload_n 8 1 dL_law_409 rfl rfl ?_
                        refine k_iload_n 7 3 dL_law_410 rfl rfl ?_
                        refine k_iload 5 dL_law_411 rfl ?_
                        refine k_iconst dL_law_413 ?_
                        refine k_iadd dL_law_414 ?_
                        refine k_iconst dL_law_415 ?_
                        refine a_portWater0 (w + 1) hts hs hC hp (by omega) (by omega) (by omega) (by omega) (Nat.le_of_ble_eq_true rfl) dL_law_416 (fun L32 f32 hC => ?_)
                        refine k_istore [(12, .int (iI (pH (hT σ.1) (σ.2.2.1 0) (w + 1)))), (11, .int (iI (pH (hT σ.1) (σ.2.2.1 0) w))), (10, .int (iI (pT (hT σ.1) (σ.2.2.1 0) (w + 1)))), (9, .int (iI (pT (hT σ.1) (σ.2.2.1 0) w))), (8, .int (iI (hT σ.1 (tm (hT σ.1) (w + 1))))), (7, .int (iI (bI (hi (hT σ.1) w)))), (6, .int (iI (w : Int))), (5, .int (iI (nW (hT σ.1) : Int))), (3, .int (iI 0)), (1, .ref tt)] dL_law_419 (by decide) rfl ?_
                        refine k_iload 1 dL_law_421 rfl ?_
                        refine k_istore [(13, .int (iI (pH (hT σ.1) (σ.2.2.1 0) w))), (12, .int (iI (pH (hT σ.1) (σ.2.2.1 0) (w + 1)))), (11, .int (iI (pH (hT σ.1) (σ.2.2.1 0) w))), (10, .int (iI (pT (hT σ.1) (σ.2.2.1 0) (w + 1)))), (9, .int (iI (pT (hT σ.1) (σ.2.2.1 0) w))), (8, .int (iI (hT σ.1 (tm (hT σ.1) (w + 1))))), (7, .int (iI (bI (hi (hT σ.1) w)))), (6, .int (iI (w : Int))), (5, .int (iI (nW (hT σ.1) : Int))), (3, .int (iI 0)), (1, .ref tt)] dL_law_423 (by decide) rfl ?_
                        refine k_iconst dL_law_425 ?_
                        refine k_iload 4 dL_law_426 rfl ?_
                        refine k_max q_566 q_322 q_27 q_323 (inI_mk (by omega) (by omega)) (inI_mk (by omega) (by omega)) (Nat.le_of_ble_eq_true rfl) (Nat.le_of_ble_eq_true rfl) ⟨(by show _ ≤ 600086; omega), (by show _ ≤ 7301442; omega)⟩ dL_law_428 ?_
                        refine k_topi ((max 0 (pT (hT σ.1) (σ.2.2.1 0) w)).toNat : Int) (by omega) ?_
                        refine k_istore [(14, .int (iI ((max 0 (pT (hT σ.1) (σ.2.2.1 0) w)).toNat : Int))), (13, .int (iI (pH (hT σ.1) (σ.2.2.1 0) w))), (12, .int (iI (pH (hT σ.1) (σ.2.2.1 0) (w + 1)))), (11, .int (iI (pH (hT σ.1) (σ.2.2.1 0) w))), (10, .int (iI (pT (hT σ.1) (σ.2.2.1 0) (w + 1)))), (9, .int (iI (pT (hT σ.1) (σ.2.2.1 0) w))), (8, .int (iI (hT σ.1 (tm (hT σ.1) (w + 1))))), (7, .int (iI (bI (hi (hT σ.1) w)))), (6, .int (iI (w : Int))), (5, .int (iI (nW (hT σ.1) : Int))), (3, .int (iI 0)), (1, .ref tt)] dL_law_431 (by decide) rfl ?_
                        refine k_perm [0, 1, 2, 3, 4, 5, 8, 9, 10, 11] [(14, .int (iI ((max 0 (pT (hT σ.1) (σ.2.2.1 0) w)).toNat : Int))), (13, .int (iI (pH (hT σ.1) (σ.2.2.1 0) w))), (12, .int (iI (pH (hT σ.1) (σ.2.2.1 0) (w + 1)))), (11, .int (iI (pH (hT σ.1) (σ.2.2.1 0) w))), (10, .int (iI (pT (hT σ.1) (σ.2.2.1 0) (w + 1)))), (9, .int (iI (pT (hT σ.1) (σ.2.2.1 0) w))), (6, .int (iI (w : Int))), (5, .int (iI (nW (hT σ.1) : Int))), (3, .int (iI 0)), (1, .ref tt)] rfl ?_
                        exact law_433 hts hs (K := (((((((((((k9 + 1) + 1) + 1) + 1) + 1) + 1) + 1) + 1) + 1) + 1) + 1) + (bU (hT σ.1) (σ.2.2.1 0) (w + 1) - bU (hT σ.1) (σ.2.2.1 0) w)) hp ho hw (by omega) (fun L7 f7 k7 n7 hk7 hn7 hC => J527 _ _ _ _ (by omega) (by omega) hC) (bU (hT σ.1) (σ.2.2.1 0) (w + 1) - bU (hT σ.1) (σ.2.2.1 0) w) _ _ _ _ _ _ (by omega) (by omega) (by omega) (inv2_0 (by omega)) hq0 (Nat.le_refl _) (by omega) hC
                      · refine k_goto 527 dL_law_374 (by decide) ?_
                        refine k_perm [2, 3, 4, 5] [(6, .int (iI (w : Int))), (5, .int (iI (nW (hT σ.1) : Int))), (3, .int (iI 0)), (1, .ref tt)] rfl ?_
                        exact J527 _ _ _ _ (by omega) (by omega) hC
                    · omega
                  refine k_ifb_ne 353 dL_law_346 (by decide) (fun h346 => ?_) (fun h346 => ?_)
                  · refine k_iconst dL_law_353 ?_
                    refine k_topi (bI (!(hi (hT σ.1) w))) (bI_not0 _ h346) ?_
                    exact J354
                  · refine k_iconst dL_law_349 ?_
                    refine k_goto 354 dL_law_350 (by decide) ?_
                    refine k_topi (bI (!(hi (hT σ.1) w))) (bI_not _ h346) ?_
                    exact J354
              · exact (wat_ne hw h311).elim
          · omega
      refine k_iconst dL_law_163 ?_
      refine k_icmp_ne 171 dL_law_164 (by decide) (bI_in _) (inI_mk (by omega) (by omega)) (fun h164 => ?_) (fun h164 => ?_)
      · refine k_iconst dL_law_171 ?_
        refine k_topi (bI (hi (hT σ.1) w)) (bI_ne1 h164) ?_
        exact J172
      · refine k_iconst dL_law_167 ?_
        refine k_goto 172 dL_law_168 (by decide) ?_
        refine k_topi (bI (hi (hT σ.1) w)) h164.symm ?_
        exact J172
