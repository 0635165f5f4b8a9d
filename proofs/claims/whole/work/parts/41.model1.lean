set_option maxHeartbeats 4000000 in
set_option maxRecDepth 100000 in
theorem c_X8_isIn (la : Launch) (κ : Kx) {L : List Nat} {f : Nat → wE} {v a b : Int}   (hv : inL v) (ha : inL a) (hb : inL b) : k_M la κ yX8_isIn cX8_isIn 6 (some .boolean) 1 0 0 [.long (lI v), .long (lI a), .long (lI b)] L f (k_ro L f (.int (iI (bI (decide (a ≤ v ∧ v ≤ b)))))) := by
  refine k_head RX8 [(0, .long (lI v)), (2, .long (lI a)), (4, .long (lI b))] rfl (by decide) (Nat.le_of_ble_eq_true rfl) rfl (fun θ hθ hin => ?_)
  refine k_lload_n 0 0 dX8_isIn_0 rfl rfl ?_
  refine k_lload_n 1 2 dX8_isIn_1 rfl rfl ?_
  refine k_lcmp_lt 17 dX8_isIn_2 dX8_isIn_3 (by decide) hv ha (fun h2 => ?_) (fun h2 => ?_)
  · refine k_iconst dX8_isIn_17 ?_
    exact k_zret (b := false) dX8_isIn_18 rfl (Nat.le_of_ble_eq_true rfl) (Nat.le_of_ble_eq_true rfl) (k_okb ((decide_eq_false (by omega)).symm))
  · refine k_lload_n 0 0 dX8_isIn_6 rfl rfl ?_
    refine k_lload 2 dX8_isIn_7 rfl ?_
    refine k_lcmp_gt 17 dX8_isIn_9 dX8_isIn_10 (by decide) hv hb (fun h9 => ?_) (fun h9 => ?_)
    · refine k_iconst dX8_isIn_17 ?_
      exact k_zret (b := false) dX8_isIn_18 rfl (Nat.le_of_ble_eq_true rfl) (Nat.le_of_ble_eq_true rfl) (k_okb ((decide_eq_false (by omega)).symm))
    · refine k_iconst dX8_isIn_13 ?_
      refine k_goto 18 dX8_isIn_14 (by decide) ?_
      exact k_zret (b := true) dX8_isIn_18 rfl (Nat.le_of_ble_eq_true rfl) (Nat.le_of_ble_eq_true rfl) (k_okb ((decide_eq_true (by omega)).symm))
set_option maxHeartbeats 4000000 in
set_option maxRecDepth 100000 in
theorem c_X8_isTime (la : Launch) (κ : Kx) {L : List Nat} {f : Nat → wE} {t : Int}   (ht : inI t) : k_M la κ yX8_isTime cX8_isTime 1 (some .boolean) 2 0 0 [.int (iI t)] L f (k_ro L f (.int (iI (bI (decide (0 ≤ t ∧ t ≤ 4319)))))) := by
  refine k_head RX8 [(0, .int (iI t))] rfl (by decide) (Nat.le_of_ble_eq_true rfl) rfl (fun θ hθ hin => ?_)
  refine k_iload_n 0 0 dX8_isTime_0 rfl rfl ?_
  refine k_i2l dX8_isTime_1 ht ?_
  refine k_lconst 0 dX8_isTime_2 (by decide) ?_
  refine k_ldc2 4319 q_869 (by decide) dX8_isTime_3 ?_
  refine k_useR (k_runS (c_X8_isIn θ.2.1 κ (v := t) (a := 0) (b := 4319) (inL_inI ht) (inL_mk (by omega) (by omega)) (inL_mk (by omega) (by omega))) w_X8_41 q_840 rfl rfl ⟨(Nat.le_of_ble_eq_true rfl), (Nat.le_of_ble_eq_true rfl)⟩ (Nat.le_of_ble_eq_true rfl) dX8_isTime_6) ⟨(Nat.le_of_ble_eq_true rfl), (Nat.le_of_ble_eq_true rfl)⟩ ?_
  exact k_zret (b := decide (0 ≤ t ∧ t ≤ 4319)) dX8_isTime_9 rfl (Nat.le_of_ble_eq_true rfl) (Nat.le_of_ble_eq_true rfl) (k_okb rfl)
set_option maxHeartbeats 4000000 in
set_option maxRecDepth 100000 in
theorem c_X8_isWave (la : Launch) (κ : Kx) {L : List Nat} {f : Nat → wE} {mm : Nat} {thr : Int} {σ : Sg} {w : Int}  (hM : MS κ L f mm thr σ) (hs : SgOk σ) (hw : inI w) : k_M la κ yX8_isWave cX8_isWave 2 (some .boolean) 2 0 0 [.ref mm, .int (iI w)] L f (k_ro L f (.int (iI (bI (decide (0 ≤ w ∧ w ≤ (σ.1.2.1 : Int) - 1)))))) := by
  refine k_head RX8 [(0, .ref mm), (1, .int (iI w))] rfl (by decide) (Nat.le_of_ble_eq_true rfl) rfl (fun θ hθ hin => ?_)
  obtain ⟨A, fr, wts, RA, PE, OF, TA, RT, RH, HS, TI, ⟨cmm, c0, c1, c2, c3, c4, c5, c6, c7⟩, ⟨hMa, hMb, hMc, hMd⟩, hfrs⟩ := id hM
  obtain ⟨hs1, ⟨hs2, hs3⟩, hs4⟩ := id hs
  have hs5 := hs1.2.1
  have hs6 := hs4.1
  have hs7 := nW_le (hT σ.1)
  have hs8 := hs1.1
  refine k_iload_n 1 1 dX8_isWave_0 rfl rfl ?_
  refine k_i2l dX8_isWave_1 hw ?_
  refine k_lconst 0 dX8_isWave_2 (by decide) ?_
  refine k_aload_n 0 0 dX8_isWave_3 rfl rfl ?_
  refine k_get 1 i_X8 q_784 cmm rfl (by decide) rfl dX8_isWave_4 ?_
  refine k_iconst dX8_isWave_7 ?_
  refine k_isub dX8_isWave_8 ?_
  refine k_i2l dX8_isWave_9 (inI_mk (by omega) (by omega)) ?_
  refine k_useR (k_runS (c_X8_isIn θ.2.1 κ (v := w) (a := 0) (b := ((σ.1.2.1 : Int) - 1)) (inL_inI hw) (inL_mk (by omega) (by omega)) (inL_mk (by omega) (by omega))) w_X8_41 q_840 rfl rfl ⟨(Nat.le_of_ble_eq_true rfl), (Nat.le_of_ble_eq_true rfl)⟩ (Nat.le_of_ble_eq_true rfl) dX8_isWave_10) ⟨(Nat.le_of_ble_eq_true rfl), (Nat.le_of_ble_eq_true rfl)⟩ ?_
  exact k_zret (b := decide (0 ≤ w ∧ w ≤ ((σ.1.2.1 : Int) - 1))) dX8_isWave_13 rfl (Nat.le_of_ble_eq_true rfl) (Nat.le_of_ble_eq_true rfl) (k_okb rfl)
set_option maxHeartbeats 4000000 in
set_option maxRecDepth 100000 in
theorem c_X8_isPort (la : Launch) (κ : Kx) {L : List Nat} {f : Nat → wE} {mm : Nat} {thr : Int} {σ : Sg} {p : Int}  (hM : MS κ L f mm thr σ) (hs : SgOk σ) (hp : inI p) : k_M la κ yX8_isPort cX8_isPort 2 (some .boolean) 2 0 0 [.ref mm, .int (iI p)] L f (k_ro L f (.int (iI (bI (decide (0 ≤ p ∧ p ≤ (σ.2.1 : Int) - 1)))))) := by
  refine k_head RX8 [(0, .ref mm), (1, .int (iI p))] rfl (by decide) (Nat.le_of_ble_eq_true rfl) rfl (fun θ hθ hin => ?_)
  obtain ⟨A, fr, wts, RA, PE, OF, TA, RT, RH, HS, TI, ⟨cmm, c0, c1, c2, c3, c4, c5, c6, c7⟩, ⟨hMa, hMb, hMc, hMd⟩, hfrs⟩ := id hM
  obtain ⟨hs1, ⟨hs2, hs3⟩, hs4⟩ := id hs
  have hs5 := hs1.2.1
  have hs6 := hs4.1
  have hs7 := nW_le (hT σ.1)
  have hs8 := hs1.1
  refine k_iload_n 1 1 dX8_isPort_0 rfl rfl ?_
  refine k_i2l dX8_isPort_1 hp ?_
  refine k_lconst 0 dX8_isPort_2 (by decide) ?_
  refine k_aload_n 0 0 dX8_isPort_3 rfl rfl ?_
  refine k_get 6 i_X8 q_789 cmm rfl (by decide) rfl dX8_isPort_4 ?_
  refine k_iconst dX8_isPort_7 ?_
  refine k_isub dX8_isPort_8 ?_
  refine k_i2l dX8_isPort_9 (inI_mk (by omega) (by omega)) ?_
  refine k_useR (k_runS (c_X8_isIn θ.2.1 κ (v := p) (a := 0) (b := ((σ.2.1 : Int) - 1)) (inL_inI hp) (inL_mk (by omega) (by omega)) (inL_mk (by omega) (by omega))) w_X8_41 q_840 rfl rfl ⟨(Nat.le_of_ble_eq_true rfl), (Nat.le_of_ble_eq_true rfl)⟩ (Nat.le_of_ble_eq_true rfl) dX8_isPort_10) ⟨(Nat.le_of_ble_eq_true rfl), (Nat.le_of_ble_eq_true rfl)⟩ ?_
  exact k_zret (b := decide (0 ≤ p ∧ p ≤ ((σ.2.1 : Int) - 1))) dX8_isPort_13 rfl (Nat.le_of_ble_eq_true rfl) (Nat.le_of_ble_eq_true rfl) (k_okb rfl)
set_option maxHeartbeats 4000000 in
set_option maxRecDepth 100000 in
theorem c_X8_thrown (la : Launch) (κ : Kx) {L : List Nat} {f : Nat → wE} {mm : Nat} {thr : Int} {σ : Sg}   (hM : MS κ L f mm thr σ)  : k_M la κ yX8_thrown cX8_thrown 1 (some .int) 1 0 0 [.ref mm] L f (k_ro L f (.int (iI thr))) := by
  refine k_head RX8 [(0, .ref mm)] rfl (by decide) (Nat.le_of_ble_eq_true rfl) rfl (fun θ hθ hin => ?_)
  obtain ⟨A, fr, wts, RA, PE, OF, TA, RT, RH, HS, TI, ⟨cmm, c0, c1, c2, c3, c4, c5, c6, c7⟩, ⟨hMa, hMb, hMc, hMd⟩, hfrs⟩ := id hM
  refine k_aload_n 0 0 dX8_thrown_0 rfl rfl ?_
  refine k_get 0 i_X8 q_783 cmm rfl (by decide) rfl dX8_thrown_1 ?_
  exact k_iret dX8_thrown_4 rfl (Nat.le_of_ble_eq_true rfl) (Nat.le_of_ble_eq_true rfl) (k_oki rfl)
set_option maxHeartbeats 4000000 in
set_option maxRecDepth 100000 in
theorem c_X8_fail (la : Launch) (κ : Kx) {L : List Nat} {f : Nat → wE} {mm : Nat} {thr : Int} {σ : Sg} {k : Int}  (hM : MS κ L f mm thr σ)  : k_M la κ yX8_fail cX8_fail 2 (some .int) 1 0 0 [.ref mm, .int (iI k)] L f (k_rn (fun v9 L' f' => v9 = .int (iI 0) ∧ L' = L ∧ MS κ L' f' mm k σ ∧ k_fr SM L f L' f')) := by
  refine k_head RX8 [(0, .ref mm), (1, .int (iI k))] rfl (by decide) (Nat.le_of_ble_eq_true rfl) rfl (fun θ hθ hin => ?_)
  obtain ⟨A, fr, wts, RA, PE, OF, TA, RT, RH, HS, TI, ⟨cmm, c0, c1, c2, c3, c4, c5, c6, c7⟩, ⟨hMa, hMb, hMc, hMd⟩, hfrs⟩ := id hM
  refine k_aload_n 0 0 dX8_fail_0 rfl rfl ?_
  refine k_iload_n 1 1 dX8_fail_1 rfl rfl ?_
  refine k_put 0 [.int (iI k), .int (iI (σ.1.2.1 : Int)), .ref (A 0), .ref (A 1), .ref (A 2), .int (iI σ.1.1), .int (iI (σ.2.1 : Int)), .ref (A 3), .int (iI (σ.2.2.2.1 : Int)), .ref (A 4), .ref (A 5), .int (iI (bI fr)), .ref (A 6), .int (iI wts), .ref (A 7)] i_X8 tyX8_ok nmX8 q_783 cmm rfl (by decide) rfl rfl rfl rfl (Nat.le_of_ble_eq_true rfl) rfl dX8_fail_2 (fun f1 hf1 hc1 => ?_)
  have hr1 := k_fr.put hf1 cmm
  replace c0 := c0.fr hr1 rfl
  replace c1 := c1.fr hr1 rfl
  replace c2 := c2.fr hr1 rfl
  replace c3 := c3.fr hr1 rfl
  replace c4 := c4.fr hr1 rfl
  replace c5 := c5.fr hr1 rfl
  replace c6 := c6.fr hr1 rfl
  replace c7 := c7.fr hr1 rfl
  replace cmm : Cl L f1 mm (21, .inr (9, [.int (iI k), .int (iI (σ.1.2.1 : Int)), .ref (A 0), .ref (A 1), .ref (A 2), .int (iI σ.1.1), .int (iI (σ.2.1 : Int)), .ref (A 3), .int (iI (σ.2.2.2.1 : Int)), .ref (A 4), .ref (A 5), .int (iI (bI fr)), .ref (A 6), .int (iI wts), .ref (A 7)])) := hc1
  refine k_iconst dX8_fail_5 ?_
  exact k_iret dX8_fail_6 rfl (Nat.le_of_ble_eq_true rfl) (Nat.le_of_ble_eq_true rfl) (⟨_, rfl, rfl, rfl, ⟨A, fr, wts, RA, PE, OF, TA, RT, RH, HS, TI, ⟨cmm, c0, c1, c2, c3, c4, c5, c6, c7⟩, ⟨hMa, hMb, hMc, hMd⟩, hfrs⟩, (k_fr.mono hr1 (SM_of rfl))⟩)
set_option maxHeartbeats 4000000 in
set_option maxRecDepth 100000 in
theorem c_X8_waveAt (la : Launch) (κ : Kx) {L : List Nat} {f : Nat → wE} {mm : Nat} {A : Nat → Nat} {thr lev wts r p o : Int} {nw np nr t w : Nat} {fr : Bool} {RA PE OF : Nat → Int} (cmm : Cl L f mm (21, .inr (9, [.int (iI thr), .int (iI (nw : Int)), .ref (A 0), .ref (A 1), .ref (A 2), .int (iI lev), .int (iI (np : Int)), .ref (A 3), .int (iI (nr : Int)), .ref (A 4), .ref (A 5), .int (iI (bI fr)), .ref (A 6), .int (iI wts), .ref (A 7)]))) (c0 : Cl L f (A 0) (22, .inl (κ.2.2.1 0, 8, .inl (fun u9 => iI (RA u9))))) (c1 : Cl L f (A 1) (23, .inl (κ.2.2.1 0, 8, .inl (fun u9 => iI (PE u9))))) (c2 : Cl L f (A 2) (24, .inl (κ.2.2.1 0, 8, .inl (fun u9 => iI (OF u9)))))  (hw : w < 8) (hr : RA w = r) (hp : PE w = p) (ho : OF w = o) (hok : wvOk r p o) (ht : t < 4320) : k_M la κ yX8_waveAt cX8_waveAt 10 (some .long) 1 0 0 [.ref mm, .int (iI (w : Int)), .int (iI (t : Int))] L f (k_ro L f (.long (lI (wvH r p o (t : Int))))) := by
  refine k_head RX8 [(0, .ref mm), (1, .int (iI (w : Int))), (2, .int (iI (t : Int)))] rfl (by decide) (Nat.le_of_ble_eq_true rfl) rfl (fun θ hθ hin => ?_)
  obtain ⟨⟨hr0, hr1⟩, ⟨hp0, hp1⟩, ⟨ho0, ho1⟩⟩ := id hok
  obtain ⟨hm0, hm1⟩ := tm_bd (a := (t : Int) + o) (p := p) (by omega) (by omega)
  have hpp : 3600 ≤ p * p ∧ p * p ≤ 400000000 := ⟨Int.mul_le_mul hp0 hp0 (by omega) (by omega), Int.mul_le_mul hp1 hp1 (by omega) (by omega)⟩
  refine k_aload_n 0 0 dX8_waveAt_0 rfl rfl ?_
  refine k_get 3 i_X8 q_786 cmm rfl (by decide) rfl dX8_waveAt_1 ?_
  refine k_iload_n 1 1 dX8_waveAt_4 rfl rfl ?_
  refine k_iald w c1 rfl (by omega) (by omega) dX8_waveAt_5 ?_
  refine k_topi p hp ?_
  refine k_i2l dX8_waveAt_6 (inI_mk (by omega) (by omega)) ?_
  refine k_lstore_n 3 [(3, .long (lI p)), (0, .ref mm), (1, .int (iI (w : Int))), (2, .int (iI (t : Int)))] dX8_waveAt_7 rfl (by decide) rfl ?_
  refine k_ldc2 2 q_878 (by decide) dX8_waveAt_8 ?_
  refine k_iload_n 3 2 dX8_waveAt_11 rfl rfl ?_
  refine k_aload_n 1 0 dX8_waveAt_12 rfl rfl ?_
  refine k_get 4 i_X8 q_787 cmm rfl (by decide) rfl dX8_waveAt_13 ?_
  refine k_iload_n 2 1 dX8_waveAt_16 rfl rfl ?_
  refine k_iald w c2 rfl (by omega) (by omega) dX8_waveAt_17 ?_
  refine k_topi o ho ?_
  refine k_iadd dX8_waveAt_18 ?_
  refine k_i2l dX8_waveAt_19 (inI_mk (by omega) (by omega)) ?_
  refine k_lload_n 0 3 dX8_waveAt_20 rfl rfl ?_
  refine k_lrem dX8_waveAt_21 (inL_mk (by omega) (by omega)) (inL_mk (by omega) (by omega)) (by omega) ?_
  refine k_lmul dX8_waveAt_22 ?_
  refine k_lstore [(5, .long (lI (2 * (((t : Int) + o).tmod p)))), (3, .long (lI p)), (0, .ref mm), (1, .int (iI (w : Int))), (2, .int (iI (t : Int)))] dX8_waveAt_23 (by decide) rfl ?_
  refine k_lload 0 dX8_waveAt_25 rfl ?_
  refine k_lload_n 1 3 dX8_waveAt_27 rfl rfl ?_
  refine k_lcmp_ge 36 dX8_waveAt_28 dX8_waveAt_29 (by decide) (inL_mk (by omega) (by omega)) (inL_mk (by omega) (by omega)) (fun h28 => ?_) (fun h28 => ?_)
  · refine k_iconst dX8_waveAt_36 ?_
    refine k_istore [(7, .int (iI 0)), (5, .long (lI (2 * (((t : Int) + o).tmod p)))), (3, .long (lI p)), (0, .ref mm), (1, .int (iI (w : Int))), (2, .int (iI (t : Int)))] dX8_waveAt_37 (by decide) rfl ?_
    refine k_iload 0 dX8_waveAt_39 rfl ?_
    refine k_if_ne 50 dX8_waveAt_41 (by decide) (inI_mk (by omega) (by omega)) (fun h41 => ?_) (fun h41 => ?_)
    · omega
    · refine k_lload 1 dX8_waveAt_44 rfl ?_
      refine k_lload_n 2 3 dX8_waveAt_46 rfl rfl ?_
      refine k_lsub dX8_waveAt_47 ?_
      refine k_lstore [(5, .long (lI ((2 * (((t : Int) + o).tmod p)) - p))), (7, .int (iI 0)), (3, .long (lI p)), (0, .ref mm), (1, .int (iI (w : Int))), (2, .int (iI (t : Int)))] dX8_waveAt_48 (by decide) rfl ?_
      refine k_ldc2 4 q_879 (by decide) dX8_waveAt_50 ?_
      refine k_aload_n 3 0 dX8_waveAt_53 rfl rfl ?_
      refine k_get 2 i_X8 q_785 cmm rfl (by decide) rfl dX8_waveAt_54 ?_
      refine k_iload_n 4 1 dX8_waveAt_57 rfl rfl ?_
      refine k_iald w c0 rfl (by omega) (by omega) dX8_waveAt_58 ?_
      refine k_topi r hr ?_
      refine k_i2l dX8_waveAt_59 (inI_mk (by omega) (by omega)) ?_
      refine k_lmul dX8_waveAt_60 ?_
      refine k_lload 0 dX8_waveAt_61 rfl ?_
      refine k_lmul dX8_waveAt_63 ?_
      refine k_lload_n 2 3 dX8_waveAt_64 rfl rfl ?_
      refine k_lload 0 dX8_waveAt_65 rfl ?_
      refine k_lsub dX8_waveAt_67 ?_
      refine k_lmul dX8_waveAt_68 ?_
      refine k_lload_n 2 3 dX8_waveAt_69 rfl rfl ?_
      refine k_lload_n 2 3 dX8_waveAt_70 rfl rfl ?_
      refine k_lmul dX8_waveAt_71 ?_
      have hav := arch_pos (r := r) (p := p) (v := ((2 * (((t : Int) + o).tmod p)) - p)) hr0 (by omega) (by omega) (by omega)
      have hrp : r * (p * p) ≤ 5000 * 400000000 := Int.mul_le_mul hr1 hpp.2 (by omega) (by omega)
      refine k_ldiv dX8_waveAt_72 (inL_mk (by omega) (by omega)) (inL_mk (by omega) (by omega)) (by omega) ?_
      refine k_lstore [(8, .long (lI ((((4 * r) * ((2 * (((t : Int) + o).tmod p)) - p)) * (p - ((2 * (((t : Int) + o).tmod p)) - p))).tdiv (p * p)))), (5, .long (lI ((2 * (((t : Int) + o).tmod p)) - p))), (7, .int (iI 0)), (3, .long (lI p)), (0, .ref mm), (1, .int (iI (w : Int))), (2, .int (iI (t : Int)))] dX8_waveAt_73 (by decide) rfl ?_
      refine k_iload 2 dX8_waveAt_75 rfl ?_
      refine k_if_eq 85 dX8_waveAt_77 (by decide) (inI_mk (by omega) (by omega)) (fun h77 => ?_) (fun h77 => ?_)
      · refine k_lload 0 dX8_waveAt_85 rfl ?_
        refine k_lneg dX8_waveAt_87 ?_
        exact k_lret dX8_waveAt_88 rfl (Nat.le_of_ble_eq_true rfl) (Nat.le_of_ble_eq_true rfl) (k_okl (by unfold wvH; rw [if_neg (by omega)]))
      · omega
  · refine k_iconst dX8_waveAt_32 ?_
    refine k_goto 37 dX8_waveAt_33 (by decide) ?_
    refine k_istore [(7, .int (iI 1)), (5, .long (lI (2 * (((t : Int) + o).tmod p)))), (3, .long (lI p)), (0, .ref mm), (1, .int (iI (w : Int))), (2, .int (iI (t : Int)))] dX8_waveAt_37 (by decide) rfl ?_
    refine k_iload 0 dX8_waveAt_39 rfl ?_
    refine k_if_ne 50 dX8_waveAt_41 (by decide) (inI_mk (by omega) (by omega)) (fun h41 => ?_) (fun h41 => ?_)
    · refine k_ldc2 4 q_879 (by decide) dX8_waveAt_50 ?_
      refine k_aload_n 3 0 dX8_waveAt_53 rfl rfl ?_
      refine k_get 2 i_X8 q_785 cmm rfl (by decide) rfl dX8_waveAt_54 ?_
      refine k_iload_n 4 1 dX8_waveAt_57 rfl rfl ?_
      refine k_iald w c0 rfl (by omega) (by omega) dX8_waveAt_58 ?_
      refine k_topi r hr ?_
      refine k_i2l dX8_waveAt_59 (inI_mk (by omega) (by omega)) ?_
      refine k_lmul dX8_waveAt_60 ?_
      refine k_lload 1 dX8_waveAt_61 rfl ?_
      refine k_lmul dX8_waveAt_63 ?_
      refine k_lload_n 2 3 dX8_waveAt_64 rfl rfl ?_
      refine k_lload 1 dX8_waveAt_65 rfl ?_
      refine k_lsub dX8_waveAt_67 ?_
      refine k_lmul dX8_waveAt_68 ?_
      refine k_lload_n 2 3 dX8_waveAt_69 rfl rfl ?_
      refine k_lload_n 2 3 dX8_waveAt_70 rfl rfl ?_
      refine k_lmul dX8_waveAt_71 ?_
      have hav := arch_pos (r := r) (p := p) (v := (2 * (((t : Int) + o).tmod p))) hr0 (by omega) (by omega) (by omega)
      have hrp : r * (p * p) ≤ 5000 * 400000000 := Int.mul_le_mul hr1 hpp.2 (by omega) (by omega)
      refine k_ldiv dX8_waveAt_72 (inL_mk (by omega) (by omega)) (inL_mk (by omega) (by omega)) (by omega) ?_
      refine k_lstore [(8, .long (lI ((((4 * r) * (2 * (((t : Int) + o).tmod p))) * (p - (2 * (((t : Int) + o).tmod p)))).tdiv (p * p)))), (7, .int (iI 1)), (5, .long (lI (2 * (((t : Int) + o).tmod p)))), (3, .long (lI p)), (0, .ref mm), (1, .int (iI (w : Int))), (2, .int (iI (t : Int)))] dX8_waveAt_73 (by decide) rfl ?_
      refine k_iload 1 dX8_waveAt_75 rfl ?_
      refine k_if_eq 85 dX8_waveAt_77 (by decide) (inI_mk (by omega) (by omega)) (fun h77 => ?_) (fun h77 => ?_)
      · omega
      · refine k_lload 0 dX8_waveAt_80 rfl ?_
        refine k_goto 88 dX8_waveAt_82 (by decide) ?_
        exact k_lret dX8_waveAt_88 rfl (Nat.le_of_ble_eq_true rfl) (Nat.le_of_ble_eq_true rfl) (k_okl (by unfold wvH; rw [if_pos (by omega)]))
    · omega
set_option maxHeartbeats 4000000 in
set_option maxRecDepth 100000 in
theorem c_X8_isHigh (la : Launch) (κ : Kx) {L : List Nat} {f : Nat → wE} {mm : Nat} {thr : Int} {σ : Sg} {k : Nat}  (hMf : MSf κ L f mm thr σ) (hs : SgOk σ) (hk : k < nW (hT σ.1)) : k_M la κ yX8_isHigh cX8_isHigh 2 (some .boolean) 1 0 0 [.ref mm, .int (iI (k : Int))] L f (k_ro L f (.int (iI (bI (hi (hT σ.1) k))))) := by
  refine k_head RX8 [(0, .ref mm), (1, .int (iI (k : Int)))] rfl (by decide) (Nat.le_of_ble_eq_true rfl) rfl (fun θ hθ hin => ?_)
  obtain ⟨A, RA, PE, OF, TA, RT, RH, HS, TI, ⟨cmm, c0, c1, c2, c3, c4, c5, c6, c7⟩, ⟨hMa, hMb, hMc, hMd⟩, hHS, hTI⟩ := id hMf
  obtain ⟨hs1, ⟨hs2, hs3⟩, hs4⟩ := id hs
  have hs5 := hs1.2.1
  have hs6 := hs4.1
  have hs7 := nW_le (hT σ.1)
  have hs8 := hs1.1
  obtain ⟨tk1, tk2, tk3, tk4⟩ := tm_spec hk
  have hb := hT_bd hs1
  obtain ⟨tq, htq⟩ : ∃ tq : Nat, tm (hT σ.1) k = tq + 1 := ⟨tm (hT σ.1) k - 1, by omega⟩
  have hTk : TI k = ((tq + 1 : Nat) : Int) := (hTI k hk).trans (by rw [htq])
  have hb1 := hb (tq + 1)
  have hb2 := hb tq
  have hh1 := hHS (tq + 1) (by omega)
  have hh2 := hHS tq (by omega)
  refine k_aload_n 0 0 dX8_isHigh_0 rfl rfl ?_
  refine k_get 12 i_X8 q_795 cmm rfl (by decide) rfl dX8_isHigh_1 ?_
  refine k_aload_n 0 0 dX8_isHigh_4 rfl rfl ?_
  refine k_get 14 i_X8 q_797 cmm rfl (by decide) rfl dX8_isHigh_5 ?_
  refine k_iload_n 1 1 dX8_isHigh_8 rfl rfl ?_
  refine k_iald k c7 rfl (by omega) (by omega) dX8_isHigh_9 ?_
  refine k_topi ((tq + 1 : Nat) : Int) hTk ?_
  refine k_lald (tq + 1) c6 rfl (by omega) (by omega) dX8_isHigh_10 ?_
  refine k_topl ((hT σ.1) (tq + 1)) hh1 ?_
  refine k_aload_n 0 0 dX8_isHigh_11 rfl rfl ?_
  refine k_get 12 i_X8 q_795 cmm rfl (by decide) rfl dX8_isHigh_12 ?_
  refine k_aload_n 0 0 dX8_isHigh_15 rfl rfl ?_
  refine k_get 14 i_X8 q_797 cmm rfl (by decide) rfl dX8_isHigh_16 ?_
  refine k_iload_n 1 1 dX8_isHigh_19 rfl rfl ?_
  refine k_iald k c7 rfl (by omega) (by omega) dX8_isHigh_20 ?_
  refine k_topi ((tq + 1 : Nat) : Int) hTk ?_
  refine k_iconst dX8_isHigh_21 ?_
  refine k_isub dX8_isHigh_22 ?_
  refine k_topi (tq : Int) (by omega) ?_
  refine k_lald tq c6 rfl (by omega) (by omega) dX8_isHigh_23 ?_
  refine k_topl ((hT σ.1) tq) hh2 ?_
  refine k_lcmp_le 32 dX8_isHigh_24 dX8_isHigh_25 (by decide) (inL_mk (by omega) (by omega)) (inL_mk (by omega) (by omega)) (fun h24 => ?_) (fun h24 => ?_)
  · refine k_iconst dX8_isHigh_32 ?_
    exact k_zret (b := false) dX8_isHigh_33 rfl (Nat.le_of_ble_eq_true rfl) (Nat.le_of_ble_eq_true rfl) (k_okb (by unfold hi; rw [htq]; exact (decide_eq_false (by show ¬ ((hT σ.1) tq < (hT σ.1) (tq + 1)); omega)).symm))
  · refine k_iconst dX8_isHigh_28 ?_
    refine k_goto 33 dX8_isHigh_29 (by decide) ?_
    exact k_zret (b := true) dX8_isHigh_33 rfl (Nat.le_of_ble_eq_true rfl) (Nat.le_of_ble_eq_true rfl) (k_okb (by unfold hi; rw [htq]; exact (decide_eq_true (by show (hT σ.1) tq < (hT σ.1) (tq + 1); omega)).symm))
