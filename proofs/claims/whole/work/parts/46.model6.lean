theorem mf_setT {σ : Sg} {p : Nat} {s f : Int} {RA PE OF TA RT RH : Nat → Int} (h : MFacts σ RA PE OF TA RT RH) (hp : p < σ.2.1) : MFacts (sSetPort σ (p : Int) true s f) RA PE OF (va_up (va_up TA (5 * p + 2) s) (5 * p + 3) f) RT RH := by
  obtain ⟨h1, h2, h3, h4⟩ := h
  refine ⟨h1, fun i hi => ?_, fun j hj => ?_, h4⟩
  · obtain ⟨b1, b2, b3, b4, b5⟩ := h2 i hi
    have e0 : (sSetPort σ (p : Int) true s f).2.2.1 = va_up σ.2.2.1 p (qSet (σ.2.2.1 p) true s f) := rfl
    rw [e0]
    by_cases e : i = p
    · subst e
      rw [va_up_self, va_up_self, va_up_ne _ _ (show 5 * i ≠ 5 * i + 3 by omega), va_up_ne _ _ (show 5 * i ≠ 5 * i + 2 by omega), va_up_ne _ _ (show 5 * i + 1 ≠ 5 * i + 3 by omega), va_up_ne _ _ (show 5 * i + 1 ≠ 5 * i + 2 by omega), va_up_ne _ _ (show 5 * i + 2 ≠ 5 * i + 3 by omega), va_up_self, va_up_ne _ _ (show 5 * i + 4 ≠ 5 * i + 3 by omega), va_up_ne _ _ (show 5 * i + 4 ≠ 5 * i + 2 by omega)]
      exact ⟨b1, b2, rfl, rfl, b5⟩
    · rw [va_up_ne σ.2.2.1 _ e, va_up_ne _ _ (show 5 * i ≠ 5 * p + 3 by omega), va_up_ne _ _ (show 5 * i ≠ 5 * p + 2 by omega), va_up_ne _ _ (show 5 * i + 1 ≠ 5 * p + 3 by omega), va_up_ne _ _ (show 5 * i + 1 ≠ 5 * p + 2 by omega), va_up_ne _ _ (show 5 * i + 2 ≠ 5 * p + 3 by omega), va_up_ne _ _ (show 5 * i + 2 ≠ 5 * p + 2 by omega), va_up_ne _ _ (show 5 * i + 3 ≠ 5 * p + 3 by omega), va_up_ne _ _ (show 5 * i + 3 ≠ 5 * p + 2 by omega), va_up_ne _ _ (show 5 * i + 4 ≠ 5 * p + 3 by omega), va_up_ne _ _ (show 5 * i + 4 ≠ 5 * p + 2 by omega)]
      exact ⟨b1, b2, b3, b4, b5⟩
  · have hj2 : 5 * σ.2.1 ≤ j := hj
    rw [va_up_ne _ _ (by omega), va_up_ne _ _ (by omega)]
    exact h3 j hj
theorem mf_setF {σ : Sg} {p : Nat} {s f : Int} {RA PE OF TA RT RH : Nat → Int} (h : MFacts σ RA PE OF TA RT RH) (hp : p < σ.2.1) : MFacts (sSetPort σ (p : Int) false s f) RA PE OF (va_up (va_up TA (5 * p) s) (5 * p + 1) f) RT RH := by
  obtain ⟨h1, h2, h3, h4⟩ := h
  refine ⟨h1, fun i hi => ?_, fun j hj => ?_, h4⟩
  · obtain ⟨b1, b2, b3, b4, b5⟩ := h2 i hi
    have e0 : (sSetPort σ (p : Int) false s f).2.2.1 = va_up σ.2.2.1 p (qSet (σ.2.2.1 p) false s f) := rfl
    rw [e0]
    by_cases e : i = p
    · subst e
      rw [va_up_self, va_up_self, va_up_ne _ _ (show 5 * i ≠ 5 * i + 1 by omega), va_up_self, va_up_ne _ _ (show 5 * i + 2 ≠ 5 * i + 1 by omega), va_up_ne _ _ (show 5 * i + 2 ≠ 5 * i by omega), va_up_ne _ _ (show 5 * i + 3 ≠ 5 * i + 1 by omega), va_up_ne _ _ (show 5 * i + 3 ≠ 5 * i by omega), va_up_ne _ _ (show 5 * i + 4 ≠ 5 * i + 1 by omega), va_up_ne _ _ (show 5 * i + 4 ≠ 5 * i by omega)]
      exact ⟨rfl, rfl, b3, b4, b5⟩
    · rw [va_up_ne σ.2.2.1 _ e, va_up_ne _ _ (show 5 * i ≠ 5 * p + 1 by omega), va_up_ne _ _ (show 5 * i ≠ 5 * p by omega), va_up_ne _ _ (show 5 * i + 1 ≠ 5 * p + 1 by omega), va_up_ne _ _ (show 5 * i + 1 ≠ 5 * p by omega), va_up_ne _ _ (show 5 * i + 2 ≠ 5 * p + 1 by omega), va_up_ne _ _ (show 5 * i + 2 ≠ 5 * p by omega), va_up_ne _ _ (show 5 * i + 3 ≠ 5 * p + 1 by omega), va_up_ne _ _ (show 5 * i + 3 ≠ 5 * p by omega), va_up_ne _ _ (show 5 * i + 4 ≠ 5 * p + 1 by omega), va_up_ne _ _ (show 5 * i + 4 ≠ 5 * p by omega)]
      exact ⟨b1, b2, b3, b4, b5⟩
  · have hj2 : 5 * σ.2.1 ≤ j := hj
    rw [va_up_ne _ _ (by omega), va_up_ne _ _ (by omega)]
    exact h3 j hj
set_option maxHeartbeats 4000000 in
set_option maxRecDepth 100000 in
theorem c_X8_height (la : Launch) (κ : Kx) {L : List Nat} {f : Nat → wE} {mm : Nat} {thr : Int} {σ : Sg} {t : Int}   (hM : MS κ L f mm thr σ) (hs : SgOk σ) (ht : inI t) : k_M la κ yX8_height cX8_height 2 (some .int) 6 0 0 [.ref mm, .int (iI t)] L f (k_rn (fun v9 L' f' => ∃ v : Int, v9 = .int (iI v) ∧ L' = L ∧ k_fr SM L f L' f' ∧ ((xHeight t = none ∧ v = hT σ.1 t.toNat ∧ MS κ L' f' mm 0 (σ)) ∨ (xHeight t = some cIA ∧ MS κ L' f' mm 1 σ)))) := by
  refine k_head RX8 [(0, .ref mm), (1, .int (iI t))] rfl (by decide) (Nat.le_of_ble_eq_true rfl) rfl (fun θ hθ hin => ?_)
  obtain ⟨A, fr, wts, RA, PE, OF, TA, RT, RH, HS, TI, ⟨cmm, c0, c1, c2, c3, c4, c5, c6, c7⟩, ⟨hMa, hMb, hMc, hMd⟩, hfrs⟩ := id hM
  obtain ⟨hs1, ⟨hs2, hs3⟩, hs4⟩ := id hs
  have hs5 := hs1.2.1
  have hs6 := hs4.1
  have hs7 := nW_le (hT σ.1)
  have hs8 := hs1.1
  obtain ⟨htl, htu⟩ := id ht
  refine k_aload_n 0 0 dX8_height_0 rfl rfl ?_
  refine k_iconst dX8_height_1 ?_
  refine k_put 0 [.int (iI 0), .int (iI (σ.1.2.1 : Int)), .ref (A 0), .ref (A 1), .ref (A 2), .int (iI σ.1.1), .int (iI (σ.2.1 : Int)), .ref (A 3), .int (iI (σ.2.2.2.1 : Int)), .ref (A 4), .ref (A 5), .int (iI (bI fr)), .ref (A 6), .int (iI wts), .ref (A 7)] i_X8 tyX8_ok nmX8 q_783 cmm rfl (by decide) rfl rfl rfl rfl (Nat.le_of_ble_eq_true rfl) rfl dX8_height_2 (fun f1 hf1 hc1 => ?_)
  have hr1 := k_fr.put hf1 cmm
  replace c0 := c0.fr hr1 rfl
  replace c1 := c1.fr hr1 rfl
  replace c2 := c2.fr hr1 rfl
  replace c3 := c3.fr hr1 rfl
  replace c4 := c4.fr hr1 rfl
  replace c5 := c5.fr hr1 rfl
  replace c6 := c6.fr hr1 rfl
  replace c7 := c7.fr hr1 rfl
  replace cmm : Cl L f1 mm (21, .inr (9, [.int (iI 0), .int (iI (σ.1.2.1 : Int)), .ref (A 0), .ref (A 1), .ref (A 2), .int (iI σ.1.1), .int (iI (σ.2.1 : Int)), .ref (A 3), .int (iI (σ.2.2.2.1 : Int)), .ref (A 4), .ref (A 5), .int (iI (bI fr)), .ref (A 6), .int (iI wts), .ref (A 7)])) := hc1
  have hM0 : MS κ L f1 mm 0 σ := ⟨A, fr, wts, RA, PE, OF, TA, RT, RH, HS, TI, ⟨cmm, c0, c1, c2, c3, c4, c5, c6, c7⟩, ⟨hMa, hMb, hMc, hMd⟩, hfrs⟩
  replace hM := hM0
  refine k_iload_n 1 1 dX8_height_5 rfl rfl ?_
  refine k_useR (k_runS (c_X8_isTime θ.2.1 κ (t := t) (inI_mk (by omega) (by omega))) w_X8_87 q_867 rfl rfl ⟨(Nat.le_of_ble_eq_true rfl), (Nat.le_of_ble_eq_true rfl)⟩ (Nat.le_of_ble_eq_true rfl) dX8_height_6) ⟨(Nat.le_of_ble_eq_true rfl), (Nat.le_of_ble_eq_true rfl)⟩ ?_
  refine k_ifb_ne 18 dX8_height_9 (by decide) (fun h9 => ?_) (fun h9 => ?_)
  · have hd9 := of_decide_eq_true h9
    obtain ⟨tn, rfl⟩ : ∃ tn : Nat, t = (tn : Int) := ⟨t.toNat, by omega⟩
    refine k_aload_n 0 0 dX8_height_18 rfl rfl ?_
    refine k_useU (k_runV (c_X8_find θ.2.1 κ (σ := σ) (mm := mm) hM hs) w_X8_90 ⟨q_872, q_20⟩ rfl rfl cmm rfl ⟨(Nat.le_of_ble_eq_true rfl), (Nat.le_of_ble_eq_true rfl)⟩ (Nat.le_of_ble_eq_true rfl) dX8_height_19) ⟨(Nat.le_of_ble_eq_true rfl), (Nat.le_of_ble_eq_true rfl)⟩ (fun Lq fq hwq => ?_)
    obtain ⟨eq9, hMf, hrF⟩ := hwq
    replace eq9 := eq9.symm
    subst eq9
    obtain ⟨A, RA, PE, OF, TA, RT, RH, HS, TI, ⟨cmm, c0, c1, c2, c3, c4, c5, c6, c7⟩, ⟨hMa, hMb, hMc, hMd⟩, hHS, hTI⟩ := id hMf
    refine k_aload_n 0 0 dX8_height_22 rfl rfl ?_
    refine k_get 12 i_X8 q_795 cmm rfl (by decide) rfl dX8_height_23 ?_
    refine k_iload_n 1 1 dX8_height_26 rfl rfl ?_
    refine k_lald tn c6 rfl (by omega) (by omega) dX8_height_27 ?_
    refine k_topl ((hT σ.1) tn) (hHS tn (by omega)) ?_
    refine k_l2i dX8_height_28 ?_
    exact k_iret dX8_height_29 rfl (Nat.le_of_ble_eq_true rfl) (Nat.le_of_ble_eq_true rfl) (⟨_, rfl, _, rfl, rfl, (k_fr.trans (k_fr.mono hr1 (SM_of rfl)) hrF idf idf), Or.inl ⟨(by rw [xHeight, if_pos (by omega)]), rfl, hMf.ms⟩⟩)
  · have hd9 := of_decide_eq_false h9
    refine k_aload_n 0 0 dX8_height_12 rfl rfl ?_
    refine k_iconst dX8_height_13 ?_
    refine k_useV (k_runV (c_X8_fail θ.2.1 κ (mm := mm) (k := 1) hM) w_X8_57 ⟨q_846, q_18⟩ rfl rfl cmm rfl ⟨(Nat.le_of_ble_eq_true rfl), (Nat.le_of_ble_eq_true rfl)⟩ (Nat.le_of_ble_eq_true rfl) dX8_height_14) ⟨(Nat.le_of_ble_eq_true rfl), (Nat.le_of_ble_eq_true rfl)⟩ (fun w9 Lx fx hw9 => ?_)
    obtain ⟨rfl, ex9, hMx, hrx⟩ := hw9
    replace ex9 := ex9.symm
    subst ex9
    exact k_iret dX8_height_17 rfl (Nat.le_of_ble_eq_true rfl) (Nat.le_of_ble_eq_true rfl) (⟨_, rfl, _, rfl, rfl, (k_fr.trans (k_fr.mono hr1 (SM_of rfl)) hrx idf idf), Or.inr (⟨(by rw [xHeight, if_neg (by omega)]), hMx⟩)⟩)
set_option maxHeartbeats 4000000 in
set_option maxRecDepth 100000 in
theorem c_X8_waveHeight (la : Launch) (κ : Kx) {L : List Nat} {f : Nat → wE} {mm : Nat} {thr : Int} {σ : Sg} {w t : Int}   (hM : MS κ L f mm thr σ) (hs : SgOk σ) (hw : inI w) (ht : inI t) : k_M la κ yX8_waveHeight cX8_waveHeight 3 (some .int) 6 0 0 [.ref mm, .int (iI w), .int (iI t)] L f (k_rn (fun v9 L' f' => ∃ v : Int, v9 = .int (iI v) ∧ L' = L ∧ k_fr SM L f L' f' ∧ ((xWaveHeight σ w t = none ∧ v = wvH (σ.1.2.2.1 w.toNat) (σ.1.2.2.2.1 w.toNat) (σ.1.2.2.2.2 w.toNat) t ∧ MS κ L' f' mm 0 (σ)) ∨ (xWaveHeight σ w t = some cIO ∧ MS κ L' f' mm 1 σ) ∨ (xWaveHeight σ w t = some cIA ∧ MS κ L' f' mm 2 σ)))) := by
  refine k_head RX8 [(0, .ref mm), (1, .int (iI w)), (2, .int (iI t))] rfl (by decide) (Nat.le_of_ble_eq_true rfl) rfl (fun θ hθ hin => ?_)
  obtain ⟨A, fr, wts, RA, PE, OF, TA, RT, RH, HS, TI, ⟨cmm, c0, c1, c2, c3, c4, c5, c6, c7⟩, ⟨hMa, hMb, hMc, hMd⟩, hfrs⟩ := id hM
  obtain ⟨hs1, ⟨hs2, hs3⟩, hs4⟩ := id hs
  have hs5 := hs1.2.1
  have hs6 := hs4.1
  have hs7 := nW_le (hT σ.1)
  have hs8 := hs1.1
  obtain ⟨hwl, hwu⟩ := id hw
  obtain ⟨htl, htu⟩ := id ht
  refine k_aload_n 0 0 dX8_waveHeight_0 rfl rfl ?_
  refine k_iconst dX8_waveHeight_1 ?_
  refine k_put 0 [.int (iI 0), .int (iI (σ.1.2.1 : Int)), .ref (A 0), .ref (A 1), .ref (A 2), .int (iI σ.1.1), .int (iI (σ.2.1 : Int)), .ref (A 3), .int (iI (σ.2.2.2.1 : Int)), .ref (A 4), .ref (A 5), .int (iI (bI fr)), .ref (A 6), .int (iI wts), .ref (A 7)] i_X8 tyX8_ok nmX8 q_783 cmm rfl (by decide) rfl rfl rfl rfl (Nat.le_of_ble_eq_true rfl) rfl dX8_waveHeight_2 (fun f1 hf1 hc1 => ?_)
  have hr1 := k_fr.put hf1 cmm
  replace c0 := c0.fr hr1 rfl
  replace c1 := c1.fr hr1 rfl
  replace c2 := c2.fr hr1 rfl
  replace c3 := c3.fr hr1 rfl
  replace c4 := c4.fr hr1 rfl
  replace c5 := c5.fr hr1 rfl
  replace c6 := c6.fr hr1 rfl
  replace c7 := c7.fr hr1 rfl
  replace cmm : Cl L f1 mm (21, .inr (9, [.int (iI 0), .int (iI (σ.1.2.1 : Int)), .ref (A 0), .ref (A 1), .ref (A 2), .int (iI σ.1.1), .int (iI (σ.2.1 : Int)), .ref (A 3), .int (iI (σ.2.2.2.1 : Int)), .ref (A 4), .ref (A 5), .int (iI (bI fr)), .ref (A 6), .int (iI wts), .ref (A 7)])) := hc1
  have hM0 : MS κ L f1 mm 0 σ := ⟨A, fr, wts, RA, PE, OF, TA, RT, RH, HS, TI, ⟨cmm, c0, c1, c2, c3, c4, c5, c6, c7⟩, ⟨hMa, hMb, hMc, hMd⟩, hfrs⟩
  replace hM := hM0
  refine k_aload_n 0 0 dX8_waveHeight_5 rfl rfl ?_
  refine k_iload_n 1 1 dX8_waveHeight_6 rfl rfl ?_
  refine k_useR (k_runV (c_X8_isWave θ.2.1 κ (mm := mm) (w := w) hM hs (inI_mk (by omega) (by omega))) w_X8_65 ⟨q_854, q_19⟩ rfl rfl cmm rfl ⟨(Nat.le_of_ble_eq_true rfl), (Nat.le_of_ble_eq_true rfl)⟩ (Nat.le_of_ble_eq_true rfl) dX8_waveHeight_7) ⟨(Nat.le_of_ble_eq_true rfl), (Nat.le_of_ble_eq_true rfl)⟩ ?_
  refine k_ifb_ne 19 dX8_waveHeight_10 (by decide) (fun h10 => ?_) (fun h10 => ?_)
  · have hd10 := of_decide_eq_true h10
    refine k_iload_n 2 2 dX8_waveHeight_19 rfl rfl ?_
    refine k_useR (k_runS (c_X8_isTime θ.2.1 κ (t := t) (inI_mk (by omega) (by omega))) w_X8_87 q_867 rfl rfl ⟨(Nat.le_of_ble_eq_true rfl), (Nat.le_of_ble_eq_true rfl)⟩ (Nat.le_of_ble_eq_true rfl) dX8_waveHeight_20) ⟨(Nat.le_of_ble_eq_true rfl), (Nat.le_of_ble_eq_true rfl)⟩ ?_
    refine k_ifb_eq 36 dX8_waveHeight_23 (by decide) (fun h23 => ?_) (fun h23 => ?_)
    · have hd23 := of_decide_eq_false h23
      refine k_aload_n 0 0 dX8_waveHeight_36 rfl rfl ?_
      refine k_iconst dX8_waveHeight_37 ?_
      refine k_useV (k_runV (c_X8_fail θ.2.1 κ (mm := mm) (k := 2) hM) w_X8_57 ⟨q_846, q_18⟩ rfl rfl cmm rfl ⟨(Nat.le_of_ble_eq_true rfl), (Nat.le_of_ble_eq_true rfl)⟩ (Nat.le_of_ble_eq_true rfl) dX8_waveHeight_38) ⟨(Nat.le_of_ble_eq_true rfl), (Nat.le_of_ble_eq_true rfl)⟩ (fun w9 Lx fx hw9 => ?_)
      obtain ⟨rfl, ex9, hMx, hrx⟩ := hw9
      replace ex9 := ex9.symm
      subst ex9
      exact k_iret dX8_waveHeight_41 rfl (Nat.le_of_ble_eq_true rfl) (Nat.le_of_ble_eq_true rfl) (⟨_, rfl, _, rfl, rfl, (k_fr.trans (k_fr.mono hr1 (SM_of rfl)) hrx idf idf), Or.inr (Or.inr (⟨(by rw [xWaveHeight, if_pos (by omega), if_neg (by omega)]), hMx⟩))⟩)
    · have hd23 := of_decide_eq_true h23
      obtain ⟨wn, rfl⟩ : ∃ wn : Nat, w = (wn : Int) := ⟨w.toNat, by omega⟩
      obtain ⟨tn, rfl⟩ : ∃ tn : Nat, t = (tn : Int) := ⟨t.toNat, by omega⟩
      refine k_aload_n 0 0 dX8_waveHeight_26 rfl rfl ?_
      refine k_iload_n 1 1 dX8_waveHeight_27 rfl rfl ?_
      refine k_iload_n 2 2 dX8_waveHeight_28 rfl rfl ?_
      refine k_useR (k_runV (c_X8_waveAt θ.2.1 κ (r := (σ.1.2.2.1 wn)) (p := (σ.1.2.2.2.1 wn)) (o := (σ.1.2.2.2.2 wn)) (w := wn) (t := tn) (mm := mm) cmm c0 c1 c2 (by omega) (hMa wn (by omega)).1 (hMa wn (by omega)).2.1 (hMa wn (by omega)).2.2 (hs1.2.2 wn (by omega)) (by omega)) w_X8_80 ⟨q_876, q_21⟩ rfl rfl cmm rfl ⟨(Nat.le_of_ble_eq_true rfl), (Nat.le_of_ble_eq_true rfl)⟩ (Nat.le_of_ble_eq_true rfl) dX8_waveHeight_29) ⟨(Nat.le_of_ble_eq_true rfl), (Nat.le_of_ble_eq_true rfl)⟩ ?_
      refine k_l2i dX8_waveHeight_32 ?_
      refine k_goto 41 dX8_waveHeight_33 (by decide) ?_
      exact k_iret dX8_waveHeight_41 rfl (Nat.le_of_ble_eq_true rfl) (Nat.le_of_ble_eq_true rfl) (⟨_, rfl, _, rfl, rfl, (k_fr.mono hr1 (SM_of rfl)), Or.inl ⟨(by rw [xWaveHeight, if_pos (by omega), if_pos (by omega)]), rfl, hM⟩⟩)
  · have hd10 := of_decide_eq_false h10
    refine k_aload_n 0 0 dX8_waveHeight_13 rfl rfl ?_
    refine k_iconst dX8_waveHeight_14 ?_
    refine k_useV (k_runV (c_X8_fail θ.2.1 κ (mm := mm) (k := 1) hM) w_X8_57 ⟨q_846, q_18⟩ rfl rfl cmm rfl ⟨(Nat.le_of_ble_eq_true rfl), (Nat.le_of_ble_eq_true rfl)⟩ (Nat.le_of_ble_eq_true rfl) dX8_waveHeight_15) ⟨(Nat.le_of_ble_eq_true rfl), (Nat.le_of_ble_eq_true rfl)⟩ (fun w9 Lx fx hw9 => ?_)
    obtain ⟨rfl, ex9, hMx, hrx⟩ := hw9
    replace ex9 := ex9.symm
    subst ex9
    exact k_iret dX8_waveHeight_18 rfl (Nat.le_of_ble_eq_true rfl) (Nat.le_of_ble_eq_true rfl) (⟨_, rfl, _, rfl, rfl, (k_fr.trans (k_fr.mono hr1 (SM_of rfl)) hrx idf idf), Or.inr (Or.inl ⟨(by rw [xWaveHeight, if_neg (by omega)]), hMx⟩)⟩)
set_option maxHeartbeats 4000000 in
set_option maxRecDepth 100000 in
theorem c_X8_count (la : Launch) (κ : Kx) {L : List Nat} {f : Nat → wE} {mm : Nat} {thr : Int} {σ : Sg} {what : Int}   (hM : MS κ L f mm thr σ) (hs : SgOk σ) (hwhat : inI what) : k_M la κ yX8_count cX8_count 2 (some .int) 7 0 0 [.ref mm, .int (iI what)] L f (k_rn (fun v9 L' f' => ∃ v : Int, v9 = .int (iI v) ∧ L' = L ∧ k_fr SM L f L' f' ∧ ((xCount what = none ∧ v = numS σ what ∧ MS κ L' f' mm 0 (σ)) ∨ (xCount what = some cIO ∧ MS κ L' f' mm 1 σ)))) := by
  refine k_head RX8 [(0, .ref mm), (1, .int (iI what))] rfl (by decide) (Nat.le_of_ble_eq_true rfl) rfl (fun θ hθ hin => ?_)
  obtain ⟨A, fr, wts, RA, PE, OF, TA, RT, RH, HS, TI, ⟨cmm, c0, c1, c2, c3, c4, c5, c6, c7⟩, ⟨hMa, hMb, hMc, hMd⟩, hfrs⟩ := id hM
  obtain ⟨hs1, ⟨hs2, hs3⟩, hs4⟩ := id hs
  have hs5 := hs1.2.1
  have hs6 := hs4.1
  have hs7 := nW_le (hT σ.1)
  have hs8 := hs1.1
  obtain ⟨hwhatl, hwhatu⟩ := id hwhat
  refine k_aload_n 0 0 dX8_count_0 rfl rfl ?_
  refine k_iconst dX8_count_1 ?_
  refine k_put 0 [.int (iI 0), .int (iI (σ.1.2.1 : Int)), .ref (A 0), .ref (A 1), .ref (A 2), .int (iI σ.1.1), .int (iI (σ.2.1 : Int)), .ref (A 3), .int (iI (σ.2.2.2.1 : Int)), .ref (A 4), .ref (A 5), .int (iI (bI fr)), .ref (A 6), .int (iI wts), .ref (A 7)] i_X8 tyX8_ok nmX8 q_783 cmm rfl (by decide) rfl rfl rfl rfl (Nat.le_of_ble_eq_true rfl) rfl dX8_count_2 (fun f1 hf1 hc1 => ?_)
  have hr1 := k_fr.put hf1 cmm
  replace c0 := c0.fr hr1 rfl
  replace c1 := c1.fr hr1 rfl
  replace c2 := c2.fr hr1 rfl
  replace c3 := c3.fr hr1 rfl
  replace c4 := c4.fr hr1 rfl
  replace c5 := c5.fr hr1 rfl
  replace c6 := c6.fr hr1 rfl
  replace c7 := c7.fr hr1 rfl
  replace cmm : Cl L f1 mm (21, .inr (9, [.int (iI 0), .int (iI (σ.1.2.1 : Int)), .ref (A 0), .ref (A 1), .ref (A 2), .int (iI σ.1.1), .int (iI (σ.2.1 : Int)), .ref (A 3), .int (iI (σ.2.2.2.1 : Int)), .ref (A 4), .ref (A 5), .int (iI (bI fr)), .ref (A 6), .int (iI wts), .ref (A 7)])) := hc1
  have hM0 : MS κ L f1 mm 0 σ := ⟨A, fr, wts, RA, PE, OF, TA, RT, RH, HS, TI, ⟨cmm, c0, c1, c2, c3, c4, c5, c6, c7⟩, ⟨hMa, hMb, hMc, hMd⟩, hfrs⟩
  replace hM := hM0
  refine k_iload_n 1 1 dX8_count_5 rfl rfl ?_
  refine k_i2l dX8_count_6 (inI_mk (by omega) (by omega)) ?_
  refine k_lconst 0 dX8_count_7 (by decide) ?_
  refine k_ldc2 3 q_888 (by decide) dX8_count_8 ?_
  refine k_useR (k_runS (c_X8_isIn θ.2.1 κ (v := what) (a := 0) (b := 3) (inL_mk (by omega) (by omega)) (inL_mk (by omega) (by omega)) (inL_mk (by omega) (by omega))) w_X8_41 q_840 rfl rfl ⟨(Nat.le_of_ble_eq_true rfl), (Nat.le_of_ble_eq_true rfl)⟩ (Nat.le_of_ble_eq_true rfl) dX8_count_11) ⟨(Nat.le_of_ble_eq_true rfl), (Nat.le_of_ble_eq_true rfl)⟩ ?_
  refine k_ifb_eq 25 dX8_count_14 (by decide) (fun h14 => ?_) (fun h14 => ?_)
  · have hd14 := of_decide_eq_false h14
    refine k_aload_n 0 0 dX8_count_25 rfl rfl ?_
    refine k_iconst dX8_count_26 ?_
    refine k_useV (k_runV (c_X8_fail θ.2.1 κ (mm := mm) (k := 1) hM) w_X8_57 ⟨q_846, q_18⟩ rfl rfl cmm rfl ⟨(Nat.le_of_ble_eq_true rfl), (Nat.le_of_ble_eq_true rfl)⟩ (Nat.le_of_ble_eq_true rfl) dX8_count_27) ⟨(Nat.le_of_ble_eq_true rfl), (Nat.le_of_ble_eq_true rfl)⟩ (fun w9 Lx fx hw9 => ?_)
    obtain ⟨rfl, ex9, hMx, hrx⟩ := hw9
    replace ex9 := ex9.symm
    subst ex9
    exact k_iret dX8_count_30 rfl (Nat.le_of_ble_eq_true rfl) (Nat.le_of_ble_eq_true rfl) (⟨_, rfl, _, rfl, rfl, (k_fr.trans (k_fr.mono hr1 (SM_of rfl)) hrx idf idf), Or.inr (⟨(by rw [xCount, if_neg (by omega)]), hMx⟩)⟩)
  · have hd14 := of_decide_eq_true h14
    refine k_aload_n 0 0 dX8_count_17 rfl rfl ?_
    refine k_iload_n 1 1 dX8_count_18 rfl rfl ?_
    refine k_useV (k_runV (c_X8_counted θ.2.1 κ (mm := mm) (what := what) hM hs (by omega)) w_X8_98 ⟨q_891, q_22⟩ rfl rfl cmm rfl ⟨(Nat.le_of_ble_eq_true rfl), (Nat.le_of_ble_eq_true rfl)⟩ (Nat.le_of_ble_eq_true rfl) dX8_count_19) ⟨(Nat.le_of_ble_eq_true rfl), (Nat.le_of_ble_eq_true rfl)⟩ (fun w9 Lq fq hwq => ?_)
    obtain ⟨rfl, eq9, hMf, hrF⟩ := hwq
    replace eq9 := eq9.symm
    subst eq9
    obtain ⟨A, RA, PE, OF, TA, RT, RH, HS, TI, ⟨cmm, c0, c1, c2, c3, c4, c5, c6, c7⟩, ⟨hMa, hMb, hMc, hMd⟩, hHS, hTI⟩ := id hMf
    refine k_goto 30 dX8_count_22 (by decide) ?_
    exact k_iret dX8_count_30 rfl (Nat.le_of_ble_eq_true rfl) (Nat.le_of_ble_eq_true rfl) (⟨_, rfl, _, rfl, rfl, (k_fr.trans (k_fr.mono hr1 (SM_of rfl)) hrF idf idf), Or.inl ⟨(by rw [xCount, if_pos (by omega)]), rfl, hMf.ms⟩⟩)
set_option maxHeartbeats 4000000 in
set_option maxRecDepth 100000 in
theorem c_X8_water (la : Launch) (κ : Kx) {L : List Nat} {f : Nat → wE} {mm : Nat} {thr : Int} {σ : Sg} {w what : Int}   (hM : MS κ L f mm thr σ) (hs : SgOk σ) (hw : inI w) (hwhat : inI what) : k_M la κ yX8_water cX8_water 3 (some .int) 6 0 0 [.ref mm, .int (iI w), .int (iI what)] L f (k_rn (fun v9 L' f' => ∃ v : Int, v9 = .int (iI v) ∧ L' = L ∧ k_fr SM L f L' f' ∧ ((xWater σ w what = none ∧ v = aWater (hT σ.1) w.toNat what ∧ MS κ L' f' mm 0 (σ)) ∨ (xWater σ w what = some cIO ∧ MS κ L' f' mm 1 σ)))) := by
  refine k_head RX8 [(0, .ref mm), (1, .int (iI w)), (2, .int (iI what))] rfl (by decide) (Nat.le_of_ble_eq_true rfl) rfl (fun θ hθ hin => ?_)
  obtain ⟨A, fr, wts, RA, PE, OF, TA, RT, RH, HS, TI, ⟨cmm, c0, c1, c2, c3, c4, c5, c6, c7⟩, ⟨hMa, hMb, hMc, hMd⟩, hfrs⟩ := id hM
  obtain ⟨hs1, ⟨hs2, hs3⟩, hs4⟩ := id hs
  have hs5 := hs1.2.1
  have hs6 := hs4.1
  have hs7 := nW_le (hT σ.1)
  have hs8 := hs1.1
  obtain ⟨hwl, hwu⟩ := id hw
  obtain ⟨hwhatl, hwhatu⟩ := id hwhat
  refine k_aload_n 0 0 dX8_water_0 rfl rfl ?_
  refine k_iconst dX8_water_1 ?_
  refine k_put 0 [.int (iI 0), .int (iI (σ.1.2.1 : Int)), .ref (A 0), .ref (A 1), .ref (A 2), .int (iI σ.1.1), .int (iI (σ.2.1 : Int)), .ref (A 3), .int (iI (σ.2.2.2.1 : Int)), .ref (A 4), .ref (A 5), .int (iI (bI fr)), .ref (A 6), .int (iI wts), .ref (A 7)] i_X8 tyX8_ok nmX8 q_783 cmm rfl (by decide) rfl rfl rfl rfl (Nat.le_of_ble_eq_true rfl) rfl dX8_water_2 (fun f1 hf1 hc1 => ?_)
  have hr1 := k_fr.put hf1 cmm
  replace c0 := c0.fr hr1 rfl
  replace c1 := c1.fr hr1 rfl
  replace c2 := c2.fr hr1 rfl
  replace c3 := c3.fr hr1 rfl
  replace c4 := c4.fr hr1 rfl
  replace c5 := c5.fr hr1 rfl
  replace c6 := c6.fr hr1 rfl
  replace c7 := c7.fr hr1 rfl
  replace cmm : Cl L f1 mm (21, .inr (9, [.int (iI 0), .int (iI (σ.1.2.1 : Int)), .ref (A 0), .ref (A 1), .ref (A 2), .int (iI σ.1.1), .int (iI (σ.2.1 : Int)), .ref (A 3), .int (iI (σ.2.2.2.1 : Int)), .ref (A 4), .ref (A 5), .int (iI (bI fr)), .ref (A 6), .int (iI wts), .ref (A 7)])) := hc1
  have hM0 : MS κ L f1 mm 0 σ := ⟨A, fr, wts, RA, PE, OF, TA, RT, RH, HS, TI, ⟨cmm, c0, c1, c2, c3, c4, c5, c6, c7⟩, ⟨hMa, hMb, hMc, hMd⟩, hfrs⟩
  replace hM := hM0
  refine k_aload_n 0 0 dX8_water_5 rfl rfl ?_
  refine k_useU (k_runV (c_X8_find θ.2.1 κ (σ := σ) (mm := mm) hM hs) w_X8_90 ⟨q_872, q_20⟩ rfl rfl cmm rfl ⟨(Nat.le_of_ble_eq_true rfl), (Nat.le_of_ble_eq_true rfl)⟩ (Nat.le_of_ble_eq_true rfl) dX8_water_6) ⟨(Nat.le_of_ble_eq_true rfl), (Nat.le_of_ble_eq_true rfl)⟩ (fun Lq fq hwq => ?_)
  obtain ⟨eq9, hMf, hrF⟩ := hwq
  replace eq9 := eq9.symm
  subst eq9
  obtain ⟨A, RA, PE, OF, TA, RT, RH, HS, TI, ⟨cmm, c0, c1, c2, c3, c4, c5, c6, c7⟩, ⟨hMa, hMb, hMc, hMd⟩, hHS, hTI⟩ := id hMf
  refine k_iload_n 1 1 dX8_water_9 rfl rfl ?_
  refine k_i2l dX8_water_10 (inI_mk (by omega) (by omega)) ?_
  refine k_lconst 0 dX8_water_11 (by decide) ?_
  refine k_aload_n 0 0 dX8_water_12 rfl rfl ?_
  refine k_get 13 i_X8 q_796 cmm rfl (by decide) rfl dX8_water_13 ?_
  refine k_iconst dX8_water_16 ?_
  refine k_isub dX8_water_17 ?_
  refine k_i2l dX8_water_18 (inI_mk (by omega) (by omega)) ?_
  refine k_useR (k_runS (c_X8_isIn θ.2.1 κ (v := w) (a := 0) (b := ((nW (hT σ.1) : Int) - 1)) (inL_mk (by omega) (by omega)) (inL_mk (by omega) (by omega)) (inL_mk (by omega) (by omega))) w_X8_41 q_840 rfl rfl ⟨(Nat.le_of_ble_eq_true rfl), (Nat.le_of_ble_eq_true rfl)⟩ (Nat.le_of_ble_eq_true rfl) dX8_water_19) ⟨(Nat.le_of_ble_eq_true rfl), (Nat.le_of_ble_eq_true rfl)⟩ ?_
  refine k_ifb_eq 46 dX8_water_22 (by decide) (fun h22 => ?_) (fun h22 => ?_)
  · have hd22 := of_decide_eq_false h22
    refine k_aload_n 0 0 dX8_water_46 rfl rfl ?_
    refine k_iconst dX8_water_47 ?_
    refine k_useV (k_runV (c_X8_fail θ.2.1 κ (mm := mm) (k := 1) hMf.ms) w_X8_57 ⟨q_846, q_18⟩ rfl rfl cmm rfl ⟨(Nat.le_of_ble_eq_true rfl), (Nat.le_of_ble_eq_true rfl)⟩ (Nat.le_of_ble_eq_true rfl) dX8_water_48) ⟨(Nat.le_of_ble_eq_true rfl), (Nat.le_of_ble_eq_true rfl)⟩ (fun w9 Lx fx hw9 => ?_)
    obtain ⟨rfl, ex9, hMx, hrx⟩ := hw9
    replace ex9 := ex9.symm
    subst ex9
    exact k_iret dX8_water_51 rfl (Nat.le_of_ble_eq_true rfl) (Nat.le_of_ble_eq_true rfl) (⟨_, rfl, _, rfl, rfl, (k_fr.trans (k_fr.trans (k_fr.mono hr1 (SM_of rfl)) hrF idf idf) hrx idf idf), Or.inr (⟨(by rw [xWater, if_neg (by omega)]), hMx⟩)⟩)
  · have hd22 := of_decide_eq_true h22
    refine k_iload_n 2 2 dX8_water_25 rfl rfl ?_
    refine k_i2l dX8_water_26 (inI_mk (by omega) (by omega)) ?_
    refine k_lconst 0 dX8_water_27 (by decide) ?_
    refine k_ldc2 2 q_878 (by decide) dX8_water_28 ?_
    refine k_useR (k_runS (c_X8_isIn θ.2.1 κ (v := what) (a := 0) (b := 2) (inL_mk (by omega) (by omega)) (inL_mk (by omega) (by omega)) (inL_mk (by omega) (by omega))) w_X8_41 q_840 rfl rfl ⟨(Nat.le_of_ble_eq_true rfl), (Nat.le_of_ble_eq_true rfl)⟩ (Nat.le_of_ble_eq_true rfl) dX8_water_31) ⟨(Nat.le_of_ble_eq_true rfl), (Nat.le_of_ble_eq_true rfl)⟩ ?_
    refine k_ifb_eq 46 dX8_water_34 (by decide) (fun h34 => ?_) (fun h34 => ?_)
    · have hd34 := of_decide_eq_false h34
      refine k_aload_n 0 0 dX8_water_46 rfl rfl ?_
      refine k_iconst dX8_water_47 ?_
      refine k_useV (k_runV (c_X8_fail θ.2.1 κ (mm := mm) (k := 1) hMf.ms) w_X8_57 ⟨q_846, q_18⟩ rfl rfl cmm rfl ⟨(Nat.le_of_ble_eq_true rfl), (Nat.le_of_ble_eq_true rfl)⟩ (Nat.le_of_ble_eq_true rfl) dX8_water_48) ⟨(Nat.le_of_ble_eq_true rfl), (Nat.le_of_ble_eq_true rfl)⟩ (fun w9 Lx fx hw9 => ?_)
      obtain ⟨rfl, ex9, hMx, hrx⟩ := hw9
      replace ex9 := ex9.symm
      subst ex9
      exact k_iret dX8_water_51 rfl (Nat.le_of_ble_eq_true rfl) (Nat.le_of_ble_eq_true rfl) (⟨_, rfl, _, rfl, rfl, (k_fr.trans (k_fr.trans (k_fr.mono hr1 (SM_of rfl)) hrF idf idf) hrx idf idf), Or.inr (⟨(by rw [xWater, if_pos (by omega), if_neg (by omega)]), hMx⟩)⟩)
    · have hd34 := of_decide_eq_true h34
      obtain ⟨wn, rfl⟩ : ∃ wn : Nat, w = (wn : Int) := ⟨w.toNat, by omega⟩
      refine k_aload_n 0 0 dX8_water_37 rfl rfl ?_
      refine k_iload_n 1 1 dX8_water_38 rfl rfl ?_
      refine k_iload_n 2 2 dX8_water_39 rfl rfl ?_
      refine k_useR (k_runV (c_X8_waterTold θ.2.1 κ (k := wn) (mm := mm) (what := what) hMf hs (by omega) (by omega)) w_X8_104 ⟨q_899, q_23⟩ rfl rfl cmm rfl ⟨(Nat.le_of_ble_eq_true rfl), (Nat.le_of_ble_eq_true rfl)⟩ (Nat.le_of_ble_eq_true rfl) dX8_water_40) ⟨(Nat.le_of_ble_eq_true rfl), (Nat.le_of_ble_eq_true rfl)⟩ ?_
      refine k_goto 51 dX8_water_43 (by decide) ?_
      exact k_iret dX8_water_51 rfl (Nat.le_of_ble_eq_true rfl) (Nat.le_of_ble_eq_true rfl) (⟨_, rfl, _, rfl, rfl, (k_fr.trans (k_fr.mono hr1 (SM_of rfl)) hrF idf idf), Or.inl ⟨(by rw [xWater, if_pos (by omega), if_pos (by omega)]), rfl, hMf.ms⟩⟩)
set_option maxHeartbeats 4000000 in
set_option maxRecDepth 100000 in
theorem c_X8_next (la : Launch) (κ : Kx) {L : List Nat} {f : Nat → wE} {mm : Nat} {thr : Int} {σ : Sg} {t : Int} {b : Bool}   (hM : MS κ L f mm thr σ) (hs : SgOk σ) (ht : inI t) : k_M la κ yX8_next cX8_next 4 (some .int) 6 0 0 [.ref mm, .int (iI t), .int (iI (bI b))] L f (k_rn (fun v9 L' f' => ∃ v : Int, v9 = .int (iI v) ∧ L' = L ∧ k_fr SM L f L' f' ∧ ((xHeight t = none ∧ v = nextW (hT σ.1) t b 4320 0 ∧ MS κ L' f' mm 0 (σ)) ∨ (xHeight t = some cIA ∧ MS κ L' f' mm 1 σ)))) := by
  refine k_head RX8 [(0, .ref mm), (1, .int (iI t)), (2, .int (iI (bI b)))] rfl (by decide) (Nat.le_of_ble_eq_true rfl) rfl (fun θ hθ hin => ?_)
  obtain ⟨A, fr, wts, RA, PE, OF, TA, RT, RH, HS, TI, ⟨cmm, c0, c1, c2, c3, c4, c5, c6, c7⟩, ⟨hMa, hMb, hMc, hMd⟩, hfrs⟩ := id hM
  obtain ⟨hs1, ⟨hs2, hs3⟩, hs4⟩ := id hs
  have hs5 := hs1.2.1
  have hs6 := hs4.1
  have hs7 := nW_le (hT σ.1)
  have hs8 := hs1.1
  obtain ⟨htl, htu⟩ := id ht
  refine k_aload_n 0 0 dX8_next_0 rfl rfl ?_
  refine k_iconst dX8_next_1 ?_
  refine k_put 0 [.int (iI 0), .int (iI (σ.1.2.1 : Int)), .ref (A 0), .ref (A 1), .ref (A 2), .int (iI σ.1.1), .int (iI (σ.2.1 : Int)), .ref (A 3), .int (iI (σ.2.2.2.1 : Int)), .ref (A 4), .ref (A 5), .int (iI (bI fr)), .ref (A 6), .int (iI wts), .ref (A 7)] i_X8 tyX8_ok nmX8 q_783 cmm rfl (by decide) rfl rfl rfl rfl (Nat.le_of_ble_eq_true rfl) rfl dX8_next_2 (fun f1 hf1 hc1 => ?_)
  have hr1 := k_fr.put hf1 cmm
  replace c0 := c0.fr hr1 rfl
  replace c1 := c1.fr hr1 rfl
  replace c2 := c2.fr hr1 rfl
  replace c3 := c3.fr hr1 rfl
  replace c4 := c4.fr hr1 rfl
  replace c5 := c5.fr hr1 rfl
  replace c6 := c6.fr hr1 rfl
  replace c7 := c7.fr hr1 rfl
  replace cmm : Cl L f1 mm (21, .inr (9, [.int (iI 0), .int (iI (σ.1.2.1 : Int)), .ref (A 0), .ref (A 1), .ref (A 2), .int (iI σ.1.1), .int (iI (σ.2.1 : Int)), .ref (A 3), .int (iI (σ.2.2.2.1 : Int)), .ref (A 4), .ref (A 5), .int (iI (bI fr)), .ref (A 6), .int (iI wts), .ref (A 7)])) := hc1
  have hM0 : MS κ L f1 mm 0 σ := ⟨A, fr, wts, RA, PE, OF, TA, RT, RH, HS, TI, ⟨cmm, c0, c1, c2, c3, c4, c5, c6, c7⟩, ⟨hMa, hMb, hMc, hMd⟩, hfrs⟩
  replace hM := hM0
  refine k_iload_n 1 1 dX8_next_5 rfl rfl ?_
  refine k_useR (k_runS (c_X8_isTime θ.2.1 κ (t := t) (inI_mk (by omega) (by omega))) w_X8_87 q_867 rfl rfl ⟨(Nat.le_of_ble_eq_true rfl), (Nat.le_of_ble_eq_true rfl)⟩ (Nat.le_of_ble_eq_true rfl) dX8_next_6) ⟨(Nat.le_of_ble_eq_true rfl), (Nat.le_of_ble_eq_true rfl)⟩ ?_
  refine k_ifb_ne 18 dX8_next_9 (by decide) (fun h9 => ?_) (fun h9 => ?_)
  · have hd9 := of_decide_eq_true h9
    refine k_aload_n 0 0 dX8_next_18 rfl rfl ?_
    refine k_useU (k_runV (c_X8_find θ.2.1 κ (σ := σ) (mm := mm) hM hs) w_X8_90 ⟨q_872, q_20⟩ rfl rfl cmm rfl ⟨(Nat.le_of_ble_eq_true rfl), (Nat.le_of_ble_eq_true rfl)⟩ (Nat.le_of_ble_eq_true rfl) dX8_next_19) ⟨(Nat.le_of_ble_eq_true rfl), (Nat.le_of_ble_eq_true rfl)⟩ (fun Lq fq hwq => ?_)
    obtain ⟨eq9, hMf, hrF⟩ := hwq
    replace eq9 := eq9.symm
    subst eq9
    obtain ⟨A, RA, PE, OF, TA, RT, RH, HS, TI, ⟨cmm, c0, c1, c2, c3, c4, c5, c6, c7⟩, ⟨hMa, hMb, hMc, hMd⟩, hHS, hTI⟩ := id hMf
    refine k_iconst dX8_next_22 ?_
    refine k_istore_n 3 [(3, .int (iI 0)), (0, .ref mm), (1, .int (iI t)), (2, .int (iI (bI b)))] dX8_next_23 rfl (by decide) rfl ?_
    have lp24 : ∀ (fuel : Nat) (k : Nat), (k ≤ nW (hT σ.1)) → (nextW (hT σ.1) t b 4320 0 = nextW (hT σ.1) t b (4320 - k) k) → nW (hT σ.1) - k < fuel → k_G θ κ cX8_next 4 (some .int) RX8 (k_rm 6 0 0) (k_MQ θ κ (k_rn (fun v9 L' f' => ∃ v : Int, v9 = .int (iI v) ∧ L' = L ∧ k_fr SM L f L' f' ∧ ((xHeight t = none ∧ v = nextW (hT σ.1) t b 4320 0 ∧ MS κ L' f' mm 0 (σ)) ∨ (xHeight t = some cIA ∧ MS κ L' f' mm 1 σ)))) 0 0) L fq 0 0 24 [(0, .ref mm), (1, .int (iI t)), (2, .int (iI (bI b))), (3, .int (iI (k : Int)))] [] := by
      intro fuel
      induction fuel with
      | zero =>
        intro k hk hnx hfu
        exact absurd hfu (Nat.not_lt_zero _)
      | succ fuel ih24 =>
        intro k hk hnx hfu
        refine k_iload_n 3 3 dX8_next_24 rfl rfl ?_
        refine k_aload_n 0 0 dX8_next_25 rfl rfl ?_
        refine k_get 13 i_X8 q_796 cmm rfl (by decide) rfl dX8_next_26 ?_
        refine k_icmp_ge 59 dX8_next_29 (by decide) (inI_mk (by omega) (by omega)) (inI_mk (by omega) (by omega)) (fun h29 => ?_) (fun h29 => ?_)
        · refine k_iconst dX8_next_59 ?_
          exact k_iret dX8_next_60 rfl (Nat.le_of_ble_eq_true rfl) (Nat.le_of_ble_eq_true rfl) (⟨_, rfl, _, rfl, rfl, (k_fr.trans (k_fr.mono hr1 (SM_of rfl)) hrF idf idf), Or.inl ⟨(by rw [xHeight, if_pos (by omega)]), (by rw [hnx, nextW_end (by omega)]), hMf.ms⟩⟩)
        · have tm1 := (tm_spec (h := (hT σ.1)) (k := k) (by omega)).1
          have hx1 := hT_bd hs1 (tm (hT σ.1) k)
          refine k_aload_n 0 0 dX8_next_32 rfl rfl ?_
          refine k_get 14 i_X8 q_797 cmm rfl (by decide) rfl dX8_next_33 ?_
          refine k_iload_n 3 3 dX8_next_36 rfl rfl ?_
          refine k_iald k c7 rfl (by omega) (by omega) dX8_next_37 ?_
          refine k_topi ((tm (hT σ.1) k) : Int) (hTI k (by omega)) ?_
          refine k_iload_n 1 1 dX8_next_38 rfl rfl ?_
          refine k_icmp_lt 53 dX8_next_39 (by decide) (inI_mk (by omega) (by omega)) (inI_mk (by omega) (by omega)) (fun h39 => ?_) (fun h39 => ?_)
          · refine k_iinc 3 [(3, .int (iI ((k : Int) + 1))), (0, .ref mm), (1, .int (iI t)), (2, .int (iI (bI b)))] dX8_next_53 rfl (by decide) rfl ?_
            refine k_goto 24 dX8_next_56 (by decide) ?_
            refine k_perm [1, 2, 3, 0] [(0, .ref mm), (1, .int (iI t)), (2, .int (iI (bI b))), (3, .int (iI ((k : Int) + 1)))] rfl ?_
            exact ih24 (k + 1) (by omega) (hnx.trans (by rw [nextW_go (by omega) (fun q9 => absurd q9.1 (by omega)) (by omega), show 4320 - k - 1 = 4320 - (k + 1) by omega])) (by omega)
          · refine k_aload_n 0 0 dX8_next_42 rfl rfl ?_
            refine k_iload_n 3 3 dX8_next_43 rfl rfl ?_
            refine k_useR (k_runV (c_X8_isHigh θ.2.1 κ (k := k) (mm := mm) hMf hs (by omega)) w_X8_101 ⟨q_903, q_24⟩ rfl rfl cmm rfl ⟨(Nat.le_of_ble_eq_true rfl), (Nat.le_of_ble_eq_true rfl)⟩ (Nat.le_of_ble_eq_true rfl) dX8_next_44) ⟨(Nat.le_of_ble_eq_true rfl), (Nat.le_of_ble_eq_true rfl)⟩ ?_
            refine k_iload_n 2 2 dX8_next_47 rfl rfl ?_
            refine k_icmp_ne 53 dX8_next_48 (by decide) (bI_in _) (bI_in _) (fun h48 => ?_) (fun h48 => ?_)
            · refine k_iinc 3 [(3, .int (iI ((k : Int) + 1))), (0, .ref mm), (1, .int (iI t)), (2, .int (iI (bI b)))] dX8_next_53 rfl (by decide) rfl ?_
              refine k_goto 24 dX8_next_56 (by decide) ?_
              refine k_perm [1, 2, 3, 0] [(0, .ref mm), (1, .int (iI t)), (2, .int (iI (bI b))), (3, .int (iI ((k : Int) + 1)))] rfl ?_
              exact ih24 (k + 1) (by omega) (hnx.trans (by rw [nextW_go (by omega) (fun q9 => h48 (congrArg bI q9.2)) (by omega), show 4320 - k - 1 = 4320 - (k + 1) by omega])) (by omega)
            · refine k_iload_n 3 3 dX8_next_51 rfl rfl ?_
              exact k_iret dX8_next_52 rfl (Nat.le_of_ble_eq_true rfl) (Nat.le_of_ble_eq_true rfl) (⟨_, rfl, _, rfl, rfl, (k_fr.trans (k_fr.mono hr1 (SM_of rfl)) hrF idf idf), Or.inl ⟨(by rw [xHeight, if_pos (by omega)]), (by rw [hnx, nextW_hit (by omega) (by omega) (bI_inj h48) (by omega)]), hMf.ms⟩⟩)
    refine k_perm [1, 2, 3, 0] [(0, .ref mm), (1, .int (iI t)), (2, .int (iI (bI b))), (3, .int (iI 0))] rfl ?_
    exact lp24 _ 0 (Nat.zero_le _) rfl (Nat.lt_succ_self _)
  · have hd9 := of_decide_eq_false h9
    refine k_aload_n 0 0 dX8_next_12 rfl rfl ?_
    refine k_iconst dX8_next_13 ?_
    refine k_useV (k_runV (c_X8_fail θ.2.1 κ (mm := mm) (k := 1) hM) w_X8_57 ⟨q_846, q_18⟩ rfl rfl cmm rfl ⟨(Nat.le_of_ble_eq_true rfl), (Nat.le_of_ble_eq_true rfl)⟩ (Nat.le_of_ble_eq_true rfl) dX8_next_14) ⟨(Nat.le_of_ble_eq_true rfl), (Nat.le_of_ble_eq_true rfl)⟩ (fun w9 Lx fx hw9 => ?_)
    obtain ⟨rfl, ex9, hMx, hrx⟩ := hw9
    replace ex9 := ex9.symm
    subst ex9
    exact k_iret dX8_next_17 rfl (Nat.le_of_ble_eq_true rfl) (Nat.le_of_ble_eq_true rfl) (⟨_, rfl, _, rfl, rfl, (k_fr.trans (k_fr.mono hr1 (SM_of rfl)) hrx idf idf), Or.inr (⟨(by rw [xHeight, if_neg (by omega)]), hMx⟩)⟩)
set_option maxHeartbeats 4000000 in
set_option maxRecDepth 100000 in
theorem c_X8_datum (la : Launch) (κ : Kx) {L : List Nat} {f : Nat → wE} {mm : Nat} {thr : Int} {σ : Sg} {what : Int}   (hM : MS κ L f mm thr σ) (hs : SgOk σ) (hwhat : inI what) : k_M la κ yX8_datum cX8_datum 2 (some .int) 7 0 0 [.ref mm, .int (iI what)] L f (k_rn (fun v9 L' f' => ∃ v : Int, v9 = .int (iI v) ∧ L' = L ∧ k_fr SM L f L' f' ∧ ((xDatum what = none ∧ v = dat (hT σ.1) what ∧ MS κ L' f' mm 0 (σ)) ∨ (xDatum what = some cIO ∧ MS κ L' f' mm 1 σ)))) := by
  refine k_head RX8 [(0, .ref mm), (1, .int (iI what))] rfl (by decide) (Nat.le_of_ble_eq_true rfl) rfl (fun θ hθ hin => ?_)
  obtain ⟨A, fr, wts, RA, PE, OF, TA, RT, RH, HS, TI, ⟨cmm, c0, c1, c2, c3, c4, c5, c6, c7⟩, ⟨hMa, hMb, hMc, hMd⟩, hfrs⟩ := id hM
  obtain ⟨hs1, ⟨hs2, hs3⟩, hs4⟩ := id hs
  have hs5 := hs1.2.1
  have hs6 := hs4.1
  have hs7 := nW_le (hT σ.1)
  have hs8 := hs1.1
  obtain ⟨hwhatl, hwhatu⟩ := id hwhat
  refine k_aload_n 0 0 dX8_datum_0 rfl rfl ?_
  refine k_iconst dX8_datum_1 ?_
  refine k_put 0 [.int (iI 0), .int (iI (σ.1.2.1 : Int)), .ref (A 0), .ref (A 1), .ref (A 2), .int (iI σ.1.1), .int (iI (σ.2.1 : Int)), .ref (A 3), .int (iI (σ.2.2.2.1 : Int)), .ref (A 4), .ref (A 5), .int (iI (bI fr)), .ref (A 6), .int (iI wts), .ref (A 7)] i_X8 tyX8_ok nmX8 q_783 cmm rfl (by decide) rfl rfl rfl rfl (Nat.le_of_ble_eq_true rfl) rfl dX8_datum_2 (fun f1 hf1 hc1 => ?_)
  have hr1 := k_fr.put hf1 cmm
  replace c0 := c0.fr hr1 rfl
  replace c1 := c1.fr hr1 rfl
  replace c2 := c2.fr hr1 rfl
  replace c3 := c3.fr hr1 rfl
  replace c4 := c4.fr hr1 rfl
  replace c5 := c5.fr hr1 rfl
  replace c6 := c6.fr hr1 rfl
  replace c7 := c7.fr hr1 rfl
  replace cmm : Cl L f1 mm (21, .inr (9, [.int (iI 0), .int (iI (σ.1.2.1 : Int)), .ref (A 0), .ref (A 1), .ref (A 2), .int (iI σ.1.1), .int (iI (σ.2.1 : Int)), .ref (A 3), .int (iI (σ.2.2.2.1 : Int)), .ref (A 4), .ref (A 5), .int (iI (bI fr)), .ref (A 6), .int (iI wts), .ref (A 7)])) := hc1
  have hM0 : MS κ L f1 mm 0 σ := ⟨A, fr, wts, RA, PE, OF, TA, RT, RH, HS, TI, ⟨cmm, c0, c1, c2, c3, c4, c5, c6, c7⟩, ⟨hMa, hMb, hMc, hMd⟩, hfrs⟩
  replace hM := hM0
  refine k_iload_n 1 1 dX8_datum_5 rfl rfl ?_
  refine k_i2l dX8_datum_6 (inI_mk (by omega) (by omega)) ?_
  refine k_lconst 0 dX8_datum_7 (by decide) ?_
  refine k_ldc2 4 q_879 (by decide) dX8_datum_8 ?_
  refine k_useR (k_runS (c_X8_isIn θ.2.1 κ (v := what) (a := 0) (b := 4) (inL_mk (by omega) (by omega)) (inL_mk (by omega) (by omega)) (inL_mk (by omega) (by omega))) w_X8_41 q_840 rfl rfl ⟨(Nat.le_of_ble_eq_true rfl), (Nat.le_of_ble_eq_true rfl)⟩ (Nat.le_of_ble_eq_true rfl) dX8_datum_11) ⟨(Nat.le_of_ble_eq_true rfl), (Nat.le_of_ble_eq_true rfl)⟩ ?_
  refine k_ifb_eq 25 dX8_datum_14 (by decide) (fun h14 => ?_) (fun h14 => ?_)
  · have hd14 := of_decide_eq_false h14
    refine k_aload_n 0 0 dX8_datum_25 rfl rfl ?_
    refine k_iconst dX8_datum_26 ?_
    refine k_useV (k_runV (c_X8_fail θ.2.1 κ (mm := mm) (k := 1) hM) w_X8_57 ⟨q_846, q_18⟩ rfl rfl cmm rfl ⟨(Nat.le_of_ble_eq_true rfl), (Nat.le_of_ble_eq_true rfl)⟩ (Nat.le_of_ble_eq_true rfl) dX8_datum_27) ⟨(Nat.le_of_ble_eq_true rfl), (Nat.le_of_ble_eq_true rfl)⟩ (fun w9 Lx fx hw9 => ?_)
    obtain ⟨rfl, ex9, hMx, hrx⟩ := hw9
    replace ex9 := ex9.symm
    subst ex9
    exact k_iret dX8_datum_30 rfl (Nat.le_of_ble_eq_true rfl) (Nat.le_of_ble_eq_true rfl) (⟨_, rfl, _, rfl, rfl, (k_fr.trans (k_fr.mono hr1 (SM_of rfl)) hrx idf idf), Or.inr (⟨(by rw [xDatum, if_neg (by omega)]), hMx⟩)⟩)
  · have hd14 := of_decide_eq_true h14
    refine k_aload_n 0 0 dX8_datum_17 rfl rfl ?_
    refine k_iload_n 1 1 dX8_datum_18 rfl rfl ?_
    refine k_useV (k_runV (c_X8_datumOf θ.2.1 κ (mm := mm) (what := what) hM hs (by omega)) w_X8_130 ⟨q_915, q_25⟩ rfl rfl cmm rfl ⟨(Nat.le_of_ble_eq_true rfl), (Nat.le_of_ble_eq_true rfl)⟩ (Nat.le_of_ble_eq_true rfl) dX8_datum_19) ⟨(Nat.le_of_ble_eq_true rfl), (Nat.le_of_ble_eq_true rfl)⟩ (fun w9 Lq fq hwq => ?_)
    obtain ⟨rfl, eq9, hMf, hrF⟩ := hwq
    replace eq9 := eq9.symm
    subst eq9
    obtain ⟨A, RA, PE, OF, TA, RT, RH, HS, TI, ⟨cmm, c0, c1, c2, c3, c4, c5, c6, c7⟩, ⟨hMa, hMb, hMc, hMd⟩, hHS, hTI⟩ := id hMf
    refine k_goto 30 dX8_datum_22 (by decide) ?_
    exact k_iret dX8_datum_30 rfl (Nat.le_of_ble_eq_true rfl) (Nat.le_of_ble_eq_true rfl) (⟨_, rfl, _, rfl, rfl, (k_fr.trans (k_fr.mono hr1 (SM_of rfl)) hrF idf idf), Or.inl ⟨(by rw [xDatum, if_pos (by omega)]), rfl, hMf.ms⟩⟩)
set_option maxHeartbeats 4000000 in
set_option maxRecDepth 100000 in
theorem c_X8_portWater (la : Launch) (κ : Kx) {L : List Nat} {f : Nat → wE} {mm : Nat} {thr : Int} {σ : Sg} {p w : Int} {b : Bool}   (hM : MS κ L f mm thr σ) (hs : SgOk σ) (hp : inI p) (hw : inI w) : k_M la κ yX8_portWater cX8_portWater 4 (some .int) 6 0 0 [.ref mm, .int (iI p), .int (iI w), .int (iI (bI b))] L f (k_rn (fun v9 L' f' => ∃ v : Int, v9 = .int (iI v) ∧ L' = L ∧ k_fr SM L f L' f' ∧ ((xPortWater σ p w = none ∧ v = aPortWater (hT σ.1) (σ.2.2.1 p.toNat) w.toNat b ∧ MS κ L' f' mm 0 (σ)) ∨ (xPortWater σ p w = some cIO ∧ MS κ L' f' mm 1 σ)))) := by
  refine k_head RX8 [(0, .ref mm), (1, .int (iI p)), (2, .int (iI w)), (3, .int (iI (bI b)))] rfl (by decide) (Nat.le_of_ble_eq_true rfl) rfl (fun θ hθ hin => ?_)
  obtain ⟨A, fr, wts, RA, PE, OF, TA, RT, RH, HS, TI, ⟨cmm, c0, c1, c2, c3, c4, c5, c6, c7⟩, ⟨hMa, hMb, hMc, hMd⟩, hfrs⟩ := id hM
  obtain ⟨hs1, ⟨hs2, hs3⟩, hs4⟩ := id hs
  have hs5 := hs1.2.1
  have hs6 := hs4.1
  have hs7 := nW_le (hT σ.1)
  have hs8 := hs1.1
  obtain ⟨hpl, hpu⟩ := id hp
  obtain ⟨hwl, hwu⟩ := id hw
  refine k_aload_n 0 0 dX8_portWater_0 rfl rfl ?_
  refine k_iconst dX8_portWater_1 ?_
  refine k_put 0 [.int (iI 0), .int (iI (σ.1.2.1 : Int)), .ref (A 0), .ref (A 1), .ref (A 2), .int (iI σ.1.1), .int (iI (σ.2.1 : Int)), .ref (A 3), .int (iI (σ.2.2.2.1 : Int)), .ref (A 4), .ref (A 5), .int (iI (bI fr)), .ref (A 6), .int (iI wts), .ref (A 7)] i_X8 tyX8_ok nmX8 q_783 cmm rfl (by decide) rfl rfl rfl rfl (Nat.le_of_ble_eq_true rfl) rfl dX8_portWater_2 (fun f1 hf1 hc1 => ?_)
  have hr1 := k_fr.put hf1 cmm
  replace c0 := c0.fr hr1 rfl
  replace c1 := c1.fr hr1 rfl
  replace c2 := c2.fr hr1 rfl
  replace c3 := c3.fr hr1 rfl
  replace c4 := c4.fr hr1 rfl
  replace c5 := c5.fr hr1 rfl
  replace c6 := c6.fr hr1 rfl
  replace c7 := c7.fr hr1 rfl
  replace cmm : Cl L f1 mm (21, .inr (9, [.int (iI 0), .int (iI (σ.1.2.1 : Int)), .ref (A 0), .ref (A 1), .ref (A 2), .int (iI σ.1.1), .int (iI (σ.2.1 : Int)), .ref (A 3), .int (iI (σ.2.2.2.1 : Int)), .ref (A 4), .ref (A 5), .int (iI (bI fr)), .ref (A 6), .int (iI wts), .ref (A 7)])) := hc1
  have hM0 : MS κ L f1 mm 0 σ := ⟨A, fr, wts, RA, PE, OF, TA, RT, RH, HS, TI, ⟨cmm, c0, c1, c2, c3, c4, c5, c6, c7⟩, ⟨hMa, hMb, hMc, hMd⟩, hfrs⟩
  replace hM := hM0
  refine k_aload_n 0 0 dX8_portWater_5 rfl rfl ?_
  refine k_useU (k_runV (c_X8_find θ.2.1 κ (σ := σ) (mm := mm) hM hs) w_X8_90 ⟨q_872, q_20⟩ rfl rfl cmm rfl ⟨(Nat.le_of_ble_eq_true rfl), (Nat.le_of_ble_eq_true rfl)⟩ (Nat.le_of_ble_eq_true rfl) dX8_portWater_6) ⟨(Nat.le_of_ble_eq_true rfl), (Nat.le_of_ble_eq_true rfl)⟩ (fun Lq fq hwq => ?_)
  obtain ⟨eq9, hMf, hrF⟩ := hwq
  replace eq9 := eq9.symm
  subst eq9
  obtain ⟨A, RA, PE, OF, TA, RT, RH, HS, TI, ⟨cmm, c0, c1, c2, c3, c4, c5, c6, c7⟩, ⟨hMa, hMb, hMc, hMd⟩, hHS, hTI⟩ := id hMf
  refine k_aload_n 0 0 dX8_portWater_9 rfl rfl ?_
  refine k_iload_n 1 1 dX8_portWater_10 rfl rfl ?_
  refine k_useR (k_runV (c_X8_isPort θ.2.1 κ (mm := mm) (p := p) hMf.ms hs (inI_mk (by omega) (by omega))) w_X8_133 ⟨q_943, q_29⟩ rfl rfl cmm rfl ⟨(Nat.le_of_ble_eq_true rfl), (Nat.le_of_ble_eq_true rfl)⟩ (Nat.le_of_ble_eq_true rfl) dX8_portWater_11) ⟨(Nat.le_of_ble_eq_true rfl), (Nat.le_of_ble_eq_true rfl)⟩ ?_
  refine k_ifb_eq 33 dX8_portWater_14 (by decide) (fun h14 => ?_) (fun h14 => ?_)
  · have hd14 := of_decide_eq_false h14
    refine k_aload_n 0 0 dX8_portWater_33 rfl rfl ?_
    refine k_iconst dX8_portWater_34 ?_
    refine k_useV (k_runV (c_X8_fail θ.2.1 κ (mm := mm) (k := 1) hMf.ms) w_X8_57 ⟨q_846, q_18⟩ rfl rfl cmm rfl ⟨(Nat.le_of_ble_eq_true rfl), (Nat.le_of_ble_eq_true rfl)⟩ (Nat.le_of_ble_eq_true rfl) dX8_portWater_35) ⟨(Nat.le_of_ble_eq_true rfl), (Nat.le_of_ble_eq_true rfl)⟩ (fun w9 Lx fx hw9 => ?_)
    obtain ⟨rfl, ex9, hMx, hrx⟩ := hw9
    replace ex9 := ex9.symm
    subst ex9
    exact k_iret dX8_portWater_38 rfl (Nat.le_of_ble_eq_true rfl) (Nat.le_of_ble_eq_true rfl) (⟨_, rfl, _, rfl, rfl, (k_fr.trans (k_fr.trans (k_fr.mono hr1 (SM_of rfl)) hrF idf idf) hrx idf idf), Or.inr (⟨(by rw [xPortWater, if_neg (by omega)]), hMx⟩)⟩)
  · have hd14 := of_decide_eq_true h14
    refine k_iload_n 2 2 dX8_portWater_17 rfl rfl ?_
    refine k_i2l dX8_portWater_18 (inI_mk (by omega) (by omega)) ?_
    refine k_lconst 0 dX8_portWater_19 (by decide) ?_
    refine k_aload_n 0 0 dX8_portWater_20 rfl rfl ?_
    refine k_get 13 i_X8 q_796 cmm rfl (by decide) rfl dX8_portWater_21 ?_
    refine k_iconst dX8_portWater_24 ?_
    refine k_isub dX8_portWater_25 ?_
    refine k_i2l dX8_portWater_26 (inI_mk (by omega) (by omega)) ?_
    refine k_useR (k_runS (c_X8_isIn θ.2.1 κ (v := w) (a := 0) (b := ((nW (hT σ.1) : Int) - 1)) (inL_mk (by omega) (by omega)) (inL_mk (by omega) (by omega)) (inL_mk (by omega) (by omega))) w_X8_41 q_840 rfl rfl ⟨(Nat.le_of_ble_eq_true rfl), (Nat.le_of_ble_eq_true rfl)⟩ (Nat.le_of_ble_eq_true rfl) dX8_portWater_27) ⟨(Nat.le_of_ble_eq_true rfl), (Nat.le_of_ble_eq_true rfl)⟩ ?_
    refine k_ifb_ne 39 dX8_portWater_30 (by decide) (fun h30 => ?_) (fun h30 => ?_)
    · have hd30 := of_decide_eq_true h30
      obtain ⟨pn, rfl⟩ : ∃ pn : Nat, p = (pn : Int) := ⟨p.toNat, by omega⟩
      obtain ⟨wn, rfl⟩ : ∃ wn : Nat, w = (wn : Int) := ⟨w.toNat, by omega⟩
      refine k_iload_n 3 3 dX8_portWater_39 rfl rfl ?_
      refine k_ifb_eq 52 dX8_portWater_40 (by decide) (fun h40 => ?_) (fun h40 => ?_)
      · refine k_aload_n 0 0 dX8_portWater_52 rfl rfl ?_
        refine k_iload_n 1 1 dX8_portWater_53 rfl rfl ?_
        refine k_iload_n 2 2 dX8_portWater_54 rfl rfl ?_
        refine k_useR (k_runV (c_X8_heightAt θ.2.1 κ (p := pn) (k := wn) (mm := mm) hMf hs (by omega) (by omega)) w_X8_152 ⟨q_971, q_32⟩ rfl rfl cmm rfl ⟨(Nat.le_of_ble_eq_true rfl), (Nat.le_of_ble_eq_true rfl)⟩ (Nat.le_of_ble_eq_true rfl) dX8_portWater_55) ⟨(Nat.le_of_ble_eq_true rfl), (Nat.le_of_ble_eq_true rfl)⟩ ?_
        refine k_l2i dX8_portWater_58 ?_
        exact k_iret dX8_portWater_59 rfl (Nat.le_of_ble_eq_true rfl) (Nat.le_of_ble_eq_true rfl) (⟨_, rfl, _, rfl, rfl, (k_fr.trans (k_fr.mono hr1 (SM_of rfl)) hrF idf idf), Or.inl ⟨(by rw [xPortWater, if_pos (by omega), if_pos (by omega)]), (by rw [h40]; rfl), hMf.ms⟩⟩)
      · refine k_aload_n 0 0 dX8_portWater_43 rfl rfl ?_
        refine k_iload_n 1 1 dX8_portWater_44 rfl rfl ?_
        refine k_iload_n 2 2 dX8_portWater_45 rfl rfl ?_
        refine k_useR (k_runV (c_X8_timeAt θ.2.1 κ (p := pn) (k := wn) (mm := mm) hMf hs (by omega) (by omega)) w_X8_146 ⟨q_963, q_31⟩ rfl rfl cmm rfl ⟨(Nat.le_of_ble_eq_true rfl), (Nat.le_of_ble_eq_true rfl)⟩ (Nat.le_of_ble_eq_true rfl) dX8_portWater_46) ⟨(Nat.le_of_ble_eq_true rfl), (Nat.le_of_ble_eq_true rfl)⟩ ?_
        refine k_goto 59 dX8_portWater_49 (by decide) ?_
        exact k_iret dX8_portWater_59 rfl (Nat.le_of_ble_eq_true rfl) (Nat.le_of_ble_eq_true rfl) (⟨_, rfl, _, rfl, rfl, (k_fr.trans (k_fr.mono hr1 (SM_of rfl)) hrF idf idf), Or.inl ⟨(by rw [xPortWater, if_pos (by omega), if_pos (by omega)]), (by rw [h40]; rfl), hMf.ms⟩⟩)
    · have hd30 := of_decide_eq_false h30
      refine k_aload_n 0 0 dX8_portWater_33 rfl rfl ?_
      refine k_iconst dX8_portWater_34 ?_
      refine k_useV (k_runV (c_X8_fail θ.2.1 κ (mm := mm) (k := 1) hMf.ms) w_X8_57 ⟨q_846, q_18⟩ rfl rfl cmm rfl ⟨(Nat.le_of_ble_eq_true rfl), (Nat.le_of_ble_eq_true rfl)⟩ (Nat.le_of_ble_eq_true rfl) dX8_portWater_35) ⟨(Nat.le_of_ble_eq_true rfl), (Nat.le_of_ble_eq_true rfl)⟩ (fun w9 Lx fx hw9 => ?_)
      obtain ⟨rfl, ex9, hMx, hrx⟩ := hw9
      replace ex9 := ex9.symm
      subst ex9
      exact k_iret dX8_portWater_38 rfl (Nat.le_of_ble_eq_true rfl) (Nat.le_of_ble_eq_true rfl) (⟨_, rfl, _, rfl, rfl, (k_fr.trans (k_fr.trans (k_fr.mono hr1 (SM_of rfl)) hrF idf idf) hrx idf idf), Or.inr (⟨(by rw [xPortWater, if_pos (by omega), if_neg (by omega)]), hMx⟩)⟩)
set_option maxHeartbeats 4000000 in
set_option maxRecDepth 100000 in
theorem c_X8_setPort (la : Launch) (κ : Kx) {L : List Nat} {f : Nat → wE} {mm : Nat} {thr : Int} {σ : Sg} {p sh fa : Int} {b : Bool}   (hM : MS κ L f mm thr σ) (hs : SgOk σ) (hp : inI p) (hsh : inI sh) (hfa : inI fa) : k_M la κ yX8_setPort cX8_setPort 7 (some .int) 3 0 0 [.ref mm, .int (iI p), .int (iI (bI b)), .int (iI sh), .int (iI fa)] L f (k_rn (fun v9 L' f' => ∃ v : Int, v9 = .int (iI v) ∧ L' = L ∧ k_fr SM L f L' f' ∧ ((xSetPort σ p sh fa = none ∧ v = aSetPort (σ.2.2.1 p.toNat) b ∧ MS κ L' f' mm 0 (sSetPort σ p b sh fa)) ∨ (xSetPort σ p sh fa = some cIO ∧ MS κ L' f' mm 1 σ) ∨ (xSetPort σ p sh fa = some cIA ∧ MS κ L' f' mm 2 σ)))) := by
  refine k_head RX8 [(0, .ref mm), (1, .int (iI p)), (2, .int (iI (bI b))), (3, .int (iI sh)), (4, .int (iI fa))] rfl (by decide) (Nat.le_of_ble_eq_true rfl) rfl (fun θ hθ hin => ?_)
  obtain ⟨A, fr, wts, RA, PE, OF, TA, RT, RH, HS, TI, ⟨cmm, c0, c1, c2, c3, c4, c5, c6, c7⟩, ⟨hMa, hMb, hMc, hMd⟩, hfrs⟩ := id hM
  obtain ⟨hs1, ⟨hs2, hs3⟩, hs4⟩ := id hs
  have hs5 := hs1.2.1
  have hs6 := hs4.1
  have hs7 := nW_le (hT σ.1)
  have hs8 := hs1.1
  obtain ⟨hpl, hpu⟩ := id hp
  obtain ⟨hshl, hshu⟩ := id hsh
  obtain ⟨hfal, hfau⟩ := id hfa
  refine k_aload_n 0 0 dX8_setPort_0 rfl rfl ?_
  refine k_iconst dX8_setPort_1 ?_
  refine k_put 0 [.int (iI 0), .int (iI (σ.1.2.1 : Int)), .ref (A 0), .ref (A 1), .ref (A 2), .int (iI σ.1.1), .int (iI (σ.2.1 : Int)), .ref (A 3), .int (iI (σ.2.2.2.1 : Int)), .ref (A 4), .ref (A 5), .int (iI (bI fr)), .ref (A 6), .int (iI wts), .ref (A 7)] i_X8 tyX8_ok nmX8 q_783 cmm rfl (by decide) rfl rfl rfl rfl (Nat.le_of_ble_eq_true rfl) rfl dX8_setPort_2 (fun f1 hf1 hc1 => ?_)
  have hr1 := k_fr.put hf1 cmm
  replace c0 := c0.fr hr1 rfl
  replace c1 := c1.fr hr1 rfl
  replace c2 := c2.fr hr1 rfl
  replace c3 := c3.fr hr1 rfl
  replace c4 := c4.fr hr1 rfl
  replace c5 := c5.fr hr1 rfl
  replace c6 := c6.fr hr1 rfl
  replace c7 := c7.fr hr1 rfl
  replace cmm : Cl L f1 mm (21, .inr (9, [.int (iI 0), .int (iI (σ.1.2.1 : Int)), .ref (A 0), .ref (A 1), .ref (A 2), .int (iI σ.1.1), .int (iI (σ.2.1 : Int)), .ref (A 3), .int (iI (σ.2.2.2.1 : Int)), .ref (A 4), .ref (A 5), .int (iI (bI fr)), .ref (A 6), .int (iI wts), .ref (A 7)])) := hc1
  have hM0 : MS κ L f1 mm 0 σ := ⟨A, fr, wts, RA, PE, OF, TA, RT, RH, HS, TI, ⟨cmm, c0, c1, c2, c3, c4, c5, c6, c7⟩, ⟨hMa, hMb, hMc, hMd⟩, hfrs⟩
  replace hM := hM0
  refine k_aload_n 0 0 dX8_setPort_5 rfl rfl ?_
  refine k_iload_n 1 1 dX8_setPort_6 rfl rfl ?_
  refine k_useR (k_runV (c_X8_isPort θ.2.1 κ (mm := mm) (p := p) hM hs (inI_mk (by omega) (by omega))) w_X8_133 ⟨q_943, q_29⟩ rfl rfl cmm rfl ⟨(Nat.le_of_ble_eq_true rfl), (Nat.le_of_ble_eq_true rfl)⟩ (Nat.le_of_ble_eq_true rfl) dX8_setPort_7) ⟨(Nat.le_of_ble_eq_true rfl), (Nat.le_of_ble_eq_true rfl)⟩ ?_
  refine k_ifb_ne 19 dX8_setPort_10 (by decide) (fun h10 => ?_) (fun h10 => ?_)
  · have hd10 := of_decide_eq_true h10
    refine k_iload_n 3 3 dX8_setPort_19 rfl rfl ?_
    refine k_i2l dX8_setPort_20 (inI_mk (by omega) (by omega)) ?_
    refine k_ldc2 (-300) q_945 (by decide) dX8_setPort_21 ?_
    refine k_ldc2 300 q_946 (by decide) dX8_setPort_24 ?_
    refine k_useR (k_runS (c_X8_isIn θ.2.1 κ (v := sh) (a := (-300)) (b := 300) (inL_mk (by omega) (by omega)) (inL_mk (by omega) (by omega)) (inL_mk (by omega) (by omega))) w_X8_41 q_840 rfl rfl ⟨(Nat.le_of_ble_eq_true rfl), (Nat.le_of_ble_eq_true rfl)⟩ (Nat.le_of_ble_eq_true rfl) dX8_setPort_27) ⟨(Nat.le_of_ble_eq_true rfl), (Nat.le_of_ble_eq_true rfl)⟩ ?_
    refine k_ifb_eq 46 dX8_setPort_30 (by decide) (fun h30 => ?_) (fun h30 => ?_)
    · have hd30 := of_decide_eq_false h30
      refine k_aload_n 0 0 dX8_setPort_46 rfl rfl ?_
      refine k_iconst dX8_setPort_47 ?_
      refine k_useV (k_runV (c_X8_fail θ.2.1 κ (mm := mm) (k := 2) hM) w_X8_57 ⟨q_846, q_18⟩ rfl rfl cmm rfl ⟨(Nat.le_of_ble_eq_true rfl), (Nat.le_of_ble_eq_true rfl)⟩ (Nat.le_of_ble_eq_true rfl) dX8_setPort_48) ⟨(Nat.le_of_ble_eq_true rfl), (Nat.le_of_ble_eq_true rfl)⟩ (fun w9 Lx fx hw9 => ?_)
      obtain ⟨rfl, ex9, hMx, hrx⟩ := hw9
      replace ex9 := ex9.symm
      subst ex9
      exact k_iret dX8_setPort_51 rfl (Nat.le_of_ble_eq_true rfl) (Nat.le_of_ble_eq_true rfl) (⟨_, rfl, _, rfl, rfl, (k_fr.trans (k_fr.mono hr1 (SM_of rfl)) hrx idf idf), Or.inr (Or.inr (⟨(by rw [xSetPort, if_pos (by omega), if_neg (by omega)]), hMx⟩))⟩)
    · have hd30 := of_decide_eq_true h30
      refine k_iload 4 dX8_setPort_33 rfl ?_
      refine k_i2l dX8_setPort_35 (inI_mk (by omega) (by omega)) ?_
      refine k_lconst 0 dX8_setPort_36 (by decide) ?_
      refine k_ldc2 300 q_946 (by decide) dX8_setPort_37 ?_
      refine k_useR (k_runS (c_X8_isIn θ.2.1 κ (v := fa) (a := 0) (b := 300) (inL_mk (by omega) (by omega)) (inL_mk (by omega) (by omega)) (inL_mk (by omega) (by omega))) w_X8_41 q_840 rfl rfl ⟨(Nat.le_of_ble_eq_true rfl), (Nat.le_of_ble_eq_true rfl)⟩ (Nat.le_of_ble_eq_true rfl) dX8_setPort_40) ⟨(Nat.le_of_ble_eq_true rfl), (Nat.le_of_ble_eq_true rfl)⟩ ?_
      refine k_ifb_ne 52 dX8_setPort_43 (by decide) (fun h43 => ?_) (fun h43 => ?_)
      · have hd43 := of_decide_eq_true h43
        obtain ⟨pn, rfl⟩ : ∃ pn : Nat, p = (pn : Int) := ⟨p.toNat, by omega⟩
        refine k_iconst dX8_setPort_52 ?_
        refine k_iload_n 1 1 dX8_setPort_53 rfl rfl ?_
        refine k_imul dX8_setPort_54 ?_
        refine k_iload_n 2 2 dX8_setPort_55 rfl rfl ?_
        refine k_ifb_eq 63 dX8_setPort_56 (by decide) (fun h56 => ?_) (fun h56 => ?_)
        · refine k_iconst dX8_setPort_63 ?_
          refine k_iadd dX8_setPort_64 ?_
          refine k_istore [(5, .int (iI ((5 * (pn : Int)) + 0))), (0, .ref mm), (1, .int (iI (pn : Int))), (2, .int (iI (bI b))), (3, .int (iI sh)), (4, .int (iI fa))] dX8_setPort_65 (by decide) rfl ?_
          refine k_aload_n 1 0 dX8_setPort_67 rfl rfl ?_
          refine k_get 7 i_X8 q_790 cmm rfl (by decide) rfl dX8_setPort_68 ?_
          refine k_iload 0 dX8_setPort_71 rfl ?_
          refine k_iconst dX8_setPort_73 ?_
          refine k_iadd dX8_setPort_74 ?_
          refine k_iald (5 * pn + 1) c3 (by omega) (by omega) (by omega) dX8_setPort_75 ?_
          refine k_topi ((σ.2.2.1 pn).2.2.2.1) (hMb pn (by omega)).2.1 ?_
          refine k_istore [(6, .int (iI ((σ.2.2.1 pn).2.2.2.1))), (5, .int (iI ((5 * (pn : Int)) + 0))), (0, .ref mm), (1, .int (iI (pn : Int))), (2, .int (iI (bI b))), (3, .int (iI sh)), (4, .int (iI fa))] dX8_setPort_76 (by decide) rfl ?_
          refine k_aload_n 2 0 dX8_setPort_78 rfl rfl ?_
          refine k_get 7 i_X8 q_790 cmm rfl (by decide) rfl dX8_setPort_79 ?_
          refine k_iload 1 dX8_setPort_82 rfl ?_
          refine k_iload_n 5 3 dX8_setPort_84 rfl rfl ?_
          refine k_iast (5 * pn) c3 (by omega) (by omega) (by omega) dX8_setPort_85 (fun f2 hf2 hc2 => ?_)
          have hr2 := k_fr.put hf2 c3
          replace cmm := cmm.fr hr2 rfl
          replace c0 := c0.fr hr2 rfl
          replace c1 := c1.fr hr2 rfl
          replace c2 := c2.fr hr2 rfl
          replace c4 := c4.fr hr2 rfl
          replace c5 := c5.fr hr2 rfl
          replace c6 := c6.fr hr2 rfl
          replace c7 := c7.fr hr2 rfl
          replace c3 : Cl L f2 (A 3) (25, .inl (κ.2.2.1 0, 30, .inl (fun u9 => iI ((va_up TA (5 * pn) sh) u9)))) := hc2
          refine k_aload_n 2 0 dX8_setPort_86 rfl rfl ?_
          refine k_get 7 i_X8 q_790 cmm rfl (by decide) rfl dX8_setPort_87 ?_
          refine k_iload 1 dX8_setPort_90 rfl ?_
          refine k_iconst dX8_setPort_92 ?_
          refine k_iadd dX8_setPort_93 ?_
          refine k_iload 6 dX8_setPort_94 rfl ?_
          refine k_iast (5 * pn + 1) c3 (by omega) (by omega) (by omega) dX8_setPort_96 (fun f3 hf3 hc3 => ?_)
          have hr3 := k_fr.put hf3 c3
          replace cmm := cmm.fr hr3 rfl
          replace c0 := c0.fr hr3 rfl
          replace c1 := c1.fr hr3 rfl
          replace c2 := c2.fr hr3 rfl
          replace c4 := c4.fr hr3 rfl
          replace c5 := c5.fr hr3 rfl
          replace c6 := c6.fr hr3 rfl
          replace c7 := c7.fr hr3 rfl
          replace c3 : Cl L f3 (A 3) (25, .inl (κ.2.2.1 0, 30, .inl (fun u9 => iI ((va_up (va_up TA (5 * pn) sh) (5 * pn + 1) fa) u9)))) := hc3
          have hMF : MFacts σ RA PE OF TA RT RH := ⟨hMa, hMb, hMc, hMd⟩
          have hMF2 := mf_setF (p := pn) (s := sh) (f := fa) hMF (by omega)
          refine k_iload 0 dX8_setPort_97 rfl ?_
          exact k_iret dX8_setPort_99 rfl (Nat.le_of_ble_eq_true rfl) (Nat.le_of_ble_eq_true rfl) (⟨_, rfl, _, rfl, rfl, (k_fr.trans (k_fr.trans (k_fr.mono hr1 (SM_of rfl)) hr2 idf (SM_of rfl)) hr3 idf (SM_of rfl)), Or.inl ⟨(by rw [xSetPort, if_pos (by omega), if_pos (by omega), if_pos (by omega)]), (by rw [h56]; rfl), (by rw [h56]; exact ⟨A, fr, wts, RA, PE, OF, (va_up (va_up TA (5 * pn) sh) (5 * pn + 1) fa), RT, RH, HS, TI, ⟨cmm, c0, c1, c2, c3, c4, c5, c6, c7⟩, hMF2, hfrs⟩)⟩⟩)
        · refine k_iconst dX8_setPort_59 ?_
          refine k_goto 64 dX8_setPort_60 (by decide) ?_
          refine k_iadd dX8_setPort_64 ?_
          refine k_istore [(5, .int (iI ((5 * (pn : Int)) + 2))), (0, .ref mm), (1, .int (iI (pn : Int))), (2, .int (iI (bI b))), (3, .int (iI sh)), (4, .int (iI fa))] dX8_setPort_65 (by decide) rfl ?_
          refine k_aload_n 1 0 dX8_setPort_67 rfl rfl ?_
          refine k_get 7 i_X8 q_790 cmm rfl (by decide) rfl dX8_setPort_68 ?_
          refine k_iload 0 dX8_setPort_71 rfl ?_
          refine k_iconst dX8_setPort_73 ?_
          refine k_iadd dX8_setPort_74 ?_
          refine k_iald (5 * pn + 3) c3 (by omega) (by omega) (by omega) dX8_setPort_75 ?_
          refine k_topi ((σ.2.2.1 pn).2.1) (hMb pn (by omega)).2.2.2.1 ?_
          refine k_istore [(6, .int (iI ((σ.2.2.1 pn).2.1))), (5, .int (iI ((5 * (pn : Int)) + 2))), (0, .ref mm), (1, .int (iI (pn : Int))), (2, .int (iI (bI b))), (3, .int (iI sh)), (4, .int (iI fa))] dX8_setPort_76 (by decide) rfl ?_
          refine k_aload_n 2 0 dX8_setPort_78 rfl rfl ?_
          refine k_get 7 i_X8 q_790 cmm rfl (by decide) rfl dX8_setPort_79 ?_
          refine k_iload 1 dX8_setPort_82 rfl ?_
          refine k_iload_n 5 3 dX8_setPort_84 rfl rfl ?_
          refine k_iast (5 * pn + 2) c3 (by omega) (by omega) (by omega) dX8_setPort_85 (fun f4 hf4 hc4 => ?_)
          have hr4 := k_fr.put hf4 c3
          replace cmm := cmm.fr hr4 rfl
          replace c0 := c0.fr hr4 rfl
          replace c1 := c1.fr hr4 rfl
          replace c2 := c2.fr hr4 rfl
          replace c4 := c4.fr hr4 rfl
          replace c5 := c5.fr hr4 rfl
          replace c6 := c6.fr hr4 rfl
          replace c7 := c7.fr hr4 rfl
          replace c3 : Cl L f4 (A 3) (25, .inl (κ.2.2.1 0, 30, .inl (fun u9 => iI ((va_up TA (5 * pn + 2) sh) u9)))) := hc4
          refine k_aload_n 2 0 dX8_setPort_86 rfl rfl ?_
          refine k_get 7 i_X8 q_790 cmm rfl (by decide) rfl dX8_setPort_87 ?_
          refine k_iload 1 dX8_setPort_90 rfl ?_
          refine k_iconst dX8_setPort_92 ?_
          refine k_iadd dX8_setPort_93 ?_
          refine k_iload 6 dX8_setPort_94 rfl ?_
          refine k_iast (5 * pn + 3) c3 (by omega) (by omega) (by omega) dX8_setPort_96 (fun f5 hf5 hc5 => ?_)
          have hr5 := k_fr.put hf5 c3
          replace cmm := cmm.fr hr5 rfl
          replace c0 := c0.fr hr5 rfl
          replace c1 := c1.fr hr5 rfl
          replace c2 := c2.fr hr5 rfl
          replace c4 := c4.fr hr5 rfl
          replace c5 := c5.fr hr5 rfl
          replace c6 := c6.fr hr5 rfl
          replace c7 := c7.fr hr5 rfl
          replace c3 : Cl L f5 (A 3) (25, .inl (κ.2.2.1 0, 30, .inl (fun u9 => iI ((va_up (va_up TA (5 * pn + 2) sh) (5 * pn + 3) fa) u9)))) := hc5
          have hMF : MFacts σ RA PE OF TA RT RH := ⟨hMa, hMb, hMc, hMd⟩
          have hMF2 := mf_setT (p := pn) (s := sh) (f := fa) hMF (by omega)
          refine k_iload 0 dX8_setPort_97 rfl ?_
          exact k_iret dX8_setPort_99 rfl (Nat.le_of_ble_eq_true rfl) (Nat.le_of_ble_eq_true rfl) (⟨_, rfl, _, rfl, rfl, (k_fr.trans (k_fr.trans (k_fr.mono hr1 (SM_of rfl)) hr4 idf (SM_of rfl)) hr5 idf (SM_of rfl)), Or.inl ⟨(by rw [xSetPort, if_pos (by omega), if_pos (by omega), if_pos (by omega)]), (by rw [h56]; rfl), (by rw [h56]; exact ⟨A, fr, wts, RA, PE, OF, (va_up (va_up TA (5 * pn + 2) sh) (5 * pn + 3) fa), RT, RH, HS, TI, ⟨cmm, c0, c1, c2, c3, c4, c5, c6, c7⟩, hMF2, hfrs⟩)⟩⟩)
      · have hd43 := of_decide_eq_false h43
        refine k_aload_n 0 0 dX8_setPort_46 rfl rfl ?_
        refine k_iconst dX8_setPort_47 ?_
        refine k_useV (k_runV (c_X8_fail θ.2.1 κ (mm := mm) (k := 2) hM) w_X8_57 ⟨q_846, q_18⟩ rfl rfl cmm rfl ⟨(Nat.le_of_ble_eq_true rfl), (Nat.le_of_ble_eq_true rfl)⟩ (Nat.le_of_ble_eq_true rfl) dX8_setPort_48) ⟨(Nat.le_of_ble_eq_true rfl), (Nat.le_of_ble_eq_true rfl)⟩ (fun w9 Lx fx hw9 => ?_)
        obtain ⟨rfl, ex9, hMx, hrx⟩ := hw9
        replace ex9 := ex9.symm
        subst ex9
        exact k_iret dX8_setPort_51 rfl (Nat.le_of_ble_eq_true rfl) (Nat.le_of_ble_eq_true rfl) (⟨_, rfl, _, rfl, rfl, (k_fr.trans (k_fr.mono hr1 (SM_of rfl)) hrx idf idf), Or.inr (Or.inr (⟨(by rw [xSetPort, if_pos (by omega), if_pos (by omega), if_neg (by omega)]), hMx⟩))⟩)
  · have hd10 := of_decide_eq_false h10
    refine k_aload_n 0 0 dX8_setPort_13 rfl rfl ?_
    refine k_iconst dX8_setPort_14 ?_
    refine k_useV (k_runV (c_X8_fail θ.2.1 κ (mm := mm) (k := 1) hM) w_X8_57 ⟨q_846, q_18⟩ rfl rfl cmm rfl ⟨(Nat.le_of_ble_eq_true rfl), (Nat.le_of_ble_eq_true rfl)⟩ (Nat.le_of_ble_eq_true rfl) dX8_setPort_15) ⟨(Nat.le_of_ble_eq_true rfl), (Nat.le_of_ble_eq_true rfl)⟩ (fun w9 Lx fx hw9 => ?_)
    obtain ⟨rfl, ex9, hMx, hrx⟩ := hw9
    replace ex9 := ex9.symm
    subst ex9
    exact k_iret dX8_setPort_18 rfl (Nat.le_of_ble_eq_true rfl) (Nat.le_of_ble_eq_true rfl) (⟨_, rfl, _, rfl, rfl, (k_fr.trans (k_fr.mono hr1 (SM_of rfl)) hrx idf idf), Or.inr (Or.inl ⟨(by rw [xSetPort, if_neg (by omega)]), hMx⟩)⟩)
