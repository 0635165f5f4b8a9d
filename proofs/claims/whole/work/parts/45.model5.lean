theorem mf_level {σ : Sg} {v : Int} {RA PE OF TA RT RH : Nat → Int} (h : MFacts σ RA PE OF TA RT RH) : MFacts (sSetLevel σ v) RA PE OF TA RT RH := h
theorem mf_range {σ : Sg} {w : Nat} {r : Int} {RA PE OF TA RT RH : Nat → Int} (h : MFacts σ RA PE OF TA RT RH) : MFacts (sSetRange σ (w : Int) r) (va_up RA w r) PE OF TA RT RH := by
  obtain ⟨h1, h2, h3, h4⟩ := h
  refine ⟨fun i hi => ?_, h2, h3, h4⟩
  obtain ⟨a1, a2, a3⟩ := h1 i hi
  refine ⟨?_, a2, a3⟩
  show va_up RA w r i = va_up σ.1.2.2.1 (w : Int).toNat r i
  rw [Int.toNat_natCast]
  by_cases e : i = w
  · rw [e, va_up_self, va_up_self]
  · rw [va_up_ne _ _ e, va_up_ne _ _ e, a1]
theorem mf_wave {σ : Sg} {r p o : Int} {RA PE OF TA RT RH : Nat → Int} (h : MFacts σ RA PE OF TA RT RH) : MFacts (sAddWave σ r p o) (va_up RA σ.1.2.1 r) (va_up PE σ.1.2.1 p) (va_up OF σ.1.2.1 o) TA RT RH := by
  obtain ⟨h1, h2, h3, h4⟩ := h
  refine ⟨fun i hi => ?_, h2, h3, h4⟩
  show va_up RA σ.1.2.1 r i = va_up σ.1.2.2.1 σ.1.2.1 r i ∧ va_up PE σ.1.2.1 p i = va_up σ.1.2.2.2.1 σ.1.2.1 p i ∧ va_up OF σ.1.2.1 o i = va_up σ.1.2.2.2.2 σ.1.2.1 o i
  have hi2 : i < σ.1.2.1 + 1 := hi
  by_cases e : i = σ.1.2.1
  · rw [e, va_up_self, va_up_self, va_up_self, va_up_self, va_up_self, va_up_self]
    exact ⟨rfl, rfl, rfl⟩
  · rw [va_up_ne _ _ e, va_up_ne _ _ e, va_up_ne _ _ e, va_up_ne _ _ e, va_up_ne _ _ e, va_up_ne _ _ e]
    exact h1 i (by omega)
theorem mf_read {σ : Sg} {t : Nat} {v : Int} {RA PE OF TA RT RH : Nat → Int} (h : MFacts σ RA PE OF TA RT RH) : MFacts (sRead σ (t : Int) v) RA PE OF TA (va_up RT σ.2.2.2.1 (t : Int)) (va_up RH σ.2.2.2.1 v) := by
  obtain ⟨h1, h2, h3, h4⟩ := h
  refine ⟨h1, h2, h3, fun i hi => ?_⟩
  show va_up RT σ.2.2.2.1 (t : Int) i = ((va_up σ.2.2.2.2.1 σ.2.2.2.1 (t : Int).toNat i : Nat) : Int) ∧ va_up RH σ.2.2.2.1 v i = va_up σ.2.2.2.2.2 σ.2.2.2.1 v i
  have hi2 : i < σ.2.2.2.1 + 1 := hi
  rw [Int.toNat_natCast]
  by_cases e : i = σ.2.2.2.1
  · rw [e, va_up_self, va_up_self, va_up_self, va_up_self]
    exact ⟨rfl, rfl⟩
  · rw [va_up_ne _ _ e, va_up_ne _ _ e, va_up_ne _ _ e, va_up_ne _ _ e]
    exact h4 i (by omega)
theorem mf_add {σ : Sg} {p : Nat} {ad : Int} {RA PE OF TA RT RH : Nat → Int} (h : MFacts σ RA PE OF TA RT RH) (hp : p < σ.2.1) : MFacts (sSetAdd σ (p : Int) ad) RA PE OF (va_up TA (5 * p + 4) ad) RT RH := by
  obtain ⟨h1, h2, h3, h4⟩ := h
  refine ⟨h1, fun i hi => ?_, fun j hj => ?_, h4⟩
  · show va_up TA (5 * p + 4) ad (5 * i) = (va_up σ.2.2.1 (p : Int).toNat (qAdd (σ.2.2.1 (p : Int).toNat) ad) i).2.2.1 ∧ va_up TA (5 * p + 4) ad (5 * i + 1) = (va_up σ.2.2.1 (p : Int).toNat (qAdd (σ.2.2.1 (p : Int).toNat) ad) i).2.2.2.1 ∧ va_up TA (5 * p + 4) ad (5 * i + 2) = (va_up σ.2.2.1 (p : Int).toNat (qAdd (σ.2.2.1 (p : Int).toNat) ad) i).1 ∧ va_up TA (5 * p + 4) ad (5 * i + 3) = (va_up σ.2.2.1 (p : Int).toNat (qAdd (σ.2.2.1 (p : Int).toNat) ad) i).2.1 ∧ va_up TA (5 * p + 4) ad (5 * i + 4) = (va_up σ.2.2.1 (p : Int).toNat (qAdd (σ.2.2.1 (p : Int).toNat) ad) i).2.2.2.2
    rw [Int.toNat_natCast]
    obtain ⟨b1, b2, b3, b4, b5⟩ := h2 i hi
    rw [va_up_ne TA _ (show 5 * i ≠ 5 * p + 4 by omega), va_up_ne TA _ (show 5 * i + 1 ≠ 5 * p + 4 by omega), va_up_ne TA _ (show 5 * i + 2 ≠ 5 * p + 4 by omega), va_up_ne TA _ (show 5 * i + 3 ≠ 5 * p + 4 by omega)]
    by_cases e : i = p
    · subst e
      rw [va_up_self, va_up_self]
      exact ⟨b1, b2, b3, b4, rfl⟩
    · rw [va_up_ne TA _ (show 5 * i + 4 ≠ 5 * p + 4 by omega), va_up_ne σ.2.2.1 _ e]
      exact ⟨b1, b2, b3, b4, b5⟩
  · have hj2 : 5 * σ.2.1 ≤ j := hj
    rw [va_up_ne TA _ (by omega)]
    exact h3 j hj
theorem mf_port {σ : Sg} {RA PE OF TA RT RH : Nat → Int} (h : MFacts σ RA PE OF TA RT RH) : MFacts (sAddPort σ) RA PE OF (va_up (va_up TA (5 * σ.2.1 + 1) 100) (5 * σ.2.1 + 3) 100) RT RH := by
  obtain ⟨h1, h2, h3, h4⟩ := h
  refine ⟨h1, fun i hi => ?_, fun j hj => ?_, h4⟩
  · have hi2 : i < σ.2.1 + 1 := hi
    show va_up (va_up TA (5 * σ.2.1 + 1) 100) (5 * σ.2.1 + 3) 100 (5 * i) = (va_up σ.2.2.1 σ.2.1 (0, 100, 0, 100, 0) i).2.2.1 ∧ va_up (va_up TA (5 * σ.2.1 + 1) 100) (5 * σ.2.1 + 3) 100 (5 * i + 1) = (va_up σ.2.2.1 σ.2.1 (0, 100, 0, 100, 0) i).2.2.2.1 ∧ va_up (va_up TA (5 * σ.2.1 + 1) 100) (5 * σ.2.1 + 3) 100 (5 * i + 2) = (va_up σ.2.2.1 σ.2.1 (0, 100, 0, 100, 0) i).1 ∧ va_up (va_up TA (5 * σ.2.1 + 1) 100) (5 * σ.2.1 + 3) 100 (5 * i + 3) = (va_up σ.2.2.1 σ.2.1 (0, 100, 0, 100, 0) i).2.1 ∧ va_up (va_up TA (5 * σ.2.1 + 1) 100) (5 * σ.2.1 + 3) 100 (5 * i + 4) = (va_up σ.2.2.1 σ.2.1 (0, 100, 0, 100, 0) i).2.2.2.2
    by_cases e : i = σ.2.1
    · rw [e, va_up_self, va_up_self, va_up_ne _ _ (show 5 * σ.2.1 ≠ 5 * σ.2.1 + 3 by omega), va_up_ne _ _ (show 5 * σ.2.1 ≠ 5 * σ.2.1 + 1 by omega), va_up_ne _ _ (show 5 * σ.2.1 + 1 ≠ 5 * σ.2.1 + 3 by omega), va_up_self, va_up_ne _ _ (show 5 * σ.2.1 + 2 ≠ 5 * σ.2.1 + 3 by omega), va_up_ne _ _ (show 5 * σ.2.1 + 2 ≠ 5 * σ.2.1 + 1 by omega), va_up_ne _ _ (show 5 * σ.2.1 + 4 ≠ 5 * σ.2.1 + 3 by omega), va_up_ne _ _ (show 5 * σ.2.1 + 4 ≠ 5 * σ.2.1 + 1 by omega)]
      exact ⟨h3 _ (by omega), rfl, h3 _ (by omega), rfl, h3 _ (by omega)⟩
    · rw [va_up_ne σ.2.2.1 _ e, va_up_ne _ _ (show 5 * i ≠ 5 * σ.2.1 + 3 by omega), va_up_ne _ _ (show 5 * i ≠ 5 * σ.2.1 + 1 by omega), va_up_ne _ _ (show 5 * i + 1 ≠ 5 * σ.2.1 + 3 by omega), va_up_ne _ _ (show 5 * i + 1 ≠ 5 * σ.2.1 + 1 by omega), va_up_ne _ _ (show 5 * i + 2 ≠ 5 * σ.2.1 + 3 by omega), va_up_ne _ _ (show 5 * i + 2 ≠ 5 * σ.2.1 + 1 by omega), va_up_ne _ _ (show 5 * i + 3 ≠ 5 * σ.2.1 + 3 by omega), va_up_ne _ _ (show 5 * i + 3 ≠ 5 * σ.2.1 + 1 by omega), va_up_ne _ _ (show 5 * i + 4 ≠ 5 * σ.2.1 + 3 by omega), va_up_ne _ _ (show 5 * i + 4 ≠ 5 * σ.2.1 + 1 by omega)]
      exact h2 i (by omega)
  · have hj2 : 5 * (σ.2.1 + 1) ≤ j := hj
    rw [va_up_ne _ _ (by omega), va_up_ne _ _ (by omega)]
    exact h3 j (by omega)
set_option maxHeartbeats 4000000 in
set_option maxRecDepth 100000 in
theorem c_X8_setLevel (la : Launch) (κ : Kx) {L : List Nat} {f : Nat → wE} {mm : Nat} {thr : Int} {σ : Sg} {v0 : Int}   (hM : MS κ L f mm thr σ) (hs : SgOk σ) (hv : inI v0) : k_M la κ yX8_setLevel cX8_setLevel 3 (some .int) 3 0 0 [.ref mm, .int (iI v0)] L f (k_rn (fun v9 L' f' => ∃ v : Int, v9 = .int (iI v) ∧ L' = L ∧ k_fr SM L f L' f' ∧ ((xSetLevel v0 = none ∧ v = σ.1.1 ∧ MS κ L' f' mm 0 (sSetLevel σ v0)) ∨ (xSetLevel v0 = some cIA ∧ MS κ L' f' mm 1 σ)))) := by
  refine k_head RX8 [(0, .ref mm), (1, .int (iI v0))] rfl (by decide) (Nat.le_of_ble_eq_true rfl) rfl (fun θ hθ hin => ?_)
  obtain ⟨A, fr, wts, RA, PE, OF, TA, RT, RH, HS, TI, ⟨cmm, c0, c1, c2, c3, c4, c5, c6, c7⟩, ⟨hMa, hMb, hMc, hMd⟩, hfrs⟩ := id hM
  obtain ⟨hs1, ⟨hs2, hs3⟩, hs4⟩ := id hs
  have hs5 := hs1.2.1
  have hs6 := hs4.1
  have hs7 := nW_le (hT σ.1)
  have hs8 := hs1.1
  obtain ⟨hvl, hvu⟩ := id hv
  refine k_aload_n 0 0 dX8_setLevel_0 rfl rfl ?_
  refine k_iconst dX8_setLevel_1 ?_
  refine k_put 0 [.int (iI 0), .int (iI (σ.1.2.1 : Int)), .ref (A 0), .ref (A 1), .ref (A 2), .int (iI σ.1.1), .int (iI (σ.2.1 : Int)), .ref (A 3), .int (iI (σ.2.2.2.1 : Int)), .ref (A 4), .ref (A 5), .int (iI (bI fr)), .ref (A 6), .int (iI wts), .ref (A 7)] i_X8 tyX8_ok nmX8 q_783 cmm rfl (by decide) rfl rfl rfl rfl (Nat.le_of_ble_eq_true rfl) rfl dX8_setLevel_2 (fun f1 hf1 hc1 => ?_)
  have hr1 := k_fr.put hf1 cmm
  replace c0 := c0.fr hr1 rfl
  replace c1 := c1.fr hr1 rfl
  replace c2 := c2.fr hr1 rfl
  replace c3 := c3.fr hr1 rfl
  replace c4 := c4.fr hr1 rfl
  replace c5 := c5.fr hr1 rfl
  replace c6 := c6.fr hr1 rfl
  replace c7 := c7.fr hr1 rfl
  replace cmm : Cl L f1 mm (21, .inr (9, [.int (iI 0), .int (iI (σ.1.2.1 : Int)), .ref (A 0), .ref (A 1), .ref (A 2), .int (iI σ.1.1), .int (iI (σ.2.1 : Int)), .ref (A 3), .int (iI (σ.2.2.2.1 : Int)), .ref (A 4), .ref (A 5), .int (iI (bI fr)), .ref (A 6), .int (iI wts), .ref (A 7)])) := hc1
  have hM0 : MS κ L f1 mm 0 σ := ⟨A, fr, wts, RA, PE, OF, TA, RT, RH, HS, TI, ⟨cmm, c0, c1, c2, c3, c4, c5, c6, c7⟩, ⟨hMa, hMb, hMc, hMd⟩, hfrs⟩
  replace hM := hM0
  refine k_iload_n 1 1 dX8_setLevel_5 rfl rfl ?_
  refine k_i2l dX8_setLevel_6 (inI_mk (by omega) (by omega)) ?_
  refine k_ldc2 (-10000) q_860 (by decide) dX8_setLevel_7 ?_
  refine k_ldc2 10000 q_861 (by decide) dX8_setLevel_10 ?_
  refine k_useR (k_runS (c_X8_isIn θ.2.1 κ (v := v0) (a := (-10000)) (b := 10000) (inL_mk (by omega) (by omega)) (inL_mk (by omega) (by omega)) (inL_mk (by omega) (by omega))) w_X8_41 q_840 rfl rfl ⟨(Nat.le_of_ble_eq_true rfl), (Nat.le_of_ble_eq_true rfl)⟩ (Nat.le_of_ble_eq_true rfl) dX8_setLevel_13) ⟨(Nat.le_of_ble_eq_true rfl), (Nat.le_of_ble_eq_true rfl)⟩ ?_
  refine k_ifb_ne 25 dX8_setLevel_16 (by decide) (fun h16 => ?_) (fun h16 => ?_)
  · have hd16 := of_decide_eq_true h16
    refine k_aload_n 0 0 dX8_setLevel_25 rfl rfl ?_
    refine k_get 5 i_X8 q_788 cmm rfl (by decide) rfl dX8_setLevel_26 ?_
    refine k_istore_n 2 [(2, .int (iI σ.1.1)), (0, .ref mm), (1, .int (iI v0))] dX8_setLevel_29 rfl (by decide) rfl ?_
    refine k_aload_n 1 0 dX8_setLevel_30 rfl rfl ?_
    refine k_iload_n 2 1 dX8_setLevel_31 rfl rfl ?_
    refine k_put 5 [.int (iI 0), .int (iI (σ.1.2.1 : Int)), .ref (A 0), .ref (A 1), .ref (A 2), .int (iI v0), .int (iI (σ.2.1 : Int)), .ref (A 3), .int (iI (σ.2.2.2.1 : Int)), .ref (A 4), .ref (A 5), .int (iI (bI fr)), .ref (A 6), .int (iI wts), .ref (A 7)] i_X8 tyX8_ok nmX8 q_788 cmm rfl (by decide) rfl rfl rfl rfl (Nat.le_of_ble_eq_true rfl) rfl dX8_setLevel_32 (fun f2 hf2 hc2 => ?_)
    have hr2 := k_fr.put hf2 cmm
    replace c0 := c0.fr hr2 rfl
    replace c1 := c1.fr hr2 rfl
    replace c2 := c2.fr hr2 rfl
    replace c3 := c3.fr hr2 rfl
    replace c4 := c4.fr hr2 rfl
    replace c5 := c5.fr hr2 rfl
    replace c6 := c6.fr hr2 rfl
    replace c7 := c7.fr hr2 rfl
    replace cmm : Cl L f2 mm (21, .inr (9, [.int (iI 0), .int (iI (σ.1.2.1 : Int)), .ref (A 0), .ref (A 1), .ref (A 2), .int (iI v0), .int (iI (σ.2.1 : Int)), .ref (A 3), .int (iI (σ.2.2.2.1 : Int)), .ref (A 4), .ref (A 5), .int (iI (bI fr)), .ref (A 6), .int (iI wts), .ref (A 7)])) := hc2
    refine k_aload_n 1 0 dX8_setLevel_35 rfl rfl ?_
    refine k_iconst dX8_setLevel_36 ?_
    refine k_put 11 [.int (iI 0), .int (iI (σ.1.2.1 : Int)), .ref (A 0), .ref (A 1), .ref (A 2), .int (iI v0), .int (iI (σ.2.1 : Int)), .ref (A 3), .int (iI (σ.2.2.2.1 : Int)), .ref (A 4), .ref (A 5), .int (iI (bI false)), .ref (A 6), .int (iI wts), .ref (A 7)] i_X8 tyX8_ok nmX8 q_794 cmm rfl (by decide) rfl rfl (k_nar_b false) (k_fit_b false) (Nat.le_of_ble_eq_true rfl) rfl dX8_setLevel_37 (fun f3 hf3 hc3 => ?_)
    have hr3 := k_fr.put hf3 cmm
    replace c0 := c0.fr hr3 rfl
    replace c1 := c1.fr hr3 rfl
    replace c2 := c2.fr hr3 rfl
    replace c3 := c3.fr hr3 rfl
    replace c4 := c4.fr hr3 rfl
    replace c5 := c5.fr hr3 rfl
    replace c6 := c6.fr hr3 rfl
    replace c7 := c7.fr hr3 rfl
    replace cmm : Cl L f3 mm (21, .inr (9, [.int (iI 0), .int (iI (σ.1.2.1 : Int)), .ref (A 0), .ref (A 1), .ref (A 2), .int (iI v0), .int (iI (σ.2.1 : Int)), .ref (A 3), .int (iI (σ.2.2.2.1 : Int)), .ref (A 4), .ref (A 5), .int (iI (bI false)), .ref (A 6), .int (iI wts), .ref (A 7)])) := hc3
    have hMF : MFacts σ RA PE OF TA RT RH := ⟨hMa, hMb, hMc, hMd⟩
    have hMF2 := mf_level (v := v0) hMF
    refine k_iload_n 0 2 dX8_setLevel_40 rfl rfl ?_
    exact k_iret dX8_setLevel_41 rfl (Nat.le_of_ble_eq_true rfl) (Nat.le_of_ble_eq_true rfl) (⟨_, rfl, _, rfl, rfl, (k_fr.trans (k_fr.trans (k_fr.mono hr1 (SM_of rfl)) hr2 idf (SM_of rfl)) hr3 idf (SM_of rfl)), Or.inl ⟨(by rw [xSetLevel, if_pos (by omega)]), rfl, ⟨A, false, wts, RA, PE, OF, TA, RT, RH, HS, TI, ⟨cmm, c0, c1, c2, c3, c4, c5, c6, c7⟩, hMF2, (fun e => Bool.noConfusion e)⟩⟩⟩)
  · have hd16 := of_decide_eq_false h16
    refine k_aload_n 0 0 dX8_setLevel_19 rfl rfl ?_
    refine k_iconst dX8_setLevel_20 ?_
    refine k_useV (k_runV (c_X8_fail θ.2.1 κ (mm := mm) (k := 1) hM) w_X8_57 ⟨q_846, q_18⟩ rfl rfl cmm rfl ⟨(Nat.le_of_ble_eq_true rfl), (Nat.le_of_ble_eq_true rfl)⟩ (Nat.le_of_ble_eq_true rfl) dX8_setLevel_21) ⟨(Nat.le_of_ble_eq_true rfl), (Nat.le_of_ble_eq_true rfl)⟩ (fun w9 Lx fx hw9 => ?_)
    obtain ⟨rfl, ex9, hMx, hrx⟩ := hw9
    replace ex9 := ex9.symm
    subst ex9
    exact k_iret dX8_setLevel_24 rfl (Nat.le_of_ble_eq_true rfl) (Nat.le_of_ble_eq_true rfl) (⟨_, rfl, _, rfl, rfl, (k_fr.trans (k_fr.mono hr1 (SM_of rfl)) hrx idf idf), Or.inr (⟨(by rw [xSetLevel, if_neg (by omega)]), hMx⟩)⟩)
set_option maxHeartbeats 4000000 in
set_option maxRecDepth 100000 in
theorem c_X8_setRange (la : Launch) (κ : Kx) {L : List Nat} {f : Nat → wE} {mm : Nat} {thr : Int} {σ : Sg} {w r : Int}   (hM : MS κ L f mm thr σ) (hs : SgOk σ) (hw : inI w) (hr : inI r) : k_M la κ yX8_setRange cX8_setRange 4 (some .int) 3 0 0 [.ref mm, .int (iI w), .int (iI r)] L f (k_rn (fun v9 L' f' => ∃ v : Int, v9 = .int (iI v) ∧ L' = L ∧ k_fr SM L f L' f' ∧ ((xSetRange σ w r = none ∧ v = σ.1.2.2.1 w.toNat ∧ MS κ L' f' mm 0 (sSetRange σ w r)) ∨ (xSetRange σ w r = some cIO ∧ MS κ L' f' mm 1 σ) ∨ (xSetRange σ w r = some cIA ∧ MS κ L' f' mm 2 σ)))) := by
  refine k_head RX8 [(0, .ref mm), (1, .int (iI w)), (2, .int (iI r))] rfl (by decide) (Nat.le_of_ble_eq_true rfl) rfl (fun θ hθ hin => ?_)
  obtain ⟨A, fr, wts, RA, PE, OF, TA, RT, RH, HS, TI, ⟨cmm, c0, c1, c2, c3, c4, c5, c6, c7⟩, ⟨hMa, hMb, hMc, hMd⟩, hfrs⟩ := id hM
  obtain ⟨hs1, ⟨hs2, hs3⟩, hs4⟩ := id hs
  have hs5 := hs1.2.1
  have hs6 := hs4.1
  have hs7 := nW_le (hT σ.1)
  have hs8 := hs1.1
  obtain ⟨hwl, hwu⟩ := id hw
  obtain ⟨hrl, hru⟩ := id hr
  refine k_aload_n 0 0 dX8_setRange_0 rfl rfl ?_
  refine k_iconst dX8_setRange_1 ?_
  refine k_put 0 [.int (iI 0), .int (iI (σ.1.2.1 : Int)), .ref (A 0), .ref (A 1), .ref (A 2), .int (iI σ.1.1), .int (iI (σ.2.1 : Int)), .ref (A 3), .int (iI (σ.2.2.2.1 : Int)), .ref (A 4), .ref (A 5), .int (iI (bI fr)), .ref (A 6), .int (iI wts), .ref (A 7)] i_X8 tyX8_ok nmX8 q_783 cmm rfl (by decide) rfl rfl rfl rfl (Nat.le_of_ble_eq_true rfl) rfl dX8_setRange_2 (fun f1 hf1 hc1 => ?_)
  have hr1 := k_fr.put hf1 cmm
  replace c0 := c0.fr hr1 rfl
  replace c1 := c1.fr hr1 rfl
  replace c2 := c2.fr hr1 rfl
  replace c3 := c3.fr hr1 rfl
  replace c4 := c4.fr hr1 rfl
  replace c5 := c5.fr hr1 rfl
  replace c6 := c6.fr hr1 rfl
  replace c7 := c7.fr hr1 rfl
  replace cmm : Cl L f1 mm (21, .inr (9, [.int (iI 0), .int (iI (σ.1.2.1 : Int)), .ref (A 0), .ref (A 1), .ref (A 2), .int (iI σ.1.1), .int (iI (σ.2.1 : Int)), .ref (A 3), .int (iI (σ.2.2.2.1 : Int)), .ref (A 4), .ref (A 5), .int (iI (bI fr)), .ref (A 6), .int (iI wts), .ref (A 7)])) := hc1
  have hM0 : MS κ L f1 mm 0 σ := ⟨A, fr, wts, RA, PE, OF, TA, RT, RH, HS, TI, ⟨cmm, c0, c1, c2, c3, c4, c5, c6, c7⟩, ⟨hMa, hMb, hMc, hMd⟩, hfrs⟩
  replace hM := hM0
  refine k_aload_n 0 0 dX8_setRange_5 rfl rfl ?_
  refine k_iload_n 1 1 dX8_setRange_6 rfl rfl ?_
  refine k_useR (k_runV (c_X8_isWave θ.2.1 κ (mm := mm) (w := w) hM hs hw) w_X8_65 ⟨q_854, q_19⟩ rfl rfl cmm rfl ⟨(Nat.le_of_ble_eq_true rfl), (Nat.le_of_ble_eq_true rfl)⟩ (Nat.le_of_ble_eq_true rfl) dX8_setRange_7) ⟨(Nat.le_of_ble_eq_true rfl), (Nat.le_of_ble_eq_true rfl)⟩ ?_
  refine k_ifb_ne 19 dX8_setRange_10 (by decide) (fun h10 => ?_) (fun h10 => ?_)
  · have hd10 := of_decide_eq_true h10
    refine k_iload_n 2 2 dX8_setRange_19 rfl rfl ?_
    refine k_i2l dX8_setRange_20 (inI_mk (by omega) (by omega)) ?_
    refine k_lconst 0 dX8_setRange_21 (by decide) ?_
    refine k_ldc2 5000 q_838 (by decide) dX8_setRange_22 ?_
    refine k_useR (k_runS (c_X8_isIn θ.2.1 κ (v := r) (a := 0) (b := 5000) (inL_mk (by omega) (by omega)) (inL_mk (by omega) (by omega)) (inL_mk (by omega) (by omega))) w_X8_41 q_840 rfl rfl ⟨(Nat.le_of_ble_eq_true rfl), (Nat.le_of_ble_eq_true rfl)⟩ (Nat.le_of_ble_eq_true rfl) dX8_setRange_25) ⟨(Nat.le_of_ble_eq_true rfl), (Nat.le_of_ble_eq_true rfl)⟩ ?_
    refine k_ifb_ne 37 dX8_setRange_28 (by decide) (fun h28 => ?_) (fun h28 => ?_)
    · have hd28 := of_decide_eq_true h28
      obtain ⟨wn, rfl⟩ : ∃ wn : Nat, w = (wn : Int) := ⟨w.toNat, by omega⟩
      refine k_aload_n 0 0 dX8_setRange_37 rfl rfl ?_
      refine k_get 2 i_X8 q_785 cmm rfl (by decide) rfl dX8_setRange_38 ?_
      refine k_iload_n 1 1 dX8_setRange_41 rfl rfl ?_
      refine k_iald wn c0 rfl (by omega) (by omega) dX8_setRange_42 ?_
      refine k_topi (σ.1.2.2.1 wn) (hMa wn (by omega)).1 ?_
      refine k_istore_n 3 [(3, .int (iI (σ.1.2.2.1 wn))), (0, .ref mm), (1, .int (iI (wn : Int))), (2, .int (iI r))] dX8_setRange_43 rfl (by decide) rfl ?_
      refine k_aload_n 1 0 dX8_setRange_44 rfl rfl ?_
      refine k_get 2 i_X8 q_785 cmm rfl (by decide) rfl dX8_setRange_45 ?_
      refine k_iload_n 2 1 dX8_setRange_48 rfl rfl ?_
      refine k_iload_n 3 2 dX8_setRange_49 rfl rfl ?_
      refine k_iast wn c0 rfl (by omega) (by omega) dX8_setRange_50 (fun f2 hf2 hc2 => ?_)
      have hr2 := k_fr.put hf2 c0
      replace cmm := cmm.fr hr2 rfl
      replace c1 := c1.fr hr2 rfl
      replace c2 := c2.fr hr2 rfl
      replace c3 := c3.fr hr2 rfl
      replace c4 := c4.fr hr2 rfl
      replace c5 := c5.fr hr2 rfl
      replace c6 := c6.fr hr2 rfl
      replace c7 := c7.fr hr2 rfl
      replace c0 : Cl L f2 (A 0) (22, .inl (κ.2.2.1 0, 8, .inl (fun u9 => iI ((va_up RA wn r) u9)))) := hc2
      refine k_aload_n 1 0 dX8_setRange_51 rfl rfl ?_
      refine k_iconst dX8_setRange_52 ?_
      refine k_put 11 [.int (iI 0), .int (iI (σ.1.2.1 : Int)), .ref (A 0), .ref (A 1), .ref (A 2), .int (iI σ.1.1), .int (iI (σ.2.1 : Int)), .ref (A 3), .int (iI (σ.2.2.2.1 : Int)), .ref (A 4), .ref (A 5), .int (iI (bI false)), .ref (A 6), .int (iI wts), .ref (A 7)] i_X8 tyX8_ok nmX8 q_794 cmm rfl (by decide) rfl rfl (k_nar_b false) (k_fit_b false) (Nat.le_of_ble_eq_true rfl) rfl dX8_setRange_53 (fun f3 hf3 hc3 => ?_)
      have hr3 := k_fr.put hf3 cmm
      replace c0 := c0.fr hr3 rfl
      replace c1 := c1.fr hr3 rfl
      replace c2 := c2.fr hr3 rfl
      replace c3 := c3.fr hr3 rfl
      replace c4 := c4.fr hr3 rfl
      replace c5 := c5.fr hr3 rfl
      replace c6 := c6.fr hr3 rfl
      replace c7 := c7.fr hr3 rfl
      replace cmm : Cl L f3 mm (21, .inr (9, [.int (iI 0), .int (iI (σ.1.2.1 : Int)), .ref (A 0), .ref (A 1), .ref (A 2), .int (iI σ.1.1), .int (iI (σ.2.1 : Int)), .ref (A 3), .int (iI (σ.2.2.2.1 : Int)), .ref (A 4), .ref (A 5), .int (iI (bI false)), .ref (A 6), .int (iI wts), .ref (A 7)])) := hc3
      have hMF : MFacts σ RA PE OF TA RT RH := ⟨hMa, hMb, hMc, hMd⟩
      have hMF2 := mf_range (w := wn) (r := r) hMF
      refine k_iload_n 0 3 dX8_setRange_56 rfl rfl ?_
      exact k_iret dX8_setRange_57 rfl (Nat.le_of_ble_eq_true rfl) (Nat.le_of_ble_eq_true rfl) (⟨_, rfl, _, rfl, rfl, (k_fr.trans (k_fr.trans (k_fr.mono hr1 (SM_of rfl)) hr2 idf (SM_of rfl)) hr3 idf (SM_of rfl)), Or.inl ⟨(by rw [xSetRange, if_pos (by omega), if_pos (by omega)]), rfl, ⟨A, false, wts, (va_up RA wn r), PE, OF, TA, RT, RH, HS, TI, ⟨cmm, c0, c1, c2, c3, c4, c5, c6, c7⟩, hMF2, (fun e => Bool.noConfusion e)⟩⟩⟩)
    · have hd28 := of_decide_eq_false h28
      refine k_aload_n 0 0 dX8_setRange_31 rfl rfl ?_
      refine k_iconst dX8_setRange_32 ?_
      refine k_useV (k_runV (c_X8_fail θ.2.1 κ (mm := mm) (k := 2) hM) w_X8_57 ⟨q_846, q_18⟩ rfl rfl cmm rfl ⟨(Nat.le_of_ble_eq_true rfl), (Nat.le_of_ble_eq_true rfl)⟩ (Nat.le_of_ble_eq_true rfl) dX8_setRange_33) ⟨(Nat.le_of_ble_eq_true rfl), (Nat.le_of_ble_eq_true rfl)⟩ (fun w9 Lx fx hw9 => ?_)
      obtain ⟨rfl, ex9, hMx, hrx⟩ := hw9
      replace ex9 := ex9.symm
      subst ex9
      exact k_iret dX8_setRange_36 rfl (Nat.le_of_ble_eq_true rfl) (Nat.le_of_ble_eq_true rfl) (⟨_, rfl, _, rfl, rfl, (k_fr.trans (k_fr.mono hr1 (SM_of rfl)) hrx idf idf), Or.inr (Or.inr (⟨(by rw [xSetRange, if_pos (by omega), if_neg (by omega)]), hMx⟩))⟩)
  · have hd10 := of_decide_eq_false h10
    refine k_aload_n 0 0 dX8_setRange_13 rfl rfl ?_
    refine k_iconst dX8_setRange_14 ?_
    refine k_useV (k_runV (c_X8_fail θ.2.1 κ (mm := mm) (k := 1) hM) w_X8_57 ⟨q_846, q_18⟩ rfl rfl cmm rfl ⟨(Nat.le_of_ble_eq_true rfl), (Nat.le_of_ble_eq_true rfl)⟩ (Nat.le_of_ble_eq_true rfl) dX8_setRange_15) ⟨(Nat.le_of_ble_eq_true rfl), (Nat.le_of_ble_eq_true rfl)⟩ (fun w9 Lx fx hw9 => ?_)
    obtain ⟨rfl, ex9, hMx, hrx⟩ := hw9
    replace ex9 := ex9.symm
    subst ex9
    exact k_iret dX8_setRange_18 rfl (Nat.le_of_ble_eq_true rfl) (Nat.le_of_ble_eq_true rfl) (⟨_, rfl, _, rfl, rfl, (k_fr.trans (k_fr.mono hr1 (SM_of rfl)) hrx idf idf), Or.inr (Or.inl ⟨(by rw [xSetRange, if_neg (by omega)]), hMx⟩)⟩)
set_option maxHeartbeats 4000000 in
set_option maxRecDepth 100000 in
theorem c_X8_setAddition (la : Launch) (κ : Kx) {L : List Nat} {f : Nat → wE} {mm : Nat} {thr : Int} {σ : Sg} {p ad : Int}   (hM : MS κ L f mm thr σ) (hs : SgOk σ) (hp : inI p) (had : inI ad) : k_M la κ yX8_setAddition cX8_setAddition 4 (some .int) 3 0 0 [.ref mm, .int (iI p), .int (iI ad)] L f (k_rn (fun v9 L' f' => ∃ v : Int, v9 = .int (iI v) ∧ L' = L ∧ k_fr SM L f L' f' ∧ ((xSetAdd σ p ad = none ∧ v = (σ.2.2.1 p.toNat).2.2.2.2 ∧ MS κ L' f' mm 0 (sSetAdd σ p ad)) ∨ (xSetAdd σ p ad = some cIO ∧ MS κ L' f' mm 1 σ) ∨ (xSetAdd σ p ad = some cIA ∧ MS κ L' f' mm 2 σ)))) := by
  refine k_head RX8 [(0, .ref mm), (1, .int (iI p)), (2, .int (iI ad))] rfl (by decide) (Nat.le_of_ble_eq_true rfl) rfl (fun θ hθ hin => ?_)
  obtain ⟨A, fr, wts, RA, PE, OF, TA, RT, RH, HS, TI, ⟨cmm, c0, c1, c2, c3, c4, c5, c6, c7⟩, ⟨hMa, hMb, hMc, hMd⟩, hfrs⟩ := id hM
  obtain ⟨hs1, ⟨hs2, hs3⟩, hs4⟩ := id hs
  have hs5 := hs1.2.1
  have hs6 := hs4.1
  have hs7 := nW_le (hT σ.1)
  have hs8 := hs1.1
  obtain ⟨hpl, hpu⟩ := id hp
  obtain ⟨hadl, hadu⟩ := id had
  refine k_aload_n 0 0 dX8_setAddition_0 rfl rfl ?_
  refine k_iconst dX8_setAddition_1 ?_
  refine k_put 0 [.int (iI 0), .int (iI (σ.1.2.1 : Int)), .ref (A 0), .ref (A 1), .ref (A 2), .int (iI σ.1.1), .int (iI (σ.2.1 : Int)), .ref (A 3), .int (iI (σ.2.2.2.1 : Int)), .ref (A 4), .ref (A 5), .int (iI (bI fr)), .ref (A 6), .int (iI wts), .ref (A 7)] i_X8 tyX8_ok nmX8 q_783 cmm rfl (by decide) rfl rfl rfl rfl (Nat.le_of_ble_eq_true rfl) rfl dX8_setAddition_2 (fun f1 hf1 hc1 => ?_)
  have hr1 := k_fr.put hf1 cmm
  replace c0 := c0.fr hr1 rfl
  replace c1 := c1.fr hr1 rfl
  replace c2 := c2.fr hr1 rfl
  replace c3 := c3.fr hr1 rfl
  replace c4 := c4.fr hr1 rfl
  replace c5 := c5.fr hr1 rfl
  replace c6 := c6.fr hr1 rfl
  replace c7 := c7.fr hr1 rfl
  replace cmm : Cl L f1 mm (21, .inr (9, [.int (iI 0), .int (iI (σ.1.2.1 : Int)), .ref (A 0), .ref (A 1), .ref (A 2), .int (iI σ.1.1), .int (iI (σ.2.1 : Int)), .ref (A 3), .int (iI (σ.2.2.2.1 : Int)), .ref (A 4), .ref (A 5), .int (iI (bI fr)), .ref (A 6), .int (iI wts), .ref (A 7)])) := hc1
  have hM0 : MS κ L f1 mm 0 σ := ⟨A, fr, wts, RA, PE, OF, TA, RT, RH, HS, TI, ⟨cmm, c0, c1, c2, c3, c4, c5, c6, c7⟩, ⟨hMa, hMb, hMc, hMd⟩, hfrs⟩
  replace hM := hM0
  refine k_aload_n 0 0 dX8_setAddition_5 rfl rfl ?_
  refine k_iload_n 1 1 dX8_setAddition_6 rfl rfl ?_
  refine k_useR (k_runV (c_X8_isPort θ.2.1 κ (mm := mm) (p := p) hM hs hp) w_X8_133 ⟨q_943, q_29⟩ rfl rfl cmm rfl ⟨(Nat.le_of_ble_eq_true rfl), (Nat.le_of_ble_eq_true rfl)⟩ (Nat.le_of_ble_eq_true rfl) dX8_setAddition_7) ⟨(Nat.le_of_ble_eq_true rfl), (Nat.le_of_ble_eq_true rfl)⟩ ?_
  refine k_ifb_ne 19 dX8_setAddition_10 (by decide) (fun h10 => ?_) (fun h10 => ?_)
  · have hd10 := of_decide_eq_true h10
    refine k_iload_n 2 2 dX8_setAddition_19 rfl rfl ?_
    refine k_i2l dX8_setAddition_20 (inI_mk (by omega) (by omega)) ?_
    refine k_ldc2 (-3000) q_951 (by decide) dX8_setAddition_21 ?_
    refine k_ldc2 3000 q_952 (by decide) dX8_setAddition_24 ?_
    refine k_useR (k_runS (c_X8_isIn θ.2.1 κ (v := ad) (a := (-3000)) (b := 3000) (inL_mk (by omega) (by omega)) (inL_mk (by omega) (by omega)) (inL_mk (by omega) (by omega))) w_X8_41 q_840 rfl rfl ⟨(Nat.le_of_ble_eq_true rfl), (Nat.le_of_ble_eq_true rfl)⟩ (Nat.le_of_ble_eq_true rfl) dX8_setAddition_27) ⟨(Nat.le_of_ble_eq_true rfl), (Nat.le_of_ble_eq_true rfl)⟩ ?_
    refine k_ifb_ne 39 dX8_setAddition_30 (by decide) (fun h30 => ?_) (fun h30 => ?_)
    · have hd30 := of_decide_eq_true h30
      obtain ⟨pn, rfl⟩ : ∃ pn : Nat, p = (pn : Int) := ⟨p.toNat, by omega⟩
      refine k_aload_n 0 0 dX8_setAddition_39 rfl rfl ?_
      refine k_get 7 i_X8 q_790 cmm rfl (by decide) rfl dX8_setAddition_40 ?_
      refine k_iconst dX8_setAddition_43 ?_
      refine k_iload_n 1 1 dX8_setAddition_44 rfl rfl ?_
      refine k_imul dX8_setAddition_45 ?_
      refine k_iconst dX8_setAddition_46 ?_
      refine k_iadd dX8_setAddition_47 ?_
      refine k_iald (5 * pn + 4) c3 (by omega) (by omega) (by omega) dX8_setAddition_48 ?_
      refine k_topi ((σ.2.2.1 pn).2.2.2.2) (hMb pn (by omega)).2.2.2.2 ?_
      refine k_istore_n 3 [(3, .int (iI ((σ.2.2.1 pn).2.2.2.2))), (0, .ref mm), (1, .int (iI (pn : Int))), (2, .int (iI ad))] dX8_setAddition_49 rfl (by decide) rfl ?_
      refine k_aload_n 1 0 dX8_setAddition_50 rfl rfl ?_
      refine k_get 7 i_X8 q_790 cmm rfl (by decide) rfl dX8_setAddition_51 ?_
      refine k_iconst dX8_setAddition_54 ?_
      refine k_iload_n 2 1 dX8_setAddition_55 rfl rfl ?_
      refine k_imul dX8_setAddition_56 ?_
      refine k_iconst dX8_setAddition_57 ?_
      refine k_iadd dX8_setAddition_58 ?_
      refine k_iload_n 3 2 dX8_setAddition_59 rfl rfl ?_
      refine k_iast (5 * pn + 4) c3 (by omega) (by omega) (by omega) dX8_setAddition_60 (fun f2 hf2 hc2 => ?_)
      have hr2 := k_fr.put hf2 c3
      replace cmm := cmm.fr hr2 rfl
      replace c0 := c0.fr hr2 rfl
      replace c1 := c1.fr hr2 rfl
      replace c2 := c2.fr hr2 rfl
      replace c4 := c4.fr hr2 rfl
      replace c5 := c5.fr hr2 rfl
      replace c6 := c6.fr hr2 rfl
      replace c7 := c7.fr hr2 rfl
      replace c3 : Cl L f2 (A 3) (25, .inl (κ.2.2.1 0, 30, .inl (fun u9 => iI ((va_up TA (5 * pn + 4) ad) u9)))) := hc2
      have hMF : MFacts σ RA PE OF TA RT RH := ⟨hMa, hMb, hMc, hMd⟩
      have hMF2 := mf_add (p := pn) (ad := ad) hMF (by omega)
      refine k_iload_n 0 3 dX8_setAddition_61 rfl rfl ?_
      exact k_iret dX8_setAddition_62 rfl (Nat.le_of_ble_eq_true rfl) (Nat.le_of_ble_eq_true rfl) (⟨_, rfl, _, rfl, rfl, (k_fr.trans (k_fr.mono hr1 (SM_of rfl)) hr2 idf (SM_of rfl)), Or.inl ⟨(by rw [xSetAdd, if_pos (by omega), if_pos (by omega)]), rfl, ⟨A, fr, wts, RA, PE, OF, (va_up TA (5 * pn + 4) ad), RT, RH, HS, TI, ⟨cmm, c0, c1, c2, c3, c4, c5, c6, c7⟩, hMF2, hfrs⟩⟩⟩)
    · have hd30 := of_decide_eq_false h30
      refine k_aload_n 0 0 dX8_setAddition_33 rfl rfl ?_
      refine k_iconst dX8_setAddition_34 ?_
      refine k_useV (k_runV (c_X8_fail θ.2.1 κ (mm := mm) (k := 2) hM) w_X8_57 ⟨q_846, q_18⟩ rfl rfl cmm rfl ⟨(Nat.le_of_ble_eq_true rfl), (Nat.le_of_ble_eq_true rfl)⟩ (Nat.le_of_ble_eq_true rfl) dX8_setAddition_35) ⟨(Nat.le_of_ble_eq_true rfl), (Nat.le_of_ble_eq_true rfl)⟩ (fun w9 Lx fx hw9 => ?_)
      obtain ⟨rfl, ex9, hMx, hrx⟩ := hw9
      replace ex9 := ex9.symm
      subst ex9
      exact k_iret dX8_setAddition_38 rfl (Nat.le_of_ble_eq_true rfl) (Nat.le_of_ble_eq_true rfl) (⟨_, rfl, _, rfl, rfl, (k_fr.trans (k_fr.mono hr1 (SM_of rfl)) hrx idf idf), Or.inr (Or.inr (⟨(by rw [xSetAdd, if_pos (by omega), if_neg (by omega)]), hMx⟩))⟩)
  · have hd10 := of_decide_eq_false h10
    refine k_aload_n 0 0 dX8_setAddition_13 rfl rfl ?_
    refine k_iconst dX8_setAddition_14 ?_
    refine k_useV (k_runV (c_X8_fail θ.2.1 κ (mm := mm) (k := 1) hM) w_X8_57 ⟨q_846, q_18⟩ rfl rfl cmm rfl ⟨(Nat.le_of_ble_eq_true rfl), (Nat.le_of_ble_eq_true rfl)⟩ (Nat.le_of_ble_eq_true rfl) dX8_setAddition_15) ⟨(Nat.le_of_ble_eq_true rfl), (Nat.le_of_ble_eq_true rfl)⟩ (fun w9 Lx fx hw9 => ?_)
    obtain ⟨rfl, ex9, hMx, hrx⟩ := hw9
    replace ex9 := ex9.symm
    subst ex9
    exact k_iret dX8_setAddition_18 rfl (Nat.le_of_ble_eq_true rfl) (Nat.le_of_ble_eq_true rfl) (⟨_, rfl, _, rfl, rfl, (k_fr.trans (k_fr.mono hr1 (SM_of rfl)) hrx idf idf), Or.inr (Or.inl ⟨(by rw [xSetAdd, if_neg (by omega)]), hMx⟩)⟩)
set_option maxHeartbeats 4000000 in
set_option maxRecDepth 100000 in
theorem c_X8_addWave (la : Launch) (κ : Kx) {L : List Nat} {f : Nat → wE} {mm : Nat} {thr : Int} {σ : Sg} {r p o : Int}   (hM : MS κ L f mm thr σ) (hs : SgOk σ) (hr : inI r) (hp : inI p) (ho : inI o) : k_M la κ yX8_addWave cX8_addWave 4 (some .int) 3 0 0 [.ref mm, .int (iI r), .int (iI p), .int (iI o)] L f (k_rn (fun v9 L' f' => ∃ v : Int, v9 = .int (iI v) ∧ L' = L ∧ k_fr SM L f L' f' ∧ ((xAddWave σ r p o = none ∧ v = (σ.1.2.1 : Int) ∧ MS κ L' f' mm 0 (sAddWave σ r p o)) ∨ (xAddWave σ r p o = some cIA ∧ MS κ L' f' mm 1 σ) ∨ (xAddWave σ r p o = some cIS ∧ MS κ L' f' mm 2 σ)))) := by
  refine k_head RX8 [(0, .ref mm), (1, .int (iI r)), (2, .int (iI p)), (3, .int (iI o))] rfl (by decide) (Nat.le_of_ble_eq_true rfl) rfl (fun θ hθ hin => ?_)
  obtain ⟨A, fr, wts, RA, PE, OF, TA, RT, RH, HS, TI, ⟨cmm, c0, c1, c2, c3, c4, c5, c6, c7⟩, ⟨hMa, hMb, hMc, hMd⟩, hfrs⟩ := id hM
  obtain ⟨hs1, ⟨hs2, hs3⟩, hs4⟩ := id hs
  have hs5 := hs1.2.1
  have hs6 := hs4.1
  have hs7 := nW_le (hT σ.1)
  have hs8 := hs1.1
  obtain ⟨hrl, hru⟩ := id hr
  obtain ⟨hpl, hpu⟩ := id hp
  obtain ⟨hol, hou⟩ := id ho
  refine k_aload_n 0 0 dX8_addWave_0 rfl rfl ?_
  refine k_iconst dX8_addWave_1 ?_
  refine k_put 0 [.int (iI 0), .int (iI (σ.1.2.1 : Int)), .ref (A 0), .ref (A 1), .ref (A 2), .int (iI σ.1.1), .int (iI (σ.2.1 : Int)), .ref (A 3), .int (iI (σ.2.2.2.1 : Int)), .ref (A 4), .ref (A 5), .int (iI (bI fr)), .ref (A 6), .int (iI wts), .ref (A 7)] i_X8 tyX8_ok nmX8 q_783 cmm rfl (by decide) rfl rfl rfl rfl (Nat.le_of_ble_eq_true rfl) rfl dX8_addWave_2 (fun f1 hf1 hc1 => ?_)
  have hr1 := k_fr.put hf1 cmm
  replace c0 := c0.fr hr1 rfl
  replace c1 := c1.fr hr1 rfl
  replace c2 := c2.fr hr1 rfl
  replace c3 := c3.fr hr1 rfl
  replace c4 := c4.fr hr1 rfl
  replace c5 := c5.fr hr1 rfl
  replace c6 := c6.fr hr1 rfl
  replace c7 := c7.fr hr1 rfl
  replace cmm : Cl L f1 mm (21, .inr (9, [.int (iI 0), .int (iI (σ.1.2.1 : Int)), .ref (A 0), .ref (A 1), .ref (A 2), .int (iI σ.1.1), .int (iI (σ.2.1 : Int)), .ref (A 3), .int (iI (σ.2.2.2.1 : Int)), .ref (A 4), .ref (A 5), .int (iI (bI fr)), .ref (A 6), .int (iI wts), .ref (A 7)])) := hc1
  have hM0 : MS κ L f1 mm 0 σ := ⟨A, fr, wts, RA, PE, OF, TA, RT, RH, HS, TI, ⟨cmm, c0, c1, c2, c3, c4, c5, c6, c7⟩, ⟨hMa, hMb, hMc, hMd⟩, hfrs⟩
  replace hM := hM0
  refine k_iload_n 1 1 dX8_addWave_5 rfl rfl ?_
  refine k_i2l dX8_addWave_6 (inI_mk (by omega) (by omega)) ?_
  refine k_lconst 0 dX8_addWave_7 (by decide) ?_
  refine k_ldc2 5000 q_838 (by decide) dX8_addWave_8 ?_
  refine k_useR (k_runS (c_X8_isIn θ.2.1 κ (v := r) (a := 0) (b := 5000) (inL_mk (by omega) (by omega)) (inL_mk (by omega) (by omega)) (inL_mk (by omega) (by omega))) w_X8_41 q_840 rfl rfl ⟨(Nat.le_of_ble_eq_true rfl), (Nat.le_of_ble_eq_true rfl)⟩ (Nat.le_of_ble_eq_true rfl) dX8_addWave_11) ⟨(Nat.le_of_ble_eq_true rfl), (Nat.le_of_ble_eq_true rfl)⟩ ?_
  refine k_ifb_eq 44 dX8_addWave_14 (by decide) (fun h14 => ?_) (fun h14 => ?_)
  · have hd14 := of_decide_eq_false h14
    refine k_aload_n 0 0 dX8_addWave_44 rfl rfl ?_
    refine k_iconst dX8_addWave_45 ?_
    refine k_useV (k_runV (c_X8_fail θ.2.1 κ (mm := mm) (k := 1) hM) w_X8_57 ⟨q_846, q_18⟩ rfl rfl cmm rfl ⟨(Nat.le_of_ble_eq_true rfl), (Nat.le_of_ble_eq_true rfl)⟩ (Nat.le_of_ble_eq_true rfl) dX8_addWave_46) ⟨(Nat.le_of_ble_eq_true rfl), (Nat.le_of_ble_eq_true rfl)⟩ (fun w9 Lx fx hw9 => ?_)
    obtain ⟨rfl, ex9, hMx, hrx⟩ := hw9
    replace ex9 := ex9.symm
    subst ex9
    exact k_iret dX8_addWave_49 rfl (Nat.le_of_ble_eq_true rfl) (Nat.le_of_ble_eq_true rfl) (⟨_, rfl, _, rfl, rfl, (k_fr.trans (k_fr.mono hr1 (SM_of rfl)) hrx idf idf), Or.inr (Or.inl ⟨(by rw [xAddWave, if_neg (by omega)]), hMx⟩)⟩)
  · have hd14 := of_decide_eq_true h14
    refine k_iload_n 2 2 dX8_addWave_17 rfl rfl ?_
    refine k_i2l dX8_addWave_18 (inI_mk (by omega) (by omega)) ?_
    refine k_ldc2 60 q_842 (by decide) dX8_addWave_19 ?_
    refine k_ldc2 20000 q_843 (by decide) dX8_addWave_22 ?_
    refine k_useR (k_runS (c_X8_isIn θ.2.1 κ (v := p) (a := 60) (b := 20000) (inL_mk (by omega) (by omega)) (inL_mk (by omega) (by omega)) (inL_mk (by omega) (by omega))) w_X8_41 q_840 rfl rfl ⟨(Nat.le_of_ble_eq_true rfl), (Nat.le_of_ble_eq_true rfl)⟩ (Nat.le_of_ble_eq_true rfl) dX8_addWave_25) ⟨(Nat.le_of_ble_eq_true rfl), (Nat.le_of_ble_eq_true rfl)⟩ ?_
    refine k_ifb_eq 44 dX8_addWave_28 (by decide) (fun h28 => ?_) (fun h28 => ?_)
    · have hd28 := of_decide_eq_false h28
      refine k_aload_n 0 0 dX8_addWave_44 rfl rfl ?_
      refine k_iconst dX8_addWave_45 ?_
      refine k_useV (k_runV (c_X8_fail θ.2.1 κ (mm := mm) (k := 1) hM) w_X8_57 ⟨q_846, q_18⟩ rfl rfl cmm rfl ⟨(Nat.le_of_ble_eq_true rfl), (Nat.le_of_ble_eq_true rfl)⟩ (Nat.le_of_ble_eq_true rfl) dX8_addWave_46) ⟨(Nat.le_of_ble_eq_true rfl), (Nat.le_of_ble_eq_true rfl)⟩ (fun w9 Lx fx hw9 => ?_)
      obtain ⟨rfl, ex9, hMx, hrx⟩ := hw9
      replace ex9 := ex9.symm
      subst ex9
      exact k_iret dX8_addWave_49 rfl (Nat.le_of_ble_eq_true rfl) (Nat.le_of_ble_eq_true rfl) (⟨_, rfl, _, rfl, rfl, (k_fr.trans (k_fr.mono hr1 (SM_of rfl)) hrx idf idf), Or.inr (Or.inl ⟨(by rw [xAddWave, if_pos (by omega), if_neg (by omega)]), hMx⟩)⟩)
    · have hd28 := of_decide_eq_true h28
      refine k_iload_n 3 3 dX8_addWave_31 rfl rfl ?_
      refine k_i2l dX8_addWave_32 (inI_mk (by omega) (by omega)) ?_
      refine k_lconst 0 dX8_addWave_33 (by decide) ?_
      refine k_iload_n 2 2 dX8_addWave_34 rfl rfl ?_
      refine k_iconst dX8_addWave_35 ?_
      refine k_isub dX8_addWave_36 ?_
      refine k_i2l dX8_addWave_37 (inI_mk (by omega) (by omega)) ?_
      refine k_useR (k_runS (c_X8_isIn θ.2.1 κ (v := o) (a := 0) (b := (p - 1)) (inL_mk (by omega) (by omega)) (inL_mk (by omega) (by omega)) (inL_mk (by omega) (by omega))) w_X8_41 q_840 rfl rfl ⟨(Nat.le_of_ble_eq_true rfl), (Nat.le_of_ble_eq_true rfl)⟩ (Nat.le_of_ble_eq_true rfl) dX8_addWave_38) ⟨(Nat.le_of_ble_eq_true rfl), (Nat.le_of_ble_eq_true rfl)⟩ ?_
      refine k_ifb_ne 50 dX8_addWave_41 (by decide) (fun h41 => ?_) (fun h41 => ?_)
      · have hd41 := of_decide_eq_true h41
        refine k_aload_n 0 0 dX8_addWave_50 rfl rfl ?_
        refine k_get 1 i_X8 q_784 cmm rfl (by decide) rfl dX8_addWave_51 ?_
        refine k_bipush dX8_addWave_54 (by decide) ?_
        refine k_icmp_ne 65 dX8_addWave_56 (by decide) (inI_mk (by omega) (by omega)) (inI_mk (by omega) (by omega)) (fun h56 => ?_) (fun h56 => ?_)
        · refine k_aload_n 0 0 dX8_addWave_65 rfl rfl ?_
          refine k_get 2 i_X8 q_785 cmm rfl (by decide) rfl dX8_addWave_66 ?_
          refine k_aload_n 0 0 dX8_addWave_69 rfl rfl ?_
          refine k_get 1 i_X8 q_784 cmm rfl (by decide) rfl dX8_addWave_70 ?_
          refine k_iload_n 1 1 dX8_addWave_73 rfl rfl ?_
          refine k_iast σ.1.2.1 c0 rfl (by omega) (by omega) dX8_addWave_74 (fun f2 hf2 hc2 => ?_)
          have hr2 := k_fr.put hf2 c0
          replace cmm := cmm.fr hr2 rfl
          replace c1 := c1.fr hr2 rfl
          replace c2 := c2.fr hr2 rfl
          replace c3 := c3.fr hr2 rfl
          replace c4 := c4.fr hr2 rfl
          replace c5 := c5.fr hr2 rfl
          replace c6 := c6.fr hr2 rfl
          replace c7 := c7.fr hr2 rfl
          replace c0 : Cl L f2 (A 0) (22, .inl (κ.2.2.1 0, 8, .inl (fun u9 => iI ((va_up RA σ.1.2.1 r) u9)))) := hc2
          refine k_aload_n 0 0 dX8_addWave_75 rfl rfl ?_
          refine k_get 3 i_X8 q_786 cmm rfl (by decide) rfl dX8_addWave_76 ?_
          refine k_aload_n 0 0 dX8_addWave_79 rfl rfl ?_
          refine k_get 1 i_X8 q_784 cmm rfl (by decide) rfl dX8_addWave_80 ?_
          refine k_iload_n 2 2 dX8_addWave_83 rfl rfl ?_
          refine k_iast σ.1.2.1 c1 rfl (by omega) (by omega) dX8_addWave_84 (fun f3 hf3 hc3 => ?_)
          have hr3 := k_fr.put hf3 c1
          replace cmm := cmm.fr hr3 rfl
          replace c0 := c0.fr hr3 rfl
          replace c2 := c2.fr hr3 rfl
          replace c3 := c3.fr hr3 rfl
          replace c4 := c4.fr hr3 rfl
          replace c5 := c5.fr hr3 rfl
          replace c6 := c6.fr hr3 rfl
          replace c7 := c7.fr hr3 rfl
          replace c1 : Cl L f3 (A 1) (23, .inl (κ.2.2.1 0, 8, .inl (fun u9 => iI ((va_up PE σ.1.2.1 p) u9)))) := hc3
          refine k_aload_n 0 0 dX8_addWave_85 rfl rfl ?_
          refine k_get 4 i_X8 q_787 cmm rfl (by decide) rfl dX8_addWave_86 ?_
          refine k_aload_n 0 0 dX8_addWave_89 rfl rfl ?_
          refine k_get 1 i_X8 q_784 cmm rfl (by decide) rfl dX8_addWave_90 ?_
          refine k_iload_n 3 3 dX8_addWave_93 rfl rfl ?_
          refine k_iast σ.1.2.1 c2 rfl (by omega) (by omega) dX8_addWave_94 (fun f4 hf4 hc4 => ?_)
          have hr4 := k_fr.put hf4 c2
          replace cmm := cmm.fr hr4 rfl
          replace c0 := c0.fr hr4 rfl
          replace c1 := c1.fr hr4 rfl
          replace c3 := c3.fr hr4 rfl
          replace c4 := c4.fr hr4 rfl
          replace c5 := c5.fr hr4 rfl
          replace c6 := c6.fr hr4 rfl
          replace c7 := c7.fr hr4 rfl
          replace c2 : Cl L f4 (A 2) (24, .inl (κ.2.2.1 0, 8, .inl (fun u9 => iI ((va_up OF σ.1.2.1 o) u9)))) := hc4
          refine k_aload_n 0 0 dX8_addWave_95 rfl rfl ?_
          refine k_dup dX8_addWave_96 rfl ?_
          refine k_get 1 i_X8 q_784 cmm rfl (by decide) rfl dX8_addWave_97 ?_
          refine k_iconst dX8_addWave_100 ?_
          refine k_iadd dX8_addWave_101 ?_
          refine k_put 1 [.int (iI 0), .int (iI ((σ.1.2.1 : Int) + 1)), .ref (A 0), .ref (A 1), .ref (A 2), .int (iI σ.1.1), .int (iI (σ.2.1 : Int)), .ref (A 3), .int (iI (σ.2.2.2.1 : Int)), .ref (A 4), .ref (A 5), .int (iI (bI fr)), .ref (A 6), .int (iI wts), .ref (A 7)] i_X8 tyX8_ok nmX8 q_784 cmm rfl (by decide) rfl rfl rfl rfl (Nat.le_of_ble_eq_true rfl) rfl dX8_addWave_102 (fun f5 hf5 hc5 => ?_)
          have hr5 := k_fr.put hf5 cmm
          replace c0 := c0.fr hr5 rfl
          replace c1 := c1.fr hr5 rfl
          replace c2 := c2.fr hr5 rfl
          replace c3 := c3.fr hr5 rfl
          replace c4 := c4.fr hr5 rfl
          replace c5 := c5.fr hr5 rfl
          replace c6 := c6.fr hr5 rfl
          replace c7 := c7.fr hr5 rfl
          replace cmm : Cl L f5 mm (21, .inr (9, [.int (iI 0), .int (iI ((σ.1.2.1 : Int) + 1)), .ref (A 0), .ref (A 1), .ref (A 2), .int (iI σ.1.1), .int (iI (σ.2.1 : Int)), .ref (A 3), .int (iI (σ.2.2.2.1 : Int)), .ref (A 4), .ref (A 5), .int (iI (bI fr)), .ref (A 6), .int (iI wts), .ref (A 7)])) := hc5
          refine k_aload_n 0 0 dX8_addWave_105 rfl rfl ?_
          refine k_iconst dX8_addWave_106 ?_
          refine k_put 11 [.int (iI 0), .int (iI ((σ.1.2.1 : Int) + 1)), .ref (A 0), .ref (A 1), .ref (A 2), .int (iI σ.1.1), .int (iI (σ.2.1 : Int)), .ref (A 3), .int (iI (σ.2.2.2.1 : Int)), .ref (A 4), .ref (A 5), .int (iI (bI false)), .ref (A 6), .int (iI wts), .ref (A 7)] i_X8 tyX8_ok nmX8 q_794 cmm rfl (by decide) rfl rfl (k_nar_b false) (k_fit_b false) (Nat.le_of_ble_eq_true rfl) rfl dX8_addWave_107 (fun f6 hf6 hc6 => ?_)
          have hr6 := k_fr.put hf6 cmm
          replace c0 := c0.fr hr6 rfl
          replace c1 := c1.fr hr6 rfl
          replace c2 := c2.fr hr6 rfl
          replace c3 := c3.fr hr6 rfl
          replace c4 := c4.fr hr6 rfl
          replace c5 := c5.fr hr6 rfl
          replace c6 := c6.fr hr6 rfl
          replace c7 := c7.fr hr6 rfl
          replace cmm : Cl L f6 mm (21, .inr (9, [.int (iI 0), .int (iI ((σ.1.2.1 : Int) + 1)), .ref (A 0), .ref (A 1), .ref (A 2), .int (iI σ.1.1), .int (iI (σ.2.1 : Int)), .ref (A 3), .int (iI (σ.2.2.2.1 : Int)), .ref (A 4), .ref (A 5), .int (iI (bI false)), .ref (A 6), .int (iI wts), .ref (A 7)])) := hc6
          have hMF : MFacts σ RA PE OF TA RT RH := ⟨hMa, hMb, hMc, hMd⟩
          have hMF2 := mf_wave (r := r) (p := p) (o := o) hMF
          refine k_aload_n 0 0 dX8_addWave_110 rfl rfl ?_
          refine k_get 1 i_X8 q_784 cmm rfl (by decide) rfl dX8_addWave_111 ?_
          refine k_iconst dX8_addWave_114 ?_
          refine k_isub dX8_addWave_115 ?_
          exact k_iret dX8_addWave_116 rfl (Nat.le_of_ble_eq_true rfl) (Nat.le_of_ble_eq_true rfl) (⟨_, rfl, _, rfl, rfl, (k_fr.trans (k_fr.trans (k_fr.trans (k_fr.trans (k_fr.trans (k_fr.mono hr1 (SM_of rfl)) hr2 idf (SM_of rfl)) hr3 idf (SM_of rfl)) hr4 idf (SM_of rfl)) hr5 idf (SM_of rfl)) hr6 idf (SM_of rfl)), Or.inl ⟨(by rw [xAddWave, if_pos (by omega), if_pos (by omega), if_pos (by omega), if_pos (by omega)]), (by omega), ⟨A, false, wts, (va_up RA σ.1.2.1 r), (va_up PE σ.1.2.1 p), (va_up OF σ.1.2.1 o), TA, RT, RH, HS, TI, ⟨cmm, c0, c1, c2, c3, c4, c5, c6, c7⟩, hMF2, (fun e => Bool.noConfusion e)⟩⟩⟩)
        · refine k_aload_n 0 0 dX8_addWave_59 rfl rfl ?_
          refine k_iconst dX8_addWave_60 ?_
          refine k_useV (k_runV (c_X8_fail θ.2.1 κ (mm := mm) (k := 2) hM) w_X8_57 ⟨q_846, q_18⟩ rfl rfl cmm rfl ⟨(Nat.le_of_ble_eq_true rfl), (Nat.le_of_ble_eq_true rfl)⟩ (Nat.le_of_ble_eq_true rfl) dX8_addWave_61) ⟨(Nat.le_of_ble_eq_true rfl), (Nat.le_of_ble_eq_true rfl)⟩ (fun w9 Lx fx hw9 => ?_)
          obtain ⟨rfl, ex9, hMx, hrx⟩ := hw9
          replace ex9 := ex9.symm
          subst ex9
          exact k_iret dX8_addWave_64 rfl (Nat.le_of_ble_eq_true rfl) (Nat.le_of_ble_eq_true rfl) (⟨_, rfl, _, rfl, rfl, (k_fr.trans (k_fr.mono hr1 (SM_of rfl)) hrx idf idf), Or.inr (Or.inr (⟨(by rw [xAddWave, if_pos (by omega), if_pos (by omega), if_pos (by omega), if_neg (by omega)]), hMx⟩))⟩)
      · have hd41 := of_decide_eq_false h41
        refine k_aload_n 0 0 dX8_addWave_44 rfl rfl ?_
        refine k_iconst dX8_addWave_45 ?_
        refine k_useV (k_runV (c_X8_fail θ.2.1 κ (mm := mm) (k := 1) hM) w_X8_57 ⟨q_846, q_18⟩ rfl rfl cmm rfl ⟨(Nat.le_of_ble_eq_true rfl), (Nat.le_of_ble_eq_true rfl)⟩ (Nat.le_of_ble_eq_true rfl) dX8_addWave_46) ⟨(Nat.le_of_ble_eq_true rfl), (Nat.le_of_ble_eq_true rfl)⟩ (fun w9 Lx fx hw9 => ?_)
        obtain ⟨rfl, ex9, hMx, hrx⟩ := hw9
        replace ex9 := ex9.symm
        subst ex9
        exact k_iret dX8_addWave_49 rfl (Nat.le_of_ble_eq_true rfl) (Nat.le_of_ble_eq_true rfl) (⟨_, rfl, _, rfl, rfl, (k_fr.trans (k_fr.mono hr1 (SM_of rfl)) hrx idf idf), Or.inr (Or.inl ⟨(by rw [xAddWave, if_pos (by omega), if_pos (by omega), if_neg (by omega)]), hMx⟩)⟩)
set_option maxHeartbeats 4000000 in
set_option maxRecDepth 100000 in
theorem c_X8_addPort (la : Launch) (κ : Kx) {L : List Nat} {f : Nat → wE} {mm : Nat} {thr : Int} {σ : Sg}   (hM : MS κ L f mm thr σ) (hs : SgOk σ) : k_M la κ yX8_addPort cX8_addPort 1 (some .int) 3 0 0 [.ref mm] L f (k_rn (fun v9 L' f' => ∃ v : Int, v9 = .int (iI v) ∧ L' = L ∧ k_fr SM L f L' f' ∧ ((xAddPort σ = none ∧ v = (σ.2.1 : Int) ∧ MS κ L' f' mm 0 (sAddPort σ)) ∨ (xAddPort σ = some cIS ∧ MS κ L' f' mm 1 σ)))) := by
  refine k_head RX8 [(0, .ref mm)] rfl (by decide) (Nat.le_of_ble_eq_true rfl) rfl (fun θ hθ hin => ?_)
  obtain ⟨A, fr, wts, RA, PE, OF, TA, RT, RH, HS, TI, ⟨cmm, c0, c1, c2, c3, c4, c5, c6, c7⟩, ⟨hMa, hMb, hMc, hMd⟩, hfrs⟩ := id hM
  obtain ⟨hs1, ⟨hs2, hs3⟩, hs4⟩ := id hs
  have hs5 := hs1.2.1
  have hs6 := hs4.1
  have hs7 := nW_le (hT σ.1)
  have hs8 := hs1.1
  refine k_aload_n 0 0 dX8_addPort_0 rfl rfl ?_
  refine k_iconst dX8_addPort_1 ?_
  refine k_put 0 [.int (iI 0), .int (iI (σ.1.2.1 : Int)), .ref (A 0), .ref (A 1), .ref (A 2), .int (iI σ.1.1), .int (iI (σ.2.1 : Int)), .ref (A 3), .int (iI (σ.2.2.2.1 : Int)), .ref (A 4), .ref (A 5), .int (iI (bI fr)), .ref (A 6), .int (iI wts), .ref (A 7)] i_X8 tyX8_ok nmX8 q_783 cmm rfl (by decide) rfl rfl rfl rfl (Nat.le_of_ble_eq_true rfl) rfl dX8_addPort_2 (fun f1 hf1 hc1 => ?_)
  have hr1 := k_fr.put hf1 cmm
  replace c0 := c0.fr hr1 rfl
  replace c1 := c1.fr hr1 rfl
  replace c2 := c2.fr hr1 rfl
  replace c3 := c3.fr hr1 rfl
  replace c4 := c4.fr hr1 rfl
  replace c5 := c5.fr hr1 rfl
  replace c6 := c6.fr hr1 rfl
  replace c7 := c7.fr hr1 rfl
  replace cmm : Cl L f1 mm (21, .inr (9, [.int (iI 0), .int (iI (σ.1.2.1 : Int)), .ref (A 0), .ref (A 1), .ref (A 2), .int (iI σ.1.1), .int (iI (σ.2.1 : Int)), .ref (A 3), .int (iI (σ.2.2.2.1 : Int)), .ref (A 4), .ref (A 5), .int (iI (bI fr)), .ref (A 6), .int (iI wts), .ref (A 7)])) := hc1
  have hM0 : MS κ L f1 mm 0 σ := ⟨A, fr, wts, RA, PE, OF, TA, RT, RH, HS, TI, ⟨cmm, c0, c1, c2, c3, c4, c5, c6, c7⟩, ⟨hMa, hMb, hMc, hMd⟩, hfrs⟩
  replace hM := hM0
  refine k_aload_n 0 0 dX8_addPort_5 rfl rfl ?_
  refine k_get 6 i_X8 q_789 cmm rfl (by decide) rfl dX8_addPort_6 ?_
  refine k_bipush dX8_addPort_9 (by decide) ?_
  refine k_icmp_ne 20 dX8_addPort_11 (by decide) (inI_mk (by omega) (by omega)) (inI_mk (by omega) (by omega)) (fun h11 => ?_) (fun h11 => ?_)
  · refine k_aload_n 0 0 dX8_addPort_20 rfl rfl ?_
    refine k_get 7 i_X8 q_790 cmm rfl (by decide) rfl dX8_addPort_21 ?_
    refine k_iconst dX8_addPort_24 ?_
    refine k_aload_n 0 0 dX8_addPort_25 rfl rfl ?_
    refine k_get 6 i_X8 q_789 cmm rfl (by decide) rfl dX8_addPort_26 ?_
    refine k_imul dX8_addPort_29 ?_
    refine k_iconst dX8_addPort_30 ?_
    refine k_iadd dX8_addPort_31 ?_
    refine k_bipush dX8_addPort_32 (by decide) ?_
    refine k_iast (5 * σ.2.1 + 1) c3 (by omega) (by omega) (by omega) dX8_addPort_34 (fun f2 hf2 hc2 => ?_)
    have hr2 := k_fr.put hf2 c3
    replace cmm := cmm.fr hr2 rfl
    replace c0 := c0.fr hr2 rfl
    replace c1 := c1.fr hr2 rfl
    replace c2 := c2.fr hr2 rfl
    replace c4 := c4.fr hr2 rfl
    replace c5 := c5.fr hr2 rfl
    replace c6 := c6.fr hr2 rfl
    replace c7 := c7.fr hr2 rfl
    replace c3 : Cl L f2 (A 3) (25, .inl (κ.2.2.1 0, 30, .inl (fun u9 => iI ((va_up TA (5 * σ.2.1 + 1) 100) u9)))) := hc2
    refine k_aload_n 0 0 dX8_addPort_35 rfl rfl ?_
    refine k_get 7 i_X8 q_790 cmm rfl (by decide) rfl dX8_addPort_36 ?_
    refine k_iconst dX8_addPort_39 ?_
    refine k_aload_n 0 0 dX8_addPort_40 rfl rfl ?_
    refine k_get 6 i_X8 q_789 cmm rfl (by decide) rfl dX8_addPort_41 ?_
    refine k_imul dX8_addPort_44 ?_
    refine k_iconst dX8_addPort_45 ?_
    refine k_iadd dX8_addPort_46 ?_
    refine k_bipush dX8_addPort_47 (by decide) ?_
    refine k_iast (5 * σ.2.1 + 3) c3 (by omega) (by omega) (by omega) dX8_addPort_49 (fun f3 hf3 hc3 => ?_)
    have hr3 := k_fr.put hf3 c3
    replace cmm := cmm.fr hr3 rfl
    replace c0 := c0.fr hr3 rfl
    replace c1 := c1.fr hr3 rfl
    replace c2 := c2.fr hr3 rfl
    replace c4 := c4.fr hr3 rfl
    replace c5 := c5.fr hr3 rfl
    replace c6 := c6.fr hr3 rfl
    replace c7 := c7.fr hr3 rfl
    replace c3 : Cl L f3 (A 3) (25, .inl (κ.2.2.1 0, 30, .inl (fun u9 => iI ((va_up (va_up TA (5 * σ.2.1 + 1) 100) (5 * σ.2.1 + 3) 100) u9)))) := hc3
    refine k_aload_n 0 0 dX8_addPort_50 rfl rfl ?_
    refine k_dup dX8_addPort_51 rfl ?_
    refine k_get 6 i_X8 q_789 cmm rfl (by decide) rfl dX8_addPort_52 ?_
    refine k_iconst dX8_addPort_55 ?_
    refine k_iadd dX8_addPort_56 ?_
    refine k_put 6 [.int (iI 0), .int (iI (σ.1.2.1 : Int)), .ref (A 0), .ref (A 1), .ref (A 2), .int (iI σ.1.1), .int (iI ((σ.2.1 : Int) + 1)), .ref (A 3), .int (iI (σ.2.2.2.1 : Int)), .ref (A 4), .ref (A 5), .int (iI (bI fr)), .ref (A 6), .int (iI wts), .ref (A 7)] i_X8 tyX8_ok nmX8 q_789 cmm rfl (by decide) rfl rfl rfl rfl (Nat.le_of_ble_eq_true rfl) rfl dX8_addPort_57 (fun f4 hf4 hc4 => ?_)
    have hr4 := k_fr.put hf4 cmm
    replace c0 := c0.fr hr4 rfl
    replace c1 := c1.fr hr4 rfl
    replace c2 := c2.fr hr4 rfl
    replace c3 := c3.fr hr4 rfl
    replace c4 := c4.fr hr4 rfl
    replace c5 := c5.fr hr4 rfl
    replace c6 := c6.fr hr4 rfl
    replace c7 := c7.fr hr4 rfl
    replace cmm : Cl L f4 mm (21, .inr (9, [.int (iI 0), .int (iI (σ.1.2.1 : Int)), .ref (A 0), .ref (A 1), .ref (A 2), .int (iI σ.1.1), .int (iI ((σ.2.1 : Int) + 1)), .ref (A 3), .int (iI (σ.2.2.2.1 : Int)), .ref (A 4), .ref (A 5), .int (iI (bI fr)), .ref (A 6), .int (iI wts), .ref (A 7)])) := hc4
    have hMF : MFacts σ RA PE OF TA RT RH := ⟨hMa, hMb, hMc, hMd⟩
    have hMF2 := mf_port hMF
    refine k_aload_n 0 0 dX8_addPort_60 rfl rfl ?_
    refine k_get 6 i_X8 q_789 cmm rfl (by decide) rfl dX8_addPort_61 ?_
    refine k_iconst dX8_addPort_64 ?_
    refine k_isub dX8_addPort_65 ?_
    exact k_iret dX8_addPort_66 rfl (Nat.le_of_ble_eq_true rfl) (Nat.le_of_ble_eq_true rfl) (⟨_, rfl, _, rfl, rfl, (k_fr.trans (k_fr.trans (k_fr.trans (k_fr.mono hr1 (SM_of rfl)) hr2 idf (SM_of rfl)) hr3 idf (SM_of rfl)) hr4 idf (SM_of rfl)), Or.inl ⟨(by rw [xAddPort, if_pos (by omega)]), (by omega), ⟨A, fr, wts, RA, PE, OF, (va_up (va_up TA (5 * σ.2.1 + 1) 100) (5 * σ.2.1 + 3) 100), RT, RH, HS, TI, ⟨cmm, c0, c1, c2, c3, c4, c5, c6, c7⟩, hMF2, hfrs⟩⟩⟩)
  · refine k_aload_n 0 0 dX8_addPort_14 rfl rfl ?_
    refine k_iconst dX8_addPort_15 ?_
    refine k_useV (k_runV (c_X8_fail θ.2.1 κ (mm := mm) (k := 1) hM) w_X8_57 ⟨q_846, q_18⟩ rfl rfl cmm rfl ⟨(Nat.le_of_ble_eq_true rfl), (Nat.le_of_ble_eq_true rfl)⟩ (Nat.le_of_ble_eq_true rfl) dX8_addPort_16) ⟨(Nat.le_of_ble_eq_true rfl), (Nat.le_of_ble_eq_true rfl)⟩ (fun w9 Lx fx hw9 => ?_)
    obtain ⟨rfl, ex9, hMx, hrx⟩ := hw9
    replace ex9 := ex9.symm
    subst ex9
    exact k_iret dX8_addPort_19 rfl (Nat.le_of_ble_eq_true rfl) (Nat.le_of_ble_eq_true rfl) (⟨_, rfl, _, rfl, rfl, (k_fr.trans (k_fr.mono hr1 (SM_of rfl)) hrx idf idf), Or.inr (⟨(by rw [xAddPort, if_neg (by omega)]), hMx⟩)⟩)
set_option maxHeartbeats 4000000 in
set_option maxRecDepth 100000 in
theorem c_X8_read (la : Launch) (κ : Kx) {L : List Nat} {f : Nat → wE} {mm : Nat} {thr : Int} {σ : Sg} {t ht9 : Int}   (hM : MS κ L f mm thr σ) (hs : SgOk σ) (hti : inI t) (hhi : inI ht9) : k_M la κ yX8_read cX8_read 3 (some .int) 3 0 0 [.ref mm, .int (iI t), .int (iI ht9)] L f (k_rn (fun v9 L' f' => ∃ v : Int, v9 = .int (iI v) ∧ L' = L ∧ k_fr SM L f L' f' ∧ ((xRead σ t ht9 = none ∧ v = (σ.2.2.2.1 : Int) + 1 ∧ MS κ L' f' mm 0 (sRead σ t ht9)) ∨ (xRead σ t ht9 = some cIA ∧ MS κ L' f' mm 1 σ) ∨ (xRead σ t ht9 = some cIS ∧ MS κ L' f' mm 2 σ)))) := by
  refine k_head RX8 [(0, .ref mm), (1, .int (iI t)), (2, .int (iI ht9))] rfl (by decide) (Nat.le_of_ble_eq_true rfl) rfl (fun θ hθ hin => ?_)
  obtain ⟨A, fr, wts, RA, PE, OF, TA, RT, RH, HS, TI, ⟨cmm, c0, c1, c2, c3, c4, c5, c6, c7⟩, ⟨hMa, hMb, hMc, hMd⟩, hfrs⟩ := id hM
  obtain ⟨hs1, ⟨hs2, hs3⟩, hs4⟩ := id hs
  have hs5 := hs1.2.1
  have hs6 := hs4.1
  have hs7 := nW_le (hT σ.1)
  have hs8 := hs1.1
  obtain ⟨htil, htiu⟩ := id hti
  obtain ⟨hhil, hhiu⟩ := id hhi
  refine k_aload_n 0 0 dX8_read_0 rfl rfl ?_
  refine k_iconst dX8_read_1 ?_
  refine k_put 0 [.int (iI 0), .int (iI (σ.1.2.1 : Int)), .ref (A 0), .ref (A 1), .ref (A 2), .int (iI σ.1.1), .int (iI (σ.2.1 : Int)), .ref (A 3), .int (iI (σ.2.2.2.1 : Int)), .ref (A 4), .ref (A 5), .int (iI (bI fr)), .ref (A 6), .int (iI wts), .ref (A 7)] i_X8 tyX8_ok nmX8 q_783 cmm rfl (by decide) rfl rfl rfl rfl (Nat.le_of_ble_eq_true rfl) rfl dX8_read_2 (fun f1 hf1 hc1 => ?_)
  have hr1 := k_fr.put hf1 cmm
  replace c0 := c0.fr hr1 rfl
  replace c1 := c1.fr hr1 rfl
  replace c2 := c2.fr hr1 rfl
  replace c3 := c3.fr hr1 rfl
  replace c4 := c4.fr hr1 rfl
  replace c5 := c5.fr hr1 rfl
  replace c6 := c6.fr hr1 rfl
  replace c7 := c7.fr hr1 rfl
  replace cmm : Cl L f1 mm (21, .inr (9, [.int (iI 0), .int (iI (σ.1.2.1 : Int)), .ref (A 0), .ref (A 1), .ref (A 2), .int (iI σ.1.1), .int (iI (σ.2.1 : Int)), .ref (A 3), .int (iI (σ.2.2.2.1 : Int)), .ref (A 4), .ref (A 5), .int (iI (bI fr)), .ref (A 6), .int (iI wts), .ref (A 7)])) := hc1
  have hM0 : MS κ L f1 mm 0 σ := ⟨A, fr, wts, RA, PE, OF, TA, RT, RH, HS, TI, ⟨cmm, c0, c1, c2, c3, c4, c5, c6, c7⟩, ⟨hMa, hMb, hMc, hMd⟩, hfrs⟩
  replace hM := hM0
  refine k_iload_n 1 1 dX8_read_5 rfl rfl ?_
  refine k_useR (k_runS (c_X8_isTime θ.2.1 κ (t := t) (inI_mk (by omega) (by omega))) w_X8_87 q_867 rfl rfl ⟨(Nat.le_of_ble_eq_true rfl), (Nat.le_of_ble_eq_true rfl)⟩ (Nat.le_of_ble_eq_true rfl) dX8_read_6) ⟨(Nat.le_of_ble_eq_true rfl), (Nat.le_of_ble_eq_true rfl)⟩ ?_
  refine k_ifb_eq 26 dX8_read_9 (by decide) (fun h9 => ?_) (fun h9 => ?_)
  · have hd9 := of_decide_eq_false h9
    refine k_aload_n 0 0 dX8_read_26 rfl rfl ?_
    refine k_iconst dX8_read_27 ?_
    refine k_useV (k_runV (c_X8_fail θ.2.1 κ (mm := mm) (k := 1) hM) w_X8_57 ⟨q_846, q_18⟩ rfl rfl cmm rfl ⟨(Nat.le_of_ble_eq_true rfl), (Nat.le_of_ble_eq_true rfl)⟩ (Nat.le_of_ble_eq_true rfl) dX8_read_28) ⟨(Nat.le_of_ble_eq_true rfl), (Nat.le_of_ble_eq_true rfl)⟩ (fun w9 Lx fx hw9 => ?_)
    obtain ⟨rfl, ex9, hMx, hrx⟩ := hw9
    replace ex9 := ex9.symm
    subst ex9
    exact k_iret dX8_read_31 rfl (Nat.le_of_ble_eq_true rfl) (Nat.le_of_ble_eq_true rfl) (⟨_, rfl, _, rfl, rfl, (k_fr.trans (k_fr.mono hr1 (SM_of rfl)) hrx idf idf), Or.inr (Or.inl ⟨(by rw [xRead, if_neg (by omega)]), hMx⟩)⟩)
  · have hd9 := of_decide_eq_true h9
    refine k_iload_n 2 2 dX8_read_12 rfl rfl ?_
    refine k_i2l dX8_read_13 (inI_mk (by omega) (by omega)) ?_
    refine k_ldc2 (-50000) q_1001 (by decide) dX8_read_14 ?_
    refine k_ldc2 50000 q_1002 (by decide) dX8_read_17 ?_
    refine k_useR (k_runS (c_X8_isIn θ.2.1 κ (v := ht9) (a := (-50000)) (b := 50000) (inL_mk (by omega) (by omega)) (inL_mk (by omega) (by omega)) (inL_mk (by omega) (by omega))) w_X8_41 q_840 rfl rfl ⟨(Nat.le_of_ble_eq_true rfl), (Nat.le_of_ble_eq_true rfl)⟩ (Nat.le_of_ble_eq_true rfl) dX8_read_20) ⟨(Nat.le_of_ble_eq_true rfl), (Nat.le_of_ble_eq_true rfl)⟩ ?_
    refine k_ifb_ne 32 dX8_read_23 (by decide) (fun h23 => ?_) (fun h23 => ?_)
    · have hd23 := of_decide_eq_true h23
      refine k_aload_n 0 0 dX8_read_32 rfl rfl ?_
      refine k_get 8 i_X8 q_791 cmm rfl (by decide) rfl dX8_read_33 ?_
      refine k_bipush dX8_read_36 (by decide) ?_
      refine k_icmp_ne 47 dX8_read_38 (by decide) (inI_mk (by omega) (by omega)) (inI_mk (by omega) (by omega)) (fun h38 => ?_) (fun h38 => ?_)
      · obtain ⟨tn, rfl⟩ : ∃ tn : Nat, t = (tn : Int) := ⟨t.toNat, by omega⟩
        refine k_aload_n 0 0 dX8_read_47 rfl rfl ?_
        refine k_get 9 i_X8 q_792 cmm rfl (by decide) rfl dX8_read_48 ?_
        refine k_aload_n 0 0 dX8_read_51 rfl rfl ?_
        refine k_get 8 i_X8 q_791 cmm rfl (by decide) rfl dX8_read_52 ?_
        refine k_iload_n 1 1 dX8_read_55 rfl rfl ?_
        refine k_iast σ.2.2.2.1 c4 rfl (by omega) (by omega) dX8_read_56 (fun f2 hf2 hc2 => ?_)
        have hr2 := k_fr.put hf2 c4
        replace cmm := cmm.fr hr2 rfl
        replace c0 := c0.fr hr2 rfl
        replace c1 := c1.fr hr2 rfl
        replace c2 := c2.fr hr2 rfl
        replace c3 := c3.fr hr2 rfl
        replace c5 := c5.fr hr2 rfl
        replace c6 := c6.fr hr2 rfl
        replace c7 := c7.fr hr2 rfl
        replace c4 : Cl L f2 (A 4) (26, .inl (κ.2.2.1 0, 40, .inl (fun u9 => iI ((va_up RT σ.2.2.2.1 (tn : Int)) u9)))) := hc2
        refine k_aload_n 0 0 dX8_read_57 rfl rfl ?_
        refine k_get 10 i_X8 q_793 cmm rfl (by decide) rfl dX8_read_58 ?_
        refine k_aload_n 0 0 dX8_read_61 rfl rfl ?_
        refine k_get 8 i_X8 q_791 cmm rfl (by decide) rfl dX8_read_62 ?_
        refine k_iload_n 2 2 dX8_read_65 rfl rfl ?_
        refine k_iast σ.2.2.2.1 c5 rfl (by omega) (by omega) dX8_read_66 (fun f3 hf3 hc3 => ?_)
        have hr3 := k_fr.put hf3 c5
        replace cmm := cmm.fr hr3 rfl
        replace c0 := c0.fr hr3 rfl
        replace c1 := c1.fr hr3 rfl
        replace c2 := c2.fr hr3 rfl
        replace c3 := c3.fr hr3 rfl
        replace c4 := c4.fr hr3 rfl
        replace c6 := c6.fr hr3 rfl
        replace c7 := c7.fr hr3 rfl
        replace c5 : Cl L f3 (A 5) (27, .inl (κ.2.2.1 0, 40, .inl (fun u9 => iI ((va_up RH σ.2.2.2.1 ht9) u9)))) := hc3
        refine k_aload_n 0 0 dX8_read_67 rfl rfl ?_
        refine k_dup dX8_read_68 rfl ?_
        refine k_get 8 i_X8 q_791 cmm rfl (by decide) rfl dX8_read_69 ?_
        refine k_iconst dX8_read_72 ?_
        refine k_iadd dX8_read_73 ?_
        refine k_put 8 [.int (iI 0), .int (iI (σ.1.2.1 : Int)), .ref (A 0), .ref (A 1), .ref (A 2), .int (iI σ.1.1), .int (iI (σ.2.1 : Int)), .ref (A 3), .int (iI ((σ.2.2.2.1 : Int) + 1)), .ref (A 4), .ref (A 5), .int (iI (bI fr)), .ref (A 6), .int (iI wts), .ref (A 7)] i_X8 tyX8_ok nmX8 q_791 cmm rfl (by decide) rfl rfl rfl rfl (Nat.le_of_ble_eq_true rfl) rfl dX8_read_74 (fun f4 hf4 hc4 => ?_)
        have hr4 := k_fr.put hf4 cmm
        replace c0 := c0.fr hr4 rfl
        replace c1 := c1.fr hr4 rfl
        replace c2 := c2.fr hr4 rfl
        replace c3 := c3.fr hr4 rfl
        replace c4 := c4.fr hr4 rfl
        replace c5 := c5.fr hr4 rfl
        replace c6 := c6.fr hr4 rfl
        replace c7 := c7.fr hr4 rfl
        replace cmm : Cl L f4 mm (21, .inr (9, [.int (iI 0), .int (iI (σ.1.2.1 : Int)), .ref (A 0), .ref (A 1), .ref (A 2), .int (iI σ.1.1), .int (iI (σ.2.1 : Int)), .ref (A 3), .int (iI ((σ.2.2.2.1 : Int) + 1)), .ref (A 4), .ref (A 5), .int (iI (bI fr)), .ref (A 6), .int (iI wts), .ref (A 7)])) := hc4
        have hMF : MFacts σ RA PE OF TA RT RH := ⟨hMa, hMb, hMc, hMd⟩
        have hMF2 := mf_read (t := tn) (v := ht9) hMF
        refine k_aload_n 0 0 dX8_read_77 rfl rfl ?_
        refine k_get 8 i_X8 q_791 cmm rfl (by decide) rfl dX8_read_78 ?_
        exact k_iret dX8_read_81 rfl (Nat.le_of_ble_eq_true rfl) (Nat.le_of_ble_eq_true rfl) (⟨_, rfl, _, rfl, rfl, (k_fr.trans (k_fr.trans (k_fr.trans (k_fr.mono hr1 (SM_of rfl)) hr2 idf (SM_of rfl)) hr3 idf (SM_of rfl)) hr4 idf (SM_of rfl)), Or.inl ⟨(by rw [xRead, if_pos (by omega), if_pos (by omega), if_pos (by omega)]), (by omega), ⟨A, fr, wts, RA, PE, OF, TA, (va_up RT σ.2.2.2.1 (tn : Int)), (va_up RH σ.2.2.2.1 ht9), HS, TI, ⟨cmm, c0, c1, c2, c3, c4, c5, c6, c7⟩, hMF2, hfrs⟩⟩⟩)
      · refine k_aload_n 0 0 dX8_read_41 rfl rfl ?_
        refine k_iconst dX8_read_42 ?_
        refine k_useV (k_runV (c_X8_fail θ.2.1 κ (mm := mm) (k := 2) hM) w_X8_57 ⟨q_846, q_18⟩ rfl rfl cmm rfl ⟨(Nat.le_of_ble_eq_true rfl), (Nat.le_of_ble_eq_true rfl)⟩ (Nat.le_of_ble_eq_true rfl) dX8_read_43) ⟨(Nat.le_of_ble_eq_true rfl), (Nat.le_of_ble_eq_true rfl)⟩ (fun w9 Lx fx hw9 => ?_)
        obtain ⟨rfl, ex9, hMx, hrx⟩ := hw9
        replace ex9 := ex9.symm
        subst ex9
        exact k_iret dX8_read_46 rfl (Nat.le_of_ble_eq_true rfl) (Nat.le_of_ble_eq_true rfl) (⟨_, rfl, _, rfl, rfl, (k_fr.trans (k_fr.mono hr1 (SM_of rfl)) hrx idf idf), Or.inr (Or.inr (⟨(by rw [xRead, if_pos (by omega), if_pos (by omega), if_neg (by omega)]), hMx⟩))⟩)
    · have hd23 := of_decide_eq_false h23
      refine k_aload_n 0 0 dX8_read_26 rfl rfl ?_
      refine k_iconst dX8_read_27 ?_
      refine k_useV (k_runV (c_X8_fail θ.2.1 κ (mm := mm) (k := 1) hM) w_X8_57 ⟨q_846, q_18⟩ rfl rfl cmm rfl ⟨(Nat.le_of_ble_eq_true rfl), (Nat.le_of_ble_eq_true rfl)⟩ (Nat.le_of_ble_eq_true rfl) dX8_read_28) ⟨(Nat.le_of_ble_eq_true rfl), (Nat.le_of_ble_eq_true rfl)⟩ (fun w9 Lx fx hw9 => ?_)
      obtain ⟨rfl, ex9, hMx, hrx⟩ := hw9
      replace ex9 := ex9.symm
      subst ex9
      exact k_iret dX8_read_31 rfl (Nat.le_of_ble_eq_true rfl) (Nat.le_of_ble_eq_true rfl) (⟨_, rfl, _, rfl, rfl, (k_fr.trans (k_fr.mono hr1 (SM_of rfl)) hrx idf idf), Or.inr (Or.inl ⟨(by rw [xRead, if_pos (by omega), if_neg (by omega)]), hMx⟩)⟩)
