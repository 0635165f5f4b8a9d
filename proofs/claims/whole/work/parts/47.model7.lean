theorem ahead_bd {σ : Sg} {p : Nat} {t : Int} : -1 ≤ aheadS σ p t ∧ aheadS σ p t ≤ 4320 := by
  have h := nW_le (hT σ.1)
  unfold aheadS
  repeat' split
  all_goals omega
theorem ahead_no {σ : Sg} {p : Nat} {t : Int} (hp : p < σ.2.1) (ht : 0 ≤ t ∧ t ≤ 4319) (h : aheadS σ p t = -1) : xPortHeight σ (p : Int) t = some cIS := by
  unfold aheadS at h
  rw [xPortHeight, if_pos (by omega), if_pos ht, Int.toNat_natCast]
  split at h
  · rename_i h1
    rw [if_pos h1]
    split at h
    · rw [if_neg (by omega)]
    · rw [if_neg (by omega)]
  · rename_i h1
    rw [if_neg h1]
theorem ahead_yes {σ : Sg} {p : Nat} {t : Int} (hp : p < σ.2.1) (ht : 0 ≤ t ∧ t ≤ 4319) (h : aheadS σ p t ≠ -1) : xPortHeight σ (p : Int) t = none ∧ ord (hT σ.1) (σ.2.2.1 p) = true ∧ ∃ k : Nat, lat (hT σ.1) (σ.2.2.1 p) t 0 = k + 1 ∧ k + 1 < nW (hT σ.1) ∧ aheadS σ p t = (k : Int) := by
  rw [xPortHeight, if_pos (by omega), if_pos ht, Int.toNat_natCast]
  unfold aheadS at h ⊢
  split at h
  · rename_i h1
    rw [if_pos h1, if_pos h1]
    split at h
    · rename_i h2
      refine ⟨if_pos (by omega), h1, lat (hT σ.1) (σ.2.2.1 p) t 0 - 1, by omega, by omega, ?_⟩
      rw [if_pos h2]
      omega
    · exact absurd rfl h
  · exact absurd rfl h
theorem mf_adjust {σ : Sg} {RA PE OF TA RT RH : Nat → Int} (h : MFacts σ RA PE OF TA RT RH) : MFacts (sAdjust σ) RA PE OF TA RT RH := ⟨h.1, h.2.1, h.2.2.1, fun i hi => absurd hi (Nat.not_lt_zero _)⟩
def WJ (h : Nat → Int) (ρ : Rd) (i : Nat) (w : Int) : Prop := w = wst h ρ i ∧ (w = -1 ∨ (0 ≤ w ∧ w < (i : Int)))
theorem WJ.one {h : Nat → Int} {ρ : Rd} {i : Nat} {w : Int} (H : WJ h ρ i w) (e : w = -1) : WJ h ρ (i + 1) (i : Int) := ⟨by rw [wst, if_pos (Or.inl (H.1.symm.trans e))], Or.inr ⟨by omega, by omega⟩⟩
theorem WJ.two {h : Nat → Int} {ρ : Rd} {i w : Nat} (H : WJ h ρ i (w : Int)) (e : (dif h ρ w).natAbs < (dif h ρ i).natAbs) : WJ h ρ (i + 1) (i : Int) := ⟨by rw [wst, if_pos (Or.inr (by rw [← H.1, Int.toNat_natCast]; exact e))], Or.inr ⟨by omega, by omega⟩⟩
theorem WJ.keep {h : Nat → Int} {ρ : Rd} {i w : Nat} (H : WJ h ρ i (w : Int)) (e : (dif h ρ i).natAbs ≤ (dif h ρ w).natAbs) : WJ h ρ (i + 1) (w : Int) := by
  have h2 := H.2
  refine ⟨?_, Or.inr ⟨by omega, by omega⟩⟩
  rw [wst, if_neg]
  · exact H.1
  · rw [← H.1, Int.toNat_natCast]
    intro q
    rcases q with q | q
    · omega
    · omega
set_option maxHeartbeats 4000000 in
set_option maxRecDepth 100000 in
theorem c_X8_portHeight (la : Launch) (κ : Kx) {L : List Nat} {f : Nat → wE} {mm : Nat} {thr : Int} {σ : Sg} {p t : Int}   (hM : MS κ L f mm thr σ) (hs : SgOk σ) (hp : inI p) (ht : inI t) : k_M la κ yX8_portHeight cX8_portHeight 4 (some .int) 8 0 0 [.ref mm, .int (iI p), .int (iI t)] L f (k_rn (fun v9 L' f' => ∃ v : Int, v9 = .int (iI v) ∧ L' = L ∧ k_fr SM L f L' f' ∧ ((xPortHeight σ p t = none ∧ v = aPortHeight σ p t ∧ MS κ L' f' mm 0 (σ)) ∨ (xPortHeight σ p t = some cIO ∧ MS κ L' f' mm 1 σ) ∨ (xPortHeight σ p t = some cIA ∧ MS κ L' f' mm 2 σ) ∨ (xPortHeight σ p t = some cIS ∧ MS κ L' f' mm 3 σ)))) := by
  refine k_head RX8 [(0, .ref mm), (1, .int (iI p)), (2, .int (iI t))] rfl (by decide) (Nat.le_of_ble_eq_true rfl) rfl (fun θ hθ hin => ?_)
  obtain ⟨A, fr, wts, RA, PE, OF, TA, RT, RH, HS, TI, ⟨cmm, c0, c1, c2, c3, c4, c5, c6, c7⟩, ⟨hMa, hMb, hMc, hMd⟩, hfrs⟩ := id hM
  obtain ⟨hs1, ⟨hs2, hs3⟩, hs4⟩ := id hs
  have hs5 := hs1.2.1
  have hs6 := hs4.1
  have hs7 := nW_le (hT σ.1)
  have hs8 := hs1.1
  obtain ⟨hpl, hpu⟩ := id hp
  obtain ⟨htl, htu⟩ := id ht
  refine k_aload_n 0 0 dX8_portHeight_0 rfl rfl ?_
  refine k_iconst dX8_portHeight_1 ?_
  refine k_put 0 [.int (iI 0), .int (iI (σ.1.2.1 : Int)), .ref (A 0), .ref (A 1), .ref (A 2), .int (iI σ.1.1), .int (iI (σ.2.1 : Int)), .ref (A 3), .int (iI (σ.2.2.2.1 : Int)), .ref (A 4), .ref (A 5), .int (iI (bI fr)), .ref (A 6), .int (iI wts), .ref (A 7)] i_X8 tyX8_ok nmX8 q_783 cmm rfl (by decide) rfl rfl rfl rfl (Nat.le_of_ble_eq_true rfl) rfl dX8_portHeight_2 (fun f1 hf1 hc1 => ?_)
  have hr1 := k_fr.put hf1 cmm
  replace c0 := c0.fr hr1 rfl
  replace c1 := c1.fr hr1 rfl
  replace c2 := c2.fr hr1 rfl
  replace c3 := c3.fr hr1 rfl
  replace c4 := c4.fr hr1 rfl
  replace c5 := c5.fr hr1 rfl
  replace c6 := c6.fr hr1 rfl
  replace c7 := c7.fr hr1 rfl
  replace cmm : Cl L f1 mm (21, .inr (9, [.int (iI 0), .int (iI (σ.1.2.1 : Int)), .ref (A 0), .ref (A 1), .ref (A 2), .int (iI σ.1.1), .int (iI (σ.2.1 : Int)), .ref (A 3), .int (iI (σ.2.2.2.1 : Int)), .ref (A 4), .ref (A 5), .int (iI (bI fr)), .ref (A 6), .int (iI wts), .ref (A 7)])) := hc1
  have hM0 : MS κ L f1 mm 0 σ := ⟨A, fr, wts, RA, PE, OF, TA, RT, RH, HS, TI, ⟨cmm, c0, c1, c2, c3, c4, c5, c6, c7⟩, ⟨hMa, hMb, hMc, hMd⟩, hfrs⟩
  replace hM := hM0
  refine k_aload_n 0 0 dX8_portHeight_5 rfl rfl ?_
  refine k_iload_n 1 1 dX8_portHeight_6 rfl rfl ?_
  refine k_useR (k_runV (c_X8_isPort θ.2.1 κ (mm := mm) (p := p) hM hs (inI_mk (by omega) (by omega))) w_X8_133 ⟨q_943, q_29⟩ rfl rfl cmm rfl ⟨(Nat.le_of_ble_eq_true rfl), (Nat.le_of_ble_eq_true rfl)⟩ (Nat.le_of_ble_eq_true rfl) dX8_portHeight_7) ⟨(Nat.le_of_ble_eq_true rfl), (Nat.le_of_ble_eq_true rfl)⟩ ?_
  refine k_ifb_ne 19 dX8_portHeight_10 (by decide) (fun h10 => ?_) (fun h10 => ?_)
  · have hd10 := of_decide_eq_true h10
    refine k_iload_n 2 2 dX8_portHeight_19 rfl rfl ?_
    refine k_useR (k_runS (c_X8_isTime θ.2.1 κ (t := t) (inI_mk (by omega) (by omega))) w_X8_87 q_867 rfl rfl ⟨(Nat.le_of_ble_eq_true rfl), (Nat.le_of_ble_eq_true rfl)⟩ (Nat.le_of_ble_eq_true rfl) dX8_portHeight_20) ⟨(Nat.le_of_ble_eq_true rfl), (Nat.le_of_ble_eq_true rfl)⟩ ?_
    refine k_ifb_ne 32 dX8_portHeight_23 (by decide) (fun h23 => ?_) (fun h23 => ?_)
    · have hd23 := of_decide_eq_true h23
      obtain ⟨pn, rfl⟩ : ∃ pn : Nat, p = (pn : Int) := ⟨p.toNat, by omega⟩
      refine k_aload_n 0 0 dX8_portHeight_32 rfl rfl ?_
      refine k_iload_n 1 1 dX8_portHeight_33 rfl rfl ?_
      refine k_iload_n 2 2 dX8_portHeight_34 rfl rfl ?_
      refine k_useV (k_runV (c_X8_waterAhead θ.2.1 κ (p := pn) (mm := mm) (t := t) hM hs (by omega) (inI_mk (by omega) (by omega))) w_X8_165 ⟨q_980, q_33⟩ rfl rfl cmm rfl ⟨(Nat.le_of_ble_eq_true rfl), (Nat.le_of_ble_eq_true rfl)⟩ (Nat.le_of_ble_eq_true rfl) dX8_portHeight_35) ⟨(Nat.le_of_ble_eq_true rfl), (Nat.le_of_ble_eq_true rfl)⟩ (fun w9 Lq fq hwq => ?_)
      obtain ⟨rfl, eq9, hMf, hrF⟩ := hwq
      replace eq9 := eq9.symm
      subst eq9
      obtain ⟨A, RA, PE, OF, TA, RT, RH, HS, TI, ⟨cmm, c0, c1, c2, c3, c4, c5, c6, c7⟩, ⟨hMa, hMb, hMc, hMd⟩, hHS, hTI⟩ := id hMf
      refine k_istore_n 3 [(3, .int (iI (aheadS σ pn t))), (0, .ref mm), (1, .int (iI (pn : Int))), (2, .int (iI t))] dX8_portHeight_38 rfl (by decide) rfl ?_
      refine k_iload_n 0 3 dX8_portHeight_39 rfl rfl ?_
      refine k_iconst dX8_portHeight_40 ?_
      have hab := ahead_bd (σ := σ) (p := pn) (t := t)
      refine k_icmp_ne 52 dX8_portHeight_41 (by decide) (inI_mk (by omega) (by omega)) (inI_mk (by omega) (by omega)) (fun h41 => ?_) (fun h41 => ?_)
      · obtain ⟨hx9, ho9, k9, hk9, hk8, hk7⟩ := ahead_yes (p := pn) (t := t) (by omega) (by omega) h41
        have hls := lat_spec (h := (hT σ.1)) (q := (σ.2.2.1 pn)) (t := t) (Nat.zero_le (nW (hT σ.1)))
        have hl1 := hls.2.2.1 k9 (Nat.zero_le _) (by omega)
        have hl2 : t < pT (hT σ.1) (σ.2.2.1 pn) (k9 + 1) := Int.not_le.mp (fun q9 => hls.2.2.2 ⟨by omega, by rw [hk9]; exact q9⟩)
        refine k_aload_n 1 0 dX8_portHeight_52 rfl rfl ?_
        refine k_iload_n 2 1 dX8_portHeight_53 rfl rfl ?_
        refine k_iload_n 0 3 dX8_portHeight_54 rfl rfl ?_
        refine k_topi (k9 : Int) hk7 ?_
        refine k_iload_n 3 2 dX8_portHeight_55 rfl rfl ?_
        refine k_useR (k_runV (c_X8_between θ.2.1 κ (p := pn) (k := k9) (mm := mm) (t := t) hMf hs (by omega) hk8 hl1 hl2) w_X8_168 ⟨q_984, q_34⟩ rfl rfl cmm rfl ⟨(Nat.le_of_ble_eq_true rfl), (Nat.le_of_ble_eq_true rfl)⟩ (Nat.le_of_ble_eq_true rfl) dX8_portHeight_56) ⟨(Nat.le_of_ble_eq_true rfl), (Nat.le_of_ble_eq_true rfl)⟩ ?_
        have hbt := btw_all (h := (hT σ.1)) (hs3 pn (by omega)) (hT_bd hs1) hk8 hl1 hl2
        refine k_l2i dX8_portHeight_59 ?_
        exact k_iret dX8_portHeight_60 rfl (Nat.le_of_ble_eq_true rfl) (Nat.le_of_ble_eq_true rfl) (⟨_, rfl, _, rfl, rfl, (k_fr.trans (k_fr.mono hr1 (SM_of rfl)) hrF idf idf), Or.inl ⟨hx9, (by show _ = btw (hT σ.1) (σ.2.2.1 pn) (lat (hT σ.1) (σ.2.2.1 pn) t 0) t; rw [hk9]), hMf.ms⟩⟩)
      · refine k_aload_n 1 0 dX8_portHeight_44 rfl rfl ?_
        refine k_iconst dX8_portHeight_45 ?_
        refine k_useV (k_runV (c_X8_fail θ.2.1 κ (mm := mm) (k := 3) hMf.ms) w_X8_57 ⟨q_846, q_18⟩ rfl rfl cmm rfl ⟨(Nat.le_of_ble_eq_true rfl), (Nat.le_of_ble_eq_true rfl)⟩ (Nat.le_of_ble_eq_true rfl) dX8_portHeight_46) ⟨(Nat.le_of_ble_eq_true rfl), (Nat.le_of_ble_eq_true rfl)⟩ (fun w9 Lx fx hw9 => ?_)
        obtain ⟨rfl, ex9, hMx, hrx⟩ := hw9
        replace ex9 := ex9.symm
        subst ex9
        refine k_goto 60 dX8_portHeight_49 (by decide) ?_
        exact k_iret dX8_portHeight_60 rfl (Nat.le_of_ble_eq_true rfl) (Nat.le_of_ble_eq_true rfl) (⟨_, rfl, _, rfl, rfl, (k_fr.trans (k_fr.trans (k_fr.mono hr1 (SM_of rfl)) hrF idf idf) hrx idf idf), Or.inr (Or.inr (Or.inr (⟨(ahead_no (p := pn) (t := t) (by omega) (by omega) h41), hMx⟩)))⟩)
    · have hd23 := of_decide_eq_false h23
      refine k_aload_n 0 0 dX8_portHeight_26 rfl rfl ?_
      refine k_iconst dX8_portHeight_27 ?_
      refine k_useV (k_runV (c_X8_fail θ.2.1 κ (mm := mm) (k := 2) hM) w_X8_57 ⟨q_846, q_18⟩ rfl rfl cmm rfl ⟨(Nat.le_of_ble_eq_true rfl), (Nat.le_of_ble_eq_true rfl)⟩ (Nat.le_of_ble_eq_true rfl) dX8_portHeight_28) ⟨(Nat.le_of_ble_eq_true rfl), (Nat.le_of_ble_eq_true rfl)⟩ (fun w9 Lx fx hw9 => ?_)
      obtain ⟨rfl, ex9, hMx, hrx⟩ := hw9
      replace ex9 := ex9.symm
      subst ex9
      exact k_iret dX8_portHeight_31 rfl (Nat.le_of_ble_eq_true rfl) (Nat.le_of_ble_eq_true rfl) (⟨_, rfl, _, rfl, rfl, (k_fr.trans (k_fr.mono hr1 (SM_of rfl)) hrx idf idf), Or.inr (Or.inr (Or.inl ⟨(by rw [xPortHeight, if_pos (by omega), if_neg (by omega)]), hMx⟩))⟩)
  · have hd10 := of_decide_eq_false h10
    refine k_aload_n 0 0 dX8_portHeight_13 rfl rfl ?_
    refine k_iconst dX8_portHeight_14 ?_
    refine k_useV (k_runV (c_X8_fail θ.2.1 κ (mm := mm) (k := 1) hM) w_X8_57 ⟨q_846, q_18⟩ rfl rfl cmm rfl ⟨(Nat.le_of_ble_eq_true rfl), (Nat.le_of_ble_eq_true rfl)⟩ (Nat.le_of_ble_eq_true rfl) dX8_portHeight_15) ⟨(Nat.le_of_ble_eq_true rfl), (Nat.le_of_ble_eq_true rfl)⟩ (fun w9 Lx fx hw9 => ?_)
    obtain ⟨rfl, ex9, hMx, hrx⟩ := hw9
    replace ex9 := ex9.symm
    subst ex9
    exact k_iret dX8_portHeight_18 rfl (Nat.le_of_ble_eq_true rfl) (Nat.le_of_ble_eq_true rfl) (⟨_, rfl, _, rfl, rfl, (k_fr.trans (k_fr.mono hr1 (SM_of rfl)) hrx idf idf), Or.inr (Or.inl ⟨(by rw [xPortHeight, if_neg (by omega)]), hMx⟩)⟩)
set_option maxHeartbeats 4000000 in
set_option maxRecDepth 100000 in
theorem c_X8_adjust (la : Launch) (κ : Kx) {L : List Nat} {f : Nat → wE} {mm : Nat} {thr : Int} {σ : Sg}   (hM : MS κ L f mm thr σ) (hs : SgOk σ) : k_M la κ yX8_adjust cX8_adjust 3 (some .int) 7 0 0 [.ref mm] L f (k_rn (fun v9 L' f' => ∃ v : Int, v9 = .int (iI v) ∧ L' = L ∧ k_fr SM L f L' f' ∧ ((xAdjust σ = none ∧ v = raised σ ∧ MS κ L' f' mm 0 (sAdjust σ)) ∨ (xAdjust σ = some cIS ∧ MS κ L' f' mm 1 σ)))) := by
  refine k_head RX8 [(0, .ref mm)] rfl (by decide) (Nat.le_of_ble_eq_true rfl) rfl (fun θ hθ hin => ?_)
  obtain ⟨A, fr, wts, RA, PE, OF, TA, RT, RH, HS, TI, ⟨cmm, c0, c1, c2, c3, c4, c5, c6, c7⟩, ⟨hMa, hMb, hMc, hMd⟩, hfrs⟩ := id hM
  obtain ⟨hs1, ⟨hs2, hs3⟩, hs4⟩ := id hs
  have hs5 := hs1.2.1
  have hs6 := hs4.1
  have hs7 := nW_le (hT σ.1)
  have hs8 := hs1.1
  refine k_aload_n 0 0 dX8_adjust_0 rfl rfl ?_
  refine k_iconst dX8_adjust_1 ?_
  refine k_put 0 [.int (iI 0), .int (iI (σ.1.2.1 : Int)), .ref (A 0), .ref (A 1), .ref (A 2), .int (iI σ.1.1), .int (iI (σ.2.1 : Int)), .ref (A 3), .int (iI (σ.2.2.2.1 : Int)), .ref (A 4), .ref (A 5), .int (iI (bI fr)), .ref (A 6), .int (iI wts), .ref (A 7)] i_X8 tyX8_ok nmX8 q_783 cmm rfl (by decide) rfl rfl rfl rfl (Nat.le_of_ble_eq_true rfl) rfl dX8_adjust_2 (fun f1 hf1 hc1 => ?_)
  have hr1 := k_fr.put hf1 cmm
  replace c0 := c0.fr hr1 rfl
  replace c1 := c1.fr hr1 rfl
  replace c2 := c2.fr hr1 rfl
  replace c3 := c3.fr hr1 rfl
  replace c4 := c4.fr hr1 rfl
  replace c5 := c5.fr hr1 rfl
  replace c6 := c6.fr hr1 rfl
  replace c7 := c7.fr hr1 rfl
  replace cmm : Cl L f1 mm (21, .inr (9, [.int (iI 0), .int (iI (σ.1.2.1 : Int)), .ref (A 0), .ref (A 1), .ref (A 2), .int (iI σ.1.1), .int (iI (σ.2.1 : Int)), .ref (A 3), .int (iI (σ.2.2.2.1 : Int)), .ref (A 4), .ref (A 5), .int (iI (bI fr)), .ref (A 6), .int (iI wts), .ref (A 7)])) := hc1
  have hM0 : MS κ L f1 mm 0 σ := ⟨A, fr, wts, RA, PE, OF, TA, RT, RH, HS, TI, ⟨cmm, c0, c1, c2, c3, c4, c5, c6, c7⟩, ⟨hMa, hMb, hMc, hMd⟩, hfrs⟩
  replace hM := hM0
  refine k_aload_n 0 0 dX8_adjust_5 rfl rfl ?_
  refine k_get 8 i_X8 q_791 cmm rfl (by decide) rfl dX8_adjust_6 ?_
  refine k_if_ne 18 dX8_adjust_9 (by decide) (inI_mk (by omega) (by omega)) (fun h9 => ?_) (fun h9 => ?_)
  · refine k_aload_n 0 0 dX8_adjust_18 rfl rfl ?_
    refine k_useV (k_runV (c_X8_sumOff θ.2.1 κ (mm := mm) hM hs) w_X8_181 ⟨q_1009, q_35⟩ rfl rfl cmm rfl ⟨(Nat.le_of_ble_eq_true rfl), (Nat.le_of_ble_eq_true rfl)⟩ (Nat.le_of_ble_eq_true rfl) dX8_adjust_19) ⟨(Nat.le_of_ble_eq_true rfl), (Nat.le_of_ble_eq_true rfl)⟩ (fun w9 Lq fq hwq => ?_)
    obtain ⟨rfl, eq9, hMf, hrF⟩ := hwq
    replace eq9 := eq9.symm
    subst eq9
    obtain ⟨A, RA, PE, OF, TA, RT, RH, HS, TI, ⟨cmm, c0, c1, c2, c3, c4, c5, c6, c7⟩, ⟨hMa, hMb, hMc, hMd⟩, hHS, hTI⟩ := id hMf
    have hsd := sumD_bd hs1 hs4 σ.2.2.2.1 (Nat.le_refl _)
    refine k_aload_n 0 0 dX8_adjust_22 rfl rfl ?_
    refine k_get 8 i_X8 q_791 cmm rfl (by decide) rfl dX8_adjust_23 ?_
    refine k_i2l dX8_adjust_26 (inI_mk (by omega) (by omega)) ?_
    refine k_ldiv dX8_adjust_27 (inL_mk (by omega) (by omega)) (inL_mk (by omega) (by omega)) (by omega) ?_
    refine k_topl (raised σ) rfl ?_
    have hrb := raised_bd hs
    refine k_lstore_n 1 [(1, .long (lI (raised σ))), (0, .ref mm)] dX8_adjust_28 rfl (by decide) rfl ?_
    refine k_aload_n 1 0 dX8_adjust_29 rfl rfl ?_
    refine k_get 5 i_X8 q_788 cmm rfl (by decide) rfl dX8_adjust_30 ?_
    refine k_i2l dX8_adjust_33 (inI_mk (by omega) (by omega)) ?_
    refine k_lload_n 0 1 dX8_adjust_34 rfl rfl ?_
    refine k_ladd dX8_adjust_35 ?_
    refine k_ldc2 (-10000) q_860 (by decide) dX8_adjust_36 ?_
    refine k_ldc2 10000 q_861 (by decide) dX8_adjust_39 ?_
    refine k_useR (k_runS (c_X8_isIn θ.2.1 κ (v := (σ.1.1 + (raised σ))) (a := (-10000)) (b := 10000) (inL_mk (by omega) (by omega)) (inL_mk (by omega) (by omega)) (inL_mk (by omega) (by omega))) w_X8_41 q_840 rfl rfl ⟨(Nat.le_of_ble_eq_true rfl), (Nat.le_of_ble_eq_true rfl)⟩ (Nat.le_of_ble_eq_true rfl) dX8_adjust_42) ⟨(Nat.le_of_ble_eq_true rfl), (Nat.le_of_ble_eq_true rfl)⟩ ?_
    refine k_ifb_ne 54 dX8_adjust_45 (by decide) (fun h45 => ?_) (fun h45 => ?_)
    · have hd45 := of_decide_eq_true h45
      refine k_aload_n 1 0 dX8_adjust_54 rfl rfl ?_
      refine k_dup dX8_adjust_55 rfl ?_
      refine k_get 5 i_X8 q_788 cmm rfl (by decide) rfl dX8_adjust_56 ?_
      refine k_lload_n 0 1 dX8_adjust_59 rfl rfl ?_
      refine k_l2i dX8_adjust_60 ?_
      refine k_iadd dX8_adjust_61 ?_
      refine k_put 5 [.int (iI 0), .int (iI (σ.1.2.1 : Int)), .ref (A 0), .ref (A 1), .ref (A 2), .int (iI (σ.1.1 + (raised σ))), .int (iI (σ.2.1 : Int)), .ref (A 3), .int (iI (σ.2.2.2.1 : Int)), .ref (A 4), .ref (A 5), .int (iI (bI true)), .ref (A 6), .int (iI (nW (hT σ.1) : Int)), .ref (A 7)] i_X8 tyX8_ok nmX8 q_788 cmm rfl (by decide) rfl rfl rfl rfl (Nat.le_of_ble_eq_true rfl) rfl dX8_adjust_62 (fun f2 hf2 hc2 => ?_)
      have hr2 := k_fr.put hf2 cmm
      replace c0 := c0.fr hr2 rfl
      replace c1 := c1.fr hr2 rfl
      replace c2 := c2.fr hr2 rfl
      replace c3 := c3.fr hr2 rfl
      replace c4 := c4.fr hr2 rfl
      replace c5 := c5.fr hr2 rfl
      replace c6 := c6.fr hr2 rfl
      replace c7 := c7.fr hr2 rfl
      replace cmm : Cl L f2 mm (21, .inr (9, [.int (iI 0), .int (iI (σ.1.2.1 : Int)), .ref (A 0), .ref (A 1), .ref (A 2), .int (iI (σ.1.1 + (raised σ))), .int (iI (σ.2.1 : Int)), .ref (A 3), .int (iI (σ.2.2.2.1 : Int)), .ref (A 4), .ref (A 5), .int (iI (bI true)), .ref (A 6), .int (iI (nW (hT σ.1) : Int)), .ref (A 7)])) := hc2
      refine k_aload_n 1 0 dX8_adjust_65 rfl rfl ?_
      refine k_iconst dX8_adjust_66 ?_
      refine k_put 8 [.int (iI 0), .int (iI (σ.1.2.1 : Int)), .ref (A 0), .ref (A 1), .ref (A 2), .int (iI (σ.1.1 + (raised σ))), .int (iI (σ.2.1 : Int)), .ref (A 3), .int (iI 0), .ref (A 4), .ref (A 5), .int (iI (bI true)), .ref (A 6), .int (iI (nW (hT σ.1) : Int)), .ref (A 7)] i_X8 tyX8_ok nmX8 q_791 cmm rfl (by decide) rfl rfl rfl rfl (Nat.le_of_ble_eq_true rfl) rfl dX8_adjust_67 (fun f3 hf3 hc3 => ?_)
      have hr3 := k_fr.put hf3 cmm
      replace c0 := c0.fr hr3 rfl
      replace c1 := c1.fr hr3 rfl
      replace c2 := c2.fr hr3 rfl
      replace c3 := c3.fr hr3 rfl
      replace c4 := c4.fr hr3 rfl
      replace c5 := c5.fr hr3 rfl
      replace c6 := c6.fr hr3 rfl
      replace c7 := c7.fr hr3 rfl
      replace cmm : Cl L f3 mm (21, .inr (9, [.int (iI 0), .int (iI (σ.1.2.1 : Int)), .ref (A 0), .ref (A 1), .ref (A 2), .int (iI (σ.1.1 + (raised σ))), .int (iI (σ.2.1 : Int)), .ref (A 3), .int (iI 0), .ref (A 4), .ref (A 5), .int (iI (bI true)), .ref (A 6), .int (iI (nW (hT σ.1) : Int)), .ref (A 7)])) := hc3
      refine k_aload_n 1 0 dX8_adjust_70 rfl rfl ?_
      refine k_iconst dX8_adjust_71 ?_
      refine k_put 11 [.int (iI 0), .int (iI (σ.1.2.1 : Int)), .ref (A 0), .ref (A 1), .ref (A 2), .int (iI (σ.1.1 + (raised σ))), .int (iI (σ.2.1 : Int)), .ref (A 3), .int (iI 0), .ref (A 4), .ref (A 5), .int (iI (bI false)), .ref (A 6), .int (iI (nW (hT σ.1) : Int)), .ref (A 7)] i_X8 tyX8_ok nmX8 q_794 cmm rfl (by decide) rfl rfl (k_nar_b false) (k_fit_b false) (Nat.le_of_ble_eq_true rfl) rfl dX8_adjust_72 (fun f4 hf4 hc4 => ?_)
      have hr4 := k_fr.put hf4 cmm
      replace c0 := c0.fr hr4 rfl
      replace c1 := c1.fr hr4 rfl
      replace c2 := c2.fr hr4 rfl
      replace c3 := c3.fr hr4 rfl
      replace c4 := c4.fr hr4 rfl
      replace c5 := c5.fr hr4 rfl
      replace c6 := c6.fr hr4 rfl
      replace c7 := c7.fr hr4 rfl
      replace cmm : Cl L f4 mm (21, .inr (9, [.int (iI 0), .int (iI (σ.1.2.1 : Int)), .ref (A 0), .ref (A 1), .ref (A 2), .int (iI (σ.1.1 + (raised σ))), .int (iI (σ.2.1 : Int)), .ref (A 3), .int (iI 0), .ref (A 4), .ref (A 5), .int (iI (bI false)), .ref (A 6), .int (iI (nW (hT σ.1) : Int)), .ref (A 7)])) := hc4
      have hMF : MFacts σ RA PE OF TA RT RH := ⟨hMa, hMb, hMc, hMd⟩
      have hMF2 := mf_adjust hMF
      refine k_lload_n 0 1 dX8_adjust_75 rfl rfl ?_
      refine k_l2i dX8_adjust_76 ?_
      exact k_iret dX8_adjust_77 rfl (Nat.le_of_ble_eq_true rfl) (Nat.le_of_ble_eq_true rfl) (⟨_, rfl, _, rfl, rfl, (k_fr.trans (k_fr.trans (k_fr.trans (k_fr.trans (k_fr.mono hr1 (SM_of rfl)) hrF idf idf) hr2 idf (SM_of rfl)) hr3 idf (SM_of rfl)) hr4 idf (SM_of rfl)), Or.inl ⟨(by rw [xAdjust, if_neg (by omega), if_pos (by omega)]), rfl, ⟨A, false, _, RA, PE, OF, TA, RT, RH, HS, TI, ⟨cmm, c0, c1, c2, c3, c4, c5, c6, c7⟩, hMF2, (fun e => Bool.noConfusion e)⟩⟩⟩)
    · have hd45 := of_decide_eq_false h45
      refine k_aload_n 1 0 dX8_adjust_48 rfl rfl ?_
      refine k_iconst dX8_adjust_49 ?_
      refine k_useV (k_runV (c_X8_fail θ.2.1 κ (mm := mm) (k := 1) hMf.ms) w_X8_57 ⟨q_846, q_18⟩ rfl rfl cmm rfl ⟨(Nat.le_of_ble_eq_true rfl), (Nat.le_of_ble_eq_true rfl)⟩ (Nat.le_of_ble_eq_true rfl) dX8_adjust_50) ⟨(Nat.le_of_ble_eq_true rfl), (Nat.le_of_ble_eq_true rfl)⟩ (fun w9 Lx fx hw9 => ?_)
      obtain ⟨rfl, ex9, hMx, hrx⟩ := hw9
      replace ex9 := ex9.symm
      subst ex9
      exact k_iret dX8_adjust_53 rfl (Nat.le_of_ble_eq_true rfl) (Nat.le_of_ble_eq_true rfl) (⟨_, rfl, _, rfl, rfl, (k_fr.trans (k_fr.trans (k_fr.mono hr1 (SM_of rfl)) hrF idf idf) hrx idf idf), Or.inr (⟨(by rw [xAdjust, if_neg (by omega), if_neg (by omega)]), hMx⟩)⟩)
  · refine k_aload_n 0 0 dX8_adjust_12 rfl rfl ?_
    refine k_iconst dX8_adjust_13 ?_
    refine k_useV (k_runV (c_X8_fail θ.2.1 κ (mm := mm) (k := 1) hM) w_X8_57 ⟨q_846, q_18⟩ rfl rfl cmm rfl ⟨(Nat.le_of_ble_eq_true rfl), (Nat.le_of_ble_eq_true rfl)⟩ (Nat.le_of_ble_eq_true rfl) dX8_adjust_14) ⟨(Nat.le_of_ble_eq_true rfl), (Nat.le_of_ble_eq_true rfl)⟩ (fun w9 Lx fx hw9 => ?_)
    obtain ⟨rfl, ex9, hMx, hrx⟩ := hw9
    replace ex9 := ex9.symm
    subst ex9
    exact k_iret dX8_adjust_17 rfl (Nat.le_of_ble_eq_true rfl) (Nat.le_of_ble_eq_true rfl) (⟨_, rfl, _, rfl, rfl, (k_fr.trans (k_fr.mono hr1 (SM_of rfl)) hrx idf idf), Or.inr (⟨(by rw [xAdjust, if_pos (by omega)]), hMx⟩)⟩)
set_option maxHeartbeats 4000000 in
set_option maxRecDepth 100000 in
theorem c_X8_residual (la : Launch) (κ : Kx) {L : List Nat} {f : Nat → wE} {mm : Nat} {thr : Int} {σ : Sg}   (hM : MS κ L f mm thr σ) (hs : SgOk σ) : k_M la κ yX8_residual cX8_residual 1 (some .double) 7 0 0 [.ref mm] L f (k_rn (fun v9 L' f' => v9 = .double (rsd σ) ∧ L' = L ∧ k_fr SM L f L' f' ∧ MS κ L' f' mm 0 σ)) := by
  refine k_head RX8 [(0, .ref mm)] rfl (by decide) (Nat.le_of_ble_eq_true rfl) rfl (fun θ hθ hin => ?_)
  obtain ⟨A, fr, wts, RA, PE, OF, TA, RT, RH, HS, TI, ⟨cmm, c0, c1, c2, c3, c4, c5, c6, c7⟩, ⟨hMa, hMb, hMc, hMd⟩, hfrs⟩ := id hM
  obtain ⟨hs1, ⟨hs2, hs3⟩, hs4⟩ := id hs
  have hs5 := hs1.2.1
  have hs6 := hs4.1
  have hs7 := nW_le (hT σ.1)
  have hs8 := hs1.1
  refine k_aload_n 0 0 dX8_residual_0 rfl rfl ?_
  refine k_iconst dX8_residual_1 ?_
  refine k_put 0 [.int (iI 0), .int (iI (σ.1.2.1 : Int)), .ref (A 0), .ref (A 1), .ref (A 2), .int (iI σ.1.1), .int (iI (σ.2.1 : Int)), .ref (A 3), .int (iI (σ.2.2.2.1 : Int)), .ref (A 4), .ref (A 5), .int (iI (bI fr)), .ref (A 6), .int (iI wts), .ref (A 7)] i_X8 tyX8_ok nmX8 q_783 cmm rfl (by decide) rfl rfl rfl rfl (Nat.le_of_ble_eq_true rfl) rfl dX8_residual_2 (fun f1 hf1 hc1 => ?_)
  have hr1 := k_fr.put hf1 cmm
  replace c0 := c0.fr hr1 rfl
  replace c1 := c1.fr hr1 rfl
  replace c2 := c2.fr hr1 rfl
  replace c3 := c3.fr hr1 rfl
  replace c4 := c4.fr hr1 rfl
  replace c5 := c5.fr hr1 rfl
  replace c6 := c6.fr hr1 rfl
  replace c7 := c7.fr hr1 rfl
  replace cmm : Cl L f1 mm (21, .inr (9, [.int (iI 0), .int (iI (σ.1.2.1 : Int)), .ref (A 0), .ref (A 1), .ref (A 2), .int (iI σ.1.1), .int (iI (σ.2.1 : Int)), .ref (A 3), .int (iI (σ.2.2.2.1 : Int)), .ref (A 4), .ref (A 5), .int (iI (bI fr)), .ref (A 6), .int (iI wts), .ref (A 7)])) := hc1
  have hM0 : MS κ L f1 mm 0 σ := ⟨A, fr, wts, RA, PE, OF, TA, RT, RH, HS, TI, ⟨cmm, c0, c1, c2, c3, c4, c5, c6, c7⟩, ⟨hMa, hMb, hMc, hMd⟩, hfrs⟩
  replace hM := hM0
  refine k_aload_n 0 0 dX8_residual_5 rfl rfl ?_
  refine k_get 8 i_X8 q_791 cmm rfl (by decide) rfl dX8_residual_6 ?_
  refine k_if_ne 16 dX8_residual_9 (by decide) (inI_mk (by omega) (by omega)) (fun h9 => ?_) (fun h9 => ?_)
  · refine k_aload_n 0 0 dX8_residual_16 rfl rfl ?_
    refine k_useV (k_runV (c_X8_sumOff θ.2.1 κ (mm := mm) hM hs) w_X8_181 ⟨q_1009, q_35⟩ rfl rfl cmm rfl ⟨(Nat.le_of_ble_eq_true rfl), (Nat.le_of_ble_eq_true rfl)⟩ (Nat.le_of_ble_eq_true rfl) dX8_residual_17) ⟨(Nat.le_of_ble_eq_true rfl), (Nat.le_of_ble_eq_true rfl)⟩ (fun w9 Lq fq hwq => ?_)
    obtain ⟨rfl, eq9, hMf, hrF⟩ := hwq
    replace eq9 := eq9.symm
    subst eq9
    obtain ⟨A, RA, PE, OF, TA, RT, RH, HS, TI, ⟨cmm, c0, c1, c2, c3, c4, c5, c6, c7⟩, ⟨hMa, hMb, hMc, hMd⟩, hHS, hTI⟩ := id hMf
    refine k_l2d dX8_residual_20 ?_
    refine k_aload_n 0 0 dX8_residual_21 rfl rfl ?_
    refine k_get 8 i_X8 q_791 cmm rfl (by decide) rfl dX8_residual_22 ?_
    refine k_i2d dX8_residual_25 ?_
    refine k_ddiv dX8_residual_26 (fd_div (by omega) (by omega)) ?_
    exact k_dret dX8_residual_27 rfl (Nat.le_of_ble_eq_true rfl) (Nat.le_of_ble_eq_true rfl) (⟨_, rfl, (congrArg Value.double (by rw [rsd, if_neg (by omega)])), rfl, (k_fr.trans (k_fr.mono hr1 (SM_of rfl)) hrF idf idf), hMf.ms⟩)
  · refine k_dconst0 dX8_residual_12 ?_
    refine k_goto 27 dX8_residual_13 (by decide) ?_
    exact k_dret dX8_residual_27 rfl (Nat.le_of_ble_eq_true rfl) (Nat.le_of_ble_eq_true rfl) (⟨_, rfl, (congrArg Value.double (by rw [rsd, if_pos (by omega)])), rfl, (k_fr.mono hr1 (SM_of rfl)), hM⟩)
set_option maxHeartbeats 4000000 in
set_option maxRecDepth 100000 in
theorem c_X8_worst (la : Launch) (κ : Kx) {L : List Nat} {f : Nat → wE} {mm : Nat} {thr : Int} {σ : Sg}   (hM : MS κ L f mm thr σ) (hs : SgOk σ) : k_M la κ yX8_worst cX8_worst 3 (some .int) 6 0 0 [.ref mm] L f (k_rn (fun v9 L' f' => v9 = .int (iI (wst (hT σ.1) σ.2.2.2 σ.2.2.2.1)) ∧ L' = L ∧ k_fr SM L f L' f' ∧ MS κ L' f' mm 0 σ)) := by
  refine k_head RX8 [(0, .ref mm)] rfl (by decide) (Nat.le_of_ble_eq_true rfl) rfl (fun θ hθ hin => ?_)
  obtain ⟨A, fr, wts, RA, PE, OF, TA, RT, RH, HS, TI, ⟨cmm, c0, c1, c2, c3, c4, c5, c6, c7⟩, ⟨hMa, hMb, hMc, hMd⟩, hfrs⟩ := id hM
  obtain ⟨hs1, ⟨hs2, hs3⟩, hs4⟩ := id hs
  have hs5 := hs1.2.1
  have hs6 := hs4.1
  have hs7 := nW_le (hT σ.1)
  have hs8 := hs1.1
  refine k_aload_n 0 0 dX8_worst_0 rfl rfl ?_
  refine k_iconst dX8_worst_1 ?_
  refine k_put 0 [.int (iI 0), .int (iI (σ.1.2.1 : Int)), .ref (A 0), .ref (A 1), .ref (A 2), .int (iI σ.1.1), .int (iI (σ.2.1 : Int)), .ref (A 3), .int (iI (σ.2.2.2.1 : Int)), .ref (A 4), .ref (A 5), .int (iI (bI fr)), .ref (A 6), .int (iI wts), .ref (A 7)] i_X8 tyX8_ok nmX8 q_783 cmm rfl (by decide) rfl rfl rfl rfl (Nat.le_of_ble_eq_true rfl) rfl dX8_worst_2 (fun f1 hf1 hc1 => ?_)
  have hr1 := k_fr.put hf1 cmm
  replace c0 := c0.fr hr1 rfl
  replace c1 := c1.fr hr1 rfl
  replace c2 := c2.fr hr1 rfl
  replace c3 := c3.fr hr1 rfl
  replace c4 := c4.fr hr1 rfl
  replace c5 := c5.fr hr1 rfl
  replace c6 := c6.fr hr1 rfl
  replace c7 := c7.fr hr1 rfl
  replace cmm : Cl L f1 mm (21, .inr (9, [.int (iI 0), .int (iI (σ.1.2.1 : Int)), .ref (A 0), .ref (A 1), .ref (A 2), .int (iI σ.1.1), .int (iI (σ.2.1 : Int)), .ref (A 3), .int (iI (σ.2.2.2.1 : Int)), .ref (A 4), .ref (A 5), .int (iI (bI fr)), .ref (A 6), .int (iI wts), .ref (A 7)])) := hc1
  have hM0 : MS κ L f1 mm 0 σ := ⟨A, fr, wts, RA, PE, OF, TA, RT, RH, HS, TI, ⟨cmm, c0, c1, c2, c3, c4, c5, c6, c7⟩, ⟨hMa, hMb, hMc, hMd⟩, hfrs⟩
  replace hM := hM0
  refine k_aload_n 0 0 dX8_worst_5 rfl rfl ?_
  refine k_useU (k_runV (c_X8_find θ.2.1 κ (σ := σ) (mm := mm) hM hs) w_X8_90 ⟨q_872, q_20⟩ rfl rfl cmm rfl ⟨(Nat.le_of_ble_eq_true rfl), (Nat.le_of_ble_eq_true rfl)⟩ (Nat.le_of_ble_eq_true rfl) dX8_worst_6) ⟨(Nat.le_of_ble_eq_true rfl), (Nat.le_of_ble_eq_true rfl)⟩ (fun Lq fq hwq => ?_)
  obtain ⟨eq9, hMf, hrF⟩ := hwq
  replace eq9 := eq9.symm
  subst eq9
  obtain ⟨A, RA, PE, OF, TA, RT, RH, HS, TI, ⟨cmm, c0, c1, c2, c3, c4, c5, c6, c7⟩, ⟨hMa, hMb, hMc, hMd⟩, hHS, hTI⟩ := id hMf
  refine k_iconst dX8_worst_9 ?_
  refine k_istore_n 1 [(1, .int (iI (-1))), (0, .ref mm)] dX8_worst_10 rfl (by decide) rfl ?_
  refine k_iconst dX8_worst_11 ?_
  refine k_istore_n 2 [(2, .int (iI 0)), (1, .int (iI (-1))), (0, .ref mm)] dX8_worst_12 rfl (by decide) rfl ?_
  have lp13 : ∀ (fuel : Nat) (i : Nat) (w : Int), (i ≤ σ.2.2.2.1) → (WJ (hT σ.1) σ.2.2.2 i w) → σ.2.2.2.1 - i < fuel → k_G θ κ cX8_worst 3 (some .int) RX8 (k_rm 6 0 0) (k_MQ θ κ (k_rn (fun v9 L' f' => v9 = .int (iI (wst (hT σ.1) σ.2.2.2 σ.2.2.2.1)) ∧ L' = L ∧ k_fr SM L f L' f' ∧ MS κ L' f' mm 0 σ)) 0 0) L fq 0 0 13 [(0, .ref mm), (1, .int (iI w)), (2, .int (iI (i : Int)))] [] := by
    intro fuel
    induction fuel with
    | zero =>
      intro i w hi hw hfu
      exact absurd hfu (Nat.not_lt_zero _)
    | succ fuel ih13 =>
      intro i w hi hw hfu
      refine k_iload_n 2 2 dX8_worst_13 rfl rfl ?_
      refine k_aload_n 0 0 dX8_worst_14 rfl rfl ?_
      refine k_get 8 i_X8 q_791 cmm rfl (by decide) rfl dX8_worst_15 ?_
      refine k_icmp_ge 54 dX8_worst_18 (by decide) (inI_mk (by omega) (by omega)) (inI_mk (by omega) (by omega)) (fun h18 => ?_) (fun h18 => ?_)
      · refine k_iload_n 1 1 dX8_worst_54 rfl rfl ?_
        exact k_iret dX8_worst_55 rfl (Nat.le_of_ble_eq_true rfl) (Nat.le_of_ble_eq_true rfl) (⟨_, rfl, (congrArg (fun z => Value.int (iI z)) (by rw [hw.1, show i = σ.2.2.2.1 by omega])), rfl, (k_fr.trans (k_fr.mono hr1 (SM_of rfl)) hrF idf idf), hMf.ms⟩)
      · have hw7 := hw.2
        refine k_iload_n 1 1 dX8_worst_21 rfl rfl ?_
        refine k_iconst dX8_worst_22 ?_
        refine k_icmp_eq 46 dX8_worst_23 (by decide) (inI_mk (by omega) (by omega)) (inI_mk (by omega) (by omega)) (fun h23 => ?_) (fun h23 => ?_)
        · refine k_iload_n 2 2 dX8_worst_46 rfl rfl ?_
          refine k_istore_n 1 [(1, .int (iI (i : Int))), (0, .ref mm), (2, .int (iI (i : Int)))] dX8_worst_47 rfl (by decide) rfl ?_
          refine k_iinc 2 [(2, .int (iI ((i : Int) + 1))), (1, .int (iI (i : Int))), (0, .ref mm)] dX8_worst_48 rfl (by decide) rfl ?_
          refine k_goto 13 dX8_worst_51 (by decide) ?_
          refine k_perm [2, 1, 0] [(0, .ref mm), (1, .int (iI (i : Int))), (2, .int (iI ((i : Int) + 1)))] rfl ?_
          have hw2 := hw.one h23
          exact ih13 (i + 1) (i : Int) (by omega) hw2 (by omega)
        · have hw8 := hw.2
          obtain ⟨wn, rfl⟩ : ∃ wn : Nat, w = (wn : Int) := ⟨w.toNat, by omega⟩
          have hd1 := dif_bd hs1 hs4 (i := i) (by omega)
          have hd2 := dif_bd hs1 hs4 (i := wn) (by omega)
          refine k_aload_n 0 0 dX8_worst_26 rfl rfl ?_
          refine k_iload_n 2 2 dX8_worst_27 rfl rfl ?_
          refine k_useR (k_runV (c_X8_off θ.2.1 κ (i := i) (mm := mm) hMf hs (by omega)) w_X8_178 ⟨q_1013, q_36⟩ rfl rfl cmm rfl ⟨(Nat.le_of_ble_eq_true rfl), (Nat.le_of_ble_eq_true rfl)⟩ (Nat.le_of_ble_eq_true rfl) dX8_worst_28) ⟨(Nat.le_of_ble_eq_true rfl), (Nat.le_of_ble_eq_true rfl)⟩ ?_
          refine k_absl q_932 q_204 q_52 q_205 (inL_mk (by omega) (by omega)) (Nat.le_of_ble_eq_true rfl) (Nat.le_of_ble_eq_true rfl) ⟨(Nat.le_of_ble_eq_true rfl), (Nat.le_of_ble_eq_true rfl)⟩ dX8_worst_31 ?_
          refine k_aload_n 0 0 dX8_worst_34 rfl rfl ?_
          refine k_iload_n 1 1 dX8_worst_35 rfl rfl ?_
          refine k_useR (k_runV (c_X8_off θ.2.1 κ (i := wn) (mm := mm) hMf hs (by omega)) w_X8_178 ⟨q_1013, q_36⟩ rfl rfl cmm rfl ⟨(Nat.le_of_ble_eq_true rfl), (Nat.le_of_ble_eq_true rfl)⟩ (Nat.le_of_ble_eq_true rfl) dX8_worst_36) ⟨(Nat.le_of_ble_eq_true rfl), (Nat.le_of_ble_eq_true rfl)⟩ ?_
          refine k_absl q_932 q_204 q_52 q_205 (inL_mk (by omega) (by omega)) (Nat.le_of_ble_eq_true rfl) (Nat.le_of_ble_eq_true rfl) ⟨(Nat.le_of_ble_eq_true rfl), (Nat.le_of_ble_eq_true rfl)⟩ dX8_worst_39 ?_
          refine k_lcmp_le 48 dX8_worst_42 dX8_worst_43 (by decide) (inL_mk (by omega) (by omega)) (inL_mk (by omega) (by omega)) (fun h42 => ?_) (fun h42 => ?_)
          · refine k_iinc 2 [(2, .int (iI ((i : Int) + 1))), (0, .ref mm), (1, .int (iI (wn : Int)))] dX8_worst_48 rfl (by decide) rfl ?_
            refine k_goto 13 dX8_worst_51 (by decide) ?_
            refine k_perm [1, 2, 0] [(0, .ref mm), (1, .int (iI (wn : Int))), (2, .int (iI ((i : Int) + 1)))] rfl ?_
            have hw2 := hw.keep (by omega)
            exact ih13 (i + 1) (wn : Int) (by omega) hw2 (by omega)
          · refine k_iload_n 2 2 dX8_worst_46 rfl rfl ?_
            refine k_istore_n 1 [(1, .int (iI (i : Int))), (0, .ref mm), (2, .int (iI (i : Int)))] dX8_worst_47 rfl (by decide) rfl ?_
            refine k_iinc 2 [(2, .int (iI ((i : Int) + 1))), (1, .int (iI (i : Int))), (0, .ref mm)] dX8_worst_48 rfl (by decide) rfl ?_
            refine k_goto 13 dX8_worst_51 (by decide) ?_
            refine k_perm [2, 1, 0] [(0, .ref mm), (1, .int (iI (i : Int))), (2, .int (iI ((i : Int) + 1)))] rfl ?_
            have hw2 := hw.two (by omega)
            exact ih13 (i + 1) (i : Int) (by omega) hw2 (by omega)
  refine k_perm [2, 1, 0] [(0, .ref mm), (1, .int (iI (-1))), (2, .int (iI 0))] rfl ?_
  exact lp13 _ 0 (-1) (Nat.zero_le _) ⟨rfl, Or.inl rfl⟩ (Nat.lt_succ_self _)
set_option maxHeartbeats 4000000 in
set_option maxRecDepth 100000 in
theorem c_X8_isInOrder (la : Launch) (κ : Kx) {L : List Nat} {f : Nat → wE} {mm : Nat} {thr : Int} {σ : Sg} {p : Int}   (hM : MS κ L f mm thr σ) (hs : SgOk σ) (hp : inI p) : k_M la κ yX8_isInOrder cX8_isInOrder 2 (some .boolean) 7 0 0 [.ref mm, .int (iI p)] L f (k_rn (fun v9 L' f' => ∃ v : Bool, v9 = .int (iI (bI v)) ∧ L' = L ∧ k_fr SM L f L' f' ∧ ((xPort σ p = none ∧ v = ord (hT σ.1) (σ.2.2.1 p.toNat) ∧ MS κ L' f' mm 0 σ) ∨ (xPort σ p = some cIO ∧ MS κ L' f' mm 1 σ)))) := by
  refine k_head RX8 [(0, .ref mm), (1, .int (iI p))] rfl (by decide) (Nat.le_of_ble_eq_true rfl) rfl (fun θ hθ hin => ?_)
  obtain ⟨A, fr, wts, RA, PE, OF, TA, RT, RH, HS, TI, ⟨cmm, c0, c1, c2, c3, c4, c5, c6, c7⟩, ⟨hMa, hMb, hMc, hMd⟩, hfrs⟩ := id hM
  obtain ⟨hs1, ⟨hs2, hs3⟩, hs4⟩ := id hs
  have hs5 := hs1.2.1
  have hs6 := hs4.1
  have hs7 := nW_le (hT σ.1)
  have hs8 := hs1.1
  refine k_aload_n 0 0 dX8_isInOrder_0 rfl rfl ?_
  refine k_aload_n 0 0 dX8_isInOrder_1 rfl rfl ?_
  refine k_iload_n 1 1 dX8_isInOrder_2 rfl rfl ?_
  refine k_useR (k_runV (c_X8_isPort θ.2.1 κ (mm := mm) (p := p) hM hs hp) w_X8_133 ⟨q_943, q_29⟩ rfl rfl cmm rfl ⟨(Nat.le_of_ble_eq_true rfl), (Nat.le_of_ble_eq_true rfl)⟩ (Nat.le_of_ble_eq_true rfl) dX8_isInOrder_3) ⟨(Nat.le_of_ble_eq_true rfl), (Nat.le_of_ble_eq_true rfl)⟩ ?_
  refine k_ifb_eq 13 dX8_isInOrder_6 (by decide) (fun h6 => ?_) (fun h6 => ?_)
  · have hd6 := of_decide_eq_false h6
    refine k_iconst dX8_isInOrder_13 ?_
    refine k_put 0 [.int (iI 1), .int (iI (σ.1.2.1 : Int)), .ref (A 0), .ref (A 1), .ref (A 2), .int (iI σ.1.1), .int (iI (σ.2.1 : Int)), .ref (A 3), .int (iI (σ.2.2.2.1 : Int)), .ref (A 4), .ref (A 5), .int (iI (bI fr)), .ref (A 6), .int (iI wts), .ref (A 7)] i_X8 tyX8_ok nmX8 q_783 cmm rfl (by decide) rfl rfl rfl rfl (Nat.le_of_ble_eq_true rfl) rfl dX8_isInOrder_14 (fun f1 hf1 hc1 => ?_)
    have hr1 := k_fr.put hf1 cmm
    replace c0 := c0.fr hr1 rfl
    replace c1 := c1.fr hr1 rfl
    replace c2 := c2.fr hr1 rfl
    replace c3 := c3.fr hr1 rfl
    replace c4 := c4.fr hr1 rfl
    replace c5 := c5.fr hr1 rfl
    replace c6 := c6.fr hr1 rfl
    replace c7 := c7.fr hr1 rfl
    replace cmm : Cl L f1 mm (21, .inr (9, [.int (iI 1), .int (iI (σ.1.2.1 : Int)), .ref (A 0), .ref (A 1), .ref (A 2), .int (iI σ.1.1), .int (iI (σ.2.1 : Int)), .ref (A 3), .int (iI (σ.2.2.2.1 : Int)), .ref (A 4), .ref (A 5), .int (iI (bI fr)), .ref (A 6), .int (iI wts), .ref (A 7)])) := hc1
    have hM0 : MS κ L f1 mm 1 σ := ⟨A, fr, wts, RA, PE, OF, TA, RT, RH, HS, TI, ⟨cmm, c0, c1, c2, c3, c4, c5, c6, c7⟩, ⟨hMa, hMb, hMc, hMd⟩, hfrs⟩
    replace hM := hM0
    refine k_aload_n 0 0 dX8_isInOrder_17 rfl rfl ?_
    refine k_get 0 i_X8 q_783 cmm rfl (by decide) rfl dX8_isInOrder_18 ?_
    refine k_if_ne 36 dX8_isInOrder_21 (by decide) (inI_mk (by omega) (by omega)) (fun h21 => ?_) (fun h21 => ?_)
    · refine k_iconst dX8_isInOrder_36 ?_
      exact k_zret (b := false) dX8_isInOrder_37 rfl (Nat.le_of_ble_eq_true rfl) (Nat.le_of_ble_eq_true rfl) (⟨_, rfl, false, rfl, rfl, (k_fr.mono hr1 (SM_of rfl)), Or.inr ⟨(by rw [xPort, if_neg (by omega)]), hM⟩⟩)
    · omega
  · have hd6 := of_decide_eq_true h6
    refine k_iconst dX8_isInOrder_9 ?_
    refine k_goto 14 dX8_isInOrder_10 (by decide) ?_
    refine k_put 0 [.int (iI 0), .int (iI (σ.1.2.1 : Int)), .ref (A 0), .ref (A 1), .ref (A 2), .int (iI σ.1.1), .int (iI (σ.2.1 : Int)), .ref (A 3), .int (iI (σ.2.2.2.1 : Int)), .ref (A 4), .ref (A 5), .int (iI (bI fr)), .ref (A 6), .int (iI wts), .ref (A 7)] i_X8 tyX8_ok nmX8 q_783 cmm rfl (by decide) rfl rfl rfl rfl (Nat.le_of_ble_eq_true rfl) rfl dX8_isInOrder_14 (fun f2 hf2 hc2 => ?_)
    have hr2 := k_fr.put hf2 cmm
    replace c0 := c0.fr hr2 rfl
    replace c1 := c1.fr hr2 rfl
    replace c2 := c2.fr hr2 rfl
    replace c3 := c3.fr hr2 rfl
    replace c4 := c4.fr hr2 rfl
    replace c5 := c5.fr hr2 rfl
    replace c6 := c6.fr hr2 rfl
    replace c7 := c7.fr hr2 rfl
    replace cmm : Cl L f2 mm (21, .inr (9, [.int (iI 0), .int (iI (σ.1.2.1 : Int)), .ref (A 0), .ref (A 1), .ref (A 2), .int (iI σ.1.1), .int (iI (σ.2.1 : Int)), .ref (A 3), .int (iI (σ.2.2.2.1 : Int)), .ref (A 4), .ref (A 5), .int (iI (bI fr)), .ref (A 6), .int (iI wts), .ref (A 7)])) := hc2
    have hM0 : MS κ L f2 mm 0 σ := ⟨A, fr, wts, RA, PE, OF, TA, RT, RH, HS, TI, ⟨cmm, c0, c1, c2, c3, c4, c5, c6, c7⟩, ⟨hMa, hMb, hMc, hMd⟩, hfrs⟩
    replace hM := hM0
    refine k_aload_n 0 0 dX8_isInOrder_17 rfl rfl ?_
    refine k_get 0 i_X8 q_783 cmm rfl (by decide) rfl dX8_isInOrder_18 ?_
    refine k_if_ne 36 dX8_isInOrder_21 (by decide) (inI_mk (by omega) (by omega)) (fun h21 => ?_) (fun h21 => ?_)
    · omega
    · obtain ⟨pn, rfl⟩ : ∃ pn : Nat, p = (pn : Int) := ⟨p.toNat, by omega⟩
      refine k_aload_n 0 0 dX8_isInOrder_24 rfl rfl ?_
      refine k_iload_n 1 1 dX8_isInOrder_25 rfl rfl ?_
      refine k_useV (k_runV (c_X8_isOrdered θ.2.1 κ (p := pn) (mm := mm) hM hs (by omega)) w_X8_149 ⟨q_959, q_30⟩ rfl rfl cmm rfl ⟨(Nat.le_of_ble_eq_true rfl), (Nat.le_of_ble_eq_true rfl)⟩ (Nat.le_of_ble_eq_true rfl) dX8_isInOrder_26) ⟨(Nat.le_of_ble_eq_true rfl), (Nat.le_of_ble_eq_true rfl)⟩ (fun w9 Lq fq hwq => ?_)
      obtain ⟨rfl, eq9, hMf, hrF⟩ := hwq
      replace eq9 := eq9.symm
      subst eq9
      refine k_ifb_eq 36 dX8_isInOrder_29 (by decide) (fun h29 => ?_) (fun h29 => ?_)
      · refine k_iconst dX8_isInOrder_36 ?_
        exact k_zret (b := false) dX8_isInOrder_37 rfl (Nat.le_of_ble_eq_true rfl) (Nat.le_of_ble_eq_true rfl) (⟨_, rfl, false, rfl, rfl, (k_fr.trans (k_fr.mono hr2 (SM_of rfl)) hrF idf idf), Or.inl ⟨(by rw [xPort, if_pos (by omega)]), h29.symm, hMf.ms⟩⟩)
      · refine k_iconst dX8_isInOrder_32 ?_
        refine k_goto 37 dX8_isInOrder_33 (by decide) ?_
        exact k_zret (b := true) dX8_isInOrder_37 rfl (Nat.le_of_ble_eq_true rfl) (Nat.le_of_ble_eq_true rfl) (⟨_, rfl, true, rfl, rfl, (k_fr.trans (k_fr.mono hr2 (SM_of rfl)) hrF idf idf), Or.inl ⟨(by rw [xPort, if_pos (by omega)]), h29.symm, hMf.ms⟩⟩)
