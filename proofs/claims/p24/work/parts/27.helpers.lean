set_option maxHeartbeats 4000000 in
set_option maxRecDepth 100000 in
theorem c_X5_init (la : Launch) (κ : Kx) {L : List Nat} {f : Nat → wE} {td : Nat} (ctd : Cl L f td (2, .inr (6, [.null, .int (iI 0)])))   : k_M la κ yX5_init cX5_init 1 none 4 1 3 [.ref td] L f (k_ru (fun L' f' => (∀ rg pd os : Nat → Int, TideR κ L' f' td (0, 0, rg, pd, os)) ∧ k_fr (fun u => u == 2) L f L' f')) := by
  refine k_head RX5 [(0, .ref td)] rfl (by decide) (Nat.le_of_ble_eq_true rfl) rfl (fun θ hθ hin => ?_)
  refine k_aload_n 0 0 dX5_init_0 rfl rfl ?_
  refine k_objInit q_49 q_42 q_43 (Nat.le_of_ble_eq_true rfl) (Nat.le_of_ble_eq_true rfl) dX5_init_1 ?_
  refine k_aload_n 0 0 dX5_init_4 rfl rfl ?_
  refine k_new (ci := 0) 6 [.int (iI 0), .null, .int (iI 0)] i_Jx4a65c tyJx4a65c_ok q_50 q_51 q_18 rfl dv_Jx4a65c (Nat.le_of_ble_eq_true rfl) (Nat.le_of_ble_eq_true rfl) dX5_init_5 (fun wl L1 f1 hz1 hn1 hc1 => ?_)
  have hr1 := k_fr.new hz1
  replace ctd := ctd.fr hr1 rfl
  have cWl : Cl L1 f1 wl (6, .inr (0, [.int (iI 0), .null, .int (iI 0)])) := hc1
  refine k_dup dX5_init_8 rfl ?_
  refine k_useU (k_runI (c_Jx4a65c_init_da8c8 θ.2.1 κ (l := wl) cWl) w_X5_9 q_53 rfl rfl rfl ⟨(Nat.le_of_ble_eq_true rfl), (Nat.le_of_ble_eq_true rfl)⟩ (Nat.le_of_ble_eq_true rfl) dX5_init_9) ⟨(Nat.le_of_ble_eq_true rfl), (Nat.le_of_ble_eq_true rfl)⟩ (fun Lfwl fwl hw => ?_)
  obtain ⟨efwl, hnfwl, cfwl⟩ := hw
  replace efwl := efwl.symm
  subst efwl
  have hrfwl := k_fr.put hnfwl cWl
  replace ctd := ctd.fr hrfwl rfl
  replace cWl := cfwl
  have hkfwl := k_new2 hz1 hn1 hnfwl
  refine k_putF 0 [.ref wl, .int (iI 0)] i_X5 tyX5_ok nmX5 q_76 ctd rfl (by decide) rfl (hin rfl) rfl rfl rfl rfl (Nat.le_of_ble_eq_true rfl) rfl dX5_init_12 (fun f2 hf2 hc2 => ?_)
  have hr2 := k_fr.put hf2 ctd
  replace cWl := cWl.fr hr2 rfl
  replace ctd : Cl L1 f2 td (2, .inr (6, [.ref wl, .int (iI 0)])) := hc2
  exact k_vret dX5_init_15 rfl (Nat.le_of_ble_eq_true rfl) (Nat.le_of_ble_eq_true rfl) (⟨rfl, fun rg pd os => ⟨wl, (fun _ => 0), ctd, ⟨_, κ.2.2.2 4, 0, fun _ => none, cWl, Or.inl ⟨rfl, rfl⟩⟩, fun i hi => absurd hi (Nat.not_lt_zero _), fun i j hi => absurd hi (Nat.not_lt_zero _)⟩, (k_fr.trans (k_fr.mono hkfwl (fun _ _ => rfl)) hr2 idf idf)⟩)
set_option maxHeartbeats 4000000 in
set_option maxRecDepth 100000 in
theorem c_X7_hasPort (la : Launch) (κ : Kx) {L : List Nat} {f : Nat → wE} {tt td tb pl rl : Nat} {old : Bool} {σ : Sg} {z : Int}  (hC : CSF κ L f tt td tb pl rl old σ) (hs : SgOk σ) (hz : inI z) : k_M la κ yX7_hasPort cX7_hasPort 2 (some .boolean) 2 0 0 [.ref tt, .int (iI z)] L f (k_ro L f (.int (iI (bI (decide (0 ≤ z ∧ z < (σ.2.1 : Int))))))) := by
  refine k_head RX7 [(0, .ref tt), (1, .int (iI z))] rfl (by decide) (Nat.le_of_ble_eq_true rfl) rfl (fun θ hθ hin => ?_)
  obtain ⟨ctt, hTd, hTx, hPs, hRs⟩ := id hC
  obtain ⟨pv, hv, ov, hLp, hPv, hPi⟩ := id hPs
  obtain ⟨md2, E2, cpl⟩ := hLp.cl
  obtain ⟨hs1, ⟨hs2, hs3⟩, hs4⟩ := id hs
  have hs5 := hs1.2.1
  have hs6 := hs4.1
  have hs7 := nW_le (hT σ.1)
  have hs8 := hs1.1
  refine k_iload_n 1 1 dX7_hasPort_0 rfl rfl ?_
  refine k_if_lt 19 dX7_hasPort_1 (by decide) hz (fun h1 => ?_) (fun h1 => ?_)
  · refine k_iconst dX7_hasPort_19 ?_
    exact k_zret (b := false) dX7_hasPort_20 rfl (Nat.le_of_ble_eq_true rfl) (Nat.le_of_ble_eq_true rfl) (k_okb ((decide_eq_false (by omega)).symm))
  · refine k_iload_n 1 1 dX7_hasPort_4 rfl rfl ?_
    refine k_aload_n 0 0 dX7_hasPort_5 rfl rfl ?_
    refine k_get 2 i_X7 q_114 ctt rfl (by decide) rfl dX7_hasPort_6 ?_
    refine k_useR (k_runV (c_Jx4a65c_size_8abf5 θ.2.1 κ (n := σ.2.1) (g := pv) (l := pl) hLp) w_X7_55 ⟨q_211, q_212⟩ rfl rfl cpl rfl ⟨(Nat.le_of_ble_eq_true rfl), (Nat.le_of_ble_eq_true rfl)⟩ (Nat.le_of_ble_eq_true rfl) dX7_hasPort_9) ⟨(Nat.le_of_ble_eq_true rfl), (Nat.le_of_ble_eq_true rfl)⟩ ?_
    refine k_icmp_ge 19 dX7_hasPort_12 (by decide) hz (inI_mk (by omega) (by omega)) (fun h12 => ?_) (fun h12 => ?_)
    · refine k_iconst dX7_hasPort_19 ?_
      exact k_zret (b := false) dX7_hasPort_20 rfl (Nat.le_of_ble_eq_true rfl) (Nat.le_of_ble_eq_true rfl) (k_okb ((decide_eq_false (by omega)).symm))
    · refine k_iconst dX7_hasPort_15 ?_
      refine k_goto 20 dX7_hasPort_16 (by decide) ?_
      exact k_zret (b := true) dX7_hasPort_20 rfl (Nat.le_of_ble_eq_true rfl) (Nat.le_of_ble_eq_true rfl) (k_okb ((decide_eq_true (by omega)).symm))
set_option maxHeartbeats 4000000 in
set_option maxRecDepth 100000 in
theorem c_X7_currentTable (la : Launch) (κ : Kx) {L : List Nat} {f : Nat → wE} {tt td tb pl rl : Nat} {old : Bool} {σ : Sg}   (hC : CSF κ L f tt td tb pl rl old σ) (hs : SgOk σ) : k_M la κ yX7_currentTable cX7_currentTable 1 (some (.object "TideTable$Table")) 6 0 0 [.ref tt] L f (k_rn (fun w L' f' => w = .ref tb ∧ L' = L ∧ k_fr SU L f L' f' ∧ CSF κ L' f' tt td tb pl rl false σ)) := by
  refine k_head RX7 [(0, .ref tt)] rfl (by decide) (Nat.le_of_ble_eq_true rfl) rfl (fun θ hθ hin => ?_)
  obtain ⟨ctt, hTd, hTx, hPs, hRs⟩ := id hC
  have hX := hTx.1
  obtain ⟨wl9, ctd9⟩ := hTd.cl
  obtain ⟨hs9, wt9, wh9, wi9, n9, HH9, WT9, WH9, WI9, hA9⟩ := id hX
  refine k_aload_n 0 0 dX7_currentTable_0 rfl rfl ?_
  refine k_get 4 i_X7 q_116 ctt rfl (by decide) rfl dX7_currentTable_1 ?_
  refine k_ifb_eq 23 dX7_currentTable_4 (by decide) (fun h4 => ?_) (fun h4 => ?_)
  · refine k_aload_n 0 0 dX7_currentTable_23 rfl rfl ?_
    refine k_get 1 i_X7 q_113 ctt rfl (by decide) rfl dX7_currentTable_24 ?_
    exact k_aret dX7_currentTable_27 rfl (Or.inl ⟨_, rfl⟩) (Nat.le_of_ble_eq_true rfl) (Nat.le_of_ble_eq_true rfl) (⟨_, rfl, rfl, rfl, k_fr.refl, by rw [h4] at hC; exact hC⟩)
  · refine k_aload_n 0 0 dX7_currentTable_7 rfl rfl ?_
    refine k_get 1 i_X7 q_113 ctt rfl (by decide) rfl dX7_currentTable_8 ?_
    refine k_aload_n 0 0 dX7_currentTable_11 rfl rfl ?_
    refine k_get 0 i_X7 q_112 ctt rfl (by decide) rfl dX7_currentTable_12 ?_
    refine k_useU (k_runV (c_X3_fill θ.2.1 κ (τ := σ.1) (tb := tb) (td := td) hX hTd hs.1) w_X7_263 ⟨q_264, q_265⟩ rfl rfl hA9.1 rfl ⟨(Nat.le_of_ble_eq_true rfl), (Nat.le_of_ble_eq_true rfl)⟩ (Nat.le_of_ble_eq_true rfl) dX7_currentTable_15) ⟨(Nat.le_of_ble_eq_true rfl), (Nat.le_of_ble_eq_true rfl)⟩ (fun Ln fn hw => ?_)
    obtain ⟨en, hrn, hTb⟩ := hw
    replace en := en.symm
    subst en
    replace hC := hTb
    replace ctt := ctt.fr hrn rfl
    replace hTd := hTd.fr hrn rfl
    replace hPs := hPs.fr hrn rfl
    replace hRs := hRs.fr hrn rfl
    refine k_aload_n 0 0 dX7_currentTable_18 rfl rfl ?_
    refine k_iconst dX7_currentTable_19 ?_
    refine k_put 4 [.ref td, .ref tb, .ref pl, .ref rl, .int (iI (bI false))] i_X7 tyX7_ok nmX7 q_116 ctt rfl (by decide) rfl rfl (k_nar_b false) (k_fit_b false) (Nat.le_of_ble_eq_true rfl) rfl dX7_currentTable_20 (fun f1 hf1 hc1 => ?_)
    have hr1 := k_fr.put hf1 ctt
    replace hTd := hTd.fr hr1 rfl
    replace hPs := hPs.fr hr1 rfl
    replace hRs := hRs.fr hr1 rfl
    replace hTb := hTb.fr hr1 rfl
    replace ctt : Cl L f1 tt (1, .inr (8, [.ref td, .ref tb, .ref pl, .ref rl, .int (iI (bI false))])) := hc1
    refine k_aload_n 0 0 dX7_currentTable_23 rfl rfl ?_
    refine k_get 1 i_X7 q_113 ctt rfl (by decide) rfl dX7_currentTable_24 ?_
    exact k_aret dX7_currentTable_27 rfl (Or.inl ⟨_, rfl⟩) (Nat.le_of_ble_eq_true rfl) (Nat.le_of_ble_eq_true rfl) (⟨_, rfl, rfl, rfl, (k_fr.trans (k_fr.mono hrn SU_ST) hr1 idf SU_1), ctt, hTd, ⟨hTb.x, fun _ => hTb⟩, hPs, hRs⟩)
set_option maxHeartbeats 4000000 in
set_option maxRecDepth 100000 in
theorem c_X7_numberOf (la : Launch) (κ : Kx) {L : List Nat} {f : Nat → wE} {tt td tb pl rl : Nat} {old : Bool} {σ : Sg} {what : Int}  (hC : CSF κ L f tt td tb pl rl old σ) (hs : SgOk σ) (hwh : 0 ≤ what ∧ what ≤ 3) : k_M la κ yX7_numberOf cX7_numberOf 2 (some .int) 7 0 0 [.ref tt, .int (iI what)] L f (k_rn (fun w L' f' => w = .int (iI (numS σ what)) ∧ L' = L ∧ k_fr SU L f L' f' ∧ ∃ old', CSF κ L' f' tt td tb pl rl old' σ ∧ (old = false → old' = false))) := by
  refine k_head RX7 [(0, .ref tt), (1, .int (iI what))] rfl (by decide) (Nat.le_of_ble_eq_true rfl) rfl (fun θ hθ hin => ?_)
  obtain ⟨ctt, hTd, hTx, hPs, hRs⟩ := id hC
  obtain ⟨wl, wv, ctd, hLw, hW, hWi⟩ := id hTd
  obtain ⟨md1, E1, cwl⟩ := hLw.cl
  obtain ⟨pv, hv, ov, hLp, hPv, hPi⟩ := id hPs
  obtain ⟨md2, E2, cpl⟩ := hLp.cl
  obtain ⟨rv, hLr, hRv⟩ := id hRs
  obtain ⟨md3, E3, crl⟩ := hLr.cl
  obtain ⟨hs1, ⟨hs2, hs3⟩, hs4⟩ := id hs
  have hs5 := hs1.2.1
  have hs6 := hs4.1
  have hs7 := nW_le (hT σ.1)
  have hs8 := hs1.1
  refine k_iload_n 1 1 dX7_numberOf_0 rfl rfl ?_
  rcases (by omega : what = 0 ∨ what = 1 ∨ what = 2 ∨ (what < 0 ∨ 2 < what)) with h1 | h1 | h1 | h1
  · refine k_swIn 0 28 dX7_numberOf_1 (inI_mk (by omega) (by omega)) h1 (by decide) (by decide) rfl (by decide) ?_
    refine k_aload_n 0 0 dX7_numberOf_28 rfl rfl ?_
    refine k_get 0 i_X7 q_112 ctt rfl (by decide) rfl dX7_numberOf_29 ?_
    refine k_getN 0 i_X5 q_77 ctd rfl (by decide) rfl dX7_numberOf_32 ?_
    refine k_useR (k_runV (c_Jx4a65c_size_8abf5 θ.2.1 κ (n := σ.1.2.1) (g := wv) (l := wl) hLw) w_X7_55 ⟨q_211, q_212⟩ rfl rfl cwl rfl ⟨(Nat.le_of_ble_eq_true rfl), (Nat.le_of_ble_eq_true rfl)⟩ (Nat.le_of_ble_eq_true rfl) dX7_numberOf_35) ⟨(Nat.le_of_ble_eq_true rfl), (Nat.le_of_ble_eq_true rfl)⟩ ?_
    exact k_iret dX7_numberOf_38 rfl (Nat.le_of_ble_eq_true rfl) (Nat.le_of_ble_eq_true rfl) (⟨_, rfl, by rw [h1, numS, if_pos rfl], rfl, k_fr.refl, old, hC, id⟩)
  · refine k_swIn 1 39 dX7_numberOf_1 (inI_mk (by omega) (by omega)) h1 (by decide) (by decide) rfl (by decide) ?_
    refine k_aload_n 0 0 dX7_numberOf_39 rfl rfl ?_
    refine k_useV (k_runV (c_X7_currentTable θ.2.1 κ (tt := tt) hC hs) w_X7_110 ⟨q_261, q_2⟩ rfl rfl ctt rfl ⟨(Nat.le_of_ble_eq_true rfl), (Nat.le_of_ble_eq_true rfl)⟩ (Nat.le_of_ble_eq_true rfl) dX7_numberOf_40) ⟨(Nat.le_of_ble_eq_true rfl), (Nat.le_of_ble_eq_true rfl)⟩ (fun w L9 f9 hw => ?_)
    obtain ⟨rfl, eL9, hr9, hC9⟩ := hw
    replace eL9 := eL9.symm
    subst eL9
    replace hC := hC9
    clear hC9
    obtain ⟨ctt, hTd, hTx, hPs, hRs⟩ := id hC
    have hTb := hTx.2 rfl
    obtain ⟨hs9, wt9, wh9, wi9, ctb⟩ := hTb.cl
    refine k_getN 4 i_X3 q_96 ctb rfl (by decide) rfl dX7_numberOf_43 ?_
    exact k_iret dX7_numberOf_46 rfl (Nat.le_of_ble_eq_true rfl) (Nat.le_of_ble_eq_true rfl) (⟨_, rfl, by rw [h1, numS, if_neg (by decide), if_pos rfl], rfl, hr9, false, hC, fun _ => rfl⟩)
  · refine k_swIn 2 47 dX7_numberOf_1 (inI_mk (by omega) (by omega)) h1 (by decide) (by decide) rfl (by decide) ?_
    refine k_aload_n 0 0 dX7_numberOf_47 rfl rfl ?_
    refine k_get 2 i_X7 q_114 ctt rfl (by decide) rfl dX7_numberOf_48 ?_
    refine k_useR (k_runV (c_Jx4a65c_size_8abf5 θ.2.1 κ (n := σ.2.1) (g := pv) (l := pl) hLp) w_X7_55 ⟨q_211, q_212⟩ rfl rfl cpl rfl ⟨(Nat.le_of_ble_eq_true rfl), (Nat.le_of_ble_eq_true rfl)⟩ (Nat.le_of_ble_eq_true rfl) dX7_numberOf_51) ⟨(Nat.le_of_ble_eq_true rfl), (Nat.le_of_ble_eq_true rfl)⟩ ?_
    exact k_iret dX7_numberOf_54 rfl (Nat.le_of_ble_eq_true rfl) (Nat.le_of_ble_eq_true rfl) (⟨_, rfl, by rw [h1, numS, if_neg (by decide), if_neg (by decide), if_pos rfl], rfl, k_fr.refl, old, hC, id⟩)
  · refine k_swOut 55 dX7_numberOf_1 (inI_mk (by omega) (by omega)) h1 (by decide) ?_
    refine k_aload_n 0 0 dX7_numberOf_55 rfl rfl ?_
    refine k_get 3 i_X7 q_115 ctt rfl (by decide) rfl dX7_numberOf_56 ?_
    refine k_useR (k_runV (c_Jx4a65c_size_8abf5 θ.2.1 κ (n := σ.2.2.2.1) (g := rv) (l := rl) hLr) w_X7_55 ⟨q_211, q_212⟩ rfl rfl crl rfl ⟨(Nat.le_of_ble_eq_true rfl), (Nat.le_of_ble_eq_true rfl)⟩ (Nat.le_of_ble_eq_true rfl) dX7_numberOf_59) ⟨(Nat.le_of_ble_eq_true rfl), (Nat.le_of_ble_eq_true rfl)⟩ ?_
    exact k_iret dX7_numberOf_62 rfl (Nat.le_of_ble_eq_true rfl) (Nat.le_of_ble_eq_true rfl) (⟨_, rfl, by rw [numS, if_neg (by omega), if_neg (by omega), if_neg (by omega)], rfl, k_fr.refl, old, hC, id⟩)
