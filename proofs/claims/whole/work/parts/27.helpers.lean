set_option maxHeartbeats 4000000 in
set_option maxRecDepth 100000 in
theorem c_X5_init (la : Launch) (κ : Kx) {L : List Nat} {f : Nat → wE} {td : Nat} (ctd : Cl L f td (2, .inr (6, [.null, .int (iI 0)])))   : k_M la κ yX5_init cX5_init 1 none 4 1 3 [.ref td] L f (k_ru (fun L' f' => (∀ rg pd os : Nat → Int, TideR κ L' f' td (0, 0, rg, pd, os)) ∧ k_fr (fun u => u == 2) L f L' f')) := by
  refine k_head RX5 [(0, .ref td)] rfl (by decide) (Nat.le_of_ble_eq_true rfl) rfl (fun θ hθ hin => ?_)
  refine k_aload_n 0 0 dX5_init_0 rfl rfl ?_
  refine k_objInit q_75 q_68 q_69 (Nat.le_of_ble_eq_true rfl) (Nat.le_of_ble_eq_true rfl) dX5_init_1 ?_
  refine k_aload_n 0 0 dX5_init_4 rfl rfl ?_
  refine k_new (ci := 0) 6 [.int (iI 0), .null, .int (iI 0)] i_Jx4a65c tyJx4a65c_ok q_76 q_77 q_42 rfl dv_Jx4a65c (Nat.le_of_ble_eq_true rfl) (Nat.le_of_ble_eq_true rfl) dX5_init_5 (fun wl L1 f1 hz1 hn1 hc1 => ?_)
  have hr1 := k_fr.new hz1
  replace ctd := ctd.fr hr1 rfl
  have cWl : Cl L1 f1 wl (6, .inr (0, [.int (iI 0), .null, .int (iI 0)])) := hc1
  refine k_dup dX5_init_8 rfl ?_
  refine k_useU (k_runI (c_Jx4a65c_init_da8c8 θ.2.1 κ (l := wl) cWl) w_X5_9 q_79 rfl rfl rfl ⟨(Nat.le_of_ble_eq_true rfl), (Nat.le_of_ble_eq_true rfl)⟩ (Nat.le_of_ble_eq_true rfl) dX5_init_9) ⟨(Nat.le_of_ble_eq_true rfl), (Nat.le_of_ble_eq_true rfl)⟩ (fun Lfwl fwl hw => ?_)
  obtain ⟨efwl, hnfwl, cfwl⟩ := hw
  replace efwl := efwl.symm
  subst efwl
  have hrfwl := k_fr.put hnfwl cWl
  replace ctd := ctd.fr hrfwl rfl
  replace cWl := cfwl
  have hkfwl := k_new2 hz1 hn1 hnfwl
  refine k_putF 0 [.ref wl, .int (iI 0)] i_X5 tyX5_ok nmX5 q_102 ctd rfl (by decide) rfl (hin rfl) rfl rfl rfl rfl (Nat.le_of_ble_eq_true rfl) rfl dX5_init_12 (fun f2 hf2 hc2 => ?_)
  have hr2 := k_fr.put hf2 ctd
  replace cWl := cWl.fr hr2 rfl
  replace ctd : Cl L1 f2 td (2, .inr (6, [.ref wl, .int (iI 0)])) := hc2
  exact k_vret dX5_init_15 rfl (Nat.le_of_ble_eq_true rfl) (Nat.le_of_ble_eq_true rfl) (⟨rfl, fun rg pd os => ⟨wl, (fun _ => 0), ctd, ⟨_, κ.2.2.2 4, 0, fun _ => none, cWl, Or.inl ⟨rfl, rfl⟩⟩, fun i hi => absurd hi (Nat.not_lt_zero _), fun i j hi => absurd hi (Nat.not_lt_zero _)⟩, (k_fr.trans (k_fr.mono hkfwl (fun _ _ => rfl)) hr2 idf idf)⟩)
set_option maxHeartbeats 4000000 in
set_option maxRecDepth 100000 in
theorem c_X7_hasWave (la : Launch) (κ : Kx) {L : List Nat} {f : Nat → wE} {tt td tb pl rl : Nat} {old : Bool} {σ : Sg} {z : Int}  (hC : CSF κ L f tt td tb pl rl old σ) (hs : SgOk σ) (hz : inI z) : k_M la κ yX7_hasWave cX7_hasWave 2 (some .boolean) 2 0 0 [.ref tt, .int (iI z)] L f (k_ro L f (.int (iI (bI (decide (0 ≤ z ∧ z < (σ.1.2.1 : Int))))))) := by
  refine k_head RX7 [(0, .ref tt), (1, .int (iI z))] rfl (by decide) (Nat.le_of_ble_eq_true rfl) rfl (fun θ hθ hin => ?_)
  obtain ⟨ctt, hTd, hTx, hPs, hRs⟩ := id hC
  obtain ⟨wl, wv, ctd, hLw, hW, hWi⟩ := id hTd
  obtain ⟨md1, E1, cwl⟩ := hLw.cl
  obtain ⟨hs1, ⟨hs2, hs3⟩, hs4⟩ := id hs
  have hs5 := hs1.2.1
  have hs6 := hs4.1
  have hs7 := nW_le (hT σ.1)
  have hs8 := hs1.1
  refine k_iload_n 1 1 dX7_hasWave_0 rfl rfl ?_
  refine k_if_lt 22 dX7_hasWave_1 (by decide) hz (fun h1 => ?_) (fun h1 => ?_)
  · refine k_iconst dX7_hasWave_22 ?_
    exact k_zret (b := false) dX7_hasWave_23 rfl (Nat.le_of_ble_eq_true rfl) (Nat.le_of_ble_eq_true rfl) (k_okb ((decide_eq_false (by omega)).symm))
  · refine k_iload_n 1 1 dX7_hasWave_4 rfl rfl ?_
    refine k_aload_n 0 0 dX7_hasWave_5 rfl rfl ?_
    refine k_get 0 i_X7 q_139 ctt rfl (by decide) rfl dX7_hasWave_6 ?_
    refine k_getN 0 i_X5 q_103 ctd rfl (by decide) rfl dX7_hasWave_9 ?_
    refine k_useR (k_runV (c_Jx4a65c_size_8abf5 θ.2.1 κ (n := σ.1.2.1) (g := wv) (l := wl) hLw) w_X7_55 ⟨q_160, q_161⟩ rfl rfl cwl rfl ⟨(Nat.le_of_ble_eq_true rfl), (Nat.le_of_ble_eq_true rfl)⟩ (Nat.le_of_ble_eq_true rfl) dX7_hasWave_12) ⟨(Nat.le_of_ble_eq_true rfl), (Nat.le_of_ble_eq_true rfl)⟩ ?_
    refine k_icmp_ge 22 dX7_hasWave_15 (by decide) hz (inI_mk (by omega) (by omega)) (fun h15 => ?_) (fun h15 => ?_)
    · refine k_iconst dX7_hasWave_22 ?_
      exact k_zret (b := false) dX7_hasWave_23 rfl (Nat.le_of_ble_eq_true rfl) (Nat.le_of_ble_eq_true rfl) (k_okb ((decide_eq_false (by omega)).symm))
    · refine k_iconst dX7_hasWave_18 ?_
      refine k_goto 23 dX7_hasWave_19 (by decide) ?_
      exact k_zret (b := true) dX7_hasWave_23 rfl (Nat.le_of_ble_eq_true rfl) (Nat.le_of_ble_eq_true rfl) (k_okb ((decide_eq_true (by omega)).symm))
set_option maxHeartbeats 4000000 in
set_option maxRecDepth 100000 in
theorem c_X7_hasPort (la : Launch) (κ : Kx) {L : List Nat} {f : Nat → wE} {tt td tb pl rl : Nat} {old : Bool} {σ : Sg} {z : Int}  (hC : CSF κ L f tt td tb pl rl old σ) (hs : SgOk σ) (hz : inI z) : k_M la κ yX7_hasPort cX7_hasPort 2 (some .boolean) 2 0 0 [.ref tt, .int (iI z)] L f (k_ro L f (.int (iI (bI (decide (0 ≤ z ∧ z < (σ.2.1 : Int))))))) := by
  refine k_head RX7 [(0, .ref tt), (1, .int (iI z))] rfl (by decide) (Nat.le_of_ble_eq_true rfl) rfl (fun θ hθ hin => ?_)
  obtain ⟨ctt, hTd, hTx, hPs, hRs⟩ := id hC
  obtain ⟨pv, hv, ov, hLp, hPv, hPi⟩ := id hPs
  obtain ⟨md2, E2, cpl⟩ := hLp.cl
  obtain ⟨hs1, ⟨hs2, hs3⟩, hs4⟩ := id hs
  have hs5 := hs1.2.1
  have hs6 := hs4.1
  have hs7 := nW_le (hT σ.1)
  have hs8 := hs1.1
  refine k_iload_n 1 1 dX7_hasPort_0 rfl rfl ?_
  refine k_if_lt 19 dX7_hasPort_1 (by decide) hz (fun h1 => ?_) (fun h1 => ?_)
  · refine k_iconst dX7_hasPort_19 ?_
    exact k_zret (b := false) dX7_hasPort_20 rfl (Nat.le_of_ble_eq_true rfl) (Nat.le_of_ble_eq_true rfl) (k_okb ((decide_eq_false (by omega)).symm))
  · refine k_iload_n 1 1 dX7_hasPort_4 rfl rfl ?_
    refine k_aload_n 0 0 dX7_hasPort_5 rfl rfl ?_
    refine k_get 2 i_X7 q_141 ctt rfl (by decide) rfl dX7_hasPort_6 ?_
    refine k_useR (k_runV (c_Jx4a65c_size_8abf5 θ.2.1 κ (n := σ.2.1) (g := pv) (l := pl) hLp) w_X7_55 ⟨q_160, q_161⟩ rfl rfl cpl rfl ⟨(Nat.le_of_ble_eq_true rfl), (Nat.le_of_ble_eq_true rfl)⟩ (Nat.le_of_ble_eq_true rfl) dX7_hasPort_9) ⟨(Nat.le_of_ble_eq_true rfl), (Nat.le_of_ble_eq_true rfl)⟩ ?_
    refine k_icmp_ge 19 dX7_hasPort_12 (by decide) hz (inI_mk (by omega) (by omega)) (fun h12 => ?_) (fun h12 => ?_)
    · refine k_iconst dX7_hasPort_19 ?_
      exact k_zret (b := false) dX7_hasPort_20 rfl (Nat.le_of_ble_eq_true rfl) (Nat.le_of_ble_eq_true rfl) (k_okb ((decide_eq_false (by omega)).symm))
    · refine k_iconst dX7_hasPort_15 ?_
      refine k_goto 20 dX7_hasPort_16 (by decide) ?_
      exact k_zret (b := true) dX7_hasPort_20 rfl (Nat.le_of_ble_eq_true rfl) (Nat.le_of_ble_eq_true rfl) (k_okb ((decide_eq_true (by omega)).symm))
set_option maxHeartbeats 4000000 in
set_option maxRecDepth 100000 in
theorem c_X7_currentTable (la : Launch) (κ : Kx) {L : List Nat} {f : Nat → wE} {tt td tb pl rl : Nat} {old : Bool} {σ : Sg}   (hC : CSF κ L f tt td tb pl rl old σ) (hs : SgOk σ) : k_M la κ yX7_currentTable cX7_currentTable 1 (some (.object "TideTable$Table")) 6 0 0 [.ref tt] L f (k_rn (fun w L' f' => w = .ref tb ∧ L' = L ∧ k_fr SU L f L' f' ∧ CSF κ L' f' tt td tb pl rl false σ)) := by
  refine k_head RX7 [(0, .ref tt)] rfl (by decide) (Nat.le_of_ble_eq_true rfl) rfl (fun θ hθ hin => ?_)
  obtain ⟨ctt, hTd, hTx, hPs, hRs⟩ := id hC
  have hX := hTx.1
  obtain ⟨wl9, ctd9⟩ := hTd.cl
  obtain ⟨hs9, wt9, wh9, wi9, n9, HH9, WT9, WH9, WI9, hA9⟩ := id hX
  refine k_aload_n 0 0 dX7_currentTable_0 rfl rfl ?_
  refine k_get 4 i_X7 q_143 ctt rfl (by decide) rfl dX7_currentTable_1 ?_
  refine k_ifb_eq 23 dX7_currentTable_4 (by decide) (fun h4 => ?_) (fun h4 => ?_)
  · refine k_aload_n 0 0 dX7_currentTable_23 rfl rfl ?_
    refine k_get 1 i_X7 q_140 ctt rfl (by decide) rfl dX7_currentTable_24 ?_
    exact k_aret dX7_currentTable_27 rfl (Or.inl ⟨_, rfl⟩) (Nat.le_of_ble_eq_true rfl) (Nat.le_of_ble_eq_true rfl) (⟨_, rfl, rfl, rfl, k_fr.refl, by rw [h4] at hC; exact hC⟩)
  · refine k_aload_n 0 0 dX7_currentTable_7 rfl rfl ?_
    refine k_get 1 i_X7 q_140 ctt rfl (by decide) rfl dX7_currentTable_8 ?_
    refine k_aload_n 0 0 dX7_currentTable_11 rfl rfl ?_
    refine k_get 0 i_X7 q_139 ctt rfl (by decide) rfl dX7_currentTable_12 ?_
    refine k_useU (k_runV (c_X3_fill θ.2.1 κ (τ := σ.1) (tb := tb) (td := td) hX hTd hs.1) w_X7_263 ⟨q_215, q_216⟩ rfl rfl hA9.1 rfl ⟨(Nat.le_of_ble_eq_true rfl), (Nat.le_of_ble_eq_true rfl)⟩ (Nat.le_of_ble_eq_true rfl) dX7_currentTable_15) ⟨(Nat.le_of_ble_eq_true rfl), (Nat.le_of_ble_eq_true rfl)⟩ (fun Ln fn hw => ?_)
    obtain ⟨en, hrn, hTb⟩ := hw
    replace en := en.symm
    subst en
    replace hC := hTb
    replace ctt := ctt.fr hrn rfl
    replace hTd := hTd.fr hrn rfl
    replace hPs := hPs.fr hrn rfl
    replace hRs := hRs.fr hrn rfl
    refine k_aload_n 0 0 dX7_currentTable_18 rfl rfl ?_
    refine k_iconst dX7_currentTable_19 ?_
    refine k_put 4 [.ref td, .ref tb, .ref pl, .ref rl, .int (iI (bI false))] i_X7 tyX7_ok nmX7 q_143 ctt rfl (by decide) rfl rfl (k_nar_b false) (k_fit_b false) (Nat.le_of_ble_eq_true rfl) rfl dX7_currentTable_20 (fun f1 hf1 hc1 => ?_)
    have hr1 := k_fr.put hf1 ctt
    replace hTd := hTd.fr hr1 rfl
    replace hPs := hPs.fr hr1 rfl
    replace hRs := hRs.fr hr1 rfl
    replace hTb := hTb.fr hr1 rfl
    replace ctt : Cl L f1 tt (1, .inr (8, [.ref td, .ref tb, .ref pl, .ref rl, .int (iI (bI false))])) := hc1
    refine k_aload_n 0 0 dX7_currentTable_23 rfl rfl ?_
    refine k_get 1 i_X7 q_140 ctt rfl (by decide) rfl dX7_currentTable_24 ?_
    exact k_aret dX7_currentTable_27 rfl (Or.inl ⟨_, rfl⟩) (Nat.le_of_ble_eq_true rfl) (Nat.le_of_ble_eq_true rfl) (⟨_, rfl, rfl, rfl, (k_fr.trans (k_fr.mono hrn SU_ST) hr1 idf SU_1), ctt, hTd, ⟨hTb.x, fun _ => hTb⟩, hPs, hRs⟩)
set_option maxHeartbeats 4000000 in
set_option maxRecDepth 100000 in
theorem c_X7_numberOf (la : Launch) (κ : Kx) {L : List Nat} {f : Nat → wE} {tt td tb pl rl : Nat} {old : Bool} {σ : Sg} {what : Int}  (hC : CSF κ L f tt td tb pl rl old σ) (hs : SgOk σ) (hwh : 0 ≤ what ∧ what ≤ 3) : k_M la κ yX7_numberOf cX7_numberOf 2 (some .int) 7 0 0 [.ref tt, .int (iI what)] L f (k_rn (fun w L' f' => w = .int (iI (numS σ what)) ∧ L' = L ∧ k_fr SU L f L' f' ∧ ∃ old', CSF κ L' f' tt td tb pl rl old' σ ∧ (old = false → old' = false))) := by
  refine k_head RX7 [(0, .ref tt), (1, .int (iI what))] rfl (by decide) (Nat.le_of_ble_eq_true rfl) rfl (fun θ hθ hin => ?_)
  obtain ⟨ctt, hTd, hTx, hPs, hRs⟩ := id hC
  obtain ⟨wl, wv, ctd, hLw, hW, hWi⟩ := id hTd
  obtain ⟨md1, E1, cwl⟩ := hLw.cl
  obtain ⟨pv, hv, ov, hLp, hPv, hPi⟩ := id hPs
  obtain ⟨md2, E2, cpl⟩ := hLp.cl
  obtain ⟨rv, hLr, hRv⟩ := id hRs
  obtain ⟨md3, E3, crl⟩ := hLr.cl
  obtain ⟨hs1, ⟨hs2, hs3⟩, hs4⟩ := id hs
  have hs5 := hs1.2.1
  have hs6 := hs4.1
  have hs7 := nW_le (hT σ.1)
  have hs8 := hs1.1
  refine k_iload_n 1 1 dX7_numberOf_0 rfl rfl ?_
  rcases (by omega : what = 0 ∨ what = 1 ∨ what = 2 ∨ (what < 0 ∨ 2 < what)) with h1 | h1 | h1 | h1
  · refine k_swIn 0 28 dX7_numberOf_1 (inI_mk (by omega) (by omega)) h1 (by decide) (by decide) rfl (by decide) ?_
    refine k_aload_n 0 0 dX7_numberOf_28 rfl rfl ?_
    refine k_get 0 i_X7 q_139 ctt rfl (by decide) rfl dX7_numberOf_29 ?_
    refine k_getN 0 i_X5 q_103 ctd rfl (by decide) rfl dX7_numberOf_32 ?_
    refine k_useR (k_runV (c_Jx4a65c_size_8abf5 θ.2.1 κ (n := σ.1.2.1) (g := wv) (l := wl) hLw) w_X7_55 ⟨q_160, q_161⟩ rfl rfl cwl rfl ⟨(Nat.le_of_ble_eq_true rfl), (Nat.le_of_ble_eq_true rfl)⟩ (Nat.le_of_ble_eq_true rfl) dX7_numberOf_35) ⟨(Nat.le_of_ble_eq_true rfl), (Nat.le_of_ble_eq_true rfl)⟩ ?_
    exact k_iret dX7_numberOf_38 rfl (Nat.le_of_ble_eq_true rfl) (Nat.le_of_ble_eq_true rfl) (⟨_, rfl, by rw [h1, numS, if_pos rfl], rfl, k_fr.refl, old, hC, id⟩)
  · refine k_swIn 1 39 dX7_numberOf_1 (inI_mk (by omega) (by omega)) h1 (by decide) (by decide) rfl (by decide) ?_
    refine k_aload_n 0 0 dX7_numberOf_39 rfl rfl ?_
    refine k_useV (k_runV (c_X7_currentTable θ.2.1 κ (tt := tt) hC hs) w_X7_110 ⟨q_212, q_2⟩ rfl rfl ctt rfl ⟨(Nat.le_of_ble_eq_true rfl), (Nat.le_of_ble_eq_true rfl)⟩ (Nat.le_of_ble_eq_true rfl) dX7_numberOf_40) ⟨(Nat.le_of_ble_eq_true rfl), (Nat.le_of_ble_eq_true rfl)⟩ (fun w L9 f9 hw => ?_)
    obtain ⟨rfl, eL9, hr9, hC9⟩ := hw
    replace eL9 := eL9.symm
    subst eL9
    replace hC := hC9
    clear hC9
    obtain ⟨ctt, hTd, hTx, hPs, hRs⟩ := id hC
    have hTb := hTx.2 rfl
    obtain ⟨hs9, wt9, wh9, wi9, ctb⟩ := hTb.cl
    refine k_getN 4 i_X3 q_123 ctb rfl (by decide) rfl dX7_numberOf_43 ?_
    exact k_iret dX7_numberOf_46 rfl (Nat.le_of_ble_eq_true rfl) (Nat.le_of_ble_eq_true rfl) (⟨_, rfl, by rw [h1, numS, if_neg (by decide), if_pos rfl], rfl, hr9, false, hC, fun _ => rfl⟩)
  · refine k_swIn 2 47 dX7_numberOf_1 (inI_mk (by omega) (by omega)) h1 (by decide) (by decide) rfl (by decide) ?_
    refine k_aload_n 0 0 dX7_numberOf_47 rfl rfl ?_
    refine k_get 2 i_X7 q_141 ctt rfl (by decide) rfl dX7_numberOf_48 ?_
    refine k_useR (k_runV (c_Jx4a65c_size_8abf5 θ.2.1 κ (n := σ.2.1) (g := pv) (l := pl) hLp) w_X7_55 ⟨q_160, q_161⟩ rfl rfl cpl rfl ⟨(Nat.le_of_ble_eq_true rfl), (Nat.le_of_ble_eq_true rfl)⟩ (Nat.le_of_ble_eq_true rfl) dX7_numberOf_51) ⟨(Nat.le_of_ble_eq_true rfl), (Nat.le_of_ble_eq_true rfl)⟩ ?_
    exact k_iret dX7_numberOf_54 rfl (Nat.le_of_ble_eq_true rfl) (Nat.le_of_ble_eq_true rfl) (⟨_, rfl, by rw [h1, numS, if_neg (by decide), if_neg (by decide), if_pos rfl], rfl, k_fr.refl, old, hC, id⟩)
  · refine k_swOut 55 dX7_numberOf_1 (inI_mk (by omega) (by omega)) h1 (by decide) ?_
    refine k_aload_n 0 0 dX7_numberOf_55 rfl rfl ?_
    refine k_get 3 i_X7 q_142 ctt rfl (by decide) rfl dX7_numberOf_56 ?_
    refine k_useR (k_runV (c_Jx4a65c_size_8abf5 θ.2.1 κ (n := σ.2.2.2.1) (g := rv) (l := rl) hLr) w_X7_55 ⟨q_160, q_161⟩ rfl rfl crl rfl ⟨(Nat.le_of_ble_eq_true rfl), (Nat.le_of_ble_eq_true rfl)⟩ (Nat.le_of_ble_eq_true rfl) dX7_numberOf_59) ⟨(Nat.le_of_ble_eq_true rfl), (Nat.le_of_ble_eq_true rfl)⟩ ?_
    exact k_iret dX7_numberOf_62 rfl (Nat.le_of_ble_eq_true rfl) (Nat.le_of_ble_eq_true rfl) (⟨_, rfl, by rw [numS, if_neg (by omega), if_neg (by omega), if_neg (by omega)], rfl, k_fr.refl, old, hC, id⟩)
set_option maxHeartbeats 4000000 in
set_option maxRecDepth 100000 in
theorem c_X7_differenceOf (la : Launch) (κ : Kx) {L : List Nat} {f : Nat → wE} {tt td tb pl rl : Nat} {old : Bool} {σ : Sg} {i : Nat}  (hC : CSF κ L f tt td tb pl rl old σ) (hs : SgOk σ) (hi : i < σ.2.2.2.1) : k_M la κ yX7_differenceOf cX7_differenceOf 3 (some .long) 6 0 0 [.ref tt, .int (iI (i : Int))] L f (k_ro L f (.long (lI (dif (hT σ.1) σ.2.2.2 i)))) := by
  refine k_head RX7 [(0, .ref tt), (1, .int (iI (i : Int)))] rfl (by decide) (Nat.le_of_ble_eq_true rfl) rfl (fun θ hθ hin => ?_)
  obtain ⟨ctt, hTd, hTx, hPs, hRs⟩ := id hC
  obtain ⟨wl, wv, ctd, hLw, hW, hWi⟩ := id hTd
  obtain ⟨md1, E1, cwl⟩ := hLw.cl
  obtain ⟨rv, hLr, hRv⟩ := id hRs
  obtain ⟨md3, E3, crl⟩ := hLr.cl
  obtain ⟨hs1, ⟨hs2, hs3⟩, hs4⟩ := id hs
  have hs5 := hs1.2.1
  have hs6 := hs4.1
  have hs7 := nW_le (hT σ.1)
  have hs8 := hs1.1
  refine k_iload_n 1 1 dX7_differenceOf_0 rfl rfl ?_
  refine k_if_lt 15 dX7_differenceOf_1 (by decide) (inI_mk (by omega) (by omega)) (fun h1 => ?_) (fun h1 => ?_)
  · omega
  · refine k_iload_n 1 1 dX7_differenceOf_4 rfl rfl ?_
    refine k_aload_n 0 0 dX7_differenceOf_5 rfl rfl ?_
    refine k_get 3 i_X7 q_142 ctt rfl (by decide) rfl dX7_differenceOf_6 ?_
    refine k_useR (k_runV (c_Jx4a65c_size_8abf5 θ.2.1 κ (n := σ.2.2.2.1) (g := rv) (l := rl) hLr) w_X7_55 ⟨q_160, q_161⟩ rfl rfl crl rfl ⟨(Nat.le_of_ble_eq_true rfl), (Nat.le_of_ble_eq_true rfl)⟩ (Nat.le_of_ble_eq_true rfl) dX7_differenceOf_9) ⟨(Nat.le_of_ble_eq_true rfl), (Nat.le_of_ble_eq_true rfl)⟩ ?_
    refine k_icmp_lt 17 dX7_differenceOf_12 (by decide) (inI_mk (by omega) (by omega)) (inI_mk (by omega) (by omega)) (fun h12 => ?_) (fun h12 => ?_)
    · refine k_aload_n 0 0 dX7_differenceOf_17 rfl rfl ?_
      refine k_get 3 i_X7 q_142 ctt rfl (by decide) rfl dX7_differenceOf_18 ?_
      refine k_iload_n 1 1 dX7_differenceOf_21 rfl rfl ?_
      refine k_useR (k_runV (c_Jx4a65c_get_915e3 θ.2.1 κ (n := σ.2.2.2.1) (g := rv) (i := i) (l := rl) hLr (by omega)) w_X7_82 ⟨q_172, q_173⟩ rfl rfl crl rfl ⟨(Nat.le_of_ble_eq_true rfl), (Nat.le_of_ble_eq_true rfl)⟩ (Nat.le_of_ble_eq_true rfl) dX7_differenceOf_22) ⟨(Nat.le_of_ble_eq_true rfl), (Nat.le_of_ble_eq_true rfl)⟩ ?_
      have crd := hRv i (by omega)
      refine k_castS q_185 crd rfl dX7_differenceOf_25 ?_
      refine k_astore_n 2 [(2, .ref (rv i)), (0, .ref tt), (1, .int (iI (i : Int)))] dX7_differenceOf_28 rfl (by decide) rfl ?_
      refine k_aload_n 0 2 dX7_differenceOf_29 rfl rfl ?_
      refine k_getN 1 i_X2 q_753 crd rfl (by decide) rfl dX7_differenceOf_30 ?_
      have hri := hs4.2 i hi
      refine k_i2l dX7_differenceOf_33 (inI_mk (by omega) (by omega)) ?_
      refine k_aload_n 1 0 dX7_differenceOf_34 rfl rfl ?_
      refine k_get 0 i_X7 q_139 ctt rfl (by decide) rfl dX7_differenceOf_35 ?_
      refine k_aload_n 0 2 dX7_differenceOf_38 rfl rfl ?_
      refine k_getN 0 i_X2 q_751 crd rfl (by decide) rfl dX7_differenceOf_39 ?_
      have hri := hs4.2 i hi
      refine k_useR (k_runV (c_X5_heightAt θ.2.1 κ (τ := σ.1) (t := (σ.2.2.2.2.1 i)) (td := td) hTd hs1 hri.1) w_X7_100 ⟨q_187, q_188⟩ rfl rfl ctd rfl ⟨(Nat.le_of_ble_eq_true rfl), (Nat.le_of_ble_eq_true rfl)⟩ (Nat.le_of_ble_eq_true rfl) dX7_differenceOf_42) ⟨(Nat.le_of_ble_eq_true rfl), (Nat.le_of_ble_eq_true rfl)⟩ ?_
      have hhb := hT_bd hs1 (σ.2.2.2.2.1 i)
      refine k_i2l dX7_differenceOf_45 (inI_mk (by omega) (by omega)) ?_
      refine k_lsub dX7_differenceOf_46 ?_
      exact k_lret dX7_differenceOf_47 rfl (Nat.le_of_ble_eq_true rfl) (Nat.le_of_ble_eq_true rfl) (k_okl rfl)
    · omega
set_option maxHeartbeats 4000000 in
set_option maxRecDepth 100000 in
theorem c_X7_sumOfDifferences (la : Launch) (κ : Kx) {L : List Nat} {f : Nat → wE} {tt td tb pl rl : Nat} {old : Bool} {σ : Sg}   (hC : CSF κ L f tt td tb pl rl old σ) (hs : SgOk σ) : k_M la κ yX7_sumOfDifferences cX7_sumOfDifferences 4 (some .long) 7 0 0 [.ref tt] L f (k_ro L f (.long (lI (sumD (hT σ.1) σ.2.2.2 σ.2.2.2.1)))) := by
  refine k_head RX7 [(0, .ref tt)] rfl (by decide) (Nat.le_of_ble_eq_true rfl) rfl (fun θ hθ hin => ?_)
  obtain ⟨ctt, hTd, hTx, hPs, hRs⟩ := id hC
  obtain ⟨rv, hLr, hRv⟩ := id hRs
  obtain ⟨md3, E3, crl⟩ := hLr.cl
  obtain ⟨hs1, ⟨hs2, hs3⟩, hs4⟩ := id hs
  have hs5 := hs1.2.1
  have hs6 := hs4.1
  have hs7 := nW_le (hT σ.1)
  have hs8 := hs1.1
  refine k_lconst 0 dX7_sumOfDifferences_0 (by decide) ?_
  refine k_lstore_n 1 [(1, .long (lI 0)), (0, .ref tt)] dX7_sumOfDifferences_1 rfl (by decide) rfl ?_
  refine k_iconst dX7_sumOfDifferences_2 ?_
  refine k_istore_n 3 [(3, .int (iI 0)), (1, .long (lI 0)), (0, .ref tt)] dX7_sumOfDifferences_3 rfl (by decide) rfl ?_
  have lp4 : ∀ (fuel : Nat) (i : Nat), (i ≤ σ.2.2.2.1) → σ.2.2.2.1 - i < fuel → k_G θ κ cX7_sumOfDifferences 4 (some .long) RX7 (k_rm 7 0 0) (k_MQ θ κ (k_ro L f (.long (lI (sumD (hT σ.1) σ.2.2.2 σ.2.2.2.1)))) 0 0) L f 0 0 4 [(0, .ref tt), (1, .long (lI (sumD (hT σ.1) σ.2.2.2 i))), (3, .int (iI (i : Int)))] [] := by
    intro fuel
    induction fuel with
    | zero =>
      intro i hi hfu
      exact absurd hfu (Nat.not_lt_zero _)
    | succ fuel ih4 =>
      intro i hi hfu
      refine k_iload_n 2 3 dX7_sumOfDifferences_4 rfl rfl ?_
      refine k_aload_n 0 0 dX7_sumOfDifferences_5 rfl rfl ?_
      refine k_get 3 i_X7 q_142 ctt rfl (by decide) rfl dX7_sumOfDifferences_6 ?_
      refine k_useR (k_runV (c_Jx4a65c_size_8abf5 θ.2.1 κ (n := σ.2.2.2.1) (g := rv) (l := rl) hLr) w_X7_55 ⟨q_160, q_161⟩ rfl rfl crl rfl ⟨(Nat.le_of_ble_eq_true rfl), (Nat.le_of_ble_eq_true rfl)⟩ (Nat.le_of_ble_eq_true rfl) dX7_sumOfDifferences_9) ⟨(Nat.le_of_ble_eq_true rfl), (Nat.le_of_ble_eq_true rfl)⟩ ?_
      refine k_icmp_ge 29 dX7_sumOfDifferences_12 (by decide) (inI_mk (by omega) (by omega)) (inI_mk (by omega) (by omega)) (fun h12 => ?_) (fun h12 => ?_)
      · refine k_lload_n 1 1 dX7_sumOfDifferences_29 rfl rfl ?_
        exact k_lret dX7_sumOfDifferences_30 rfl (Nat.le_of_ble_eq_true rfl) (Nat.le_of_ble_eq_true rfl) (k_okl (by rw [show i = σ.2.2.2.1 by omega]))
      · refine k_lload_n 1 1 dX7_sumOfDifferences_15 rfl rfl ?_
        refine k_aload_n 0 0 dX7_sumOfDifferences_16 rfl rfl ?_
        refine k_iload_n 2 3 dX7_sumOfDifferences_17 rfl rfl ?_
        refine k_useR (k_runV (c_X7_differenceOf θ.2.1 κ (tt := tt) (i := i) hC hs (by omega)) w_X7_225 ⟨q_169, q_1⟩ rfl rfl ctt rfl ⟨(Nat.le_of_ble_eq_true rfl), (Nat.le_of_ble_eq_true rfl)⟩ (Nat.le_of_ble_eq_true rfl) dX7_sumOfDifferences_18) ⟨(Nat.le_of_ble_eq_true rfl), (Nat.le_of_ble_eq_true rfl)⟩ ?_
        refine k_ladd dX7_sumOfDifferences_21 ?_
        refine k_lstore_n 1 [(1, .long (lI ((sumD (hT σ.1) σ.2.2.2 i) + dif (hT σ.1) σ.2.2.2 i))), (0, .ref tt), (3, .int (iI (i : Int)))] dX7_sumOfDifferences_22 rfl (by decide) rfl ?_
        refine k_iinc 2 [(3, .int (iI ((i : Int) + 1))), (1, .long (lI ((sumD (hT σ.1) σ.2.2.2 i) + dif (hT σ.1) σ.2.2.2 i))), (0, .ref tt)] dX7_sumOfDifferences_23 rfl (by decide) rfl ?_
        refine k_goto 4 dX7_sumOfDifferences_26 (by decide) ?_
        refine k_perm [2, 1, 0] [(0, .ref tt), (1, .long (lI ((sumD (hT σ.1) σ.2.2.2 i) + dif (hT σ.1) σ.2.2.2 i))), (3, .int (iI ((i : Int) + 1)))] rfl ?_
        exact ih4 (i + 1) (by omega) (by omega)
  refine k_perm [2, 1, 0] [(0, .ref tt), (1, .long (lI 0)), (3, .int (iI 0))] rfl ?_
  exact lp4 _ 0 (Nat.zero_le _) (Nat.lt_succ_self _)
set_option maxHeartbeats 4000000 in
set_option maxRecDepth 100000 in
theorem c_X7_mixedWithWaters (la : Launch) (κ : Kx) {L : List Nat} {f : Nat → wE} {tb : Nat} {h : Nat → Int} {dg : Int}   (hTb : TblR κ L f tb h) (hb : ∀ t, -50000 ≤ h t ∧ h t ≤ 50000) : k_M la κ yX7_mixedWithWaters cX7_mixedWithWaters 6 (some .long) 4 0 0 [.long (lI dg), .ref tb] L f (k_ro L f (.long (lI (mixW h dg (nW h))))) := by
  refine k_head RX7 [(0, .long (lI dg)), (2, .ref tb)] rfl (by decide) (Nat.le_of_ble_eq_true rfl) rfl (fun θ hθ hin => ?_)
  have hnn := nW_le h
  obtain ⟨hs9, wt9, wh9, wi9, ctb⟩ := hTb.cl
  refine k_lload_n 0 0 dX7_mixedWithWaters_0 rfl rfl ?_
  refine k_lstore_n 3 [(3, .long (lI dg)), (0, .long (lI dg)), (2, .ref tb)] dX7_mixedWithWaters_1 rfl (by decide) rfl ?_
  refine k_iconst dX7_mixedWithWaters_2 ?_
  refine k_istore [(5, .int (iI 0)), (3, .long (lI dg)), (0, .long (lI dg)), (2, .ref tb)] dX7_mixedWithWaters_3 (by decide) rfl ?_
  have lp5 : ∀ (fuel : Nat) (k : Nat) (md : Int), (k ≤ nW h) → (md = mixW h dg k) → nW h - k < fuel → k_G θ κ cX7_mixedWithWaters 6 (some .long) RX7 (k_rm 4 0 0) (k_MQ θ κ (k_ro L f (.long (lI (mixW h dg (nW h))))) 0 0) L f 0 0 5 [(0, .long (lI dg)), (2, .ref tb), (3, .long (lI md)), (5, .int (iI (k : Int)))] [] := by
    intro fuel
    induction fuel with
    | zero =>
      intro k md hk hmd hfu
      exact absurd hfu (Nat.not_lt_zero _)
    | succ fuel ih5 =>
      intro k md hk hmd hfu
      have hh := hb (tm h k)
      refine k_iload 3 dX7_mixedWithWaters_5 rfl ?_
      refine k_aload_n 1 2 dX7_mixedWithWaters_7 rfl rfl ?_
      refine k_getN 4 i_X3 q_123 ctb rfl (by decide) rfl dX7_mixedWithWaters_8 ?_
      refine k_icmp_ge 63 dX7_mixedWithWaters_11 (by decide) (inI_mk (by omega) (by omega)) (inI_mk (by omega) (by omega)) (fun h11 => ?_) (fun h11 => ?_)
      · refine k_lload_n 2 3 dX7_mixedWithWaters_63 rfl rfl ?_
        exact k_lret dX7_mixedWithWaters_64 rfl (Nat.le_of_ble_eq_true rfl) (Nat.le_of_ble_eq_true rfl) (k_okl (by rw [hmd, show k = nW h by omega]))
      · have htm := (tm_spec (h := h) (k := k) (by omega)).1
        refine k_lload_n 2 3 dX7_mixedWithWaters_14 rfl rfl ?_
        refine k_aload_n 1 2 dX7_mixedWithWaters_15 rfl rfl ?_
        refine k_iload 3 dX7_mixedWithWaters_16 rfl ?_
        refine k_useR (k_runV (c_X3_timeOf θ.2.1 κ (tb := tb) (k := k) hTb (by omega)) w_X7_119 ⟨q_240, q_241⟩ rfl rfl ctb rfl ⟨(Nat.le_of_ble_eq_true rfl), (Nat.le_of_ble_eq_true rfl)⟩ (Nat.le_of_ble_eq_true rfl) dX7_mixedWithWaters_18) ⟨(Nat.le_of_ble_eq_true rfl), (Nat.le_of_ble_eq_true rfl)⟩ ?_
        refine k_i2l dX7_mixedWithWaters_21 (inI_mk (by omega) (by omega)) ?_
        refine k_useR (k_runS (c_X7_mixed θ.2.1 κ (a := md) (b := (tm h k : Int)) ) w_X7_252 q_233 rfl rfl ⟨(Nat.le_of_ble_eq_true rfl), (Nat.le_of_ble_eq_true rfl)⟩ (Nat.le_of_ble_eq_true rfl) dX7_mixedWithWaters_22) ⟨(Nat.le_of_ble_eq_true rfl), (Nat.le_of_ble_eq_true rfl)⟩ ?_
        refine k_lstore_n 3 [(3, .long (lI (md * 31 + (tm h k : Int)))), (0, .long (lI dg)), (2, .ref tb), (5, .int (iI (k : Int)))] dX7_mixedWithWaters_25 rfl (by decide) rfl ?_
        refine k_lload_n 0 3 dX7_mixedWithWaters_26 rfl rfl ?_
        refine k_aload_n 2 2 dX7_mixedWithWaters_27 rfl rfl ?_
        refine k_iload 3 dX7_mixedWithWaters_28 rfl ?_
        refine k_useR (k_runV (c_X3_heightOf θ.2.1 κ (tb := tb) (k := k) hTb (by omega)) w_X7_122 ⟨q_248, q_249⟩ rfl rfl ctb rfl ⟨(Nat.le_of_ble_eq_true rfl), (Nat.le_of_ble_eq_true rfl)⟩ (Nat.le_of_ble_eq_true rfl) dX7_mixedWithWaters_30) ⟨(Nat.le_of_ble_eq_true rfl), (Nat.le_of_ble_eq_true rfl)⟩ ?_
        refine k_i2l dX7_mixedWithWaters_33 (inI_mk (by omega) (by omega)) ?_
        refine k_useR (k_runS (c_X7_mixed θ.2.1 κ (a := md * 31 + (tm h k : Int)) (b := h (tm h k)) ) w_X7_252 q_233 rfl rfl ⟨(Nat.le_of_ble_eq_true rfl), (Nat.le_of_ble_eq_true rfl)⟩ (Nat.le_of_ble_eq_true rfl) dX7_mixedWithWaters_34) ⟨(Nat.le_of_ble_eq_true rfl), (Nat.le_of_ble_eq_true rfl)⟩ ?_
        refine k_lstore_n 3 [(3, .long (lI ((md * 31 + (tm h k : Int)) * 31 + (h (tm h k))))), (0, .long (lI dg)), (2, .ref tb), (5, .int (iI (k : Int)))] dX7_mixedWithWaters_37 rfl (by decide) rfl ?_
        refine k_lload_n 0 3 dX7_mixedWithWaters_38 rfl rfl ?_
        refine k_aload_n 2 2 dX7_mixedWithWaters_39 rfl rfl ?_
        refine k_iload 3 dX7_mixedWithWaters_40 rfl ?_
        refine k_useR (k_runV (c_X3_isHigh θ.2.1 κ (tb := tb) (k := k) hTb (by omega)) w_X7_125 ⟨q_252, q_253⟩ rfl rfl ctb rfl ⟨(Nat.le_of_ble_eq_true rfl), (Nat.le_of_ble_eq_true rfl)⟩ (Nat.le_of_ble_eq_true rfl) dX7_mixedWithWaters_42) ⟨(Nat.le_of_ble_eq_true rfl), (Nat.le_of_ble_eq_true rfl)⟩ ?_
        refine k_ifb_eq 52 dX7_mixedWithWaters_45 (by decide) (fun h45 => ?_) (fun h45 => ?_)
        · refine k_lconst 0 dX7_mixedWithWaters_52 (by decide) ?_
          refine k_useR (k_runS (c_X7_mixed θ.2.1 κ (a := (md * 31 + (tm h k : Int)) * 31 + (h (tm h k))) (b := 0) ) w_X7_252 q_233 rfl rfl ⟨(Nat.le_of_ble_eq_true rfl), (Nat.le_of_ble_eq_true rfl)⟩ (Nat.le_of_ble_eq_true rfl) dX7_mixedWithWaters_53) ⟨(Nat.le_of_ble_eq_true rfl), (Nat.le_of_ble_eq_true rfl)⟩ ?_
          refine k_lstore_n 3 [(3, .long (lI (((md * 31 + (tm h k : Int)) * 31 + (h (tm h k))) * 31 + 0))), (0, .long (lI dg)), (2, .ref tb), (5, .int (iI (k : Int)))] dX7_mixedWithWaters_56 rfl (by decide) rfl ?_
          refine k_iinc 3 [(5, .int (iI ((k : Int) + 1))), (3, .long (lI (((md * 31 + (tm h k : Int)) * 31 + (h (tm h k))) * 31 + 0))), (0, .long (lI dg)), (2, .ref tb)] dX7_mixedWithWaters_57 rfl (by decide) rfl ?_
          refine k_goto 5 dX7_mixedWithWaters_60 (by decide) ?_
          refine k_perm [2, 3, 1, 0] [(0, .long (lI dg)), (2, .ref tb), (3, .long (lI (((md * 31 + (tm h k : Int)) * 31 + (h (tm h k))) * 31 + 0))), (5, .int (iI ((k : Int) + 1)))] rfl ?_
          exact ih5 (k + 1) (((md * 31 + (tm h k : Int)) * 31 + (h (tm h k))) * 31 + 0) (by omega) (by rw [mixW, h45, ← hmd]; rfl) (by omega)
        · refine k_lconst 1 dX7_mixedWithWaters_48 (by decide) ?_
          refine k_goto 53 dX7_mixedWithWaters_49 (by decide) ?_
          refine k_useR (k_runS (c_X7_mixed θ.2.1 κ (a := (md * 31 + (tm h k : Int)) * 31 + (h (tm h k))) (b := 1) ) w_X7_252 q_233 rfl rfl ⟨(Nat.le_of_ble_eq_true rfl), (Nat.le_of_ble_eq_true rfl)⟩ (Nat.le_of_ble_eq_true rfl) dX7_mixedWithWaters_53) ⟨(Nat.le_of_ble_eq_true rfl), (Nat.le_of_ble_eq_true rfl)⟩ ?_
          refine k_lstore_n 3 [(3, .long (lI (((md * 31 + (tm h k : Int)) * 31 + (h (tm h k))) * 31 + 1))), (0, .long (lI dg)), (2, .ref tb), (5, .int (iI (k : Int)))] dX7_mixedWithWaters_56 rfl (by decide) rfl ?_
          refine k_iinc 3 [(5, .int (iI ((k : Int) + 1))), (3, .long (lI (((md * 31 + (tm h k : Int)) * 31 + (h (tm h k))) * 31 + 1))), (0, .long (lI dg)), (2, .ref tb)] dX7_mixedWithWaters_57 rfl (by decide) rfl ?_
          refine k_goto 5 dX7_mixedWithWaters_60 (by decide) ?_
          refine k_perm [2, 3, 1, 0] [(0, .long (lI dg)), (2, .ref tb), (3, .long (lI (((md * 31 + (tm h k : Int)) * 31 + (h (tm h k))) * 31 + 1))), (5, .int (iI ((k : Int) + 1)))] rfl ?_
          exact ih5 (k + 1) (((md * 31 + (tm h k : Int)) * 31 + (h (tm h k))) * 31 + 1) (by omega) (by rw [mixW, h45, ← hmd]; rfl) (by omega)
  refine k_perm [2, 3, 1, 0] [(0, .long (lI dg)), (2, .ref tb), (3, .long (lI dg)), (5, .int (iI 0))] rfl ?_
  exact lp5 _ 0 dg (Nat.zero_le _) rfl (Nat.lt_succ_self _)
set_option maxHeartbeats 4000000 in
set_option maxRecDepth 100000 in
theorem c_X7_mixedWithPort (la : Launch) (κ : Kx) {L : List Nat} {f : Nat → wE} {tb pt : Nat} {h : Nat → Int} {q : Pt} {dg : Int}   (hTb : TblR κ L f tb h) (hP : PortR L f pt q) (hb : ∀ t, -50000 ≤ h t ∧ h t ≤ 50000) (hok : PtOk q) : k_M la κ yX7_mixedWithPort cX7_mixedWithPort 7 (some .long) 5 0 0 [.long (lI dg), .ref tb, .ref pt] L f (k_ro L f (.long (lI (mixQ h q dg (nW h))))) := by
  refine k_head RX7 [(0, .long (lI dg)), (2, .ref tb), (3, .ref pt)] rfl (by decide) (Nat.le_of_ble_eq_true rfl) rfl (fun θ hθ hin => ?_)
  have hnn := nW_le h
  obtain ⟨hs9, wt9, wh9, wi9, ctb⟩ := hTb.cl
  obtain ⟨ph9, po9, cpt⟩ := hP.cl
  refine k_lload_n 0 0 dX7_mixedWithPort_0 rfl rfl ?_
  refine k_aload_n 2 3 dX7_mixedWithPort_1 rfl rfl ?_
  refine k_aload_n 1 2 dX7_mixedWithPort_2 rfl rfl ?_
  refine k_useR (k_runV (c_X1_isOrderly θ.2.1 κ (pt := pt) (tb := tb) hTb hP hok) w_X7_169 ⟨q_260, q_261⟩ rfl rfl cpt rfl ⟨(Nat.le_of_ble_eq_true rfl), (Nat.le_of_ble_eq_true rfl)⟩ (Nat.le_of_ble_eq_true rfl) dX7_mixedWithPort_3) ⟨(Nat.le_of_ble_eq_true rfl), (Nat.le_of_ble_eq_true rfl)⟩ ?_
  refine k_ifb_eq 13 dX7_mixedWithPort_6 (by decide) (fun h6 => ?_) (fun h6 => ?_)
  · refine k_lconst 0 dX7_mixedWithPort_13 (by decide) ?_
    refine k_useR (k_runS (c_X7_mixed θ.2.1 κ (a := dg) (b := 0) ) w_X7_252 q_233 rfl rfl ⟨(Nat.le_of_ble_eq_true rfl), (Nat.le_of_ble_eq_true rfl)⟩ (Nat.le_of_ble_eq_true rfl) dX7_mixedWithPort_14) ⟨(Nat.le_of_ble_eq_true rfl), (Nat.le_of_ble_eq_true rfl)⟩ ?_
    refine k_lstore [(4, .long (lI (dg * 31 + 0))), (0, .long (lI dg)), (2, .ref tb), (3, .ref pt)] dX7_mixedWithPort_17 (by decide) rfl ?_
    refine k_iconst dX7_mixedWithPort_19 ?_
    refine k_istore [(6, .int (iI 0)), (4, .long (lI (dg * 31 + 0))), (0, .long (lI dg)), (2, .ref tb), (3, .ref pt)] dX7_mixedWithPort_20 (by decide) rfl ?_
    have lp22 : ∀ (fuel : Nat) (k : Nat) (md : Int), (k ≤ nW h) → (md = mixQ h q dg k) → nW h - k < fuel → k_G θ κ cX7_mixedWithPort 7 (some .long) RX7 (k_rm 5 0 0) (k_MQ θ κ (k_ro L f (.long (lI (mixQ h q dg (nW h))))) 0 0) L f 0 0 22 [(0, .long (lI dg)), (2, .ref tb), (3, .ref pt), (4, .long (lI md)), (6, .int (iI (k : Int)))] [] := by
      intro fuel
      induction fuel with
      | zero =>
        intro k md hk hmd hfu
        exact absurd hfu (Nat.not_lt_zero _)
      | succ fuel ih22 =>
        intro k md hk hmd hfu
        refine k_iload 4 dX7_mixedWithPort_22 rfl ?_
        refine k_aload_n 1 2 dX7_mixedWithPort_24 rfl rfl ?_
        refine k_getN 4 i_X3 q_123 ctb rfl (by decide) rfl dX7_mixedWithPort_25 ?_
        refine k_icmp_ge 67 dX7_mixedWithPort_28 (by decide) (inI_mk (by omega) (by omega)) (inI_mk (by omega) (by omega)) (fun h28 => ?_) (fun h28 => ?_)
        · refine k_lload 3 dX7_mixedWithPort_67 rfl ?_
          exact k_lret dX7_mixedWithPort_69 rfl (Nat.le_of_ble_eq_true rfl) (Nat.le_of_ble_eq_true rfl) (k_okl (by rw [hmd, show k = nW h by omega]))
        · have hb1 := pT_bd (h := h) hok (k := k) (by omega)
          have hb2 := pH_bd (h := h) hok hb k
          refine k_lload 3 dX7_mixedWithPort_31 rfl ?_
          refine k_aload_n 2 3 dX7_mixedWithPort_33 rfl rfl ?_
          refine k_aload_n 1 2 dX7_mixedWithPort_34 rfl rfl ?_
          refine k_iload 4 dX7_mixedWithPort_35 rfl ?_
          refine k_useR (k_runV (c_X1_timeOf θ.2.1 κ (pt := pt) (tb := tb) (k := k) hTb hP (by omega)) w_X7_173 ⟨q_264, q_265⟩ rfl rfl cpt rfl ⟨(Nat.le_of_ble_eq_true rfl), (Nat.le_of_ble_eq_true rfl)⟩ (Nat.le_of_ble_eq_true rfl) dX7_mixedWithPort_37) ⟨(Nat.le_of_ble_eq_true rfl), (Nat.le_of_ble_eq_true rfl)⟩ ?_
          refine k_i2l dX7_mixedWithPort_40 (inI_mk (by omega) (by omega)) ?_
          refine k_useR (k_runS (c_X7_mixed θ.2.1 κ (a := md) (b := pT h q k) ) w_X7_252 q_233 rfl rfl ⟨(Nat.le_of_ble_eq_true rfl), (Nat.le_of_ble_eq_true rfl)⟩ (Nat.le_of_ble_eq_true rfl) dX7_mixedWithPort_41) ⟨(Nat.le_of_ble_eq_true rfl), (Nat.le_of_ble_eq_true rfl)⟩ ?_
          refine k_lstore [(4, .long (lI (md * 31 + (pT h q k)))), (0, .long (lI dg)), (2, .ref tb), (3, .ref pt), (6, .int (iI (k : Int)))] dX7_mixedWithPort_44 (by decide) rfl ?_
          refine k_lload 0 dX7_mixedWithPort_46 rfl ?_
          refine k_aload_n 3 3 dX7_mixedWithPort_48 rfl rfl ?_
          refine k_aload_n 2 2 dX7_mixedWithPort_49 rfl rfl ?_
          refine k_iload 4 dX7_mixedWithPort_50 rfl ?_
          refine k_useR (k_runV (c_X1_heightOf θ.2.1 κ (pt := pt) (tb := tb) (k := k) hTb hP (by omega) hb hok) w_X7_176 ⟨q_275, q_276⟩ rfl rfl cpt rfl ⟨(Nat.le_of_ble_eq_true rfl), (Nat.le_of_ble_eq_true rfl)⟩ (Nat.le_of_ble_eq_true rfl) dX7_mixedWithPort_52) ⟨(Nat.le_of_ble_eq_true rfl), (Nat.le_of_ble_eq_true rfl)⟩ ?_
          refine k_i2l dX7_mixedWithPort_55 (inI_mk (by omega) (by omega)) ?_
          refine k_useR (k_runS (c_X7_mixed θ.2.1 κ (a := md * 31 + (pT h q k)) (b := pH h q k) ) w_X7_252 q_233 rfl rfl ⟨(Nat.le_of_ble_eq_true rfl), (Nat.le_of_ble_eq_true rfl)⟩ (Nat.le_of_ble_eq_true rfl) dX7_mixedWithPort_56) ⟨(Nat.le_of_ble_eq_true rfl), (Nat.le_of_ble_eq_true rfl)⟩ ?_
          refine k_lstore [(4, .long (lI ((md * 31 + (pT h q k)) * 31 + (pH h q k)))), (0, .long (lI dg)), (2, .ref tb), (3, .ref pt), (6, .int (iI (k : Int)))] dX7_mixedWithPort_59 (by decide) rfl ?_
          refine k_iinc 4 [(6, .int (iI ((k : Int) + 1))), (4, .long (lI ((md * 31 + (pT h q k)) * 31 + (pH h q k)))), (0, .long (lI dg)), (2, .ref tb), (3, .ref pt)] dX7_mixedWithPort_61 rfl (by decide) rfl ?_
          refine k_goto 22 dX7_mixedWithPort_64 (by decide) ?_
          refine k_perm [2, 3, 4, 1, 0] [(0, .long (lI dg)), (2, .ref tb), (3, .ref pt), (4, .long (lI ((md * 31 + (pT h q k)) * 31 + (pH h q k)))), (6, .int (iI ((k : Int) + 1)))] rfl ?_
          exact ih22 (k + 1) ((md * 31 + (pT h q k)) * 31 + (pH h q k)) (by omega) (by rw [mixQ, ← hmd]) (by omega)
    refine k_perm [2, 3, 4, 1, 0] [(0, .long (lI dg)), (2, .ref tb), (3, .ref pt), (4, .long (lI (dg * 31 + 0))), (6, .int (iI 0))] rfl ?_
    exact lp22 _ 0 (dg * 31 + 0) (Nat.zero_le _) (by rw [mixQ, h6]; rfl) (Nat.lt_succ_self _)
  · refine k_lconst 1 dX7_mixedWithPort_9 (by decide) ?_
    refine k_goto 14 dX7_mixedWithPort_10 (by decide) ?_
    refine k_useR (k_runS (c_X7_mixed θ.2.1 κ (a := dg) (b := 1) ) w_X7_252 q_233 rfl rfl ⟨(Nat.le_of_ble_eq_true rfl), (Nat.le_of_ble_eq_true rfl)⟩ (Nat.le_of_ble_eq_true rfl) dX7_mixedWithPort_14) ⟨(Nat.le_of_ble_eq_true rfl), (Nat.le_of_ble_eq_true rfl)⟩ ?_
    refine k_lstore [(4, .long (lI (dg * 31 + 1))), (0, .long (lI dg)), (2, .ref tb), (3, .ref pt)] dX7_mixedWithPort_17 (by decide) rfl ?_
    refine k_iconst dX7_mixedWithPort_19 ?_
    refine k_istore [(6, .int (iI 0)), (4, .long (lI (dg * 31 + 1))), (0, .long (lI dg)), (2, .ref tb), (3, .ref pt)] dX7_mixedWithPort_20 (by decide) rfl ?_
    have lp22 : ∀ (fuel : Nat) (k : Nat) (md : Int), (k ≤ nW h) → (md = mixQ h q dg k) → nW h - k < fuel → k_G θ κ cX7_mixedWithPort 7 (some .long) RX7 (k_rm 5 0 0) (k_MQ θ κ (k_ro L f (.long (lI (mixQ h q dg (nW h))))) 0 0) L f 0 0 22 [(0, .long (lI dg)), (2, .ref tb), (3, .ref pt), (4, .long (lI md)), (6, .int (iI (k : Int)))] [] := by
      intro fuel
      induction fuel with
      | zero =>
        intro k md hk hmd hfu
        exact absurd hfu (Nat.not_lt_zero _)
      | succ fuel ih22 =>
        intro k md hk hmd hfu
        refine k_iload 4 dX7_mixedWithPort_22 rfl ?_
        refine k_aload_n 1 2 dX7_mixedWithPort_24 rfl rfl ?_
        refine k_getN 4 i_X3 q_123 ctb rfl (by decide) rfl dX7_mixedWithPort_25 ?_
        refine k_icmp_ge 67 dX7_mixedWithPort_28 (by decide) (inI_mk (by omega) (by omega)) (inI_mk (by omega) (by omega)) (fun h28 => ?_) (fun h28 => ?_)
        · refine k_lload 3 dX7_mixedWithPort_67 rfl ?_
          exact k_lret dX7_mixedWithPort_69 rfl (Nat.le_of_ble_eq_true rfl) (Nat.le_of_ble_eq_true rfl) (k_okl (by rw [hmd, show k = nW h by omega]))
        · have hb1 := pT_bd (h := h) hok (k := k) (by omega)
          have hb2 := pH_bd (h := h) hok hb k
          refine k_lload 3 dX7_mixedWithPort_31 rfl ?_
          refine k_aload_n 2 3 dX7_mixedWithPort_33 rfl rfl ?_
          refine k_aload_n 1 2 dX7_mixedWithPort_34 rfl rfl ?_
          refine k_iload 4 dX7_mixedWithPort_35 rfl ?_
          refine k_useR (k_runV (c_X1_timeOf θ.2.1 κ (pt := pt) (tb := tb) (k := k) hTb hP (by omega)) w_X7_173 ⟨q_264, q_265⟩ rfl rfl cpt rfl ⟨(Nat.le_of_ble_eq_true rfl), (Nat.le_of_ble_eq_true rfl)⟩ (Nat.le_of_ble_eq_true rfl) dX7_mixedWithPort_37) ⟨(Nat.le_of_ble_eq_true rfl), (Nat.le_of_ble_eq_true rfl)⟩ ?_
          refine k_i2l dX7_mixedWithPort_40 (inI_mk (by omega) (by omega)) ?_
          refine k_useR (k_runS (c_X7_mixed θ.2.1 κ (a := md) (b := pT h q k) ) w_X7_252 q_233 rfl rfl ⟨(Nat.le_of_ble_eq_true rfl), (Nat.le_of_ble_eq_true rfl)⟩ (Nat.le_of_ble_eq_true rfl) dX7_mixedWithPort_41) ⟨(Nat.le_of_ble_eq_true rfl), (Nat.le_of_ble_eq_true rfl)⟩ ?_
          refine k_lstore [(4, .long (lI (md * 31 + (pT h q k)))), (0, .long (lI dg)), (2, .ref tb), (3, .ref pt), (6, .int (iI (k : Int)))] dX7_mixedWithPort_44 (by decide) rfl ?_
          refine k_lload 0 dX7_mixedWithPort_46 rfl ?_
          refine k_aload_n 3 3 dX7_mixedWithPort_48 rfl rfl ?_
          refine k_aload_n 2 2 dX7_mixedWithPort_49 rfl rfl ?_
          refine k_iload 4 dX7_mixedWithPort_50 rfl ?_
          refine k_useR (k_runV (c_X1_heightOf θ.2.1 κ (pt := pt) (tb := tb) (k := k) hTb hP (by omega) hb hok) w_X7_176 ⟨q_275, q_276⟩ rfl rfl cpt rfl ⟨(Nat.le_of_ble_eq_true rfl), (Nat.le_of_ble_eq_true rfl)⟩ (Nat.le_of_ble_eq_true rfl) dX7_mixedWithPort_52) ⟨(Nat.le_of_ble_eq_true rfl), (Nat.le_of_ble_eq_true rfl)⟩ ?_
          refine k_i2l dX7_mixedWithPort_55 (inI_mk (by omega) (by omega)) ?_
          refine k_useR (k_runS (c_X7_mixed θ.2.1 κ (a := md * 31 + (pT h q k)) (b := pH h q k) ) w_X7_252 q_233 rfl rfl ⟨(Nat.le_of_ble_eq_true rfl), (Nat.le_of_ble_eq_true rfl)⟩ (Nat.le_of_ble_eq_true rfl) dX7_mixedWithPort_56) ⟨(Nat.le_of_ble_eq_true rfl), (Nat.le_of_ble_eq_true rfl)⟩ ?_
          refine k_lstore [(4, .long (lI ((md * 31 + (pT h q k)) * 31 + (pH h q k)))), (0, .long (lI dg)), (2, .ref tb), (3, .ref pt), (6, .int (iI (k : Int)))] dX7_mixedWithPort_59 (by decide) rfl ?_
          refine k_iinc 4 [(6, .int (iI ((k : Int) + 1))), (4, .long (lI ((md * 31 + (pT h q k)) * 31 + (pH h q k)))), (0, .long (lI dg)), (2, .ref tb), (3, .ref pt)] dX7_mixedWithPort_61 rfl (by decide) rfl ?_
          refine k_goto 22 dX7_mixedWithPort_64 (by decide) ?_
          refine k_perm [2, 3, 4, 1, 0] [(0, .long (lI dg)), (2, .ref tb), (3, .ref pt), (4, .long (lI ((md * 31 + (pT h q k)) * 31 + (pH h q k)))), (6, .int (iI ((k : Int) + 1)))] rfl ?_
          exact ih22 (k + 1) ((md * 31 + (pT h q k)) * 31 + (pH h q k)) (by omega) (by rw [mixQ, ← hmd]) (by omega)
    refine k_perm [2, 3, 4, 1, 0] [(0, .long (lI dg)), (2, .ref tb), (3, .ref pt), (4, .long (lI (dg * 31 + 1))), (6, .int (iI 0))] rfl ?_
    exact lp22 _ 0 (dg * 31 + 1) (Nat.zero_le _) (by rw [mixQ, h6]; rfl) (Nat.lt_succ_self _)
set_option maxHeartbeats 4000000 in
set_option maxRecDepth 100000 in
theorem c_X7_worst (la : Launch) (κ : Kx) {L : List Nat} {f : Nat → wE} {tt td tb pl rl : Nat} {old : Bool} {σ : Sg}   (hC : CSF κ L f tt td tb pl rl old σ) (hs : SgOk σ) : k_M la κ yX7_worst cX7_worst 7 (some .int) 7 0 0 [.ref tt] L f (k_ro L f (.int (iI (wst (hT σ.1) σ.2.2.2 σ.2.2.2.1)))) := by
  refine k_head RX7 [(0, .ref tt)] rfl (by decide) (Nat.le_of_ble_eq_true rfl) rfl (fun θ hθ hin => ?_)
  obtain ⟨ctt, hTd, hTx, hPs, hRs⟩ := id hC
  obtain ⟨rv, hLr, hRv⟩ := id hRs
  obtain ⟨md3, E3, crl⟩ := hLr.cl
  obtain ⟨hs1, ⟨hs2, hs3⟩, hs4⟩ := id hs
  have hs5 := hs1.2.1
  have hs6 := hs4.1
  have hs7 := nW_le (hT σ.1)
  have hs8 := hs1.1
  refine k_iconst dX7_worst_0 ?_
  refine k_istore_n 1 [(1, .int (iI (-1))), (0, .ref tt)] dX7_worst_1 rfl (by decide) rfl ?_
  refine k_ldc2 (-1) q_202 (by decide) dX7_worst_2 ?_
  refine k_lstore_n 2 [(2, .long (lI (-1))), (1, .int (iI (-1))), (0, .ref tt)] dX7_worst_5 rfl (by decide) rfl ?_
  refine k_iconst dX7_worst_6 ?_
  refine k_istore [(4, .int (iI 0)), (2, .long (lI (-1))), (1, .int (iI (-1))), (0, .ref tt)] dX7_worst_7 (by decide) rfl ?_
  have lp9 : ∀ (fuel : Nat) (i : Nat) (w b : Int), (i ≤ σ.2.2.2.1) → (WI (hT σ.1) σ.2.2.2 i w b) → σ.2.2.2.1 - i < fuel → k_G θ κ cX7_worst 7 (some .int) RX7 (k_rm 7 0 0) (k_MQ θ κ (k_ro L f (.int (iI (wst (hT σ.1) σ.2.2.2 σ.2.2.2.1)))) 0 0) L f 0 0 9 [(0, .ref tt), (1, .int (iI w)), (2, .long (lI b)), (4, .int (iI (i : Int)))] [] := by
    intro fuel
    induction fuel with
    | zero =>
      intro i w b hi hw hfu
      exact absurd hfu (Nat.not_lt_zero _)
    | succ fuel ih9 =>
      intro i w b hi hw hfu
      have hb9 : -1 ≤ b ∧ b ≤ 100000 := by
        obtain ⟨-, ⟨-, h2⟩ | ⟨h1, h2⟩⟩ := id hw
        · omega
        · have hb8 := dif_bd hs1 hs4 (i := w.toNat) (by omega)
          omega
      refine k_iload 3 dX7_worst_9 rfl ?_
      refine k_aload_n 0 0 dX7_worst_11 rfl rfl ?_
      refine k_get 3 i_X7 q_142 ctt rfl (by decide) rfl dX7_worst_12 ?_
      refine k_useR (k_runV (c_Jx4a65c_size_8abf5 θ.2.1 κ (n := σ.2.2.2.1) (g := rv) (l := rl) hLr) w_X7_55 ⟨q_160, q_161⟩ rfl rfl crl rfl ⟨(Nat.le_of_ble_eq_true rfl), (Nat.le_of_ble_eq_true rfl)⟩ (Nat.le_of_ble_eq_true rfl) dX7_worst_15) ⟨(Nat.le_of_ble_eq_true rfl), (Nat.le_of_ble_eq_true rfl)⟩ ?_
      refine k_icmp_ge 51 dX7_worst_18 (by decide) (inI_mk (by omega) (by omega)) (inI_mk (by omega) (by omega)) (fun h18 => ?_) (fun h18 => ?_)
      · refine k_iload_n 1 1 dX7_worst_51 rfl rfl ?_
        exact k_iret dX7_worst_52 rfl (Nat.le_of_ble_eq_true rfl) (Nat.le_of_ble_eq_true rfl) (k_oki (by rw [hw.1, show i = σ.2.2.2.1 by omega]))
      · have hdb := dif_bd hs1 hs4 (i := i) (by omega)
        refine k_aload_n 0 0 dX7_worst_21 rfl rfl ?_
        refine k_iload 3 dX7_worst_22 rfl ?_
        refine k_useR (k_runV (c_X7_differenceOf θ.2.1 κ (i := i) (tt := tt) hC hs (by omega)) w_X7_225 ⟨q_169, q_1⟩ rfl rfl ctt rfl ⟨(Nat.le_of_ble_eq_true rfl), (Nat.le_of_ble_eq_true rfl)⟩ (Nat.le_of_ble_eq_true rfl) dX7_worst_24) ⟨(Nat.le_of_ble_eq_true rfl), (Nat.le_of_ble_eq_true rfl)⟩ ?_
        refine k_absl q_203 q_204 q_52 q_205 (inL_mk (by omega) (by omega)) (Nat.le_of_ble_eq_true rfl) (Nat.le_of_ble_eq_true rfl) ⟨(Nat.le_of_ble_eq_true rfl), (Nat.le_of_ble_eq_true rfl)⟩ dX7_worst_27 ?_
        refine k_lstore [(5, .long (lI ((Int.natAbs (dif (hT σ.1) σ.2.2.2 i) : Nat) : Int))), (0, .ref tt), (1, .int (iI w)), (2, .long (lI b)), (4, .int (iI (i : Int)))] dX7_worst_30 (by decide) rfl ?_
        refine k_lload 0 dX7_worst_32 rfl ?_
        refine k_lload_n 3 2 dX7_worst_34 rfl rfl ?_
        refine k_lcmp_le 45 dX7_worst_35 dX7_worst_36 (by decide) (inL_mk (by omega) (by omega)) (inL_mk (by omega) (by omega)) (fun h35 => ?_) (fun h35 => ?_)
        · refine k_iinc 4 [(4, .int (iI ((i : Int) + 1))), (5, .long (lI ((Int.natAbs (dif (hT σ.1) σ.2.2.2 i) : Nat) : Int))), (0, .ref tt), (1, .int (iI w)), (2, .long (lI b))] dX7_worst_45 rfl (by decide) rfl ?_
          refine k_goto 9 dX7_worst_48 (by decide) ?_
          refine k_perm [2, 3, 4, 0] [(0, .ref tt), (1, .int (iI w)), (2, .long (lI b)), (4, .int (iI ((i : Int) + 1)))] rfl ?_
          exact ih9 (i + 1) w b (by omega) (hw.neg (by omega)) (by omega)
        · refine k_lload 0 dX7_worst_39 rfl ?_
          refine k_lstore_n 2 [(2, .long (lI ((Int.natAbs (dif (hT σ.1) σ.2.2.2 i) : Nat) : Int))), (5, .long (lI ((Int.natAbs (dif (hT σ.1) σ.2.2.2 i) : Nat) : Int))), (0, .ref tt), (1, .int (iI w)), (4, .int (iI (i : Int)))] dX7_worst_41 rfl (by decide) rfl ?_
          refine k_iload 4 dX7_worst_42 rfl ?_
          refine k_istore_n 1 [(1, .int (iI (i : Int))), (2, .long (lI ((Int.natAbs (dif (hT σ.1) σ.2.2.2 i) : Nat) : Int))), (5, .long (lI ((Int.natAbs (dif (hT σ.1) σ.2.2.2 i) : Nat) : Int))), (0, .ref tt), (4, .int (iI (i : Int)))] dX7_worst_44 rfl (by decide) rfl ?_
          refine k_iinc 4 [(4, .int (iI ((i : Int) + 1))), (1, .int (iI (i : Int))), (2, .long (lI ((Int.natAbs (dif (hT σ.1) σ.2.2.2 i) : Nat) : Int))), (5, .long (lI ((Int.natAbs (dif (hT σ.1) σ.2.2.2 i) : Nat) : Int))), (0, .ref tt)] dX7_worst_45 rfl (by decide) rfl ?_
          refine k_goto 9 dX7_worst_48 (by decide) ?_
          refine k_perm [4, 1, 2, 0] [(0, .ref tt), (1, .int (iI (i : Int))), (2, .long (lI ((Int.natAbs (dif (hT σ.1) σ.2.2.2 i) : Nat) : Int))), (4, .int (iI ((i : Int) + 1)))] rfl ?_
          exact ih9 (i + 1) (i : Int) ((Int.natAbs (dif (hT σ.1) σ.2.2.2 i) : Nat) : Int) (by omega) (hw.pos (by omega)) (by omega)
  refine k_perm [3, 2, 1, 0] [(0, .ref tt), (1, .int (iI (-1))), (2, .long (lI (-1))), (4, .int (iI 0))] rfl ?_
  exact lp9 _ 0 (-1) (-1) (Nat.zero_le _) ⟨rfl, Or.inl ⟨rfl, rfl⟩⟩ (Nat.lt_succ_self _)
set_option maxHeartbeats 4000000 in
set_option maxRecDepth 100000 in
theorem c_X7_tallyChiefPort (la : Launch) (κ : Kx) {L : List Nat} {f : Nat → wE} {tt td tb pl rl ta a b : Nat} {old : Bool} {σ : Sg} {lev : Int}  (hC : CSF κ L f tt td tb pl rl old σ) (hTa : TallyR L f ta tl0) (hs : SgOk σ) (hlev : inI lev) (hab : a ≤ b ∧ b < 4320) : k_M la κ yX7_tallyChiefPort cX7_tallyChiefPort 7 none 7 0 0 [.ref tt, .ref ta, .int (iI lev), .int (iI (a : Int)), .int (iI (b : Int))] L f (k_ru (fun L' f' => L' = L ∧ k_fr SC L f L' f' ∧ CSF κ L' f' tt td tb pl rl false σ ∧ TallyR L' f' ta (tlC (hT σ.1) lev a (b + 1 - a)))) := by
  refine k_head RX7 [(0, .ref tt), (1, .ref ta), (2, .int (iI lev)), (3, .int (iI (a : Int))), (4, .int (iI (b : Int)))] rfl (by decide) (Nat.le_of_ble_eq_true rfl) rfl (fun θ hθ hin => ?_)
  obtain ⟨ctt, hTd, hTx, hPs, hRs⟩ := id hC
  refine k_aload_n 0 0 dX7_tallyChiefPort_0 rfl rfl ?_
  refine k_useV (k_runV (c_X7_currentTable θ.2.1 κ (tt := tt) hC hs) w_X7_110 ⟨q_212, q_2⟩ rfl rfl ctt rfl ⟨(Nat.le_of_ble_eq_true rfl), (Nat.le_of_ble_eq_true rfl)⟩ (Nat.le_of_ble_eq_true rfl) dX7_tallyChiefPort_1) ⟨(Nat.le_of_ble_eq_true rfl), (Nat.le_of_ble_eq_true rfl)⟩ (fun w L9 f9 hw => ?_)
  obtain ⟨rfl, eL9, hr9, hC9⟩ := hw
  replace eL9 := eL9.symm
  subst eL9
  replace hC := hC9
  clear hC9
  replace hTa := hTa.fr hr9 rfl
  obtain ⟨ctt, hTd, hTx, hPs, hRs⟩ := id hC
  have hTb := hTx.2 rfl
  obtain ⟨hs9, wt9, wh9, wi9, ctb⟩ := hTb.cl
  refine k_astore [(5, .ref tb), (0, .ref tt), (1, .ref ta), (2, .int (iI lev)), (3, .int (iI (a : Int))), (4, .int (iI (b : Int)))] dX7_tallyChiefPort_4 (by decide) rfl ?_
  refine k_iload_n 4 3 dX7_tallyChiefPort_6 rfl rfl ?_
  refine k_istore [(6, .int (iI (a : Int))), (5, .ref tb), (0, .ref tt), (1, .ref ta), (2, .int (iI lev)), (3, .int (iI (a : Int))), (4, .int (iI (b : Int)))] dX7_tallyChiefPort_7 (by decide) rfl ?_
  have lp9 : ∀ (fuel : Nat) (fw : Nat → wE) (m : Nat), (a + m ≤ b + 1) → (k_fr SC L f L fw) → (Cl L fw tb (3, .inr (4, [.ref hs9, .ref wt9, .ref wh9, .ref wi9, .int (iI (nW (hT σ.1) : Int))]))) → (CSF κ L fw tt td tb pl rl false σ) → (TallyR L fw ta (tlC (hT σ.1) lev a m)) → (TblR κ L fw tb (hT σ.1)) → b + 1 - (a + m) < fuel → k_G θ κ cX7_tallyChiefPort 7 none RX7 (k_rm 7 0 0) (k_MQ θ κ (k_ru (fun L' f' => L' = L ∧ k_fr SC L f L' f' ∧ CSF κ L' f' tt td tb pl rl false σ ∧ TallyR L' f' ta (tlC (hT σ.1) lev a (b + 1 - a)))) 0 0) L fw 0 0 9 [(0, .ref tt), (1, .ref ta), (2, .int (iI lev)), (3, .int (iI (a : Int))), (4, .int (iI (b : Int))), (5, .ref tb), (6, .int (iI ((a + m : Nat) : Int)))] [] := by
    intro fuel
    induction fuel with
    | zero =>
      intro fw m hm hfr ctb hC hTa hTb hfu
      exact absurd hfu (Nat.not_lt_zero _)
    | succ fuel ih9 =>
      intro fw m hm hfr ctb hC hTa hTb hfu
      refine k_iload 6 dX7_tallyChiefPort_9 rfl ?_
      refine k_iload 4 dX7_tallyChiefPort_11 rfl ?_
      refine k_icmp_gt 44 dX7_tallyChiefPort_13 (by decide) (inI_mk (by omega) (by omega)) (inI_mk (by omega) (by omega)) (fun h13 => ?_) (fun h13 => ?_)
      · exact k_vret dX7_tallyChiefPort_44 rfl (Nat.le_of_ble_eq_true rfl) (Nat.le_of_ble_eq_true rfl) (⟨rfl, rfl, hfr, hC, by rw [show b + 1 - a = m by omega]; exact hTa⟩)
      · refine k_aload_n 1 1 dX7_tallyChiefPort_16 rfl rfl ?_
        refine k_iload 6 dX7_tallyChiefPort_17 rfl ?_
        refine k_aload 5 dX7_tallyChiefPort_19 rfl ?_
        refine k_iload 6 dX7_tallyChiefPort_21 rfl ?_
        refine k_useR (k_runV (c_X3_heightAt θ.2.1 κ (t := (a + m)) (h := (hT σ.1)) (tb := tb) hTb (by omega)) w_X7_267 ⟨q_288, q_289⟩ rfl rfl ctb rfl ⟨(Nat.le_of_ble_eq_true rfl), (Nat.le_of_ble_eq_true rfl)⟩ (Nat.le_of_ble_eq_true rfl) dX7_tallyChiefPort_23) ⟨(Nat.le_of_ble_eq_true rfl), (Nat.le_of_ble_eq_true rfl)⟩ ?_
        have hh := hT_bd hs.1 (a + m)
        refine k_iload_n 2 2 dX7_tallyChiefPort_26 rfl rfl ?_
        refine k_icmp_lt 34 dX7_tallyChiefPort_27 (by decide) (inI_mk (by omega) (by omega)) hlev (fun h27 => ?_) (fun h27 => ?_)
        · refine k_iconst dX7_tallyChiefPort_34 ?_
          refine k_useU (k_runV (c_X4_note θ.2.1 κ (x := (tlC (hT σ.1) lev a m)) (n := (m : Int)) (ta := ta) (m := ((a + m : Nat) : Int)) (b := false) hTa (tlC_in (h := hT σ.1) (lev := lev) (a := a) m (by omega)) (by omega) ⟨by omega, by omega⟩) w_X7_268 ⟨q_722, q_723⟩ rfl rfl hTa rfl ⟨(Nat.le_of_ble_eq_true rfl), (Nat.le_of_ble_eq_true rfl)⟩ (Nat.le_of_ble_eq_true rfl) dX7_tallyChiefPort_35) ⟨(Nat.le_of_ble_eq_true rfl), (Nat.le_of_ble_eq_true rfl)⟩ (fun Ln fn hw => ?_)
          obtain ⟨en, hrn, hTa9⟩ := hw
          replace en := en.symm
          subst en
          replace hTa := hTa9
          replace ctb := ctb.fr hrn rfl
          replace hC := hC.fr hrn rfl
          replace hTb := hTb.fr hrn rfl
          refine k_iinc 6 [(6, .int (iI (((a + m : Nat) : Int) + 1))), (0, .ref tt), (1, .ref ta), (2, .int (iI lev)), (3, .int (iI (a : Int))), (4, .int (iI (b : Int))), (5, .ref tb)] dX7_tallyChiefPort_38 rfl (by decide) rfl ?_
          refine k_goto 9 dX7_tallyChiefPort_41 (by decide) ?_
          refine k_perm [1, 2, 3, 4, 5, 6, 0] [(0, .ref tt), (1, .ref ta), (2, .int (iI lev)), (3, .int (iI (a : Int))), (4, .int (iI (b : Int))), (5, .ref tb), (6, .int (iI (((a + m : Nat) : Int) + 1)))] rfl ?_
          have hTa2 : TallyR L fn ta (tlC (hT σ.1) lev a (m + 1)) := by
            rw [tlC, decide_eq_false (by omega)]
            exact hTa
          replace hTa := hTa2
          exact ih9 fn (m + 1) (by omega) (k_fr.trans hfr hrn idf (SC_of rfl)) ctb hC hTa hTb (by omega)
        · refine k_iconst dX7_tallyChiefPort_30 ?_
          refine k_goto 35 dX7_tallyChiefPort_31 (by decide) ?_
          refine k_useU (k_runV (c_X4_note θ.2.1 κ (x := (tlC (hT σ.1) lev a m)) (n := (m : Int)) (ta := ta) (m := ((a + m : Nat) : Int)) (b := true) hTa (tlC_in (h := hT σ.1) (lev := lev) (a := a) m (by omega)) (by omega) ⟨by omega, by omega⟩) w_X7_268 ⟨q_722, q_723⟩ rfl rfl hTa rfl ⟨(Nat.le_of_ble_eq_true rfl), (Nat.le_of_ble_eq_true rfl)⟩ (Nat.le_of_ble_eq_true rfl) dX7_tallyChiefPort_35) ⟨(Nat.le_of_ble_eq_true rfl), (Nat.le_of_ble_eq_true rfl)⟩ (fun Ln fn hw => ?_)
          obtain ⟨en, hrn, hTa9⟩ := hw
          replace en := en.symm
          subst en
          replace hTa := hTa9
          replace ctb := ctb.fr hrn rfl
          replace hC := hC.fr hrn rfl
          replace hTb := hTb.fr hrn rfl
          refine k_iinc 6 [(6, .int (iI (((a + m : Nat) : Int) + 1))), (0, .ref tt), (1, .ref ta), (2, .int (iI lev)), (3, .int (iI (a : Int))), (4, .int (iI (b : Int))), (5, .ref tb)] dX7_tallyChiefPort_38 rfl (by decide) rfl ?_
          refine k_goto 9 dX7_tallyChiefPort_41 (by decide) ?_
          refine k_perm [1, 2, 3, 4, 5, 6, 0] [(0, .ref tt), (1, .ref ta), (2, .int (iI lev)), (3, .int (iI (a : Int))), (4, .int (iI (b : Int))), (5, .ref tb), (6, .int (iI (((a + m : Nat) : Int) + 1)))] rfl ?_
          have hTa2 : TallyR L fn ta (tlC (hT σ.1) lev a (m + 1)) := by
            rw [tlC, decide_eq_true (by omega)]
            exact hTa
          replace hTa := hTa2
          exact ih9 fn (m + 1) (by omega) (k_fr.trans hfr hrn idf (SC_of rfl)) ctb hC hTa hTb (by omega)
  refine k_perm [2, 3, 4, 5, 6, 1, 0] [(0, .ref tt), (1, .ref ta), (2, .int (iI lev)), (3, .int (iI (a : Int))), (4, .int (iI (b : Int))), (5, .ref tb), (6, .int (iI (a : Int)))] rfl ?_
  exact lp9 _ f9 0 (by omega) (k_fr.mono hr9 SC_SU) ctb hC hTa hTb (Nat.lt_succ_self _)
