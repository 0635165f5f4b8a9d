theorem nextW_end {h : Nat → Int} {t : Int} {b : Bool} {k : Nat} (hk : nW h ≤ k) : ∀ m, nextW h t b m k = -1
  | 0 => rfl
  | m + 1 => by rw [nextW, if_neg (by omega)]
theorem nextW_hit {h : Nat → Int} {t : Int} {b : Bool} {k m : Nat} (hk : k < nW h) (h1 : t ≤ (tm h k : Int)) (h2 : hi h k = b) (hm : 0 < m) : nextW h t b m k = (k : Int) := by
  obtain ⟨m, rfl⟩ : ∃ n, m = n + 1 := ⟨m - 1, by omega⟩
  rw [nextW, if_pos hk, if_pos ⟨h1, h2⟩]
theorem nextW_go {h : Nat → Int} {t : Int} {b : Bool} {k m : Nat} (hk : k < nW h) (h1 : ¬ (t ≤ (tm h k : Int) ∧ hi h k = b)) (hm : 0 < m) : nextW h t b m k = nextW h t b (m - 1) (k + 1) := by
  obtain ⟨m, rfl⟩ : ∃ n, m = n + 1 := ⟨m - 1, by omega⟩
  rw [nextW, if_pos hk, if_neg h1]
  rfl
set_option maxHeartbeats 4000000 in
set_option maxRecDepth 100000 in
theorem c_X7_height (la : Launch) (κ : Kx) {L : List Nat} {f : Nat → wE} {tt td tb pl rl : Nat} {old : Bool} {σ : Sg} {t : Int}  (hC : CSF κ L f tt td tb pl rl old σ) (hts : la.stackTraces = false) (hs : SgOk σ) (ht : inI t) : k_MX la κ yX7_height cX7_height 2 (some .int) 6 1 6 [.ref tt, .int (iI t)] L f (k_rn (fun v9 L' f' => xHeight t = none ∧ v9 = .int (iI (hT σ.1 t.toNat)) ∧ CS κ L' f' tt (σ) ∧ k_fr SC L f L' f')) (fun E L' f' => xHeight t = some E ∧ CS κ L' f' tt σ ∧ k_fr SC L f L' f') := by
  refine k_headX RX7 [(0, .ref tt), (1, .int (iI t))] rfl (by decide) (Nat.le_of_ble_eq_true rfl) rfl (fun θ hθ hin hth => ?_)
  have hts2 : θ.2.1.stackTraces = false := by rw [hθ]; exact hts
  obtain ⟨ctt, hTd, hTx, hPs, hRs⟩ := id hC
  obtain ⟨wl, wv, ctd, hLw, hW, hWi⟩ := id hTd
  obtain ⟨md1, E1, cwl⟩ := hLw.cl
  obtain ⟨hs1, ⟨hs2, hs3⟩, hs4⟩ := id hs
  have hs5 := hs1.2.1
  have hs6 := hs4.1
  have hs7 := nW_le (hT σ.1)
  have hs8 := hs1.1
  refine k_iload_n 1 1 dX7_height_0 rfl rfl ?_
  refine k_useR (k_runS (c_X7_isMinute θ.2.1 κ (z := t) ht) w_X7_95 q_133 rfl rfl ⟨(Nat.le_of_ble_eq_true rfl), (Nat.le_of_ble_eq_true rfl)⟩ (Nat.le_of_ble_eq_true rfl) dX7_height_1) ⟨(Nat.le_of_ble_eq_true rfl), (Nat.le_of_ble_eq_true rfl)⟩ ?_
  refine k_ifb_ne 17 dX7_height_4 (by decide) (fun h4 => ?_) (fun h4 => ?_)
  · have hd4 := of_decide_eq_true h4
    obtain ⟨tn, rfl⟩ : ∃ tn : Nat, t = (tn : Int) := ⟨t.toNat, by omega⟩
    refine k_aload_n 0 0 dX7_height_17 rfl rfl ?_
    refine k_get 0 i_X7 q_112 ctt rfl (by decide) rfl dX7_height_18 ?_
    refine k_iload_n 1 1 dX7_height_21 rfl rfl ?_
    refine k_useR (k_runV (c_X5_heightAt θ.2.1 κ (τ := σ.1) (td := td) (t := tn) hTd hs1 (by omega)) w_X7_100 ⟨q_207, q_208⟩ rfl rfl ctd rfl ⟨(Nat.le_of_ble_eq_true rfl), (Nat.le_of_ble_eq_true rfl)⟩ (Nat.le_of_ble_eq_true rfl) dX7_height_22) ⟨(Nat.le_of_ble_eq_true rfl), (Nat.le_of_ble_eq_true rfl)⟩ ?_
    exact k_xr (k_iret dX7_height_25 rfl (Nat.le_of_ble_eq_true rfl) (Nat.le_of_ble_eq_true rfl) (⟨_, rfl, (by rw [xHeight, if_pos hd4]), rfl, hC.cs, k_fr.refl⟩))
  · have hd4 := of_decide_eq_false h4
    exact k_throw (si := 4) hts2 hth x_IA (by decide) rfl dX7_height_7 dX7_height_10 dX7_height_11 dX7_height_13 dX7_height_16 ⟨(Nat.le_of_ble_eq_true rfl), (Nat.le_of_ble_eq_true rfl), (Nat.le_of_ble_eq_true rfl), (Nat.le_of_ble_eq_true rfl)⟩ (Nat.le_of_ble_eq_true rfl) ⟨(Nat.le_of_ble_eq_true rfl), (Nat.le_of_ble_eq_true rfl)⟩ (⟨(by rw [xHeight, if_neg hd4]), hC.cs, k_fr.refl⟩)
set_option maxHeartbeats 4000000 in
set_option maxRecDepth 100000 in
theorem c_X7_count (la : Launch) (κ : Kx) {L : List Nat} {f : Nat → wE} {tt td tb pl rl : Nat} {old : Bool} {σ : Sg} {what : Int}  (hC : CSF κ L f tt td tb pl rl old σ) (hts : la.stackTraces = false) (hs : SgOk σ) (hwhat : inI what) : k_MX la κ yX7_count cX7_count 2 (some .int) 8 1 6 [.ref tt, .int (iI what)] L f (k_rn (fun v9 L' f' => xCount what = none ∧ v9 = .int (iI (numS σ what)) ∧ CS κ L' f' tt (σ) ∧ k_fr SC L f L' f')) (fun E L' f' => xCount what = some E ∧ CS κ L' f' tt σ ∧ k_fr SC L f L' f') := by
  refine k_headX RX7 [(0, .ref tt), (1, .int (iI what))] rfl (by decide) (Nat.le_of_ble_eq_true rfl) rfl (fun θ hθ hin hth => ?_)
  have hts2 : θ.2.1.stackTraces = false := by rw [hθ]; exact hts
  obtain ⟨ctt, hTd, hTx, hPs, hRs⟩ := id hC
  refine k_iload_n 1 1 dX7_count_0 rfl rfl ?_
  refine k_iconst dX7_count_1 ?_
  refine k_iconst dX7_count_2 ?_
  refine k_useR (k_runS (c_X7_isWithin θ.2.1 κ (z := what) (a := 0) (b := 3) hwhat (inI_mk (by omega) (by omega)) (inI_mk (by omega) (by omega))) w_X7_37 q_136 rfl rfl ⟨(Nat.le_of_ble_eq_true rfl), (Nat.le_of_ble_eq_true rfl)⟩ (Nat.le_of_ble_eq_true rfl) dX7_count_3) ⟨(Nat.le_of_ble_eq_true rfl), (Nat.le_of_ble_eq_true rfl)⟩ ?_
  refine k_ifb_ne 19 dX7_count_6 (by decide) (fun h6 => ?_) (fun h6 => ?_)
  · have hd6 := of_decide_eq_true h6
    refine k_aload_n 0 0 dX7_count_19 rfl rfl ?_
    refine k_iload_n 1 1 dX7_count_20 rfl rfl ?_
    refine k_useV (k_runV (c_X7_numberOf θ.2.1 κ (tt := tt) (what := what) hC hs (by omega)) w_X7_107 ⟨q_256, q_1⟩ rfl rfl ctt rfl ⟨(Nat.le_of_ble_eq_true rfl), (Nat.le_of_ble_eq_true rfl)⟩ (Nat.le_of_ble_eq_true rfl) dX7_count_21) ⟨(Nat.le_of_ble_eq_true rfl), (Nat.le_of_ble_eq_true rfl)⟩ (fun w Ln fn hw => ?_)
    obtain ⟨rfl, en, hrn, old9, hCn, -⟩ := hw
    replace en := en.symm
    subst en
    replace hC := hCn
    clear hCn
    exact k_xr (k_iret dX7_count_24 rfl (Nat.le_of_ble_eq_true rfl) (Nat.le_of_ble_eq_true rfl) (⟨_, rfl, (by rw [xCount, if_pos hd6]), rfl, hC.cs, (k_fr.mono hrn SC_SU)⟩))
  · have hd6 := of_decide_eq_false h6
    exact k_throw (si := 5) hts2 hth x_IO (by decide) rfl dX7_count_9 dX7_count_12 dX7_count_13 dX7_count_15 dX7_count_18 ⟨(Nat.le_of_ble_eq_true rfl), (Nat.le_of_ble_eq_true rfl), (Nat.le_of_ble_eq_true rfl), (Nat.le_of_ble_eq_true rfl)⟩ (Nat.le_of_ble_eq_true rfl) ⟨(Nat.le_of_ble_eq_true rfl), (Nat.le_of_ble_eq_true rfl)⟩ (⟨(by rw [xCount, if_neg hd6]), hC.cs, k_fr.refl⟩)
set_option maxHeartbeats 4000000 in
set_option maxRecDepth 100000 in
theorem c_X7_datum (la : Launch) (κ : Kx) {L : List Nat} {f : Nat → wE} {tt td tb pl rl : Nat} {old : Bool} {σ : Sg} {what : Int}  (hC : CSF κ L f tt td tb pl rl old σ) (hts : la.stackTraces = false) (hs : SgOk σ) (hwhat : inI what) : k_MX la κ yX7_datum cX7_datum 2 (some .int) 7 1 6 [.ref tt, .int (iI what)] L f (k_rn (fun v9 L' f' => xDatum what = none ∧ v9 = .int (iI (dat (hT σ.1) what)) ∧ CS κ L' f' tt (σ) ∧ k_fr SC L f L' f')) (fun E L' f' => xDatum what = some E ∧ CS κ L' f' tt σ ∧ k_fr SC L f L' f') := by
  refine k_headX RX7 [(0, .ref tt), (1, .int (iI what))] rfl (by decide) (Nat.le_of_ble_eq_true rfl) rfl (fun θ hθ hin hth => ?_)
  have hts2 : θ.2.1.stackTraces = false := by rw [hθ]; exact hts
  obtain ⟨ctt, hTd, hTx, hPs, hRs⟩ := id hC
  refine k_iload_n 1 1 dX7_datum_0 rfl rfl ?_
  refine k_iconst dX7_datum_1 ?_
  refine k_iconst dX7_datum_2 ?_
  refine k_useR (k_runS (c_X7_isWithin θ.2.1 κ (z := what) (a := 0) (b := 4) hwhat (inI_mk (by omega) (by omega)) (inI_mk (by omega) (by omega))) w_X7_37 q_136 rfl rfl ⟨(Nat.le_of_ble_eq_true rfl), (Nat.le_of_ble_eq_true rfl)⟩ (Nat.le_of_ble_eq_true rfl) dX7_datum_3) ⟨(Nat.le_of_ble_eq_true rfl), (Nat.le_of_ble_eq_true rfl)⟩ ?_
  refine k_ifb_ne 19 dX7_datum_6 (by decide) (fun h6 => ?_) (fun h6 => ?_)
  · have hd6 := of_decide_eq_true h6
    refine k_aload_n 0 0 dX7_datum_19 rfl rfl ?_
    refine k_useV (k_runV (c_X7_currentTable θ.2.1 κ (tt := tt) hC hs) w_X7_110 ⟨q_261, q_2⟩ rfl rfl ctt rfl ⟨(Nat.le_of_ble_eq_true rfl), (Nat.le_of_ble_eq_true rfl)⟩ (Nat.le_of_ble_eq_true rfl) dX7_datum_20) ⟨(Nat.le_of_ble_eq_true rfl), (Nat.le_of_ble_eq_true rfl)⟩ (fun w L9 f9 hw => ?_)
    obtain ⟨rfl, eL9, hr9, hC9⟩ := hw
    replace eL9 := eL9.symm
    subst eL9
    replace hC := hC9
    clear hC9
    obtain ⟨ctt, hTd, hTx, hPs, hRs⟩ := id hC
    have hTb := hTx.2 rfl
    obtain ⟨hs9, wt9, wh9, wi9, ctb⟩ := hTb.cl
    refine k_iload_n 1 1 dX7_datum_23 rfl rfl ?_
    refine k_useR (k_runV (c_X3_datumOf θ.2.1 κ (h := (hT σ.1)) (tb := tb) (what := what) hTb (hT_bd hs.1) hd6) w_X7_135 ⟨q_309, q_310⟩ rfl rfl ctb rfl ⟨(Nat.le_of_ble_eq_true rfl), (Nat.le_of_ble_eq_true rfl)⟩ (Nat.le_of_ble_eq_true rfl) dX7_datum_24) ⟨(Nat.le_of_ble_eq_true rfl), (Nat.le_of_ble_eq_true rfl)⟩ ?_
    exact k_xr (k_iret dX7_datum_27 rfl (Nat.le_of_ble_eq_true rfl) (Nat.le_of_ble_eq_true rfl) (⟨_, rfl, (by rw [xDatum, if_pos hd6]), rfl, hC.cs, (k_fr.mono hr9 SC_SU)⟩))
  · have hd6 := of_decide_eq_false h6
    exact k_throw (si := 8) hts2 hth x_IO (by decide) rfl dX7_datum_9 dX7_datum_12 dX7_datum_13 dX7_datum_15 dX7_datum_18 ⟨(Nat.le_of_ble_eq_true rfl), (Nat.le_of_ble_eq_true rfl), (Nat.le_of_ble_eq_true rfl), (Nat.le_of_ble_eq_true rfl)⟩ (Nat.le_of_ble_eq_true rfl) ⟨(Nat.le_of_ble_eq_true rfl), (Nat.le_of_ble_eq_true rfl)⟩ (⟨(by rw [xDatum, if_neg hd6]), hC.cs, k_fr.refl⟩)
set_option maxHeartbeats 4000000 in
set_option maxRecDepth 100000 in
theorem c_X7_water (la : Launch) (κ : Kx) {L : List Nat} {f : Nat → wE} {tt td tb pl rl : Nat} {old : Bool} {σ : Sg} {w what : Int}  (hC : CSF κ L f tt td tb pl rl old σ) (hts : la.stackTraces = false) (hs : SgOk σ) (hw : inI w) (hwhat : inI what) : k_MX la κ yX7_water cX7_water 4 (some .int) 7 1 6 [.ref tt, .int (iI w), .int (iI what)] L f (k_rn (fun v9 L' f' => xWater σ w what = none ∧ v9 = .int (iI (aWater (hT σ.1) w.toNat what)) ∧ CS κ L' f' tt (σ) ∧ k_fr SC L f L' f')) (fun E L' f' => xWater σ w what = some E ∧ CS κ L' f' tt σ ∧ k_fr SC L f L' f') := by
  refine k_headX RX7 [(0, .ref tt), (1, .int (iI w)), (2, .int (iI what))] rfl (by decide) (Nat.le_of_ble_eq_true rfl) rfl (fun θ hθ hin hth => ?_)
  have hts2 : θ.2.1.stackTraces = false := by rw [hθ]; exact hts
  obtain ⟨ctt, hTd, hTx, hPs, hRs⟩ := id hC
  refine k_aload_n 0 0 dX7_water_0 rfl rfl ?_
  refine k_useV (k_runV (c_X7_currentTable θ.2.1 κ (tt := tt) hC hs) w_X7_110 ⟨q_261, q_2⟩ rfl rfl ctt rfl ⟨(Nat.le_of_ble_eq_true rfl), (Nat.le_of_ble_eq_true rfl)⟩ (Nat.le_of_ble_eq_true rfl) dX7_water_1) ⟨(Nat.le_of_ble_eq_true rfl), (Nat.le_of_ble_eq_true rfl)⟩ (fun w L9 f9 hw => ?_)
  obtain ⟨rfl, eL9, hr9, hC9⟩ := hw
  replace eL9 := eL9.symm
  subst eL9
  replace hC := hC9
  clear hC9
  obtain ⟨ctt, hTd, hTx, hPs, hRs⟩ := id hC
  have hTb := hTx.2 rfl
  obtain ⟨hs9, wt9, wh9, wi9, ctb⟩ := hTb.cl
  refine k_astore_n 3 [(3, .ref tb), (0, .ref tt), (1, .int (iI w)), (2, .int (iI what))] dX7_water_4 rfl (by decide) rfl ?_
  refine k_aload_n 0 3 dX7_water_5 rfl rfl ?_
  refine k_iload_n 2 1 dX7_water_6 rfl rfl ?_
  refine k_useR (k_runV (c_X3_hasWater θ.2.1 κ (tb := tb) (z := w) hTb hw) w_X7_114 ⟨q_281, q_282⟩ rfl rfl ctb rfl ⟨(Nat.le_of_ble_eq_true rfl), (Nat.le_of_ble_eq_true rfl)⟩ (Nat.le_of_ble_eq_true rfl) dX7_water_7) ⟨(Nat.le_of_ble_eq_true rfl), (Nat.le_of_ble_eq_true rfl)⟩ ?_
  refine k_ifb_ne 23 dX7_water_10 (by decide) (fun h10 => ?_) (fun h10 => ?_)
  · have hd10 := of_decide_eq_true h10
    obtain ⟨wn, rfl⟩ : ∃ wn : Nat, w = (wn : Int) := ⟨w.toNat, by omega⟩
    have hnn := nW_le (hT σ.1)
    refine k_iload_n 3 2 dX7_water_23 rfl rfl ?_
    rcases (by omega : what = 0 ∨ what = 1 ∨ what = 2 ∨ (what < 0 ∨ 2 < what)) with h24 | h24 | h24 | h24
    · refine k_swIn 0 52 dX7_water_24 hwhat h24 (by decide) (by decide) rfl (by decide) ?_
      refine k_aload_n 0 3 dX7_water_52 rfl rfl ?_
      refine k_iload_n 2 1 dX7_water_53 rfl rfl ?_
      refine k_useR (k_runV (c_X3_timeOf θ.2.1 κ (h := (hT σ.1)) (k := wn) (tb := tb) hTb (by omega)) w_X7_119 ⟨q_286, q_287⟩ rfl rfl ctb rfl ⟨(Nat.le_of_ble_eq_true rfl), (Nat.le_of_ble_eq_true rfl)⟩ (Nat.le_of_ble_eq_true rfl) dX7_water_54) ⟨(Nat.le_of_ble_eq_true rfl), (Nat.le_of_ble_eq_true rfl)⟩ ?_
      exact k_xr (k_iret dX7_water_57 rfl (Nat.le_of_ble_eq_true rfl) (Nat.le_of_ble_eq_true rfl) (⟨_, rfl, (by rw [xWater, if_pos hd10, if_pos (by omega)]), (by rw [h24]; rfl), hC.cs, (k_fr.mono hr9 SC_SU)⟩))
    · refine k_swIn 1 58 dX7_water_24 hwhat h24 (by decide) (by decide) rfl (by decide) ?_
      refine k_aload_n 0 3 dX7_water_58 rfl rfl ?_
      refine k_iload_n 2 1 dX7_water_59 rfl rfl ?_
      refine k_useR (k_runV (c_X3_heightOf θ.2.1 κ (h := (hT σ.1)) (k := wn) (tb := tb) hTb (by omega)) w_X7_122 ⟨q_291, q_292⟩ rfl rfl ctb rfl ⟨(Nat.le_of_ble_eq_true rfl), (Nat.le_of_ble_eq_true rfl)⟩ (Nat.le_of_ble_eq_true rfl) dX7_water_60) ⟨(Nat.le_of_ble_eq_true rfl), (Nat.le_of_ble_eq_true rfl)⟩ ?_
      exact k_xr (k_iret dX7_water_63 rfl (Nat.le_of_ble_eq_true rfl) (Nat.le_of_ble_eq_true rfl) (⟨_, rfl, (by rw [xWater, if_pos hd10, if_pos (by omega)]), (by rw [h24]; rfl), hC.cs, (k_fr.mono hr9 SC_SU)⟩))
    · refine k_swIn 2 64 dX7_water_24 hwhat h24 (by decide) (by decide) rfl (by decide) ?_
      refine k_aload_n 0 3 dX7_water_64 rfl rfl ?_
      refine k_iload_n 2 1 dX7_water_65 rfl rfl ?_
      refine k_useR (k_runV (c_X3_isHigh θ.2.1 κ (h := (hT σ.1)) (k := wn) (tb := tb) hTb (by omega)) w_X7_125 ⟨q_295, q_296⟩ rfl rfl ctb rfl ⟨(Nat.le_of_ble_eq_true rfl), (Nat.le_of_ble_eq_true rfl)⟩ (Nat.le_of_ble_eq_true rfl) dX7_water_66) ⟨(Nat.le_of_ble_eq_true rfl), (Nat.le_of_ble_eq_true rfl)⟩ ?_
      refine k_ifb_eq 76 dX7_water_69 (by decide) (fun h69 => ?_) (fun h69 => ?_)
      · refine k_iconst dX7_water_76 ?_
        exact k_xr (k_iret dX7_water_77 rfl (Nat.le_of_ble_eq_true rfl) (Nat.le_of_ble_eq_true rfl) (⟨_, rfl, (by rw [xWater, if_pos hd10, if_pos (by omega)]), (by rw [h24]; show _ = Value.int (iI (bI (hi (hT σ.1) wn))); rw [h69]; rfl), hC.cs, (k_fr.mono hr9 SC_SU)⟩))
      · refine k_iconst dX7_water_72 ?_
        refine k_goto 77 dX7_water_73 (by decide) ?_
        exact k_xr (k_iret dX7_water_77 rfl (Nat.le_of_ble_eq_true rfl) (Nat.le_of_ble_eq_true rfl) (⟨_, rfl, (by rw [xWater, if_pos hd10, if_pos (by omega)]), (by rw [h24]; show _ = Value.int (iI (bI (hi (hT σ.1) wn))); rw [h69]; rfl), hC.cs, (k_fr.mono hr9 SC_SU)⟩))
    · refine k_swOut 78 dX7_water_24 hwhat h24 (by decide) ?_
      exact k_throw (si := 7) hts2 hth x_IO (by decide) rfl dX7_water_78 dX7_water_81 dX7_water_82 dX7_water_84 dX7_water_87 ⟨(Nat.le_of_ble_eq_true rfl), (Nat.le_of_ble_eq_true rfl), (Nat.le_of_ble_eq_true rfl), (Nat.le_of_ble_eq_true rfl)⟩ (Nat.le_of_ble_eq_true rfl) ⟨(Nat.le_of_ble_eq_true rfl), (Nat.le_of_ble_eq_true rfl)⟩ (⟨(by rw [xWater, if_pos hd10, if_neg (by omega)]), hC.cs, (k_fr.mono hr9 SC_SU)⟩)
  · have hd10 := of_decide_eq_false h10
    exact k_throw (si := 6) hts2 hth x_IO (by decide) rfl dX7_water_13 dX7_water_16 dX7_water_17 dX7_water_19 dX7_water_22 ⟨(Nat.le_of_ble_eq_true rfl), (Nat.le_of_ble_eq_true rfl), (Nat.le_of_ble_eq_true rfl), (Nat.le_of_ble_eq_true rfl)⟩ (Nat.le_of_ble_eq_true rfl) ⟨(Nat.le_of_ble_eq_true rfl), (Nat.le_of_ble_eq_true rfl)⟩ (⟨(by rw [xWater, if_neg hd10]), hC.cs, (k_fr.mono hr9 SC_SU)⟩)
set_option maxHeartbeats 4000000 in
set_option maxRecDepth 100000 in
theorem c_X7_next (la : Launch) (κ : Kx) {L : List Nat} {f : Nat → wE} {tt td tb pl rl : Nat} {old : Bool} {σ : Sg} {t : Int} {b : Bool}  (hC : CSF κ L f tt td tb pl rl old σ) (hts : la.stackTraces = false) (hs : SgOk σ) (ht : inI t) : k_MX la κ yX7_next cX7_next 5 (some .int) 7 1 6 [.ref tt, .int (iI t), .int (iI (bI b))] L f (k_rn (fun v9 L' f' => xHeight t = none ∧ v9 = .int (iI (nextW (hT σ.1) t b 4320 0)) ∧ CS κ L' f' tt (σ) ∧ k_fr SC L f L' f')) (fun E L' f' => xHeight t = some E ∧ CS κ L' f' tt σ ∧ k_fr SC L f L' f') := by
  refine k_headX RX7 [(0, .ref tt), (1, .int (iI t)), (2, .int (iI (bI b)))] rfl (by decide) (Nat.le_of_ble_eq_true rfl) rfl (fun θ hθ hin hth => ?_)
  have hts2 : θ.2.1.stackTraces = false := by rw [hθ]; exact hts
  obtain ⟨ctt, hTd, hTx, hPs, hRs⟩ := id hC
  refine k_iload_n 1 1 dX7_next_0 rfl rfl ?_
  refine k_useR (k_runS (c_X7_isMinute θ.2.1 κ (z := t) ht) w_X7_95 q_133 rfl rfl ⟨(Nat.le_of_ble_eq_true rfl), (Nat.le_of_ble_eq_true rfl)⟩ (Nat.le_of_ble_eq_true rfl) dX7_next_1) ⟨(Nat.le_of_ble_eq_true rfl), (Nat.le_of_ble_eq_true rfl)⟩ ?_
  refine k_ifb_ne 17 dX7_next_4 (by decide) (fun h4 => ?_) (fun h4 => ?_)
  · have hd4 := of_decide_eq_true h4
    refine k_aload_n 0 0 dX7_next_17 rfl rfl ?_
    refine k_useV (k_runV (c_X7_currentTable θ.2.1 κ (tt := tt) hC hs) w_X7_110 ⟨q_261, q_2⟩ rfl rfl ctt rfl ⟨(Nat.le_of_ble_eq_true rfl), (Nat.le_of_ble_eq_true rfl)⟩ (Nat.le_of_ble_eq_true rfl) dX7_next_18) ⟨(Nat.le_of_ble_eq_true rfl), (Nat.le_of_ble_eq_true rfl)⟩ (fun w L9 f9 hw => ?_)
    obtain ⟨rfl, eL9, hr9, hC9⟩ := hw
    replace eL9 := eL9.symm
    subst eL9
    replace hC := hC9
    clear hC9
    obtain ⟨ctt, hTd, hTx, hPs, hRs⟩ := id hC
    have hTb := hTx.2 rfl
    obtain ⟨hs9, wt9, wh9, wi9, ctb⟩ := hTb.cl
    have hnn := nW_le (hT σ.1)
    refine k_astore_n 3 [(3, .ref tb), (0, .ref tt), (1, .int (iI t)), (2, .int (iI (bI b)))] dX7_next_21 rfl (by decide) rfl ?_
    refine k_iconst dX7_next_22 ?_
    refine k_istore [(4, .int (iI 0)), (3, .ref tb), (0, .ref tt), (1, .int (iI t)), (2, .int (iI (bI b)))] dX7_next_23 (by decide) rfl ?_
    have lp25 : ∀ (fuel : Nat) (k : Nat), (k ≤ nW (hT σ.1)) → (nextW (hT σ.1) t b 4320 0 = nextW (hT σ.1) t b (4320 - k) k) → nW (hT σ.1) - k < fuel → k_G θ κ cX7_next 5 (some .int) RX7 (k_rm 7 1 6) (k_XMQ θ κ (k_rn (fun v9 L' f' => xHeight t = none ∧ v9 = .int (iI (nextW (hT σ.1) t b 4320 0)) ∧ CS κ L' f' tt (σ) ∧ k_fr SC L f L' f')) (fun E L' f' => xHeight t = some E ∧ CS κ L' f' tt σ ∧ k_fr SC L f L' f') 1 6) L f9 0 0 25 [(0, .ref tt), (1, .int (iI t)), (2, .int (iI (bI b))), (3, .ref tb), (4, .int (iI (k : Int)))] [] := by
      intro fuel
      induction fuel with
      | zero =>
        intro k hk hnx hfu
        exact absurd hfu (Nat.not_lt_zero _)
      | succ fuel ih25 =>
        intro k hk hnx hfu
        refine k_iload 4 dX7_next_25 rfl ?_
        refine k_aload_n 3 3 dX7_next_27 rfl rfl ?_
        refine k_getN 4 i_X3 q_96 ctb rfl (by decide) rfl dX7_next_28 ?_
        refine k_icmp_ge 63 dX7_next_31 (by decide) (inI_mk (by omega) (by omega)) (inI_mk (by omega) (by omega)) (fun h31 => ?_) (fun h31 => ?_)
        · refine k_iconst dX7_next_63 ?_
          exact k_xr (k_iret dX7_next_64 rfl (Nat.le_of_ble_eq_true rfl) (Nat.le_of_ble_eq_true rfl) (⟨_, rfl, (by rw [xHeight, if_pos hd4]), (by rw [hnx, nextW_end (by omega)]), hC.cs, (k_fr.mono hr9 SC_SU)⟩))
        · have htm := (tm_spec (h := hT σ.1) (k := k) (by omega)).1
          refine k_aload_n 3 3 dX7_next_34 rfl rfl ?_
          refine k_iload 4 dX7_next_35 rfl ?_
          refine k_useR (k_runV (c_X3_timeOf θ.2.1 κ (h := (hT σ.1)) (k := k) (tb := tb) hTb (by omega)) w_X7_119 ⟨q_286, q_287⟩ rfl rfl ctb rfl ⟨(Nat.le_of_ble_eq_true rfl), (Nat.le_of_ble_eq_true rfl)⟩ (Nat.le_of_ble_eq_true rfl) dX7_next_37) ⟨(Nat.le_of_ble_eq_true rfl), (Nat.le_of_ble_eq_true rfl)⟩ ?_
          refine k_iload_n 1 1 dX7_next_40 rfl rfl ?_
          refine k_icmp_lt 57 dX7_next_41 (by decide) (inI_mk (by omega) (by omega)) (inI_mk (by omega) (by omega)) (fun h41 => ?_) (fun h41 => ?_)
          · refine k_iinc 4 [(4, .int (iI ((k : Int) + 1))), (0, .ref tt), (1, .int (iI t)), (2, .int (iI (bI b))), (3, .ref tb)] dX7_next_57 rfl (by decide) rfl ?_
            refine k_goto 25 dX7_next_60 (by decide) ?_
            refine k_perm [1, 2, 3, 4, 0] [(0, .ref tt), (1, .int (iI t)), (2, .int (iI (bI b))), (3, .ref tb), (4, .int (iI ((k : Int) + 1)))] rfl ?_
            exact ih25 (k + 1) (by omega) (hnx.trans (by rw [nextW_go (by omega) (fun q9 => absurd q9.1 (by omega)) (by omega), show 4320 - k - 1 = 4320 - (k + 1) by omega])) (by omega)
          · refine k_aload_n 3 3 dX7_next_44 rfl rfl ?_
            refine k_iload 4 dX7_next_45 rfl ?_
            refine k_useR (k_runV (c_X3_isHigh θ.2.1 κ (h := (hT σ.1)) (k := k) (tb := tb) hTb (by omega)) w_X7_125 ⟨q_295, q_296⟩ rfl rfl ctb rfl ⟨(Nat.le_of_ble_eq_true rfl), (Nat.le_of_ble_eq_true rfl)⟩ (Nat.le_of_ble_eq_true rfl) dX7_next_47) ⟨(Nat.le_of_ble_eq_true rfl), (Nat.le_of_ble_eq_true rfl)⟩ ?_
            refine k_iload_n 2 2 dX7_next_50 rfl rfl ?_
            refine k_icmp_ne 57 dX7_next_51 (by decide) (bI_in _) (bI_in _) (fun h51 => ?_) (fun h51 => ?_)
            · refine k_iinc 4 [(4, .int (iI ((k : Int) + 1))), (0, .ref tt), (1, .int (iI t)), (2, .int (iI (bI b))), (3, .ref tb)] dX7_next_57 rfl (by decide) rfl ?_
              refine k_goto 25 dX7_next_60 (by decide) ?_
              refine k_perm [1, 2, 3, 4, 0] [(0, .ref tt), (1, .int (iI t)), (2, .int (iI (bI b))), (3, .ref tb), (4, .int (iI ((k : Int) + 1)))] rfl ?_
              exact ih25 (k + 1) (by omega) (hnx.trans (by rw [nextW_go (by omega) (fun q9 => h51 (congrArg bI q9.2)) (by omega), show 4320 - k - 1 = 4320 - (k + 1) by omega])) (by omega)
            · refine k_iload 4 dX7_next_54 rfl ?_
              exact k_xr (k_iret dX7_next_56 rfl (Nat.le_of_ble_eq_true rfl) (Nat.le_of_ble_eq_true rfl) (⟨_, rfl, (by rw [xHeight, if_pos hd4]), (by rw [hnx, nextW_hit (by omega) (by omega) (bI_inj h51) (by omega)]), hC.cs, (k_fr.mono hr9 SC_SU)⟩))
    refine k_perm [2, 3, 4, 1, 0] [(0, .ref tt), (1, .int (iI t)), (2, .int (iI (bI b))), (3, .ref tb), (4, .int (iI 0))] rfl ?_
    exact lp25 _ 0 (Nat.zero_le _) rfl (Nat.lt_succ_self _)
  · have hd4 := of_decide_eq_false h4
    exact k_throw (si := 4) hts2 hth x_IA (by decide) rfl dX7_next_7 dX7_next_10 dX7_next_11 dX7_next_13 dX7_next_16 ⟨(Nat.le_of_ble_eq_true rfl), (Nat.le_of_ble_eq_true rfl), (Nat.le_of_ble_eq_true rfl), (Nat.le_of_ble_eq_true rfl)⟩ (Nat.le_of_ble_eq_true rfl) ⟨(Nat.le_of_ble_eq_true rfl), (Nat.le_of_ble_eq_true rfl)⟩ (⟨(by rw [xHeight, if_neg hd4]), hC.cs, k_fr.refl⟩)
set_option maxHeartbeats 4000000 in
set_option maxRecDepth 100000 in
theorem c_X7_isInOrder (la : Launch) (κ : Kx) {L : List Nat} {f : Nat → wE} {tt td tb pl rl : Nat} {old : Bool} {σ : Sg} {p : Int}  (hC : CSF κ L f tt td tb pl rl old σ) (hts : la.stackTraces = false) (hs : SgOk σ) (hp : inI p) : k_MX la κ yX7_isInOrder cX7_isInOrder 2 (some .boolean) 7 1 6 [.ref tt, .int (iI p)] L f (k_rn (fun v9 L' f' => xPort σ p = none ∧ v9 = .int (iI (bI (ord (hT σ.1) (σ.2.2.1 p.toNat)))) ∧ CS κ L' f' tt (σ) ∧ k_fr SC L f L' f')) (fun E L' f' => xPort σ p = some E ∧ CS κ L' f' tt σ ∧ k_fr SC L f L' f') := by
  refine k_headX RX7 [(0, .ref tt), (1, .int (iI p))] rfl (by decide) (Nat.le_of_ble_eq_true rfl) rfl (fun θ hθ hin hth => ?_)
  have hts2 : θ.2.1.stackTraces = false := by rw [hθ]; exact hts
  obtain ⟨ctt, hTd, hTx, hPs, hRs⟩ := id hC
  obtain ⟨pv, hv, ov, hLp, hPv, hPi⟩ := id hPs
  obtain ⟨md2, E2, cpl⟩ := hLp.cl
  obtain ⟨hs1, ⟨hs2, hs3⟩, hs4⟩ := id hs
  have hs5 := hs1.2.1
  have hs6 := hs4.1
  have hs7 := nW_le (hT σ.1)
  have hs8 := hs1.1
  refine k_aload_n 0 0 dX7_isInOrder_0 rfl rfl ?_
  refine k_iload_n 1 1 dX7_isInOrder_1 rfl rfl ?_
  refine k_useR (k_runV (c_X7_hasPort θ.2.1 κ (tt := tt) (z := p) hC hs hp) w_X7_143 ⟨q_459, q_12⟩ rfl rfl ctt rfl ⟨(Nat.le_of_ble_eq_true rfl), (Nat.le_of_ble_eq_true rfl)⟩ (Nat.le_of_ble_eq_true rfl) dX7_isInOrder_2) ⟨(Nat.le_of_ble_eq_true rfl), (Nat.le_of_ble_eq_true rfl)⟩ ?_
  refine k_ifb_ne 18 dX7_isInOrder_5 (by decide) (fun h5 => ?_) (fun h5 => ?_)
  · have hd5 := of_decide_eq_true h5
    obtain ⟨pn, rfl⟩ : ∃ pn : Nat, p = (pn : Int) := ⟨p.toNat, by omega⟩
    have hPn := hPv pn (by omega)
    have hP : PortR L f (pv pn) (σ.2.2.1 pn) := ⟨hv pn, ov pn, hPn.1, hPn.2.1, hPn.2.2⟩
    refine k_aload_n 0 0 dX7_isInOrder_18 rfl rfl ?_
    refine k_get 2 i_X7 q_114 ctt rfl (by decide) rfl dX7_isInOrder_19 ?_
    refine k_iload_n 1 1 dX7_isInOrder_22 rfl rfl ?_
    refine k_useR (k_runV (c_Jx4a65c_get_915e3 θ.2.1 κ (n := σ.2.1) (g := pv) (i := pn) (l := pl) hLp (by omega)) w_X7_82 ⟨q_215, q_216⟩ rfl rfl cpl rfl ⟨(Nat.le_of_ble_eq_true rfl), (Nat.le_of_ble_eq_true rfl)⟩ (Nat.le_of_ble_eq_true rfl) dX7_isInOrder_23) ⟨(Nat.le_of_ble_eq_true rfl), (Nat.le_of_ble_eq_true rfl)⟩ ?_
    refine k_castS q_367 hPn.1 rfl dX7_isInOrder_26 ?_
    refine k_aload_n 0 0 dX7_isInOrder_29 rfl rfl ?_
    refine k_useV (k_runV (c_X7_currentTable θ.2.1 κ (tt := tt) hC hs) w_X7_110 ⟨q_261, q_2⟩ rfl rfl ctt rfl ⟨(Nat.le_of_ble_eq_true rfl), (Nat.le_of_ble_eq_true rfl)⟩ (Nat.le_of_ble_eq_true rfl) dX7_isInOrder_30) ⟨(Nat.le_of_ble_eq_true rfl), (Nat.le_of_ble_eq_true rfl)⟩ (fun w L9 f9 hw => ?_)
    obtain ⟨rfl, eL9, hr9, hC9⟩ := hw
    replace eL9 := eL9.symm
    subst eL9
    replace hC := hC9
    clear hC9
    replace hP := hP.fr hr9 rfl
    obtain ⟨ctt, hTd, hTx, hPs, hRs⟩ := id hC
    have hTb := hTx.2 rfl
    obtain ⟨hs9, wt9, wh9, wi9, ctb⟩ := hTb.cl
    obtain ⟨ph9, po9, cpt⟩ := hP.cl
    refine k_useR (k_runV (c_X1_isOrderly θ.2.1 κ (h := (hT σ.1)) (q := (σ.2.2.1 pn)) (pt := (pv pn)) (tb := tb) hTb hP (hs3 pn (by omega))) w_X7_169 ⟨q_479, q_480⟩ rfl rfl cpt rfl ⟨(Nat.le_of_ble_eq_true rfl), (Nat.le_of_ble_eq_true rfl)⟩ (Nat.le_of_ble_eq_true rfl) dX7_isInOrder_33) ⟨(Nat.le_of_ble_eq_true rfl), (Nat.le_of_ble_eq_true rfl)⟩ ?_
    exact k_xr (k_zret (b := ord (hT σ.1) (σ.2.2.1 pn)) dX7_isInOrder_36 rfl (Nat.le_of_ble_eq_true rfl) (Nat.le_of_ble_eq_true rfl) (⟨_, rfl, (by rw [xPort, if_pos hd5]), rfl, hC.cs, (k_fr.mono hr9 SC_SU)⟩))
  · have hd5 := of_decide_eq_false h5
    exact k_throw (si := 10) hts2 hth x_IO (by decide) rfl dX7_isInOrder_8 dX7_isInOrder_11 dX7_isInOrder_12 dX7_isInOrder_14 dX7_isInOrder_17 ⟨(Nat.le_of_ble_eq_true rfl), (Nat.le_of_ble_eq_true rfl), (Nat.le_of_ble_eq_true rfl), (Nat.le_of_ble_eq_true rfl)⟩ (Nat.le_of_ble_eq_true rfl) ⟨(Nat.le_of_ble_eq_true rfl), (Nat.le_of_ble_eq_true rfl)⟩ (⟨(by rw [xPort, if_neg hd5]), hC.cs, k_fr.refl⟩)
set_option maxHeartbeats 4000000 in
set_option maxRecDepth 100000 in
theorem c_X7_portWater (la : Launch) (κ : Kx) {L : List Nat} {f : Nat → wE} {tt td tb pl rl : Nat} {old : Bool} {σ : Sg} {p w : Int} {b : Bool}  (hC : CSF κ L f tt td tb pl rl old σ) (hts : la.stackTraces = false) (hs : SgOk σ) (hp : inI p) (hw : inI w) : k_MX la κ yX7_portWater cX7_portWater 6 (some .int) 7 1 6 [.ref tt, .int (iI p), .int (iI w), .int (iI (bI b))] L f (k_rn (fun v9 L' f' => xPortWater σ p w = none ∧ v9 = .int (iI (aPortWater (hT σ.1) (σ.2.2.1 p.toNat) w.toNat b)) ∧ CS κ L' f' tt (σ) ∧ k_fr SC L f L' f')) (fun E L' f' => xPortWater σ p w = some E ∧ CS κ L' f' tt σ ∧ k_fr SC L f L' f') := by
  refine k_headX RX7 [(0, .ref tt), (1, .int (iI p)), (2, .int (iI w)), (3, .int (iI (bI b)))] rfl (by decide) (Nat.le_of_ble_eq_true rfl) rfl (fun θ hθ hin hth => ?_)
  have hts2 : θ.2.1.stackTraces = false := by rw [hθ]; exact hts
  obtain ⟨ctt, hTd, hTx, hPs, hRs⟩ := id hC
  obtain ⟨pv, hv, ov, hLp, hPv, hPi⟩ := id hPs
  obtain ⟨md2, E2, cpl⟩ := hLp.cl
  obtain ⟨hs1, ⟨hs2, hs3⟩, hs4⟩ := id hs
  have hs5 := hs1.2.1
  have hs6 := hs4.1
  have hs7 := nW_le (hT σ.1)
  have hs8 := hs1.1
  refine k_aload_n 0 0 dX7_portWater_0 rfl rfl ?_
  refine k_iload_n 1 1 dX7_portWater_1 rfl rfl ?_
  refine k_useR (k_runV (c_X7_hasPort θ.2.1 κ (tt := tt) (z := p) hC hs hp) w_X7_143 ⟨q_459, q_12⟩ rfl rfl ctt rfl ⟨(Nat.le_of_ble_eq_true rfl), (Nat.le_of_ble_eq_true rfl)⟩ (Nat.le_of_ble_eq_true rfl) dX7_portWater_2) ⟨(Nat.le_of_ble_eq_true rfl), (Nat.le_of_ble_eq_true rfl)⟩ ?_
  refine k_ifb_ne 18 dX7_portWater_5 (by decide) (fun h5 => ?_) (fun h5 => ?_)
  · have hd5 := of_decide_eq_true h5
    refine k_aload_n 0 0 dX7_portWater_18 rfl rfl ?_
    refine k_useV (k_runV (c_X7_currentTable θ.2.1 κ (tt := tt) hC hs) w_X7_110 ⟨q_261, q_2⟩ rfl rfl ctt rfl ⟨(Nat.le_of_ble_eq_true rfl), (Nat.le_of_ble_eq_true rfl)⟩ (Nat.le_of_ble_eq_true rfl) dX7_portWater_19) ⟨(Nat.le_of_ble_eq_true rfl), (Nat.le_of_ble_eq_true rfl)⟩ (fun w L9 f9 hw => ?_)
    obtain ⟨rfl, eL9, hr9, hC9⟩ := hw
    replace eL9 := eL9.symm
    subst eL9
    replace hC := hC9
    clear hC9
    obtain ⟨ctt, hTd, hTx, hPs, hRs⟩ := id hC
    have hTb := hTx.2 rfl
    obtain ⟨hs9, wt9, wh9, wi9, ctb⟩ := hTb.cl
    refine k_astore [(4, .ref tb), (0, .ref tt), (1, .int (iI p)), (2, .int (iI w)), (3, .int (iI (bI b)))] dX7_portWater_22 (by decide) rfl ?_
    refine k_aload 0 dX7_portWater_24 rfl ?_
    refine k_iload_n 3 2 dX7_portWater_26 rfl rfl ?_
    refine k_useR (k_runV (c_X3_hasWater θ.2.1 κ (tb := tb) (z := w) hTb hw) w_X7_114 ⟨q_281, q_282⟩ rfl rfl ctb rfl ⟨(Nat.le_of_ble_eq_true rfl), (Nat.le_of_ble_eq_true rfl)⟩ (Nat.le_of_ble_eq_true rfl) dX7_portWater_27) ⟨(Nat.le_of_ble_eq_true rfl), (Nat.le_of_ble_eq_true rfl)⟩ ?_
    refine k_ifb_ne 43 dX7_portWater_30 (by decide) (fun h30 => ?_) (fun h30 => ?_)
    · have hd30 := of_decide_eq_true h30
      obtain ⟨pn, rfl⟩ : ∃ pn : Nat, p = (pn : Int) := ⟨p.toNat, by omega⟩
      obtain ⟨wn, rfl⟩ : ∃ wn : Nat, w = (wn : Int) := ⟨w.toNat, by omega⟩
      obtain ⟨pv, hv, ov, hLp, hPv, hPi⟩ := id hPs
      obtain ⟨md2, E2, cpl⟩ := hLp.cl
      have hPn := hPv pn (by omega)
      have hP : PortR L f9 (pv pn) (σ.2.2.1 pn) := ⟨hv pn, ov pn, hPn.1, hPn.2.1, hPn.2.2⟩
      have hnn := nW_le (hT σ.1)
      refine k_aload_n 1 0 dX7_portWater_43 rfl rfl ?_
      refine k_get 2 i_X7 q_114 ctt rfl (by decide) rfl dX7_portWater_44 ?_
      refine k_iload_n 2 1 dX7_portWater_47 rfl rfl ?_
      refine k_useR (k_runV (c_Jx4a65c_get_915e3 θ.2.1 κ (n := σ.2.1) (g := pv) (i := pn) (l := pl) hLp (by omega)) w_X7_82 ⟨q_215, q_216⟩ rfl rfl cpl rfl ⟨(Nat.le_of_ble_eq_true rfl), (Nat.le_of_ble_eq_true rfl)⟩ (Nat.le_of_ble_eq_true rfl) dX7_portWater_48) ⟨(Nat.le_of_ble_eq_true rfl), (Nat.le_of_ble_eq_true rfl)⟩ ?_
      refine k_castS q_367 hPn.1 rfl dX7_portWater_51 ?_
      refine k_astore [(5, .ref (pv pn)), (4, .ref tb), (0, .ref tt), (1, .int (iI (pn : Int))), (2, .int (iI (wn : Int))), (3, .int (iI (bI b)))] dX7_portWater_54 (by decide) rfl ?_
      refine k_iload_n 5 3 dX7_portWater_56 rfl rfl ?_
      refine k_ifb_eq 71 dX7_portWater_57 (by decide) (fun h57 => ?_) (fun h57 => ?_)
      · refine k_aload 0 dX7_portWater_71 rfl ?_
        refine k_aload 1 dX7_portWater_73 rfl ?_
        refine k_iload_n 4 2 dX7_portWater_75 rfl rfl ?_
        refine k_useR (k_runV (c_X1_heightOf θ.2.1 κ (h := (hT σ.1)) (q := (σ.2.2.1 pn)) (k := wn) (pt := (pv pn)) (tb := tb) hTb hP (by omega) (hT_bd hs1) (hs3 pn (by omega))) w_X7_176 ⟨q_495, q_496⟩ rfl rfl hPn.1 rfl ⟨(Nat.le_of_ble_eq_true rfl), (Nat.le_of_ble_eq_true rfl)⟩ (Nat.le_of_ble_eq_true rfl) dX7_portWater_76) ⟨(Nat.le_of_ble_eq_true rfl), (Nat.le_of_ble_eq_true rfl)⟩ ?_
        exact k_xr (k_iret dX7_portWater_79 rfl (Nat.le_of_ble_eq_true rfl) (Nat.le_of_ble_eq_true rfl) (⟨_, rfl, (by rw [xPortWater, if_pos hd5, if_pos hd30]), (by rw [h57]; rfl), hC.cs, (k_fr.mono hr9 SC_SU)⟩))
      · refine k_aload 0 dX7_portWater_60 rfl ?_
        refine k_aload 1 dX7_portWater_62 rfl ?_
        refine k_iload_n 4 2 dX7_portWater_64 rfl rfl ?_
        refine k_useR (k_runV (c_X1_timeOf θ.2.1 κ (h := (hT σ.1)) (q := (σ.2.2.1 pn)) (k := wn) (pt := (pv pn)) (tb := tb) hTb hP (by omega)) w_X7_173 ⟨q_483, q_484⟩ rfl rfl hPn.1 rfl ⟨(Nat.le_of_ble_eq_true rfl), (Nat.le_of_ble_eq_true rfl)⟩ (Nat.le_of_ble_eq_true rfl) dX7_portWater_65) ⟨(Nat.le_of_ble_eq_true rfl), (Nat.le_of_ble_eq_true rfl)⟩ ?_
        refine k_goto 79 dX7_portWater_68 (by decide) ?_
        exact k_xr (k_iret dX7_portWater_79 rfl (Nat.le_of_ble_eq_true rfl) (Nat.le_of_ble_eq_true rfl) (⟨_, rfl, (by rw [xPortWater, if_pos hd5, if_pos hd30]), (by rw [h57]; rfl), hC.cs, (k_fr.mono hr9 SC_SU)⟩))
    · have hd30 := of_decide_eq_false h30
      exact k_throw (si := 6) hts2 hth x_IO (by decide) rfl dX7_portWater_33 dX7_portWater_36 dX7_portWater_37 dX7_portWater_39 dX7_portWater_42 ⟨(Nat.le_of_ble_eq_true rfl), (Nat.le_of_ble_eq_true rfl), (Nat.le_of_ble_eq_true rfl), (Nat.le_of_ble_eq_true rfl)⟩ (Nat.le_of_ble_eq_true rfl) ⟨(Nat.le_of_ble_eq_true rfl), (Nat.le_of_ble_eq_true rfl)⟩ (⟨(by rw [xPortWater, if_pos hd5, if_neg hd30]), hC.cs, (k_fr.mono hr9 SC_SU)⟩)
  · have hd5 := of_decide_eq_false h5
    exact k_throw (si := 10) hts2 hth x_IO (by decide) rfl dX7_portWater_8 dX7_portWater_11 dX7_portWater_12 dX7_portWater_14 dX7_portWater_17 ⟨(Nat.le_of_ble_eq_true rfl), (Nat.le_of_ble_eq_true rfl), (Nat.le_of_ble_eq_true rfl), (Nat.le_of_ble_eq_true rfl)⟩ (Nat.le_of_ble_eq_true rfl) ⟨(Nat.le_of_ble_eq_true rfl), (Nat.le_of_ble_eq_true rfl)⟩ (⟨(by rw [xPortWater, if_neg hd5]), hC.cs, k_fr.refl⟩)
set_option maxHeartbeats 4000000 in
set_option maxRecDepth 100000 in
theorem c_X7_portHeight (la : Launch) (κ : Kx) {L : List Nat} {f : Nat → wE} {tt td tb pl rl : Nat} {old : Bool} {σ : Sg} {p t : Int}  (hC : CSF κ L f tt td tb pl rl old σ) (hts : la.stackTraces = false) (hs : SgOk σ) (hp : inI p) (ht : inI t) : k_MX la κ yX7_portHeight cX7_portHeight 6 (some .int) 7 1 6 [.ref tt, .int (iI p), .int (iI t)] L f (k_rn (fun v9 L' f' => xPortHeight σ p t = none ∧ v9 = .int (iI (aPortHeight σ p t)) ∧ CS κ L' f' tt (σ) ∧ k_fr SC L f L' f')) (fun E L' f' => xPortHeight σ p t = some E ∧ CS κ L' f' tt σ ∧ k_fr SC L f L' f') := by
  refine k_headX RX7 [(0, .ref tt), (1, .int (iI p)), (2, .int (iI t))] rfl (by decide) (Nat.le_of_ble_eq_true rfl) rfl (fun θ hθ hin hth => ?_)
  have hts2 : θ.2.1.stackTraces = false := by rw [hθ]; exact hts
  obtain ⟨ctt, hTd, hTx, hPs, hRs⟩ := id hC
  obtain ⟨pv, hv, ov, hLp, hPv, hPi⟩ := id hPs
  obtain ⟨md2, E2, cpl⟩ := hLp.cl
  obtain ⟨hs1, ⟨hs2, hs3⟩, hs4⟩ := id hs
  have hs5 := hs1.2.1
  have hs6 := hs4.1
  have hs7 := nW_le (hT σ.1)
  have hs8 := hs1.1
  refine k_aload_n 0 0 dX7_portHeight_0 rfl rfl ?_
  refine k_iload_n 1 1 dX7_portHeight_1 rfl rfl ?_
  refine k_useR (k_runV (c_X7_hasPort θ.2.1 κ (tt := tt) (z := p) hC hs hp) w_X7_143 ⟨q_459, q_12⟩ rfl rfl ctt rfl ⟨(Nat.le_of_ble_eq_true rfl), (Nat.le_of_ble_eq_true rfl)⟩ (Nat.le_of_ble_eq_true rfl) dX7_portHeight_2) ⟨(Nat.le_of_ble_eq_true rfl), (Nat.le_of_ble_eq_true rfl)⟩ ?_
  refine k_ifb_ne 18 dX7_portHeight_5 (by decide) (fun h5 => ?_) (fun h5 => ?_)
  · have hd5 := of_decide_eq_true h5
    refine k_iload_n 2 2 dX7_portHeight_18 rfl rfl ?_
    refine k_useR (k_runS (c_X7_isMinute θ.2.1 κ (z := t) ht) w_X7_95 q_133 rfl rfl ⟨(Nat.le_of_ble_eq_true rfl), (Nat.le_of_ble_eq_true rfl)⟩ (Nat.le_of_ble_eq_true rfl) dX7_portHeight_19) ⟨(Nat.le_of_ble_eq_true rfl), (Nat.le_of_ble_eq_true rfl)⟩ ?_
    refine k_ifb_ne 35 dX7_portHeight_22 (by decide) (fun h22 => ?_) (fun h22 => ?_)
    · have hd22 := of_decide_eq_true h22
      obtain ⟨pn, rfl⟩ : ∃ pn : Nat, p = (pn : Int) := ⟨p.toNat, by omega⟩
      obtain ⟨tn, rfl⟩ : ∃ tn : Nat, t = (tn : Int) := ⟨t.toNat, by omega⟩
      refine k_aload_n 0 0 dX7_portHeight_35 rfl rfl ?_
      refine k_useV (k_runV (c_X7_currentTable θ.2.1 κ (tt := tt) hC hs) w_X7_110 ⟨q_261, q_2⟩ rfl rfl ctt rfl ⟨(Nat.le_of_ble_eq_true rfl), (Nat.le_of_ble_eq_true rfl)⟩ (Nat.le_of_ble_eq_true rfl) dX7_portHeight_36) ⟨(Nat.le_of_ble_eq_true rfl), (Nat.le_of_ble_eq_true rfl)⟩ (fun w L9 f9 hw => ?_)
      obtain ⟨rfl, eL9, hr9, hC9⟩ := hw
      replace eL9 := eL9.symm
      subst eL9
      replace hC := hC9
      clear hC9
      obtain ⟨ctt, hTd, hTx, hPs, hRs⟩ := id hC
      have hTb := hTx.2 rfl
      obtain ⟨hs9, wt9, wh9, wi9, ctb⟩ := hTb.cl
      refine k_astore_n 3 [(3, .ref tb), (0, .ref tt), (1, .int (iI (pn : Int))), (2, .int (iI (tn : Int)))] dX7_portHeight_39 rfl (by decide) rfl ?_
      obtain ⟨pv, hv, ov, hLp, hPv, hPi⟩ := id hPs
      obtain ⟨md2, E2, cpl⟩ := hLp.cl
      have hPn := hPv pn (by omega)
      have hP : PortR L f9 (pv pn) (σ.2.2.1 pn) := ⟨hv pn, ov pn, hPn.1, hPn.2.1, hPn.2.2⟩
      have hnn := nW_le (hT σ.1)
      have hls := lat_spec (h := hT σ.1) (q := σ.2.2.1 pn) (t := (tn : Int)) (Nat.zero_le (nW (hT σ.1)))
      have hls1 := hls.2.1
      refine k_aload_n 1 0 dX7_portHeight_40 rfl rfl ?_
      refine k_get 2 i_X7 q_114 ctt rfl (by decide) rfl dX7_portHeight_41 ?_
      refine k_iload_n 2 1 dX7_portHeight_44 rfl rfl ?_
      refine k_useR (k_runV (c_Jx4a65c_get_915e3 θ.2.1 κ (n := σ.2.1) (g := pv) (i := pn) (l := pl) hLp (by omega)) w_X7_82 ⟨q_215, q_216⟩ rfl rfl cpl rfl ⟨(Nat.le_of_ble_eq_true rfl), (Nat.le_of_ble_eq_true rfl)⟩ (Nat.le_of_ble_eq_true rfl) dX7_portHeight_45) ⟨(Nat.le_of_ble_eq_true rfl), (Nat.le_of_ble_eq_true rfl)⟩ ?_
      refine k_castS q_367 hPn.1 rfl dX7_portHeight_48 ?_
      refine k_astore [(4, .ref (pv pn)), (3, .ref tb), (0, .ref tt), (1, .int (iI (pn : Int))), (2, .int (iI (tn : Int)))] dX7_portHeight_51 (by decide) rfl ?_
      refine k_aload 0 dX7_portHeight_53 rfl ?_
      refine k_aload_n 1 3 dX7_portHeight_55 rfl rfl ?_
      refine k_useR (k_runV (c_X1_isOrderly θ.2.1 κ (h := (hT σ.1)) (q := (σ.2.2.1 pn)) (pt := (pv pn)) (tb := tb) hTb hP (hs3 pn (by omega))) w_X7_169 ⟨q_479, q_480⟩ rfl rfl hPn.1 rfl ⟨(Nat.le_of_ble_eq_true rfl), (Nat.le_of_ble_eq_true rfl)⟩ (Nat.le_of_ble_eq_true rfl) dX7_portHeight_56) ⟨(Nat.le_of_ble_eq_true rfl), (Nat.le_of_ble_eq_true rfl)⟩ ?_
      refine k_ifb_ne 72 dX7_portHeight_59 (by decide) (fun h59 => ?_) (fun h59 => ?_)
      · refine k_aload 0 dX7_portHeight_72 rfl ?_
        refine k_aload_n 1 3 dX7_portHeight_74 rfl rfl ?_
        refine k_iconst dX7_portHeight_75 ?_
        refine k_iload_n 4 2 dX7_portHeight_76 rfl rfl ?_
        refine k_useR (k_runV (c_X1_latestWater θ.2.1 κ (w := 0) (h := (hT σ.1)) (q := (σ.2.2.1 pn)) (pt := (pv pn)) (tb := tb) (e := (-1)) (t := (tn : Int)) hTb hP (hs3 pn (by omega)) rfl (Nat.zero_le _) (inI_mk (by omega) (by omega))) w_X7_180 ⟨q_505, q_506⟩ rfl rfl hPn.1 rfl ⟨(Nat.le_of_ble_eq_true rfl), (Nat.le_of_ble_eq_true rfl)⟩ (Nat.le_of_ble_eq_true rfl) dX7_portHeight_77) ⟨(Nat.le_of_ble_eq_true rfl), (Nat.le_of_ble_eq_true rfl)⟩ ?_
        refine k_istore [(5, .int (iI (((lat (hT σ.1) (σ.2.2.1 pn) (tn : Int) 0 : Nat) : Int) - 1))), (4, .ref (pv pn)), (3, .ref tb), (0, .ref tt), (1, .int (iI (pn : Int))), (2, .int (iI (tn : Int)))] dX7_portHeight_80 (by decide) rfl ?_
        refine k_aload_n 2 3 dX7_portHeight_82 rfl rfl ?_
        refine k_iload 0 dX7_portHeight_83 rfl ?_
        refine k_useR (k_runV (c_X3_isBetweenWaters θ.2.1 κ (h := (hT σ.1)) (tb := tb) (z := ((lat (hT σ.1) (σ.2.2.1 pn) (tn : Int) 0 : Nat) : Int) - 1) hTb (inI_mk (by omega) (by omega))) w_X7_184 ⟨q_509, q_510⟩ rfl rfl ctb rfl ⟨(Nat.le_of_ble_eq_true rfl), (Nat.le_of_ble_eq_true rfl)⟩ (Nat.le_of_ble_eq_true rfl) dX7_portHeight_85) ⟨(Nat.le_of_ble_eq_true rfl), (Nat.le_of_ble_eq_true rfl)⟩ ?_
        refine k_ifb_ne 101 dX7_portHeight_88 (by decide) (fun h88 => ?_) (fun h88 => ?_)
        · have hd88 := of_decide_eq_true h88
          obtain ⟨wk, hwk⟩ : ∃ wk : Nat, lat (hT σ.1) (σ.2.2.1 pn) (tn : Int) 0 = wk + 1 := ⟨lat (hT σ.1) (σ.2.2.1 pn) (tn : Int) 0 - 1, by omega⟩
          have hl1 := hls.2.2.1 wk (Nat.zero_le _) (by omega)
          have hl2 : (tn : Int) < pT (hT σ.1) (σ.2.2.1 pn) (wk + 1) := Int.not_le.mp (fun q9 => hls.2.2.2 ⟨by omega, by rw [hwk]; exact q9⟩)
          refine k_aload 1 dX7_portHeight_101 rfl ?_
          refine k_aload_n 2 3 dX7_portHeight_103 rfl rfl ?_
          refine k_iload 0 dX7_portHeight_104 rfl ?_
          refine k_topi (wk : Int) (by omega) ?_
          refine k_iload_n 5 2 dX7_portHeight_106 rfl rfl ?_
          refine k_useR (k_runV (c_X1_heightBehind θ.2.1 κ (h := (hT σ.1)) (q := (σ.2.2.1 pn)) (k := wk) (pt := (pv pn)) (tb := tb) (t := (tn : Int)) hTb hP (hT_bd hs1) (hs3 pn (by omega)) (by omega) hl1 hl2) w_X7_189 ⟨q_514, q_515⟩ rfl rfl hPn.1 rfl ⟨(Nat.le_of_ble_eq_true rfl), (Nat.le_of_ble_eq_true rfl)⟩ (Nat.le_of_ble_eq_true rfl) dX7_portHeight_107) ⟨(Nat.le_of_ble_eq_true rfl), (Nat.le_of_ble_eq_true rfl)⟩ ?_
          exact k_xr (k_iret dX7_portHeight_110 rfl (Nat.le_of_ble_eq_true rfl) (Nat.le_of_ble_eq_true rfl) (⟨_, rfl, (by rw [xPortHeight, if_pos hd5, if_pos hd22, Int.toNat_natCast, if_pos h59, if_pos hd88]), (by show _ = Value.int (iI (btw (hT σ.1) (σ.2.2.1 pn) (lat (hT σ.1) (σ.2.2.1 pn) (tn : Int) 0) (tn : Int))); rw [hwk]), hC.cs, (k_fr.mono hr9 SC_SU)⟩))
        · have hd88 := of_decide_eq_false h88
          exact k_throw (si := 15) hts2 hth x_IS (by decide) rfl dX7_portHeight_91 dX7_portHeight_94 dX7_portHeight_95 dX7_portHeight_97 dX7_portHeight_100 ⟨(Nat.le_of_ble_eq_true rfl), (Nat.le_of_ble_eq_true rfl), (Nat.le_of_ble_eq_true rfl), (Nat.le_of_ble_eq_true rfl)⟩ (Nat.le_of_ble_eq_true rfl) ⟨(Nat.le_of_ble_eq_true rfl), (Nat.le_of_ble_eq_true rfl)⟩ (⟨(by rw [xPortHeight, if_pos hd5, if_pos hd22, Int.toNat_natCast, if_pos h59, if_neg hd88]), hC.cs, (k_fr.mono hr9 SC_SU)⟩)
      · exact k_throw (si := 14) hts2 hth x_IS (by decide) rfl dX7_portHeight_62 dX7_portHeight_65 dX7_portHeight_66 dX7_portHeight_68 dX7_portHeight_71 ⟨(Nat.le_of_ble_eq_true rfl), (Nat.le_of_ble_eq_true rfl), (Nat.le_of_ble_eq_true rfl), (Nat.le_of_ble_eq_true rfl)⟩ (Nat.le_of_ble_eq_true rfl) ⟨(Nat.le_of_ble_eq_true rfl), (Nat.le_of_ble_eq_true rfl)⟩ (⟨(by rw [xPortHeight, if_pos hd5, if_pos hd22, Int.toNat_natCast, if_neg (by rw [h59]; decide)]), hC.cs, (k_fr.mono hr9 SC_SU)⟩)
    · have hd22 := of_decide_eq_false h22
      exact k_throw (si := 4) hts2 hth x_IA (by decide) rfl dX7_portHeight_25 dX7_portHeight_28 dX7_portHeight_29 dX7_portHeight_31 dX7_portHeight_34 ⟨(Nat.le_of_ble_eq_true rfl), (Nat.le_of_ble_eq_true rfl), (Nat.le_of_ble_eq_true rfl), (Nat.le_of_ble_eq_true rfl)⟩ (Nat.le_of_ble_eq_true rfl) ⟨(Nat.le_of_ble_eq_true rfl), (Nat.le_of_ble_eq_true rfl)⟩ (⟨(by rw [xPortHeight, if_pos hd5, if_neg hd22]), hC.cs, k_fr.refl⟩)
  · have hd5 := of_decide_eq_false h5
    exact k_throw (si := 10) hts2 hth x_IO (by decide) rfl dX7_portHeight_8 dX7_portHeight_11 dX7_portHeight_12 dX7_portHeight_14 dX7_portHeight_17 ⟨(Nat.le_of_ble_eq_true rfl), (Nat.le_of_ble_eq_true rfl), (Nat.le_of_ble_eq_true rfl), (Nat.le_of_ble_eq_true rfl)⟩ (Nat.le_of_ble_eq_true rfl) ⟨(Nat.le_of_ble_eq_true rfl), (Nat.le_of_ble_eq_true rfl)⟩ (⟨(by rw [xPortHeight, if_neg hd5]), hC.cs, k_fr.refl⟩)
