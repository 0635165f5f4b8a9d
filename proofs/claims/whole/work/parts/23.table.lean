set_option maxHeartbeats 4000000 in
set_option maxRecDepth 100000 in
theorem c_X3_hasWater (la : Launch) (κ : Kx) {L : List Nat} {f : Nat → wE} {tb : Nat} {h : Nat → Int} {z : Int}  (hTb : TblR κ L f tb h) (hz : inI z) : k_M la κ yX3_hasWater cX3_hasWater 2 (some .boolean) 1 0 0 [.ref tb, .int (iI z)] L f (k_ro L f (.int (iI (bI (decide (0 ≤ z ∧ z < (nW h : Int))))))) := by
  refine k_head RX3 [(0, .ref tb), (1, .int (iI z))] rfl (by decide) (Nat.le_of_ble_eq_true rfl) rfl (fun θ hθ hin => ?_)
  have hnn := nW_le h
  obtain ⟨hs, wt, wh, wi, ctb⟩ := hTb.cl
  refine k_iload_n 1 1 dX3_hasWater_0 rfl rfl ?_
  refine k_if_lt 16 dX3_hasWater_1 (by decide) hz (fun h1 => ?_) (fun h1 => ?_)
  · refine k_iconst dX3_hasWater_16 ?_
    exact k_zret (b := false) dX3_hasWater_17 rfl (Nat.le_of_ble_eq_true rfl) (Nat.le_of_ble_eq_true rfl) (k_okb ((decide_eq_false (by omega)).symm))
  · refine k_iload_n 1 1 dX3_hasWater_4 rfl rfl ?_
    refine k_aload_n 0 0 dX3_hasWater_5 rfl rfl ?_
    refine k_get 4 i_X3 q_121 ctb rfl (by decide) rfl dX3_hasWater_6 ?_
    refine k_icmp_ge 16 dX3_hasWater_9 (by decide) hz (inI_mk (by omega) (by omega)) (fun h9 => ?_) (fun h9 => ?_)
    · refine k_iconst dX3_hasWater_16 ?_
      exact k_zret (b := false) dX3_hasWater_17 rfl (Nat.le_of_ble_eq_true rfl) (Nat.le_of_ble_eq_true rfl) (k_okb ((decide_eq_false (by omega)).symm))
    · refine k_iconst dX3_hasWater_12 ?_
      refine k_goto 17 dX3_hasWater_13 (by decide) ?_
      exact k_zret (b := true) dX3_hasWater_17 rfl (Nat.le_of_ble_eq_true rfl) (Nat.le_of_ble_eq_true rfl) (k_okb ((decide_eq_true (by omega)).symm))
set_option maxHeartbeats 4000000 in
set_option maxRecDepth 100000 in
theorem c_X3_isBetweenWaters (la : Launch) (κ : Kx) {L : List Nat} {f : Nat → wE} {tb : Nat} {h : Nat → Int} {z : Int}  (hTb : TblR κ L f tb h) (hz : inI z) : k_M la κ yX3_isBetweenWaters cX3_isBetweenWaters 2 (some .boolean) 1 0 0 [.ref tb, .int (iI z)] L f (k_ro L f (.int (iI (bI (decide (0 ≤ z ∧ z < (nW h : Int) - 1)))))) := by
  refine k_head RX3 [(0, .ref tb), (1, .int (iI z))] rfl (by decide) (Nat.le_of_ble_eq_true rfl) rfl (fun θ hθ hin => ?_)
  have hnn := nW_le h
  obtain ⟨hs, wt, wh, wi, ctb⟩ := hTb.cl
  refine k_iload_n 1 1 dX3_isBetweenWaters_0 rfl rfl ?_
  refine k_if_lt 18 dX3_isBetweenWaters_1 (by decide) hz (fun h1 => ?_) (fun h1 => ?_)
  · refine k_iconst dX3_isBetweenWaters_18 ?_
    exact k_zret (b := false) dX3_isBetweenWaters_19 rfl (Nat.le_of_ble_eq_true rfl) (Nat.le_of_ble_eq_true rfl) (k_okb ((decide_eq_false (by omega)).symm))
  · refine k_iload_n 1 1 dX3_isBetweenWaters_4 rfl rfl ?_
    refine k_aload_n 0 0 dX3_isBetweenWaters_5 rfl rfl ?_
    refine k_get 4 i_X3 q_121 ctb rfl (by decide) rfl dX3_isBetweenWaters_6 ?_
    refine k_iconst dX3_isBetweenWaters_9 ?_
    refine k_isub dX3_isBetweenWaters_10 ?_
    refine k_icmp_ge 18 dX3_isBetweenWaters_11 (by decide) hz (inI_mk (by omega) (by omega)) (fun h11 => ?_) (fun h11 => ?_)
    · refine k_iconst dX3_isBetweenWaters_18 ?_
      exact k_zret (b := false) dX3_isBetweenWaters_19 rfl (Nat.le_of_ble_eq_true rfl) (Nat.le_of_ble_eq_true rfl) (k_okb ((decide_eq_false (by omega)).symm))
    · refine k_iconst dX3_isBetweenWaters_14 ?_
      refine k_goto 19 dX3_isBetweenWaters_15 (by decide) ?_
      exact k_zret (b := true) dX3_isBetweenWaters_19 rfl (Nat.le_of_ble_eq_true rfl) (Nat.le_of_ble_eq_true rfl) (k_okb ((decide_eq_true (by omega)).symm))
set_option maxHeartbeats 4000000 in
set_option maxRecDepth 100000 in
theorem c_X3_heightAt (la : Launch) (κ : Kx) {L : List Nat} {f : Nat → wE} {tb : Nat} {h : Nat → Int} {t : Nat}  (hTb : TblR κ L f tb h) (ht : t < 4320) : k_M la κ yX3_heightAt cX3_heightAt 2 (some .int) 3 0 0 [.ref tb, .int (iI (t : Int))] L f (k_ro L f (.int (iI (h t)))) := by
  refine k_head RX3 [(0, .ref tb), (1, .int (iI (t : Int)))] rfl (by decide) (Nat.le_of_ble_eq_true rfl) rfl (fun θ hθ hin => ?_)
  have hnn := nW_le h
  obtain ⟨hs, wt, wh, wi, HH, WT, WH, WI, ⟨ctb, chs, cwt, cwh, cwi⟩, hHH, hWW⟩ := id hTb
  refine k_iload_n 1 1 dX3_heightAt_0 rfl rfl ?_
  refine k_useR (k_runSN (c_X7_isMinute θ.2.1 κ (z := (t : Int)) (inI_mk (by omega) (by omega))) w_X3_42 q_292 rfl rfl ⟨(Nat.le_of_ble_eq_true rfl), (Nat.le_of_ble_eq_true rfl)⟩ (Nat.le_of_ble_eq_true rfl) dX3_heightAt_1) ⟨(Nat.le_of_ble_eq_true rfl), (Nat.le_of_ble_eq_true rfl)⟩ ?_
  refine k_ifb_eq 16 dX3_heightAt_4 (by decide) (fun h4 => ?_) (fun h4 => ?_)
  · exact (of_decide_eq_false h4 ⟨by omega, by omega⟩).elim
  · refine k_aload_n 0 0 dX3_heightAt_7 rfl rfl ?_
    refine k_get 0 i_X3 q_117 ctb rfl (by decide) rfl dX3_heightAt_8 ?_
    refine k_iload_n 1 1 dX3_heightAt_11 rfl rfl ?_
    refine k_iald t chs rfl (by omega) (by omega) dX3_heightAt_12 ?_
    refine k_goto 17 dX3_heightAt_13 (by decide) ?_
    exact k_iret dX3_heightAt_17 rfl (Nat.le_of_ble_eq_true rfl) (Nat.le_of_ble_eq_true rfl) (k_oki (hHH t ht))
set_option maxHeartbeats 4000000 in
set_option maxRecDepth 100000 in
theorem c_X3_timeOf (la : Launch) (κ : Kx) {L : List Nat} {f : Nat → wE} {tb : Nat} {h : Nat → Int} {k : Nat}  (hTb : TblR κ L f tb h) (hk : k < nW h) : k_M la κ yX3_timeOf cX3_timeOf 2 (some .int) 2 0 0 [.ref tb, .int (iI (k : Int))] L f (k_ro L f (.int (iI (tm h k : Int)))) := by
  refine k_head RX3 [(0, .ref tb), (1, .int (iI (k : Int)))] rfl (by decide) (Nat.le_of_ble_eq_true rfl) rfl (fun θ hθ hin => ?_)
  have hnn := nW_le h
  obtain ⟨hs, wt, wh, wi, HH, WT, WH, WI, ⟨ctb, chs, cwt, cwh, cwi⟩, hHH, hWW⟩ := id hTb
  refine k_aload_n 0 0 dX3_timeOf_0 rfl rfl ?_
  refine k_iload_n 1 1 dX3_timeOf_1 rfl rfl ?_
  refine k_useR (k_runV (c_X3_hasWater θ.2.1 κ (tb := tb) (z := (k : Int)) hTb (inI_mk (by omega) (by omega))) w_X3_46 ⟨q_244, q_245⟩ rfl rfl ctb rfl ⟨(Nat.le_of_ble_eq_true rfl), (Nat.le_of_ble_eq_true rfl)⟩ (Nat.le_of_ble_eq_true rfl) dX3_timeOf_2) ⟨(Nat.le_of_ble_eq_true rfl), (Nat.le_of_ble_eq_true rfl)⟩ ?_
  refine k_ifb_eq 17 dX3_timeOf_5 (by decide) (fun h5 => ?_) (fun h5 => ?_)
  · exact (of_decide_eq_false h5 ⟨by omega, by omega⟩).elim
  · refine k_aload_n 0 0 dX3_timeOf_8 rfl rfl ?_
    refine k_get 1 i_X3 q_118 ctb rfl (by decide) rfl dX3_timeOf_9 ?_
    refine k_iload_n 1 1 dX3_timeOf_12 rfl rfl ?_
    refine k_iald k cwt rfl (by omega) (by omega) dX3_timeOf_13 ?_
    refine k_goto 18 dX3_timeOf_14 (by decide) ?_
    exact k_iret dX3_timeOf_18 rfl (Nat.le_of_ble_eq_true rfl) (Nat.le_of_ble_eq_true rfl) (k_oki ((hWW k hk).1))
set_option maxHeartbeats 4000000 in
set_option maxRecDepth 100000 in
theorem c_X3_heightOf (la : Launch) (κ : Kx) {L : List Nat} {f : Nat → wE} {tb : Nat} {h : Nat → Int} {k : Nat}  (hTb : TblR κ L f tb h) (hk : k < nW h) : k_M la κ yX3_heightOf cX3_heightOf 2 (some .int) 2 0 0 [.ref tb, .int (iI (k : Int))] L f (k_ro L f (.int (iI (h (tm h k))))) := by
  refine k_head RX3 [(0, .ref tb), (1, .int (iI (k : Int)))] rfl (by decide) (Nat.le_of_ble_eq_true rfl) rfl (fun θ hθ hin => ?_)
  have hnn := nW_le h
  obtain ⟨hs, wt, wh, wi, HH, WT, WH, WI, ⟨ctb, chs, cwt, cwh, cwi⟩, hHH, hWW⟩ := id hTb
  refine k_aload_n 0 0 dX3_heightOf_0 rfl rfl ?_
  refine k_iload_n 1 1 dX3_heightOf_1 rfl rfl ?_
  refine k_useR (k_runV (c_X3_hasWater θ.2.1 κ (tb := tb) (z := (k : Int)) hTb (inI_mk (by omega) (by omega))) w_X3_46 ⟨q_244, q_245⟩ rfl rfl ctb rfl ⟨(Nat.le_of_ble_eq_true rfl), (Nat.le_of_ble_eq_true rfl)⟩ (Nat.le_of_ble_eq_true rfl) dX3_heightOf_2) ⟨(Nat.le_of_ble_eq_true rfl), (Nat.le_of_ble_eq_true rfl)⟩ ?_
  refine k_ifb_eq 17 dX3_heightOf_5 (by decide) (fun h5 => ?_) (fun h5 => ?_)
  · exact (of_decide_eq_false h5 ⟨by omega, by omega⟩).elim
  · refine k_aload_n 0 0 dX3_heightOf_8 rfl rfl ?_
    refine k_get 2 i_X3 q_119 ctb rfl (by decide) rfl dX3_heightOf_9 ?_
    refine k_iload_n 1 1 dX3_heightOf_12 rfl rfl ?_
    refine k_iald k cwh rfl (by omega) (by omega) dX3_heightOf_13 ?_
    refine k_goto 18 dX3_heightOf_14 (by decide) ?_
    exact k_iret dX3_heightOf_18 rfl (Nat.le_of_ble_eq_true rfl) (Nat.le_of_ble_eq_true rfl) (k_oki ((hWW k hk).2.1))
set_option maxHeartbeats 4000000 in
set_option maxRecDepth 100000 in
theorem c_X3_isHigh (la : Launch) (κ : Kx) {L : List Nat} {f : Nat → wE} {tb : Nat} {h : Nat → Int} {k : Nat}  (hTb : TblR κ L f tb h) (hk : k < nW h) : k_M la κ yX3_isHigh cX3_isHigh 2 (some .boolean) 2 0 0 [.ref tb, .int (iI (k : Int))] L f (k_ro L f (.int (iI (bI (hi h k))))) := by
  refine k_head RX3 [(0, .ref tb), (1, .int (iI (k : Int)))] rfl (by decide) (Nat.le_of_ble_eq_true rfl) rfl (fun θ hθ hin => ?_)
  have hnn := nW_le h
  obtain ⟨hs, wt, wh, wi, HH, WT, WH, WI, ⟨ctb, chs, cwt, cwh, cwi⟩, hHH, hWW⟩ := id hTb
  refine k_aload_n 0 0 dX3_isHigh_0 rfl rfl ?_
  refine k_iload_n 1 1 dX3_isHigh_1 rfl rfl ?_
  refine k_useR (k_runV (c_X3_hasWater θ.2.1 κ (tb := tb) (z := (k : Int)) hTb (inI_mk (by omega) (by omega))) w_X3_46 ⟨q_244, q_245⟩ rfl rfl ctb rfl ⟨(Nat.le_of_ble_eq_true rfl), (Nat.le_of_ble_eq_true rfl)⟩ (Nat.le_of_ble_eq_true rfl) dX3_isHigh_2) ⟨(Nat.le_of_ble_eq_true rfl), (Nat.le_of_ble_eq_true rfl)⟩ ?_
  refine k_ifb_eq 21 dX3_isHigh_5 (by decide) (fun h5 => ?_) (fun h5 => ?_)
  · exact (of_decide_eq_false h5 ⟨by omega, by omega⟩).elim
  · refine k_aload_n 0 0 dX3_isHigh_8 rfl rfl ?_
    refine k_get 3 i_X3 q_120 ctb rfl (by decide) rfl dX3_isHigh_9 ?_
    refine k_iload_n 1 1 dX3_isHigh_12 rfl rfl ?_
    refine k_zald k cwi rfl (by omega) (by omega) dX3_isHigh_13 ?_
    refine k_ifb_eq 21 dX3_isHigh_14 (by decide) (fun h14 => ?_) (fun h14 => ?_)
    · refine k_iconst dX3_isHigh_21 ?_
      exact k_zret (b := false) dX3_isHigh_22 rfl (Nat.le_of_ble_eq_true rfl) (Nat.le_of_ble_eq_true rfl) (k_okb (h14.symm.trans (hWW k hk).2.2))
    · refine k_iconst dX3_isHigh_17 ?_
      refine k_goto 22 dX3_isHigh_18 (by decide) ?_
      exact k_zret (b := true) dX3_isHigh_22 rfl (Nat.le_of_ble_eq_true rfl) (Nat.le_of_ble_eq_true rfl) (k_okb (h14.symm.trans (hWW k hk).2.2))
set_option maxHeartbeats 4000000 in
set_option maxRecDepth 100000 in
theorem c_X3_greatestHeight (la : Launch) (κ : Kx) {L : List Nat} {f : Nat → wE} {tb : Nat} {h : Nat → Int}   (hTb : TblR κ L f tb h) (hb : ∀ t, -50000 ≤ h t ∧ h t ≤ 50000) : k_M la κ yX3_greatestHeight cX3_greatestHeight 6 (some .int) 4 0 0 [.ref tb] L f (k_ro L f (.int (iI (mxh h 4320)))) := by
  refine k_head RX3 [(0, .ref tb)] rfl (by decide) (Nat.le_of_ble_eq_true rfl) rfl (fun θ hθ hin => ?_)
  have hnn := nW_le h
  obtain ⟨hs, wt, wh, wi, HH, WT, WH, WI, ⟨ctb, chs, cwt, cwh, cwi⟩, hHH, hWW⟩ := id hTb
  refine k_aload_n 0 0 dX3_greatestHeight_0 rfl rfl ?_
  refine k_iconst dX3_greatestHeight_1 ?_
  refine k_topi ((0 : Nat) : Int) rfl ?_
  refine k_useR (k_runV (c_X3_heightAt θ.2.1 κ (t := 0) (tb := tb) hTb (by omega)) w_X3_63 ⟨q_288, q_289⟩ rfl rfl ctb rfl ⟨(Nat.le_of_ble_eq_true rfl), (Nat.le_of_ble_eq_true rfl)⟩ (Nat.le_of_ble_eq_true rfl) dX3_greatestHeight_2) ⟨(Nat.le_of_ble_eq_true rfl), (Nat.le_of_ble_eq_true rfl)⟩ ?_
  refine k_istore_n 1 [(1, .int (iI (h 0))), (0, .ref tb)] dX3_greatestHeight_5 rfl (by decide) rfl ?_
  refine k_aload_n 1 0 dX3_greatestHeight_6 rfl rfl ?_
  refine k_get 0 i_X3 q_117 ctb rfl (by decide) rfl dX3_greatestHeight_7 ?_
  refine k_astore_n 2 [(2, .ref hs), (1, .int (iI (h 0))), (0, .ref tb)] dX3_greatestHeight_10 rfl (by decide) rfl ?_
  refine k_aload_n 0 2 dX3_greatestHeight_11 rfl rfl ?_
  refine k_alen (t0 := 0) chs rfl dX3_greatestHeight_12 ?_
  refine k_istore_n 3 [(3, .int (iI 4320)), (2, .ref hs), (1, .int (iI (h 0))), (0, .ref tb)] dX3_greatestHeight_13 rfl (by decide) rfl ?_
  refine k_iconst dX3_greatestHeight_14 ?_
  refine k_istore [(4, .int (iI 0)), (3, .int (iI 4320)), (2, .ref hs), (1, .int (iI (h 0))), (0, .ref tb)] dX3_greatestHeight_15 (by decide) rfl ?_
  have lp17 : ∀ (fuel : Nat) (j : Nat), (j ≤ 4320) → 4320 - j < fuel → k_G θ κ cX3_greatestHeight 6 (some .int) RX3 (k_rm 4 0 0) (k_MQ θ κ (k_ro L f (.int (iI (mxh h 4320)))) 0 0) L f 0 0 17 [(0, .ref tb), (1, .int (iI (mxh h j))), (2, .ref hs), (3, .int (iI 4320)), (4, .int (iI (j : Int)))] [] := by
    intro fuel
    induction fuel with
    | zero =>
      intro j hj hfu
      exact absurd hfu (Nat.not_lt_zero _)
    | succ fuel ih17 =>
      intro j hj hfu
      have hm := mxh_bd hb j
      have hh := hb j
      refine k_iload 4 dX3_greatestHeight_17 rfl ?_
      refine k_iload_n 3 3 dX3_greatestHeight_19 rfl rfl ?_
      refine k_icmp_ge 42 dX3_greatestHeight_20 (by decide) (inI_mk (by omega) (by omega)) (inI_mk (by omega) (by omega)) (fun h20 => ?_) (fun h20 => ?_)
      · have e43 : j = 4320 := by omega
        subst e43
        refine k_iload_n 1 1 dX3_greatestHeight_42 rfl rfl ?_
        exact k_iret dX3_greatestHeight_43 rfl (Nat.le_of_ble_eq_true rfl) (Nat.le_of_ble_eq_true rfl) (k_oki rfl)
      · refine k_aload_n 2 2 dX3_greatestHeight_23 rfl rfl ?_
        refine k_iload 4 dX3_greatestHeight_24 rfl ?_
        refine k_iald j chs rfl (by omega) (by omega) dX3_greatestHeight_26 ?_
        refine k_topi (h j) (hHH j (by omega)) ?_
        refine k_istore [(5, .int (iI (h j))), (0, .ref tb), (1, .int (iI (mxh h j))), (2, .ref hs), (3, .int (iI 4320)), (4, .int (iI (j : Int)))] dX3_greatestHeight_27 (by decide) rfl ?_
        refine k_iload_n 2 1 dX3_greatestHeight_29 rfl rfl ?_
        refine k_iload 0 dX3_greatestHeight_30 rfl ?_
        refine k_max q_297 q_298 q_52 q_299 (inI_mk (by omega) (by omega)) (inI_mk (by omega) (by omega)) (Nat.le_of_ble_eq_true rfl) (Nat.le_of_ble_eq_true rfl) ⟨(Nat.le_of_ble_eq_true rfl), (Nat.le_of_ble_eq_true rfl)⟩ dX3_greatestHeight_32 ?_
        refine k_istore_n 1 [(1, .int (iI (max (mxh h j) (h j)))), (5, .int (iI (h j))), (0, .ref tb), (2, .ref hs), (3, .int (iI 4320)), (4, .int (iI (j : Int)))] dX3_greatestHeight_35 rfl (by decide) rfl ?_
        refine k_iinc 5 [(4, .int (iI ((j : Int) + 1))), (1, .int (iI (max (mxh h j) (h j)))), (5, .int (iI (h j))), (0, .ref tb), (2, .ref hs), (3, .int (iI 4320))] dX3_greatestHeight_36 rfl (by decide) rfl ?_
        refine k_goto 17 dX3_greatestHeight_39 (by decide) ?_
        refine k_perm [3, 1, 4, 5, 0] [(0, .ref tb), (1, .int (iI (max (mxh h j) (h j)))), (2, .ref hs), (3, .int (iI 4320)), (4, .int (iI ((j : Int) + 1)))] rfl ?_
        exact ih17 (j + 1) (by omega) (by omega)
  refine k_perm [4, 3, 2, 1, 0] [(0, .ref tb), (1, .int (iI (h 0))), (2, .ref hs), (3, .int (iI 4320)), (4, .int (iI 0))] rfl ?_
  exact lp17 _ 0 (Nat.zero_le _) (Nat.lt_succ_self _)
set_option maxHeartbeats 4000000 in
set_option maxRecDepth 100000 in
theorem c_X3_leastHeight (la : Launch) (κ : Kx) {L : List Nat} {f : Nat → wE} {tb : Nat} {h : Nat → Int}   (hTb : TblR κ L f tb h) (hb : ∀ t, -50000 ≤ h t ∧ h t ≤ 50000) : k_M la κ yX3_leastHeight cX3_leastHeight 6 (some .int) 4 0 0 [.ref tb] L f (k_ro L f (.int (iI (mnh h 4320)))) := by
  refine k_head RX3 [(0, .ref tb)] rfl (by decide) (Nat.le_of_ble_eq_true rfl) rfl (fun θ hθ hin => ?_)
  have hnn := nW_le h
  obtain ⟨hs, wt, wh, wi, HH, WT, WH, WI, ⟨ctb, chs, cwt, cwh, cwi⟩, hHH, hWW⟩ := id hTb
  refine k_aload_n 0 0 dX3_leastHeight_0 rfl rfl ?_
  refine k_iconst dX3_leastHeight_1 ?_
  refine k_topi ((0 : Nat) : Int) rfl ?_
  refine k_useR (k_runV (c_X3_heightAt θ.2.1 κ (t := 0) (tb := tb) hTb (by omega)) w_X3_63 ⟨q_288, q_289⟩ rfl rfl ctb rfl ⟨(Nat.le_of_ble_eq_true rfl), (Nat.le_of_ble_eq_true rfl)⟩ (Nat.le_of_ble_eq_true rfl) dX3_leastHeight_2) ⟨(Nat.le_of_ble_eq_true rfl), (Nat.le_of_ble_eq_true rfl)⟩ ?_
  refine k_istore_n 1 [(1, .int (iI (h 0))), (0, .ref tb)] dX3_leastHeight_5 rfl (by decide) rfl ?_
  refine k_aload_n 1 0 dX3_leastHeight_6 rfl rfl ?_
  refine k_get 0 i_X3 q_117 ctb rfl (by decide) rfl dX3_leastHeight_7 ?_
  refine k_astore_n 2 [(2, .ref hs), (1, .int (iI (h 0))), (0, .ref tb)] dX3_leastHeight_10 rfl (by decide) rfl ?_
  refine k_aload_n 0 2 dX3_leastHeight_11 rfl rfl ?_
  refine k_alen (t0 := 0) chs rfl dX3_leastHeight_12 ?_
  refine k_istore_n 3 [(3, .int (iI 4320)), (2, .ref hs), (1, .int (iI (h 0))), (0, .ref tb)] dX3_leastHeight_13 rfl (by decide) rfl ?_
  refine k_iconst dX3_leastHeight_14 ?_
  refine k_istore [(4, .int (iI 0)), (3, .int (iI 4320)), (2, .ref hs), (1, .int (iI (h 0))), (0, .ref tb)] dX3_leastHeight_15 (by decide) rfl ?_
  have lp17 : ∀ (fuel : Nat) (j : Nat), (j ≤ 4320) → 4320 - j < fuel → k_G θ κ cX3_leastHeight 6 (some .int) RX3 (k_rm 4 0 0) (k_MQ θ κ (k_ro L f (.int (iI (mnh h 4320)))) 0 0) L f 0 0 17 [(0, .ref tb), (1, .int (iI (mnh h j))), (2, .ref hs), (3, .int (iI 4320)), (4, .int (iI (j : Int)))] [] := by
    intro fuel
    induction fuel with
    | zero =>
      intro j hj hfu
      exact absurd hfu (Nat.not_lt_zero _)
    | succ fuel ih17 =>
      intro j hj hfu
      have hm := mnh_bd hb j
      have hh := hb j
      refine k_iload 4 dX3_leastHeight_17 rfl ?_
      refine k_iload_n 3 3 dX3_leastHeight_19 rfl rfl ?_
      refine k_icmp_ge 42 dX3_leastHeight_20 (by decide) (inI_mk (by omega) (by omega)) (inI_mk (by omega) (by omega)) (fun h20 => ?_) (fun h20 => ?_)
      · have e43 : j = 4320 := by omega
        subst e43
        refine k_iload_n 1 1 dX3_leastHeight_42 rfl rfl ?_
        exact k_iret dX3_leastHeight_43 rfl (Nat.le_of_ble_eq_true rfl) (Nat.le_of_ble_eq_true rfl) (k_oki rfl)
      · refine k_aload_n 2 2 dX3_leastHeight_23 rfl rfl ?_
        refine k_iload 4 dX3_leastHeight_24 rfl ?_
        refine k_iald j chs rfl (by omega) (by omega) dX3_leastHeight_26 ?_
        refine k_topi (h j) (hHH j (by omega)) ?_
        refine k_istore [(5, .int (iI (h j))), (0, .ref tb), (1, .int (iI (mnh h j))), (2, .ref hs), (3, .int (iI 4320)), (4, .int (iI (j : Int)))] dX3_leastHeight_27 (by decide) rfl ?_
        refine k_iload_n 2 1 dX3_leastHeight_29 rfl rfl ?_
        refine k_iload 0 dX3_leastHeight_30 rfl ?_
        refine k_min q_304 q_305 q_52 q_306 (inI_mk (by omega) (by omega)) (inI_mk (by omega) (by omega)) (Nat.le_of_ble_eq_true rfl) (Nat.le_of_ble_eq_true rfl) ⟨(Nat.le_of_ble_eq_true rfl), (Nat.le_of_ble_eq_true rfl)⟩ dX3_leastHeight_32 ?_
        refine k_istore_n 1 [(1, .int (iI (min (mnh h j) (h j)))), (5, .int (iI (h j))), (0, .ref tb), (2, .ref hs), (3, .int (iI 4320)), (4, .int (iI (j : Int)))] dX3_leastHeight_35 rfl (by decide) rfl ?_
        refine k_iinc 5 [(4, .int (iI ((j : Int) + 1))), (1, .int (iI (min (mnh h j) (h j)))), (5, .int (iI (h j))), (0, .ref tb), (2, .ref hs), (3, .int (iI 4320))] dX3_leastHeight_36 rfl (by decide) rfl ?_
        refine k_goto 17 dX3_leastHeight_39 (by decide) ?_
        refine k_perm [3, 1, 4, 5, 0] [(0, .ref tb), (1, .int (iI (min (mnh h j) (h j)))), (2, .ref hs), (3, .int (iI 4320)), (4, .int (iI ((j : Int) + 1)))] rfl ?_
        exact ih17 (j + 1) (by omega) (by omega)
  refine k_perm [4, 3, 2, 1, 0] [(0, .ref tb), (1, .int (iI (h 0))), (2, .ref hs), (3, .int (iI 4320)), (4, .int (iI 0))] rfl ?_
  exact lp17 _ 0 (Nat.zero_le _) (Nat.lt_succ_self _)
set_option maxHeartbeats 4000000 in
set_option maxRecDepth 100000 in
theorem c_X3_meanOfWaters (la : Launch) (κ : Kx) {L : List Nat} {f : Nat → wE} {tb : Nat} {h : Nat → Int} {b : Bool}  (hTb : TblR κ L f tb h) (hb : ∀ t, -50000 ≤ h t ∧ h t ≤ 50000) : k_M la κ yX3_meanOfWaters cX3_meanOfWaters 6 (some .int) 3 0 0 [.ref tb, .int (iI (bI b))] L f (k_ro L f (.int (iI (meanW h b)))) := by
  refine k_head RX3 [(0, .ref tb), (1, .int (iI (bI b)))] rfl (by decide) (Nat.le_of_ble_eq_true rfl) rfl (fun θ hθ hin => ?_)
  have hnn := nW_le h
  obtain ⟨hs, wt, wh, wi, ctb⟩ := hTb.cl
  refine k_lconst 0 dX3_meanOfWaters_0 (by decide) ?_
  refine k_lstore_n 2 [(2, .long (lI 0)), (0, .ref tb), (1, .int (iI (bI b)))] dX3_meanOfWaters_1 rfl (by decide) rfl ?_
  refine k_iconst dX3_meanOfWaters_2 ?_
  refine k_istore [(4, .int (iI 0)), (2, .long (lI 0)), (0, .ref tb), (1, .int (iI (bI b)))] dX3_meanOfWaters_3 (by decide) rfl ?_
  refine k_iconst dX3_meanOfWaters_5 ?_
  refine k_istore [(5, .int (iI 0)), (4, .int (iI 0)), (2, .long (lI 0)), (0, .ref tb), (1, .int (iI (bI b)))] dX3_meanOfWaters_6 (by decide) rfl ?_
  have lp8 : ∀ (fuel : Nat) (k : Nat) (sm cn : Int), (k ≤ nW h) → (sm = sumW h b k) → (cn = cntW h b k) → nW h - k < fuel → k_G θ κ cX3_meanOfWaters 6 (some .int) RX3 (k_rm 3 0 0) (k_MQ θ κ (k_ro L f (.int (iI (meanW h b)))) 0 0) L f 0 0 8 [(0, .ref tb), (1, .int (iI (bI b))), (2, .long (lI sm)), (4, .int (iI cn)), (5, .int (iI (k : Int)))] [] := by
    intro fuel
    induction fuel with
    | zero =>
      intro k sm cn hk hsm hcn hfu
      exact absurd hfu (Nat.not_lt_zero _)
    | succ fuel ih8 =>
      intro k sm cn hk hsm hcn hfu
      have hs1 := sumW_bd hb b k
      have hc1 := cntW_bd (h := h) b k
      have hh := hb (tm h k)
      refine k_iload 4 dX3_meanOfWaters_8 rfl ?_
      refine k_aload_n 0 0 dX3_meanOfWaters_10 rfl rfl ?_
      refine k_get 4 i_X3 q_121 ctb rfl (by decide) rfl dX3_meanOfWaters_11 ?_
      refine k_icmp_ge 46 dX3_meanOfWaters_14 (by decide) (inI_mk (by omega) (by omega)) (inI_mk (by omega) (by omega)) (fun h14 => ?_) (fun h14 => ?_)
      · have e46 : k = nW h := by omega
        subst e46
        refine k_lload_n 2 2 dX3_meanOfWaters_46 rfl rfl ?_
        refine k_iload 3 dX3_meanOfWaters_47 rfl ?_
        refine k_i2l dX3_meanOfWaters_49 (inI_mk (by omega) (by omega)) ?_
        refine k_useR (k_runSN (c_X7_quotient θ.2.1 κ (a := sm) (b := cn) (inL_mk (by omega) (by omega)) (inL_mk (by omega) (by omega))) w_X3_79 q_314 rfl rfl ⟨(Nat.le_of_ble_eq_true rfl), (Nat.le_of_ble_eq_true rfl)⟩ (Nat.le_of_ble_eq_true rfl) dX3_meanOfWaters_50) ⟨(Nat.le_of_ble_eq_true rfl), (Nat.le_of_ble_eq_true rfl)⟩ ?_
        refine k_l2i dX3_meanOfWaters_53 ?_
        exact k_iret dX3_meanOfWaters_54 rfl (Nat.le_of_ble_eq_true rfl) (Nat.le_of_ble_eq_true rfl) (k_oki (by rw [meanW, ← hsm, ← hcn]))
      · refine k_aload_n 0 0 dX3_meanOfWaters_17 rfl rfl ?_
        refine k_iload 4 dX3_meanOfWaters_18 rfl ?_
        refine k_useR (k_runV (c_X3_isHigh θ.2.1 κ (tb := tb) (k := k) hTb (by omega)) w_X3_73 ⟨q_252, q_253⟩ rfl rfl ctb rfl ⟨(Nat.le_of_ble_eq_true rfl), (Nat.le_of_ble_eq_true rfl)⟩ (Nat.le_of_ble_eq_true rfl) dX3_meanOfWaters_20) ⟨(Nat.le_of_ble_eq_true rfl), (Nat.le_of_ble_eq_true rfl)⟩ ?_
        refine k_iload_n 1 1 dX3_meanOfWaters_23 rfl rfl ?_
        refine k_icmp_ne 40 dX3_meanOfWaters_24 (by decide) (bI_in _) (bI_in _) (fun h24 => ?_) (fun h24 => ?_)
        · refine k_iinc 4 [(5, .int (iI ((k : Int) + 1))), (0, .ref tb), (1, .int (iI (bI b))), (2, .long (lI sm)), (4, .int (iI cn))] dX3_meanOfWaters_40 rfl (by decide) rfl ?_
          refine k_goto 8 dX3_meanOfWaters_43 (by decide) ?_
          refine k_perm [1, 2, 3, 4, 0] [(0, .ref tb), (1, .int (iI (bI b))), (2, .long (lI sm)), (4, .int (iI cn)), (5, .int (iI ((k : Int) + 1)))] rfl ?_
          exact ih8 (k + 1) sm cn (by omega) (by rw [sumW, if_neg (fun q => h24 (congrArg bI q)), hsm]) (by rw [cntW, if_neg (fun q => h24 (congrArg bI q)), hcn]) (by omega)
        · refine k_lload_n 2 2 dX3_meanOfWaters_27 rfl rfl ?_
          refine k_aload_n 0 0 dX3_meanOfWaters_28 rfl rfl ?_
          refine k_iload 4 dX3_meanOfWaters_29 rfl ?_
          refine k_useR (k_runV (c_X3_heightOf θ.2.1 κ (tb := tb) (k := k) hTb (by omega)) w_X3_76 ⟨q_248, q_249⟩ rfl rfl ctb rfl ⟨(Nat.le_of_ble_eq_true rfl), (Nat.le_of_ble_eq_true rfl)⟩ (Nat.le_of_ble_eq_true rfl) dX3_meanOfWaters_31) ⟨(Nat.le_of_ble_eq_true rfl), (Nat.le_of_ble_eq_true rfl)⟩ ?_
          refine k_i2l dX3_meanOfWaters_34 (inI_mk (by omega) (by omega)) ?_
          refine k_ladd dX3_meanOfWaters_35 ?_
          refine k_lstore_n 2 [(2, .long (lI (sm + h (tm h k)))), (0, .ref tb), (1, .int (iI (bI b))), (4, .int (iI cn)), (5, .int (iI (k : Int)))] dX3_meanOfWaters_36 rfl (by decide) rfl ?_
          refine k_iinc 3 [(4, .int (iI (cn + 1))), (2, .long (lI (sm + h (tm h k)))), (0, .ref tb), (1, .int (iI (bI b))), (5, .int (iI (k : Int)))] dX3_meanOfWaters_37 rfl (by decide) rfl ?_
          refine k_iinc 4 [(5, .int (iI ((k : Int) + 1))), (4, .int (iI (cn + 1))), (2, .long (lI (sm + h (tm h k)))), (0, .ref tb), (1, .int (iI (bI b)))] dX3_meanOfWaters_40 rfl (by decide) rfl ?_
          refine k_goto 8 dX3_meanOfWaters_43 (by decide) ?_
          refine k_perm [3, 4, 2, 1, 0] [(0, .ref tb), (1, .int (iI (bI b))), (2, .long (lI (sm + h (tm h k)))), (4, .int (iI (cn + 1))), (5, .int (iI ((k : Int) + 1)))] rfl ?_
          exact ih8 (k + 1) (sm + h (tm h k)) (cn + 1) (by omega) (by rw [sumW, if_pos (bI_inj h24), hsm]) (by rw [cntW, if_pos (bI_inj h24), hcn]) (by omega)
  refine k_perm [3, 4, 2, 1, 0] [(0, .ref tb), (1, .int (iI (bI b))), (2, .long (lI 0)), (4, .int (iI 0)), (5, .int (iI 0))] rfl ?_
  exact lp8 _ 0 0 0 (Nat.zero_le _) rfl rfl (Nat.lt_succ_self _)
set_option maxHeartbeats 4000000 in
set_option maxRecDepth 100000 in
theorem c_X3_greatestDifference (la : Launch) (κ : Kx) {L : List Nat} {f : Nat → wE} {tb : Nat} {h : Nat → Int}   (hTb : TblR κ L f tb h) (hb : ∀ t, -50000 ≤ h t ∧ h t ≤ 50000) : k_M la κ yX3_greatestDifference cX3_greatestDifference 4 (some .int) 3 0 0 [.ref tb] L f (k_ro L f (.int (iI (difW h (nW h - 1))))) := by
  refine k_head RX3 [(0, .ref tb)] rfl (by decide) (Nat.le_of_ble_eq_true rfl) rfl (fun θ hθ hin => ?_)
  have hnn := nW_le h
  obtain ⟨hs, wt, wh, wi, ctb⟩ := hTb.cl
  refine k_iconst dX3_greatestDifference_0 ?_
  refine k_istore_n 1 [(1, .int (iI 0)), (0, .ref tb)] dX3_greatestDifference_1 rfl (by decide) rfl ?_
  refine k_iconst dX3_greatestDifference_2 ?_
  refine k_istore_n 2 [(2, .int (iI 1)), (1, .int (iI 0)), (0, .ref tb)] dX3_greatestDifference_3 rfl (by decide) rfl ?_
  have lp4 : ∀ (fuel : Nat) (j : Nat) (gd : Int), (j + 1 ≤ nW h ∨ j = 0) → (gd = difW h j) → nW h - j < fuel → k_G θ κ cX3_greatestDifference 4 (some .int) RX3 (k_rm 3 0 0) (k_MQ θ κ (k_ro L f (.int (iI (difW h (nW h - 1))))) 0 0) L f 0 0 4 [(0, .ref tb), (1, .int (iI gd)), (2, .int (iI ((j + 1 : Nat) : Int)))] [] := by
    intro fuel
    induction fuel with
    | zero =>
      intro j gd hj hgd hfu
      exact absurd hfu (Nat.not_lt_zero _)
    | succ fuel ih4 =>
      intro j gd hj hgd hfu
      have hd1 := difW_bd hb j
      have hh := hb (tm h j)
      have hh1 := hb (tm h (j + 1))
      refine k_iload_n 2 2 dX3_greatestDifference_4 rfl rfl ?_
      refine k_aload_n 0 0 dX3_greatestDifference_5 rfl rfl ?_
      refine k_get 4 i_X3 q_121 ctb rfl (by decide) rfl dX3_greatestDifference_6 ?_
      refine k_icmp_ge 41 dX3_greatestDifference_9 (by decide) (inI_mk (by omega) (by omega)) (inI_mk (by omega) (by omega)) (fun h9 => ?_) (fun h9 => ?_)
      · refine k_iload_n 1 1 dX3_greatestDifference_41 rfl rfl ?_
        exact k_iret dX3_greatestDifference_42 rfl (Nat.le_of_ble_eq_true rfl) (Nat.le_of_ble_eq_true rfl) (k_oki (by rw [hgd, show nW h - 1 = j by omega]))
      · refine k_aload_n 0 0 dX3_greatestDifference_12 rfl rfl ?_
        refine k_iload_n 2 2 dX3_greatestDifference_13 rfl rfl ?_
        refine k_useR (k_runV (c_X3_heightOf θ.2.1 κ (k := (j + 1)) (tb := tb) hTb (by omega)) w_X3_76 ⟨q_248, q_249⟩ rfl rfl ctb rfl ⟨(Nat.le_of_ble_eq_true rfl), (Nat.le_of_ble_eq_true rfl)⟩ (Nat.le_of_ble_eq_true rfl) dX3_greatestDifference_14) ⟨(Nat.le_of_ble_eq_true rfl), (Nat.le_of_ble_eq_true rfl)⟩ ?_
        refine k_aload_n 0 0 dX3_greatestDifference_17 rfl rfl ?_
        refine k_iload_n 2 2 dX3_greatestDifference_18 rfl rfl ?_
        refine k_iconst dX3_greatestDifference_19 ?_
        refine k_isub dX3_greatestDifference_20 ?_
        refine k_topi (j : Int) (by omega) ?_
        refine k_useR (k_runV (c_X3_heightOf θ.2.1 κ (k := j) (tb := tb) hTb (by omega)) w_X3_76 ⟨q_248, q_249⟩ rfl rfl ctb rfl ⟨(Nat.le_of_ble_eq_true rfl), (Nat.le_of_ble_eq_true rfl)⟩ (Nat.le_of_ble_eq_true rfl) dX3_greatestDifference_21) ⟨(Nat.le_of_ble_eq_true rfl), (Nat.le_of_ble_eq_true rfl)⟩ ?_
        refine k_isub dX3_greatestDifference_24 ?_
        refine k_abs q_320 q_321 q_52 q_322 (inI_mk (by omega) (by omega)) (Nat.le_of_ble_eq_true rfl) (Nat.le_of_ble_eq_true rfl) ⟨(Nat.le_of_ble_eq_true rfl), (Nat.le_of_ble_eq_true rfl)⟩ dX3_greatestDifference_25 ?_
        refine k_istore_n 3 [(3, .int (iI ((Int.natAbs (h (tm h (j + 1)) - h (tm h j)) : Nat) : Int))), (0, .ref tb), (1, .int (iI gd)), (2, .int (iI ((j + 1 : Nat) : Int)))] dX3_greatestDifference_28 rfl (by decide) rfl ?_
        refine k_iload_n 2 1 dX3_greatestDifference_29 rfl rfl ?_
        refine k_iload_n 0 3 dX3_greatestDifference_30 rfl rfl ?_
        refine k_max q_297 q_298 q_52 q_299 (inI_mk (by omega) (by omega)) (inI_mk (by omega) (by omega)) (Nat.le_of_ble_eq_true rfl) (Nat.le_of_ble_eq_true rfl) ⟨(Nat.le_of_ble_eq_true rfl), (Nat.le_of_ble_eq_true rfl)⟩ dX3_greatestDifference_31 ?_
        refine k_istore_n 1 [(1, .int (iI (max gd ((Int.natAbs (h (tm h (j + 1)) - h (tm h j)) : Nat) : Int)))), (3, .int (iI ((Int.natAbs (h (tm h (j + 1)) - h (tm h j)) : Nat) : Int))), (0, .ref tb), (2, .int (iI ((j + 1 : Nat) : Int)))] dX3_greatestDifference_34 rfl (by decide) rfl ?_
        refine k_iinc 3 [(2, .int (iI (((j + 1 : Nat) : Int) + 1))), (1, .int (iI (max gd ((Int.natAbs (h (tm h (j + 1)) - h (tm h j)) : Nat) : Int)))), (3, .int (iI ((Int.natAbs (h (tm h (j + 1)) - h (tm h j)) : Nat) : Int))), (0, .ref tb)] dX3_greatestDifference_35 rfl (by decide) rfl ?_
        refine k_goto 4 dX3_greatestDifference_38 (by decide) ?_
        refine k_perm [3, 1, 0] [(0, .ref tb), (1, .int (iI (max gd ((Int.natAbs (h (tm h (j + 1)) - h (tm h j)) : Nat) : Int)))), (2, .int (iI (((j + 1 : Nat) : Int) + 1)))] rfl ?_
        exact ih4 (j + 1) (max gd ((Int.natAbs (h (tm h (j + 1)) - h (tm h j)) : Nat) : Int)) (Or.inl (by omega)) (by rw [difW, hgd]) (by omega)
  refine k_perm [2, 1, 0] [(0, .ref tb), (1, .int (iI 0)), (2, .int (iI 1))] rfl ?_
  exact lp4 _ 0 0 (Or.inr rfl) rfl (Nat.lt_succ_self _)
set_option maxHeartbeats 4000000 in
set_option maxRecDepth 100000 in
theorem c_X3_datumOf (la : Launch) (κ : Kx) {L : List Nat} {f : Nat → wE} {tb : Nat} {h : Nat → Int} {what : Int}  (hTb : TblR κ L f tb h) (hb : ∀ t, -50000 ≤ h t ∧ h t ≤ 50000) (hwh : 0 ≤ what ∧ what ≤ 4) : k_M la κ yX3_datumOf cX3_datumOf 2 (some .int) 5 0 0 [.ref tb, .int (iI what)] L f (k_ro L f (.int (iI (dat h what)))) := by
  refine k_head RX3 [(0, .ref tb), (1, .int (iI what))] rfl (by decide) (Nat.le_of_ble_eq_true rfl) rfl (fun θ hθ hin => ?_)
  have hnn := nW_le h
  obtain ⟨hs, wt, wh, wi, ctb⟩ := hTb.cl
  refine k_iload_n 1 1 dX3_datumOf_0 rfl rfl ?_
  rcases (by omega : what = 0 ∨ what = 1 ∨ what = 2 ∨ what = 3 ∨ (what < 0 ∨ 3 < what)) with h1 | h1 | h1 | h1 | h1
  · refine k_swIn 0 32 dX3_datumOf_1 (inI_mk (by omega) (by omega)) h1 (by decide) (by decide) rfl (by decide) ?_
    refine k_aload_n 0 0 dX3_datumOf_32 rfl rfl ?_
    refine k_useR (k_runV (c_X3_greatestHeight θ.2.1 κ (tb := tb) hTb hb) w_X3_49 ⟨q_285, q_6⟩ rfl rfl ctb rfl ⟨(Nat.le_of_ble_eq_true rfl), (Nat.le_of_ble_eq_true rfl)⟩ (Nat.le_of_ble_eq_true rfl) dX3_datumOf_33) ⟨(Nat.le_of_ble_eq_true rfl), (Nat.le_of_ble_eq_true rfl)⟩ ?_
    exact k_iret dX3_datumOf_36 rfl (Nat.le_of_ble_eq_true rfl) (Nat.le_of_ble_eq_true rfl) (k_oki (by rw [h1, dat, if_pos rfl]))
  · refine k_swIn 1 37 dX3_datumOf_1 (inI_mk (by omega) (by omega)) h1 (by decide) (by decide) rfl (by decide) ?_
    refine k_aload_n 0 0 dX3_datumOf_37 rfl rfl ?_
    refine k_useR (k_runV (c_X3_leastHeight θ.2.1 κ (tb := tb) hTb hb) w_X3_53 ⟨q_302, q_7⟩ rfl rfl ctb rfl ⟨(Nat.le_of_ble_eq_true rfl), (Nat.le_of_ble_eq_true rfl)⟩ (Nat.le_of_ble_eq_true rfl) dX3_datumOf_38) ⟨(Nat.le_of_ble_eq_true rfl), (Nat.le_of_ble_eq_true rfl)⟩ ?_
    exact k_iret dX3_datumOf_41 rfl (Nat.le_of_ble_eq_true rfl) (Nat.le_of_ble_eq_true rfl) (k_oki (by rw [h1, dat, if_neg (by decide), if_pos rfl]))
  · refine k_swIn 2 42 dX3_datumOf_1 (inI_mk (by omega) (by omega)) h1 (by decide) (by decide) rfl (by decide) ?_
    refine k_aload_n 0 0 dX3_datumOf_42 rfl rfl ?_
    refine k_iconst dX3_datumOf_43 ?_
    refine k_useR (k_runV (c_X3_meanOfWaters θ.2.1 κ (b := true) (tb := tb) hTb hb) w_X3_56 ⟨q_309, q_8⟩ rfl rfl ctb rfl ⟨(Nat.le_of_ble_eq_true rfl), (Nat.le_of_ble_eq_true rfl)⟩ (Nat.le_of_ble_eq_true rfl) dX3_datumOf_44) ⟨(Nat.le_of_ble_eq_true rfl), (Nat.le_of_ble_eq_true rfl)⟩ ?_
    exact k_iret dX3_datumOf_47 rfl (Nat.le_of_ble_eq_true rfl) (Nat.le_of_ble_eq_true rfl) (k_oki (by rw [h1, dat, if_neg (by decide), if_neg (by decide), if_pos rfl]))
  · refine k_swIn 3 48 dX3_datumOf_1 (inI_mk (by omega) (by omega)) h1 (by decide) (by decide) rfl (by decide) ?_
    refine k_aload_n 0 0 dX3_datumOf_48 rfl rfl ?_
    refine k_iconst dX3_datumOf_49 ?_
    refine k_useR (k_runV (c_X3_meanOfWaters θ.2.1 κ (b := false) (tb := tb) hTb hb) w_X3_56 ⟨q_309, q_8⟩ rfl rfl ctb rfl ⟨(Nat.le_of_ble_eq_true rfl), (Nat.le_of_ble_eq_true rfl)⟩ (Nat.le_of_ble_eq_true rfl) dX3_datumOf_50) ⟨(Nat.le_of_ble_eq_true rfl), (Nat.le_of_ble_eq_true rfl)⟩ ?_
    exact k_iret dX3_datumOf_53 rfl (Nat.le_of_ble_eq_true rfl) (Nat.le_of_ble_eq_true rfl) (k_oki (by rw [h1, dat, if_neg (by decide), if_neg (by decide), if_neg (by decide), if_pos rfl]))
  · refine k_swOut 54 dX3_datumOf_1 (inI_mk (by omega) (by omega)) h1 (by decide) ?_
    refine k_aload_n 0 0 dX3_datumOf_54 rfl rfl ?_
    refine k_useR (k_runV (c_X3_greatestDifference θ.2.1 κ (tb := tb) hTb hb) w_X3_60 ⟨q_318, q_9⟩ rfl rfl ctb rfl ⟨(Nat.le_of_ble_eq_true rfl), (Nat.le_of_ble_eq_true rfl)⟩ (Nat.le_of_ble_eq_true rfl) dX3_datumOf_55) ⟨(Nat.le_of_ble_eq_true rfl), (Nat.le_of_ble_eq_true rfl)⟩ ?_
    exact k_iret dX3_datumOf_58 rfl (Nat.le_of_ble_eq_true rfl) (Nat.le_of_ble_eq_true rfl) (k_oki (by rw [dat, if_neg (by omega), if_neg (by omega), if_neg (by omega), if_neg (by omega)]))
set_option maxHeartbeats 4000000 in
set_option maxRecDepth 100000 in
theorem c_X3_noteWater (la : Launch) (κ : Kx) {L : List Nat} {f : Nat → wE} {tb hs wt wh wi : Nat} {HH WT WH : Nat → Int} {WI : Nat → Bool} {n : Nat} {t v : Int} {r : Bool} (ctb : Cl L f tb (3, .inr (4, [.ref hs, .ref wt, .ref wh, .ref wi, .int (iI (n : Int))]))) (chs : Cl L f hs (7, .inl (κ.2.2.1 0, 4320, .inl (fun u9 => iI (HH u9))))) (cwt : Cl L f wt (8, .inl (κ.2.2.1 0, 4320, .inl (fun u9 => iI (WT u9))))) (cwh : Cl L f wh (9, .inl (κ.2.2.1 0, 4320, .inl (fun u9 => iI (WH u9))))) (cwi : Cl L f wi (10, .inl (κ.2.2.1 2, 4320, .inl (fun u9 => iI (bI (WI u9))))))  (hn : n < 4320) : k_M la κ yX3_noteWater cX3_noteWater 4 none 1 0 0 [.ref tb, .int (iI t), .int (iI v), .int (iI (bI r))] L f (k_ru (fun L' f' => L' = L ∧ k_fr ST L f L f' ∧ TblA κ L' f' tb hs wt wh wi ((n + 1 : Nat) : Int) HH (va_up WT n t) (va_up WH n v) (va_up WI n r))) := by
  refine k_head RX3 [(0, .ref tb), (1, .int (iI t)), (2, .int (iI v)), (3, .int (iI (bI r)))] rfl (by decide) (Nat.le_of_ble_eq_true rfl) rfl (fun θ hθ hin => ?_)
  refine k_aload_n 0 0 dX3_noteWater_0 rfl rfl ?_
  refine k_get 4 i_X3 q_121 ctb rfl (by decide) rfl dX3_noteWater_1 ?_
  refine k_sipush dX3_noteWater_4 (by decide) ?_
  refine k_icmp_ge 50 dX3_noteWater_7 (by decide) (inI_mk (by omega) (by omega)) (inI_mk (by omega) (by omega)) (fun h7 => ?_) (fun h7 => ?_)
  · omega
  · refine k_aload_n 0 0 dX3_noteWater_10 rfl rfl ?_
    refine k_get 1 i_X3 q_118 ctb rfl (by decide) rfl dX3_noteWater_11 ?_
    refine k_aload_n 0 0 dX3_noteWater_14 rfl rfl ?_
    refine k_get 4 i_X3 q_121 ctb rfl (by decide) rfl dX3_noteWater_15 ?_
    refine k_iload_n 1 1 dX3_noteWater_18 rfl rfl ?_
    refine k_iast n cwt rfl (by omega) (by omega) dX3_noteWater_19 (fun f1 hf1 hc1 => ?_)
    have hr1 := k_fr.put hf1 cwt
    replace ctb := ctb.fr hr1 rfl
    replace chs := chs.fr hr1 rfl
    replace cwh := cwh.fr hr1 rfl
    replace cwi := cwi.fr hr1 rfl
    replace cwt : Cl L f1 wt (8, .inl (κ.2.2.1 0, 4320, .inl (fun u9 => iI ((va_up WT n t) u9)))) := hc1
    refine k_aload_n 0 0 dX3_noteWater_20 rfl rfl ?_
    refine k_get 2 i_X3 q_119 ctb rfl (by decide) rfl dX3_noteWater_21 ?_
    refine k_aload_n 0 0 dX3_noteWater_24 rfl rfl ?_
    refine k_get 4 i_X3 q_121 ctb rfl (by decide) rfl dX3_noteWater_25 ?_
    refine k_iload_n 2 2 dX3_noteWater_28 rfl rfl ?_
    refine k_iast n cwh rfl (by omega) (by omega) dX3_noteWater_29 (fun f2 hf2 hc2 => ?_)
    have hr2 := k_fr.put hf2 cwh
    replace ctb := ctb.fr hr2 rfl
    replace chs := chs.fr hr2 rfl
    replace cwt := cwt.fr hr2 rfl
    replace cwi := cwi.fr hr2 rfl
    replace cwh : Cl L f2 wh (9, .inl (κ.2.2.1 0, 4320, .inl (fun u9 => iI ((va_up WH n v) u9)))) := hc2
    refine k_aload_n 0 0 dX3_noteWater_30 rfl rfl ?_
    refine k_get 3 i_X3 q_120 ctb rfl (by decide) rfl dX3_noteWater_31 ?_
    refine k_aload_n 0 0 dX3_noteWater_34 rfl rfl ?_
    refine k_get 4 i_X3 q_121 ctb rfl (by decide) rfl dX3_noteWater_35 ?_
    refine k_iload_n 3 3 dX3_noteWater_38 rfl rfl ?_
    refine k_zast n cwi rfl (by omega) (by omega) dX3_noteWater_39 (fun f3 hf3 hc3 => ?_)
    have hr3 := k_fr.put hf3 cwi
    replace ctb := ctb.fr hr3 rfl
    replace chs := chs.fr hr3 rfl
    replace cwt := cwt.fr hr3 rfl
    replace cwh := cwh.fr hr3 rfl
    replace cwi : Cl L f3 wi (10, .inl (κ.2.2.1 2, 4320, .inl (fun u9 => iI (bI ((va_up WI n r) u9))))) := hc3
    refine k_aload_n 0 0 dX3_noteWater_40 rfl rfl ?_
    refine k_dup dX3_noteWater_41 rfl ?_
    refine k_get 4 i_X3 q_121 ctb rfl (by decide) rfl dX3_noteWater_42 ?_
    refine k_iconst dX3_noteWater_45 ?_
    refine k_iadd dX3_noteWater_46 ?_
    refine k_put 4 [.ref hs, .ref wt, .ref wh, .ref wi, .int (iI ((n : Int) + 1))] i_X3 tyX3_ok nmX3 q_121 ctb rfl (by decide) rfl rfl rfl rfl (Nat.le_of_ble_eq_true rfl) rfl dX3_noteWater_47 (fun f4 hf4 hc4 => ?_)
    have hr4 := k_fr.put hf4 ctb
    replace chs := chs.fr hr4 rfl
    replace cwt := cwt.fr hr4 rfl
    replace cwh := cwh.fr hr4 rfl
    replace cwi := cwi.fr hr4 rfl
    replace ctb : Cl L f4 tb (3, .inr (4, [.ref hs, .ref wt, .ref wh, .ref wi, .int (iI ((n : Int) + 1))])) := hc4
    exact k_vret dX3_noteWater_50 rfl (Nat.le_of_ble_eq_true rfl) (Nat.le_of_ble_eq_true rfl) (⟨rfl, rfl, (k_fr.trans (k_fr.trans (k_fr.trans (k_fr.mono hr1 ST_8) hr2 idf ST_9) hr3 idf ST_10) hr4 idf ST_3), ctb, chs, cwt, cwh, cwi⟩)
set_option maxHeartbeats 4000000 in
set_option maxRecDepth 100000 in
theorem c_X3_findWaters (la : Launch) (κ : Kx) {L : List Nat} {f : Nat → wE} {tb hs wt wh wi : Nat} {HH WT WH : Nat → Int} {WI : Nat → Bool} {h : Nat → Int} {n0 : Int} (ctb : Cl L f tb (3, .inr (4, [.ref hs, .ref wt, .ref wh, .ref wi, .int (iI n0)]))) (chs : Cl L f hs (7, .inl (κ.2.2.1 0, 4320, .inl (fun u9 => iI (HH u9))))) (cwt : Cl L f wt (8, .inl (κ.2.2.1 0, 4320, .inl (fun u9 => iI (WT u9))))) (cwh : Cl L f wh (9, .inl (κ.2.2.1 0, 4320, .inl (fun u9 => iI (WH u9))))) (cwi : Cl L f wi (10, .inl (κ.2.2.1 2, 4320, .inl (fun u9 => iI (bI (WI u9))))))  (hHH : ∀ t, t < 4320 → HH t = h t) (hb : ∀ t, -50000 ≤ h t ∧ h t ≤ 50000) : k_M la κ yX3_findWaters cX3_findWaters 5 none 2 0 0 [.ref tb] L f (k_ru (fun L' f' => L' = L ∧ k_fr ST L f L f' ∧ TblR κ L' f' tb h)) := by
  refine k_head RX3 [(0, .ref tb)] rfl (by decide) (Nat.le_of_ble_eq_true rfl) rfl (fun θ hθ hin => ?_)
  have hHb : ∀ t, t < 4320 → inI (HH t) := fun t ht => by
    have e := hHH t ht
    have e1 := hb t
    exact inI_mk (by omega) (by omega)
  refine k_aload_n 0 0 dX3_findWaters_0 rfl rfl ?_
  refine k_iconst dX3_findWaters_1 ?_
  refine k_put 4 [.ref hs, .ref wt, .ref wh, .ref wi, .int (iI 0)] i_X3 tyX3_ok nmX3 q_121 ctb rfl (by decide) rfl rfl rfl rfl (Nat.le_of_ble_eq_true rfl) rfl dX3_findWaters_2 (fun f1 hf1 hc1 => ?_)
  have hr1 := k_fr.put hf1 ctb
  replace chs := chs.fr hr1 rfl
  replace cwt := cwt.fr hr1 rfl
  replace cwh := cwh.fr hr1 rfl
  replace cwi := cwi.fr hr1 rfl
  replace ctb : Cl L f1 tb (3, .inr (4, [.ref hs, .ref wt, .ref wh, .ref wi, .int (iI 0)])) := hc1
  refine k_iconst dX3_findWaters_5 ?_
  refine k_istore_n 1 [(1, .int (iI 0)), (0, .ref tb)] dX3_findWaters_6 rfl (by decide) rfl ?_
  refine k_iconst dX3_findWaters_7 ?_
  refine k_istore_n 2 [(2, .int (iI 0)), (1, .int (iI 0)), (0, .ref tb)] dX3_findWaters_8 rfl (by decide) rfl ?_
  refine k_iconst dX3_findWaters_9 ?_
  refine k_istore_n 3 [(3, .int (iI 1)), (2, .int (iI 0)), (1, .int (iI 0)), (0, .ref tb)] dX3_findWaters_10 rfl (by decide) rfl ?_
  have lp11 : ∀ (fuel : Nat) (f9 : Nat → wE) (i c n : Nat) (r : Bool) (WT9 WH9 : Nat → Int) (WI9 : Nat → Bool), (1 ≤ i ∧ i ≤ 4320) → (FW h i c n r WT9 WH9 WI9) → (k_fr ST L f L f9) → (Cl L f9 tb (3, .inr (4, [.ref hs, .ref wt, .ref wh, .ref wi, .int (iI (n : Int))]))) → (Cl L f9 hs (7, .inl (κ.2.2.1 0, 4320, .inl (fun u9 => iI (HH u9))))) → (Cl L f9 wt (8, .inl (κ.2.2.1 0, 4320, .inl (fun u9 => iI (WT9 u9))))) → (Cl L f9 wh (9, .inl (κ.2.2.1 0, 4320, .inl (fun u9 => iI (WH9 u9))))) → (Cl L f9 wi (10, .inl (κ.2.2.1 2, 4320, .inl (fun u9 => iI (bI (WI9 u9)))))) → 4320 - i < fuel → k_G θ κ cX3_findWaters 5 none RX3 (k_rm 2 0 0) (k_MQ θ κ (k_ru (fun L' f' => L' = L ∧ k_fr ST L f L f' ∧ TblR κ L' f' tb h)) 0 0) L f9 0 0 11 [(0, .ref tb), (1, .int (iI (c : Int))), (2, .int (iI (bI r))), (3, .int (iI (i : Int)))] [] := by
    intro fuel
    induction fuel with
    | zero =>
      intro f9 i c n r WT9 WH9 WI9 hi1 hF hfr ctb chs cwt cwh cwi hfu
      exact absurd hfu (Nat.not_lt_zero _)
    | succ fuel ih11 =>
      intro f9 i c n r WT9 WH9 WI9 hi1 hF hfr ctb chs cwt cwh cwi hfu
      have hci := hF.1
      have hnc : n ≤ c := by rw [hF.2.2.2.1]; exact wc_le h c
      refine k_iload_n 3 3 dX3_findWaters_11 rfl rfl ?_
      refine k_aload_n 0 0 dX3_findWaters_12 rfl rfl ?_
      refine k_get 0 i_X3 q_117 ctb rfl (by decide) rfl dX3_findWaters_13 ?_
      refine k_alen (t0 := 0) chs rfl dX3_findWaters_16 ?_
      refine k_icmp_ge 99 dX3_findWaters_17 (by decide) (inI_mk (by omega) (by omega)) (inI_mk (by omega) (by omega)) (fun h17 => ?_) (fun h17 => ?_)
      · have e99 : i = 4320 := by omega
        subst e99
        obtain ⟨en, hW2⟩ := hF.fin
        subst en
        exact k_vret dX3_findWaters_99 rfl (Nat.le_of_ble_eq_true rfl) (Nat.le_of_ble_eq_true rfl) (⟨rfl, rfl, hfr, hs, wt, wh, wi, HH, WT9, WH9, WI9, ⟨ctb, chs, cwt, cwh, cwi⟩, hHH, hW2⟩)
      · refine k_aload_n 0 0 dX3_findWaters_20 rfl rfl ?_
        refine k_get 0 i_X3 q_117 ctb rfl (by decide) rfl dX3_findWaters_21 ?_
        refine k_iload_n 3 3 dX3_findWaters_24 rfl rfl ?_
        refine k_iald i chs rfl (by omega) (by omega) dX3_findWaters_25 ?_
        refine k_aload_n 0 0 dX3_findWaters_26 rfl rfl ?_
        refine k_get 0 i_X3 q_117 ctb rfl (by decide) rfl dX3_findWaters_27 ?_
        refine k_iload_n 3 3 dX3_findWaters_30 rfl rfl ?_
        refine k_iconst dX3_findWaters_31 ?_
        refine k_isub dX3_findWaters_32 ?_
        refine k_iald (i - 1) chs (by omega) (by omega) (by omega) dX3_findWaters_33 ?_
        refine k_icmp_ne 40 dX3_findWaters_34 (by decide) (hHb i (by omega)) (hHb (i - 1) (by omega)) (fun h34 => ?_) (fun h34 => ?_)
        · rw [hHH i (by omega), hHH (i - 1) (by omega)] at h34
          refine k_aload_n 0 0 dX3_findWaters_40 rfl rfl ?_
          refine k_get 0 i_X3 q_117 ctb rfl (by decide) rfl dX3_findWaters_41 ?_
          refine k_iload_n 3 3 dX3_findWaters_44 rfl rfl ?_
          refine k_iald i chs rfl (by omega) (by omega) dX3_findWaters_45 ?_
          refine k_aload_n 0 0 dX3_findWaters_46 rfl rfl ?_
          refine k_get 0 i_X3 q_117 ctb rfl (by decide) rfl dX3_findWaters_47 ?_
          refine k_iload_n 3 3 dX3_findWaters_50 rfl rfl ?_
          refine k_iconst dX3_findWaters_51 ?_
          refine k_isub dX3_findWaters_52 ?_
          refine k_iald (i - 1) chs (by omega) (by omega) (by omega) dX3_findWaters_53 ?_
          refine k_icmp_le 61 dX3_findWaters_54 (by decide) (hHb i (by omega)) (hHb (i - 1) (by omega)) (fun h54 => ?_) (fun h54 => ?_)
          · rw [hHH i (by omega), hHH (i - 1) (by omega)] at h54
            refine k_iconst dX3_findWaters_61 ?_
            refine k_istore [(4, .int (iI 0)), (0, .ref tb), (1, .int (iI (c : Int))), (2, .int (iI (bI r))), (3, .int (iI (i : Int)))] dX3_findWaters_62 (by decide) rfl ?_
            refine k_iload_n 2 1 dX3_findWaters_64 rfl rfl ?_
            refine k_if_le 88 dX3_findWaters_65 (by decide) (inI_mk (by omega) (by omega)) (fun h65 => ?_) (fun h65 => ?_)
            · refine k_iload_n 4 3 dX3_findWaters_88 rfl rfl ?_
              refine k_istore_n 1 [(1, .int (iI (i : Int))), (4, .int (iI 0)), (0, .ref tb), (2, .int (iI (bI r))), (3, .int (iI (i : Int)))] dX3_findWaters_89 rfl (by decide) rfl ?_
              refine k_iload 1 dX3_findWaters_90 rfl ?_
              refine k_istore_n 2 [(2, .int (iI 0)), (1, .int (iI (i : Int))), (4, .int (iI 0)), (0, .ref tb), (3, .int (iI (i : Int)))] dX3_findWaters_92 rfl (by decide) rfl ?_
              refine k_iinc 4 [(3, .int (iI ((i : Int) + 1))), (2, .int (iI 0)), (1, .int (iI (i : Int))), (4, .int (iI 0)), (0, .ref tb)] dX3_findWaters_93 rfl (by decide) rfl ?_
              refine k_goto 11 dX3_findWaters_96 (by decide) ?_
              refine k_perm [4, 2, 1, 0] [(0, .ref tb), (1, .int (iI (i : Int))), (2, .int (iI 0)), (3, .int (iI ((i : Int) + 1)))] rfl ?_
              have hdc : decide (h (i - 1) < h i) = false := decide_eq_false (by omega)
              have hF2 := hF.no (by omega) h34 (fun q => absurd q.1 (by omega))
              rw [hdc] at hF2
              exact ih11 f9 (i + 1) i n false WT9 WH9 WI9 ⟨by omega, by omega⟩ hF2 hfr ctb chs cwt cwh cwi (by omega)
            · refine k_iload 0 dX3_findWaters_68 rfl ?_
              refine k_iload_n 3 2 dX3_findWaters_70 rfl rfl ?_
              refine k_icmp_eq 88 dX3_findWaters_71 (by decide) (inI_mk (by omega) (by omega)) (bI_in _) (fun h71 => ?_) (fun h71 => ?_)
              · refine k_iload_n 4 3 dX3_findWaters_88 rfl rfl ?_
                refine k_istore_n 1 [(1, .int (iI (i : Int))), (4, .int (iI 0)), (0, .ref tb), (2, .int (iI (bI r))), (3, .int (iI (i : Int)))] dX3_findWaters_89 rfl (by decide) rfl ?_
                refine k_iload 1 dX3_findWaters_90 rfl ?_
                refine k_istore_n 2 [(2, .int (iI 0)), (1, .int (iI (i : Int))), (4, .int (iI 0)), (0, .ref tb), (3, .int (iI (i : Int)))] dX3_findWaters_92 rfl (by decide) rfl ?_
                refine k_iinc 4 [(3, .int (iI ((i : Int) + 1))), (2, .int (iI 0)), (1, .int (iI (i : Int))), (4, .int (iI 0)), (0, .ref tb)] dX3_findWaters_93 rfl (by decide) rfl ?_
                refine k_goto 11 dX3_findWaters_96 (by decide) ?_
                refine k_perm [4, 2, 1, 0] [(0, .ref tb), (1, .int (iI (i : Int))), (2, .int (iI 0)), (3, .int (iI ((i : Int) + 1)))] rfl ?_
                have hdc : decide (h (i - 1) < h i) = false := decide_eq_false (by omega)
                have hF2 := hF.no (by omega) h34 (fun q => q.2 ((bI_inj (a := r) (b := false) h71.symm).trans hdc.symm))
                rw [hdc] at hF2
                exact ih11 f9 (i + 1) i n false WT9 WH9 WI9 ⟨by omega, by omega⟩ hF2 hfr ctb chs cwt cwh cwi (by omega)
              · refine k_aload_n 1 0 dX3_findWaters_74 rfl rfl ?_
                refine k_iload_n 2 1 dX3_findWaters_75 rfl rfl ?_
                refine k_aload_n 1 0 dX3_findWaters_76 rfl rfl ?_
                refine k_get 0 i_X3 q_117 ctb rfl (by decide) rfl dX3_findWaters_77 ?_
                refine k_iload_n 4 3 dX3_findWaters_80 rfl rfl ?_
                refine k_iconst dX3_findWaters_81 ?_
                refine k_isub dX3_findWaters_82 ?_
                refine k_iald (i - 1) chs (by omega) (by omega) (by omega) dX3_findWaters_83 ?_
                refine k_topi (h (i - 1)) (hHH (i - 1) (by omega)) ?_
                refine k_iload_n 3 2 dX3_findWaters_84 rfl rfl ?_
                refine k_useU (k_runV (c_X3_noteWater θ.2.1 κ (n := n) (tb := tb) (t := (c : Int)) (v := (h (i - 1))) (r := r) ctb chs cwt cwh cwi (by omega)) w_X3_38 ⟨q_225, q_4⟩ rfl rfl ctb rfl ⟨(Nat.le_of_ble_eq_true rfl), (Nat.le_of_ble_eq_true rfl)⟩ (Nat.le_of_ble_eq_true rfl) dX3_findWaters_85) ⟨(Nat.le_of_ble_eq_true rfl), (Nat.le_of_ble_eq_true rfl)⟩ (fun Ln fn hw => ?_)
                obtain ⟨en, hrn, ctb9, chs9, cwt9, cwh9, cwi9⟩ := hw
                replace en := en.symm
                subst en
                replace ctb := ctb9
                replace chs := chs9
                replace cwt := cwt9
                replace cwh := cwh9
                replace cwi := cwi9
                refine k_iload_n 4 3 dX3_findWaters_88 rfl rfl ?_
                refine k_istore_n 1 [(1, .int (iI (i : Int))), (4, .int (iI 0)), (0, .ref tb), (2, .int (iI (bI r))), (3, .int (iI (i : Int)))] dX3_findWaters_89 rfl (by decide) rfl ?_
                refine k_iload 1 dX3_findWaters_90 rfl ?_
                refine k_istore_n 2 [(2, .int (iI 0)), (1, .int (iI (i : Int))), (4, .int (iI 0)), (0, .ref tb), (3, .int (iI (i : Int)))] dX3_findWaters_92 rfl (by decide) rfl ?_
                refine k_iinc 4 [(3, .int (iI ((i : Int) + 1))), (2, .int (iI 0)), (1, .int (iI (i : Int))), (4, .int (iI 0)), (0, .ref tb)] dX3_findWaters_93 rfl (by decide) rfl ?_
                refine k_goto 11 dX3_findWaters_96 (by decide) ?_
                refine k_perm [4, 2, 1, 0] [(0, .ref tb), (1, .int (iI (i : Int))), (2, .int (iI 0)), (3, .int (iI ((i : Int) + 1)))] rfl ?_
                have hdc : decide (h (i - 1) < h i) = false := decide_eq_false (by omega)
                have hF2 := hF.yes (by omega) h34 ⟨by omega, fun q => h71 ((congrArg bI (q.trans hdc)).symm)⟩
                rw [hdc] at hF2
                exact ih11 fn (i + 1) i (n + 1) false (va_up WT9 n (c : Int)) (va_up WH9 n (h (i - 1))) (va_up WI9 n r) ⟨by omega, by omega⟩ hF2 (k_fr.trans hfr hrn idf idf) ctb chs cwt cwh cwi (by omega)
          · rw [hHH i (by omega), hHH (i - 1) (by omega)] at h54
            refine k_iconst dX3_findWaters_57 ?_
            refine k_goto 62 dX3_findWaters_58 (by decide) ?_
            refine k_istore [(4, .int (iI 1)), (0, .ref tb), (1, .int (iI (c : Int))), (2, .int (iI (bI r))), (3, .int (iI (i : Int)))] dX3_findWaters_62 (by decide) rfl ?_
            refine k_iload_n 2 1 dX3_findWaters_64 rfl rfl ?_
            refine k_if_le 88 dX3_findWaters_65 (by decide) (inI_mk (by omega) (by omega)) (fun h65 => ?_) (fun h65 => ?_)
            · refine k_iload_n 4 3 dX3_findWaters_88 rfl rfl ?_
              refine k_istore_n 1 [(1, .int (iI (i : Int))), (4, .int (iI 1)), (0, .ref tb), (2, .int (iI (bI r))), (3, .int (iI (i : Int)))] dX3_findWaters_89 rfl (by decide) rfl ?_
              refine k_iload 1 dX3_findWaters_90 rfl ?_
              refine k_istore_n 2 [(2, .int (iI 1)), (1, .int (iI (i : Int))), (4, .int (iI 1)), (0, .ref tb), (3, .int (iI (i : Int)))] dX3_findWaters_92 rfl (by decide) rfl ?_
              refine k_iinc 4 [(3, .int (iI ((i : Int) + 1))), (2, .int (iI 1)), (1, .int (iI (i : Int))), (4, .int (iI 1)), (0, .ref tb)] dX3_findWaters_93 rfl (by decide) rfl ?_
              refine k_goto 11 dX3_findWaters_96 (by decide) ?_
              refine k_perm [4, 2, 1, 0] [(0, .ref tb), (1, .int (iI (i : Int))), (2, .int (iI 1)), (3, .int (iI ((i : Int) + 1)))] rfl ?_
              have hdc : decide (h (i - 1) < h i) = true := decide_eq_true (by omega)
              have hF2 := hF.no (by omega) h34 (fun q => absurd q.1 (by omega))
              rw [hdc] at hF2
              exact ih11 f9 (i + 1) i n true WT9 WH9 WI9 ⟨by omega, by omega⟩ hF2 hfr ctb chs cwt cwh cwi (by omega)
            · refine k_iload 0 dX3_findWaters_68 rfl ?_
              refine k_iload_n 3 2 dX3_findWaters_70 rfl rfl ?_
              refine k_icmp_eq 88 dX3_findWaters_71 (by decide) (inI_mk (by omega) (by omega)) (bI_in _) (fun h71 => ?_) (fun h71 => ?_)
              · refine k_iload_n 4 3 dX3_findWaters_88 rfl rfl ?_
                refine k_istore_n 1 [(1, .int (iI (i : Int))), (4, .int (iI 1)), (0, .ref tb), (2, .int (iI (bI r))), (3, .int (iI (i : Int)))] dX3_findWaters_89 rfl (by decide) rfl ?_
                refine k_iload 1 dX3_findWaters_90 rfl ?_
                refine k_istore_n 2 [(2, .int (iI 1)), (1, .int (iI (i : Int))), (4, .int (iI 1)), (0, .ref tb), (3, .int (iI (i : Int)))] dX3_findWaters_92 rfl (by decide) rfl ?_
                refine k_iinc 4 [(3, .int (iI ((i : Int) + 1))), (2, .int (iI 1)), (1, .int (iI (i : Int))), (4, .int (iI 1)), (0, .ref tb)] dX3_findWaters_93 rfl (by decide) rfl ?_
                refine k_goto 11 dX3_findWaters_96 (by decide) ?_
                refine k_perm [4, 2, 1, 0] [(0, .ref tb), (1, .int (iI (i : Int))), (2, .int (iI 1)), (3, .int (iI ((i : Int) + 1)))] rfl ?_
                have hdc : decide (h (i - 1) < h i) = true := decide_eq_true (by omega)
                have hF2 := hF.no (by omega) h34 (fun q => q.2 ((bI_inj (a := r) (b := true) h71.symm).trans hdc.symm))
                rw [hdc] at hF2
                exact ih11 f9 (i + 1) i n true WT9 WH9 WI9 ⟨by omega, by omega⟩ hF2 hfr ctb chs cwt cwh cwi (by omega)
              · refine k_aload_n 1 0 dX3_findWaters_74 rfl rfl ?_
                refine k_iload_n 2 1 dX3_findWaters_75 rfl rfl ?_
                refine k_aload_n 1 0 dX3_findWaters_76 rfl rfl ?_
                refine k_get 0 i_X3 q_117 ctb rfl (by decide) rfl dX3_findWaters_77 ?_
                refine k_iload_n 4 3 dX3_findWaters_80 rfl rfl ?_
                refine k_iconst dX3_findWaters_81 ?_
                refine k_isub dX3_findWaters_82 ?_
                refine k_iald (i - 1) chs (by omega) (by omega) (by omega) dX3_findWaters_83 ?_
                refine k_topi (h (i - 1)) (hHH (i - 1) (by omega)) ?_
                refine k_iload_n 3 2 dX3_findWaters_84 rfl rfl ?_
                refine k_useU (k_runV (c_X3_noteWater θ.2.1 κ (n := n) (tb := tb) (t := (c : Int)) (v := (h (i - 1))) (r := r) ctb chs cwt cwh cwi (by omega)) w_X3_38 ⟨q_225, q_4⟩ rfl rfl ctb rfl ⟨(Nat.le_of_ble_eq_true rfl), (Nat.le_of_ble_eq_true rfl)⟩ (Nat.le_of_ble_eq_true rfl) dX3_findWaters_85) ⟨(Nat.le_of_ble_eq_true rfl), (Nat.le_of_ble_eq_true rfl)⟩ (fun Ln fn hw => ?_)
                obtain ⟨en, hrn, ctb9, chs9, cwt9, cwh9, cwi9⟩ := hw
                replace en := en.symm
                subst en
                replace ctb := ctb9
                replace chs := chs9
                replace cwt := cwt9
                replace cwh := cwh9
                replace cwi := cwi9
                refine k_iload_n 4 3 dX3_findWaters_88 rfl rfl ?_
                refine k_istore_n 1 [(1, .int (iI (i : Int))), (4, .int (iI 1)), (0, .ref tb), (2, .int (iI (bI r))), (3, .int (iI (i : Int)))] dX3_findWaters_89 rfl (by decide) rfl ?_
                refine k_iload 1 dX3_findWaters_90 rfl ?_
                refine k_istore_n 2 [(2, .int (iI 1)), (1, .int (iI (i : Int))), (4, .int (iI 1)), (0, .ref tb), (3, .int (iI (i : Int)))] dX3_findWaters_92 rfl (by decide) rfl ?_
                refine k_iinc 4 [(3, .int (iI ((i : Int) + 1))), (2, .int (iI 1)), (1, .int (iI (i : Int))), (4, .int (iI 1)), (0, .ref tb)] dX3_findWaters_93 rfl (by decide) rfl ?_
                refine k_goto 11 dX3_findWaters_96 (by decide) ?_
                refine k_perm [4, 2, 1, 0] [(0, .ref tb), (1, .int (iI (i : Int))), (2, .int (iI 1)), (3, .int (iI ((i : Int) + 1)))] rfl ?_
                have hdc : decide (h (i - 1) < h i) = true := decide_eq_true (by omega)
                have hF2 := hF.yes (by omega) h34 ⟨by omega, fun q => h71 ((congrArg bI (q.trans hdc)).symm)⟩
                rw [hdc] at hF2
                exact ih11 fn (i + 1) i (n + 1) true (va_up WT9 n (c : Int)) (va_up WH9 n (h (i - 1))) (va_up WI9 n r) ⟨by omega, by omega⟩ hF2 (k_fr.trans hfr hrn idf idf) ctb chs cwt cwh cwi (by omega)
        · rw [hHH i (by omega), hHH (i - 1) (by omega)] at h34
          refine k_goto 93 dX3_findWaters_37 (by decide) ?_
          refine k_iinc 3 [(3, .int (iI ((i : Int) + 1))), (0, .ref tb), (1, .int (iI (c : Int))), (2, .int (iI (bI r)))] dX3_findWaters_93 rfl (by decide) rfl ?_
          refine k_goto 11 dX3_findWaters_96 (by decide) ?_
          refine k_perm [1, 2, 3, 0] [(0, .ref tb), (1, .int (iI (c : Int))), (2, .int (iI (bI r))), (3, .int (iI ((i : Int) + 1)))] rfl ?_
          have hF2 := hF.same h34
          exact ih11 f9 (i + 1) c n r WT9 WH9 WI9 ⟨by omega, by omega⟩ hF2 hfr ctb chs cwt cwh cwi (by omega)
  refine k_perm [3, 2, 1, 0] [(0, .ref tb), (1, .int (iI 0)), (2, .int (iI 0)), (3, .int (iI 1))] rfl ?_
  exact lp11 _ f1 1 0 0 false WT WH WI ⟨by omega, by omega⟩ ⟨by omega, Or.inl rfl, fun j q1 q2 => absurd q2 (by omega), rfl, fun k hk => absurd hk (Nat.not_lt_zero _)⟩ (k_fr.mono hr1 ST_3) ctb chs cwt cwh cwi (Nat.lt_succ_self _)
set_option maxHeartbeats 4000000 in
set_option maxRecDepth 100000 in
theorem c_X3_fill (la : Launch) (κ : Kx) {L : List Nat} {f : Nat → wE} {tb td : Nat} {τ : Td}  (hX : TblX κ L f tb) (hTd : TideR κ L f td τ) (hok : TdOk τ) : k_M la κ yX3_fill cX3_fill 3 none 5 0 0 [.ref tb, .ref td] L f (k_ru (fun L' f' => L' = L ∧ k_fr ST L f L f' ∧ TblR κ L' f' tb (hT τ))) := by
  refine k_head RX3 [(0, .ref tb), (1, .ref td)] rfl (by decide) (Nat.le_of_ble_eq_true rfl) rfl (fun θ hθ hin => ?_)
  obtain ⟨hs, wt, wh, wi, n0, HH, WT, WH, WI, ctb, chs, cwt, cwh, cwi⟩ := hX
  refine k_iconst dX3_fill_0 ?_
  refine k_istore_n 2 [(2, .int (iI 0)), (0, .ref tb), (1, .ref td)] dX3_fill_1 rfl (by decide) rfl ?_
  have lp2 : ∀ (fuel : Nat) (f9 : Nat → wE) (i : Nat) (HH9 : Nat → Int), (i ≤ 4320) → (∀ t, t < i → HH9 t = hT τ t) → (k_fr ST L f L f9) → (Cl L f9 tb (3, .inr (4, [.ref hs, .ref wt, .ref wh, .ref wi, .int (iI n0)]))) → (Cl L f9 hs (7, .inl (κ.2.2.1 0, 4320, .inl (fun u9 => iI (HH9 u9))))) → (Cl L f9 wt (8, .inl (κ.2.2.1 0, 4320, .inl (fun u9 => iI (WT u9))))) → (Cl L f9 wh (9, .inl (κ.2.2.1 0, 4320, .inl (fun u9 => iI (WH u9))))) → (Cl L f9 wi (10, .inl (κ.2.2.1 2, 4320, .inl (fun u9 => iI (bI (WI u9)))))) → (TideR κ L f9 td τ) → 4320 - i < fuel → k_G θ κ cX3_fill 3 none RX3 (k_rm 5 0 0) (k_MQ θ κ (k_ru (fun L' f' => L' = L ∧ k_fr ST L f L f' ∧ TblR κ L' f' tb (hT τ))) 0 0) L f9 0 0 2 [(0, .ref tb), (1, .ref td), (2, .int (iI (i : Int)))] [] := by
    intro fuel
    induction fuel with
    | zero =>
      intro f9 i HH9 hi1 hH hfr ctb chs cwt cwh cwi hTd hfu
      exact absurd hfu (Nat.not_lt_zero _)
    | succ fuel ih2 =>
      intro f9 i HH9 hi1 hH hfr ctb chs cwt cwh cwi hTd hfu
      obtain ⟨wl9, ctd⟩ := hTd.cl
      refine k_iload_n 2 2 dX3_fill_2 rfl rfl ?_
      refine k_aload_n 0 0 dX3_fill_3 rfl rfl ?_
      refine k_get 0 i_X3 q_117 ctb rfl (by decide) rfl dX3_fill_4 ?_
      refine k_alen (t0 := 0) chs rfl dX3_fill_7 ?_
      refine k_icmp_ge 28 dX3_fill_8 (by decide) (inI_mk (by omega) (by omega)) (inI_mk (by omega) (by omega)) (fun h8 => ?_) (fun h8 => ?_)
      · refine k_aload_n 0 0 dX3_fill_28 rfl rfl ?_
        refine k_useU (k_runV (c_X3_findWaters θ.2.1 κ (h := (hT τ)) (tb := tb) ctb chs cwt cwh cwi (fun t ht => hH t (by omega)) (hT_bd hok)) w_X3_31 ⟨q_221, q_3⟩ rfl rfl ctb rfl ⟨(Nat.le_of_ble_eq_true rfl), (Nat.le_of_ble_eq_true rfl)⟩ (Nat.le_of_ble_eq_true rfl) dX3_fill_29) ⟨(Nat.le_of_ble_eq_true rfl), (Nat.le_of_ble_eq_true rfl)⟩ (fun Ln fn hw => ?_)
        obtain ⟨en, hrn, hTb⟩ := hw
        replace en := en.symm
        subst en
        exact k_vret dX3_fill_32 rfl (Nat.le_of_ble_eq_true rfl) (Nat.le_of_ble_eq_true rfl) (⟨rfl, rfl, k_fr.trans hfr hrn idf idf, hTb⟩)
      · refine k_aload_n 0 0 dX3_fill_11 rfl rfl ?_
        refine k_get 0 i_X3 q_117 ctb rfl (by decide) rfl dX3_fill_12 ?_
        refine k_iload_n 2 2 dX3_fill_15 rfl rfl ?_
        refine k_aload_n 1 1 dX3_fill_16 rfl rfl ?_
        refine k_iload_n 2 2 dX3_fill_17 rfl rfl ?_
        refine k_useR (k_runV (c_X5_heightAt θ.2.1 κ (td := td) (t := i) hTd hok (by omega)) w_X3_25 ⟨q_187, q_188⟩ rfl rfl ctd rfl ⟨(Nat.le_of_ble_eq_true rfl), (Nat.le_of_ble_eq_true rfl)⟩ (Nat.le_of_ble_eq_true rfl) dX3_fill_18) ⟨(Nat.le_of_ble_eq_true rfl), (Nat.le_of_ble_eq_true rfl)⟩ ?_
        refine k_iast i chs rfl (by omega) (by omega) dX3_fill_21 (fun f1 hf1 hc1 => ?_)
        have hr1 := k_fr.put hf1 chs
        replace ctb := ctb.fr hr1 rfl
        replace cwt := cwt.fr hr1 rfl
        replace cwh := cwh.fr hr1 rfl
        replace cwi := cwi.fr hr1 rfl
        replace hTd := hTd.fr hr1 rfl
        replace chs : Cl L f1 hs (7, .inl (κ.2.2.1 0, 4320, .inl (fun u9 => iI ((va_up HH9 i (hT τ i)) u9)))) := hc1
        refine k_iinc 2 [(2, .int (iI ((i : Int) + 1))), (0, .ref tb), (1, .ref td)] dX3_fill_22 rfl (by decide) rfl ?_
        refine k_goto 2 dX3_fill_25 (by decide) ?_
        refine k_perm [1, 2, 0] [(0, .ref tb), (1, .ref td), (2, .int (iI ((i : Int) + 1)))] rfl ?_
        have hH2 : ∀ t, t < i + 1 → (va_up HH9 i (hT τ i)) t = hT τ t := fun t ht => by
          by_cases q : t = i
          · subst q
            exact va_up_self _ _ _
          · rw [va_up_ne _ _ q]
            exact hH t (by omega)
        exact ih2 f1 (i + 1) (va_up HH9 i (hT τ i)) (by omega) hH2 (k_fr.trans hfr hr1 idf ST_7) ctb chs cwt cwh cwi hTd (by omega)
  refine k_perm [1, 2, 0] [(0, .ref tb), (1, .ref td), (2, .int (iI 0))] rfl ?_
  exact lp2 _ f 0 HH (Nat.zero_le _) (fun t ht => absurd ht (Nat.not_lt_zero _)) k_fr.refl ctb chs cwt cwh cwi hTd (Nat.lt_succ_self _)
set_option maxHeartbeats 4000000 in
set_option maxRecDepth 100000 in
theorem c_X3_init (la : Launch) (κ : Kx) {L : List Nat} {f : Nat → wE} {tb : Nat} (ctb : Cl L f tb (3, .inr (4, [.null, .null, .null, .null, .int (iI 0)])))   : k_M la κ yX3_init cX3_init 1 none 1 4 17280 [.ref tb] L f (k_ru (fun L' f' => TblX κ L' f' tb ∧ k_fr (fun u => u == 3) L f L' f')) := by
  refine k_head RX3 [(0, .ref tb)] rfl (by decide) (Nat.le_of_ble_eq_true rfl) rfl (fun θ hθ hin => ?_)
  refine k_aload_n 0 0 dX3_init_0 rfl rfl ?_
  refine k_objInit q_116 q_68 q_69 (Nat.le_of_ble_eq_true rfl) (Nat.le_of_ble_eq_true rfl) dX3_init_1 ?_
  refine k_aload_n 0 0 dX3_init_4 rfl rfl ?_
  refine k_sipush dX3_init_5 (by decide) ?_
  refine k_newai 7 4320 q_135 rfl (by omega) (Nat.le_of_ble_eq_true rfl) (Nat.le_of_ble_eq_true rfl) dX3_init_8 (fun hs L1 f1 hz1 hn1 hc1 => ?_)
  have hr1 := k_fr.new hz1
  replace ctb := ctb.fr hr1 rfl
  have cHs : Cl L1 f1 hs (7, .inl (κ.2.2.1 0, 4320, .inl (fun u9 => iI ((fun _ => 0) u9)))) := hc1
  refine k_putF 0 [.ref hs, .null, .null, .null, .int (iI 0)] i_X3 tyX3_ok nmX3 q_117 ctb rfl (by decide) rfl (hin rfl) rfl rfl rfl rfl (Nat.le_of_ble_eq_true rfl) rfl dX3_init_10 (fun f2 hf2 hc2 => ?_)
  have hr2 := k_fr.put hf2 ctb
  replace cHs := cHs.fr hr2 rfl
  replace ctb : Cl L1 f2 tb (3, .inr (4, [.ref hs, .null, .null, .null, .int (iI 0)])) := hc2
  refine k_aload_n 0 0 dX3_init_13 rfl rfl ?_
  refine k_sipush dX3_init_14 (by decide) ?_
  refine k_newai 8 4320 q_135 rfl (by omega) (Nat.le_of_ble_eq_true rfl) (Nat.le_of_ble_eq_true rfl) dX3_init_17 (fun wt L3 f3 hz3 hn3 hc3 => ?_)
  have hr3 := k_fr.new hz3
  replace ctb := ctb.fr hr3 rfl
  replace cHs := cHs.fr hr3 rfl
  have cWt : Cl L3 f3 wt (8, .inl (κ.2.2.1 0, 4320, .inl (fun u9 => iI ((fun _ => 0) u9)))) := hc3
  refine k_putF 1 [.ref hs, .ref wt, .null, .null, .int (iI 0)] i_X3 tyX3_ok nmX3 q_118 ctb rfl (by decide) rfl (hin rfl) rfl rfl rfl rfl (Nat.le_of_ble_eq_true rfl) rfl dX3_init_19 (fun f4 hf4 hc4 => ?_)
  have hr4 := k_fr.put hf4 ctb
  replace cHs := cHs.fr hr4 rfl
  replace cWt := cWt.fr hr4 rfl
  replace ctb : Cl L3 f4 tb (3, .inr (4, [.ref hs, .ref wt, .null, .null, .int (iI 0)])) := hc4
  refine k_aload_n 0 0 dX3_init_22 rfl rfl ?_
  refine k_sipush dX3_init_23 (by decide) ?_
  refine k_newai 9 4320 q_135 rfl (by omega) (Nat.le_of_ble_eq_true rfl) (Nat.le_of_ble_eq_true rfl) dX3_init_26 (fun wh L5 f5 hz5 hn5 hc5 => ?_)
  have hr5 := k_fr.new hz5
  replace ctb := ctb.fr hr5 rfl
  replace cHs := cHs.fr hr5 rfl
  replace cWt := cWt.fr hr5 rfl
  have cWh : Cl L5 f5 wh (9, .inl (κ.2.2.1 0, 4320, .inl (fun u9 => iI ((fun _ => 0) u9)))) := hc5
  refine k_putF 2 [.ref hs, .ref wt, .ref wh, .null, .int (iI 0)] i_X3 tyX3_ok nmX3 q_119 ctb rfl (by decide) rfl (hin rfl) rfl rfl rfl rfl (Nat.le_of_ble_eq_true rfl) rfl dX3_init_28 (fun f6 hf6 hc6 => ?_)
  have hr6 := k_fr.put hf6 ctb
  replace cHs := cHs.fr hr6 rfl
  replace cWt := cWt.fr hr6 rfl
  replace cWh := cWh.fr hr6 rfl
  replace ctb : Cl L5 f6 tb (3, .inr (4, [.ref hs, .ref wt, .ref wh, .null, .int (iI 0)])) := hc6
  refine k_aload_n 0 0 dX3_init_31 rfl rfl ?_
  refine k_sipush dX3_init_32 (by decide) ?_
  refine k_newaz 10 4320 q_136 rfl (by omega) (Nat.le_of_ble_eq_true rfl) (Nat.le_of_ble_eq_true rfl) dX3_init_35 (fun wi L7 f7 hz7 hn7 hc7 => ?_)
  have hr7 := k_fr.new hz7
  replace ctb := ctb.fr hr7 rfl
  replace cHs := cHs.fr hr7 rfl
  replace cWt := cWt.fr hr7 rfl
  replace cWh := cWh.fr hr7 rfl
  have cWi : Cl L7 f7 wi (10, .inl (κ.2.2.1 2, 4320, .inl (fun u9 => iI (bI ((fun _ => false) u9))))) := hc7
  refine k_putF 3 [.ref hs, .ref wt, .ref wh, .ref wi, .int (iI 0)] i_X3 tyX3_ok nmX3 q_120 ctb rfl (by decide) rfl (hin rfl) rfl rfl rfl rfl (Nat.le_of_ble_eq_true rfl) rfl dX3_init_37 (fun f8 hf8 hc8 => ?_)
  have hr8 := k_fr.put hf8 ctb
  replace cHs := cHs.fr hr8 rfl
  replace cWt := cWt.fr hr8 rfl
  replace cWh := cWh.fr hr8 rfl
  replace cWi := cWi.fr hr8 rfl
  replace ctb : Cl L7 f8 tb (3, .inr (4, [.ref hs, .ref wt, .ref wh, .ref wi, .int (iI 0)])) := hc8
  exact k_vret dX3_init_40 rfl (Nat.le_of_ble_eq_true rfl) (Nat.le_of_ble_eq_true rfl) (⟨rfl, ⟨hs, wt, wh, wi, 0, (fun _ => 0), (fun _ => 0), (fun _ => 0), (fun _ => false), ctb, cHs, cWt, cWh, cWi⟩, (k_fr.trans (k_fr.trans (k_fr.trans (k_fr.trans (k_fr.trans (k_fr.trans (k_fr.trans (k_fr.mono hr1 (fun _ _ => rfl)) hr2 idf idf) hr3 idf (fun _ _ => rfl)) hr4 idf idf) hr5 idf (fun _ _ => rfl)) hr6 idf idf) hr7 idf (fun _ _ => rfl)) hr8 idf idf)⟩)
