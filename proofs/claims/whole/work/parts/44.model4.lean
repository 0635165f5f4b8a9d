def aheadS (σ : Sg) (p : Nat) (t : Int) : Int := if ord (hT σ.1) (σ.2.2.1 p) = true then (if lat (hT σ.1) (σ.2.2.1 p) t 0 < nW (hT σ.1) then ((lat (hT σ.1) (σ.2.2.1 p) t 0 : Nat) : Int) - 1 else -1) else -1
set_option maxHeartbeats 4000000 in
set_option maxRecDepth 100000 in
theorem c_X8_isOrdered (la : Launch) (κ : Kx) {L : List Nat} {f : Nat → wE} {mm : Nat} {thr : Int} {σ : Sg} {p : Nat}   (hM : MS κ L f mm thr σ) (hs : SgOk σ) (hp : p < σ.2.1) : k_M la κ yX8_isOrdered cX8_isOrdered 4 (some .boolean) 6 0 0 [.ref mm, .int (iI (p : Int))] L f (k_rn (fun v9 L' f' => v9 = .int (iI (bI (ord (hT σ.1) (σ.2.2.1 p)))) ∧ L' = L ∧ MSf κ L' f' mm thr σ ∧ k_fr SM L f L' f')) := by
  refine k_head RX8 [(0, .ref mm), (1, .int (iI (p : Int)))] rfl (by decide) (Nat.le_of_ble_eq_true rfl) rfl (fun θ hθ hin => ?_)
  obtain ⟨fs9, cmm⟩ := hM.cl
  refine k_aload_n 0 0 dX8_isOrdered_0 rfl rfl ?_
  refine k_useU (k_runV (c_X8_find θ.2.1 κ (σ := σ) (thr := thr) (mm := mm) hM hs) w_X8_90 ⟨q_872, q_20⟩ rfl rfl cmm rfl ⟨(Nat.le_of_ble_eq_true rfl), (Nat.le_of_ble_eq_true rfl)⟩ (Nat.le_of_ble_eq_true rfl) dX8_isOrdered_1) ⟨(Nat.le_of_ble_eq_true rfl), (Nat.le_of_ble_eq_true rfl)⟩ (fun Lq fq hwq => ?_)
  obtain ⟨eq9, hMf, hrF⟩ := hwq
  replace eq9 := eq9.symm
  subst eq9
  obtain ⟨A, RA, PE, OF, TA, RT, RH, HS, TI, ⟨cmm, c0, c1, c2, c3, c4, c5, c6, c7⟩, ⟨hMa, hMb, hMc, hMd⟩, hHS, hTI⟩ := id hMf
  obtain ⟨hs1, ⟨hs2, hs3⟩, hs4⟩ := id hs
  have hs5 := hs1.2.1
  have hs6 := hs4.1
  have hs7 := nW_le (hT σ.1)
  have hs8 := hs1.1
  refine k_iconst dX8_isOrdered_4 ?_
  refine k_istore_n 2 [(2, .int (iI 1)), (0, .ref mm), (1, .int (iI (p : Int)))] dX8_isOrdered_5 rfl (by decide) rfl ?_
  refine k_iconst dX8_isOrdered_6 ?_
  refine k_istore_n 3 [(3, .int (iI 1)), (2, .int (iI 1)), (0, .ref mm), (1, .int (iI (p : Int)))] dX8_isOrdered_7 rfl (by decide) rfl ?_
  have lp8 : ∀ (fuel : Nat) (j : Nat) (b9 : Bool), (j + 1 ≤ nW (hT σ.1) ∨ j = 0) → (b9 = ordF (hT σ.1) (σ.2.2.1 p) j) → nW (hT σ.1) - j < fuel → k_G θ κ cX8_isOrdered 4 (some .boolean) RX8 (k_rm 6 0 0) (k_MQ θ κ (k_rn (fun v9 L' f' => v9 = .int (iI (bI (ord (hT σ.1) (σ.2.2.1 p)))) ∧ L' = L ∧ MSf κ L' f' mm thr σ ∧ k_fr SM L f L' f')) 0 0) L fq 0 0 8 [(0, .ref mm), (1, .int (iI (p : Int))), (2, .int (iI (bI b9))), (3, .int (iI ((j + 1 : Nat) : Int)))] [] := by
    intro fuel
    induction fuel with
    | zero =>
      intro j b9 hj hb9 hfu
      exact absurd hfu (Nat.not_lt_zero _)
    | succ fuel ih8 =>
      intro j b9 hj hb9 hfu
      refine k_iload_n 3 3 dX8_isOrdered_8 rfl rfl ?_
      refine k_aload_n 0 0 dX8_isOrdered_9 rfl rfl ?_
      refine k_get 13 i_X8 q_796 cmm rfl (by decide) rfl dX8_isOrdered_10 ?_
      refine k_icmp_ge 49 dX8_isOrdered_13 (by decide) (inI_mk (by omega) (by omega)) (inI_mk (by omega) (by omega)) (fun h13 => ?_) (fun h13 => ?_)
      · refine k_iload_n 2 2 dX8_isOrdered_49 rfl rfl ?_
        exact k_zret (b := b9) dX8_isOrdered_50 rfl (Nat.le_of_ble_eq_true rfl) (Nat.le_of_ble_eq_true rfl) (⟨_, rfl, (congrArg (fun z => Value.int (iI (bI z))) (by rw [hb9, ord, show nW (hT σ.1) - 1 = j by omega])), rfl, hMf, hrF⟩)
      · refine k_iload_n 2 2 dX8_isOrdered_16 rfl rfl ?_
        refine k_ifb_eq 41 dX8_isOrdered_17 (by decide) (fun h17 => ?_) (fun h17 => ?_)
        · refine k_iconst dX8_isOrdered_41 ?_
          refine k_istore_n 2 [(2, .int (iI 0)), (0, .ref mm), (1, .int (iI (p : Int))), (3, .int (iI ((j + 1 : Nat) : Int)))] dX8_isOrdered_42 rfl (by decide) rfl ?_
          refine k_iinc 3 [(3, .int (iI (((j + 1 : Nat) : Int) + 1))), (2, .int (iI 0)), (0, .ref mm), (1, .int (iI (p : Int)))] dX8_isOrdered_43 rfl (by decide) rfl ?_
          refine k_goto 8 dX8_isOrdered_46 (by decide) ?_
          refine k_perm [2, 3, 1, 0] [(0, .ref mm), (1, .int (iI (p : Int))), (2, .int (iI 0)), (3, .int (iI (((j + 1 : Nat) : Int) + 1)))] rfl ?_
          exact ih8 (j + 1) false (Or.inl (by omega)) (by rw [ordF, ← hb9, h17]; rfl) (by omega)
        · refine k_aload_n 0 0 dX8_isOrdered_20 rfl rfl ?_
          refine k_iload_n 1 1 dX8_isOrdered_21 rfl rfl ?_
          refine k_iload_n 3 3 dX8_isOrdered_22 rfl rfl ?_
          refine k_useR (k_runV (c_X8_timeAt θ.2.1 κ (k := (j + 1)) (mm := mm) (p := p) hMf hs hp (by omega)) w_X8_146 ⟨q_963, q_31⟩ rfl rfl cmm rfl ⟨(Nat.le_of_ble_eq_true rfl), (Nat.le_of_ble_eq_true rfl)⟩ (Nat.le_of_ble_eq_true rfl) dX8_isOrdered_23) ⟨(Nat.le_of_ble_eq_true rfl), (Nat.le_of_ble_eq_true rfl)⟩ ?_
          refine k_aload_n 0 0 dX8_isOrdered_26 rfl rfl ?_
          refine k_iload_n 1 1 dX8_isOrdered_27 rfl rfl ?_
          refine k_iload_n 3 3 dX8_isOrdered_28 rfl rfl ?_
          refine k_iconst dX8_isOrdered_29 ?_
          refine k_isub dX8_isOrdered_30 ?_
          refine k_topi (j : Int) (by omega) ?_
          refine k_useR (k_runV (c_X8_timeAt θ.2.1 κ (k := j) (mm := mm) (p := p) hMf hs hp (by omega)) w_X8_146 ⟨q_963, q_31⟩ rfl rfl cmm rfl ⟨(Nat.le_of_ble_eq_true rfl), (Nat.le_of_ble_eq_true rfl)⟩ (Nat.le_of_ble_eq_true rfl) dX8_isOrdered_31) ⟨(Nat.le_of_ble_eq_true rfl), (Nat.le_of_ble_eq_true rfl)⟩ ?_
          have hb1 := pT_bd (h := (hT σ.1)) (hs3 p hp) (k := j) (by omega)
          have hb2 := pT_bd (h := (hT σ.1)) (hs3 p hp) (k := j + 1) (by omega)
          refine k_icmp_le 41 dX8_isOrdered_34 (by decide) (inI_mk (by omega) (by omega)) (inI_mk (by omega) (by omega)) (fun h34 => ?_) (fun h34 => ?_)
          · refine k_iconst dX8_isOrdered_41 ?_
            refine k_istore_n 2 [(2, .int (iI 0)), (0, .ref mm), (1, .int (iI (p : Int))), (3, .int (iI ((j + 1 : Nat) : Int)))] dX8_isOrdered_42 rfl (by decide) rfl ?_
            refine k_iinc 3 [(3, .int (iI (((j + 1 : Nat) : Int) + 1))), (2, .int (iI 0)), (0, .ref mm), (1, .int (iI (p : Int)))] dX8_isOrdered_43 rfl (by decide) rfl ?_
            refine k_goto 8 dX8_isOrdered_46 (by decide) ?_
            refine k_perm [2, 3, 1, 0] [(0, .ref mm), (1, .int (iI (p : Int))), (2, .int (iI 0)), (3, .int (iI (((j + 1 : Nat) : Int) + 1)))] rfl ?_
            exact ih8 (j + 1) false (Or.inl (by omega)) (by rw [ordF, ← hb9, h17, decide_eq_false (by omega)]; rfl) (by omega)
          · refine k_iconst dX8_isOrdered_37 ?_
            refine k_goto 42 dX8_isOrdered_38 (by decide) ?_
            refine k_istore_n 2 [(2, .int (iI 1)), (0, .ref mm), (1, .int (iI (p : Int))), (3, .int (iI ((j + 1 : Nat) : Int)))] dX8_isOrdered_42 rfl (by decide) rfl ?_
            refine k_iinc 3 [(3, .int (iI (((j + 1 : Nat) : Int) + 1))), (2, .int (iI 1)), (0, .ref mm), (1, .int (iI (p : Int)))] dX8_isOrdered_43 rfl (by decide) rfl ?_
            refine k_goto 8 dX8_isOrdered_46 (by decide) ?_
            refine k_perm [2, 3, 1, 0] [(0, .ref mm), (1, .int (iI (p : Int))), (2, .int (iI 1)), (3, .int (iI (((j + 1 : Nat) : Int) + 1)))] rfl ?_
            exact ih8 (j + 1) true (Or.inl (by omega)) (by rw [ordF, ← hb9, h17, decide_eq_true (show pT (hT σ.1) (σ.2.2.1 p) j < pT (hT σ.1) (σ.2.2.1 p) (j + 1) by omega)]; rfl) (by omega)
  refine k_perm [2, 3, 1, 0] [(0, .ref mm), (1, .int (iI (p : Int))), (2, .int (iI 1)), (3, .int (iI 1))] rfl ?_
  exact lp8 _ 0 true (Or.inr rfl) rfl (Nat.lt_succ_self _)
set_option maxHeartbeats 4000000 in
set_option maxRecDepth 100000 in
theorem c_X8_datumOf (la : Launch) (κ : Kx) {L : List Nat} {f : Nat → wE} {mm : Nat} {thr : Int} {σ : Sg} {what : Int}   (hM : MS κ L f mm thr σ) (hs : SgOk σ) (hwh : 0 ≤ what ∧ what ≤ 4) : k_M la κ yX8_datumOf cX8_datumOf 2 (some .int) 6 0 0 [.ref mm, .int (iI what)] L f (k_rn (fun v9 L' f' => v9 = .int (iI (dat (hT σ.1) what)) ∧ L' = L ∧ MSf κ L' f' mm thr σ ∧ k_fr SM L f L' f')) := by
  refine k_head RX8 [(0, .ref mm), (1, .int (iI what))] rfl (by decide) (Nat.le_of_ble_eq_true rfl) rfl (fun θ hθ hin => ?_)
  obtain ⟨fs9, cmm⟩ := hM.cl
  refine k_aload_n 0 0 dX8_datumOf_0 rfl rfl ?_
  refine k_useU (k_runV (c_X8_find θ.2.1 κ (σ := σ) (thr := thr) (mm := mm) hM hs) w_X8_90 ⟨q_872, q_20⟩ rfl rfl cmm rfl ⟨(Nat.le_of_ble_eq_true rfl), (Nat.le_of_ble_eq_true rfl)⟩ (Nat.le_of_ble_eq_true rfl) dX8_datumOf_1) ⟨(Nat.le_of_ble_eq_true rfl), (Nat.le_of_ble_eq_true rfl)⟩ (fun Lq fq hwq => ?_)
  obtain ⟨eq9, hMf, hrF⟩ := hwq
  replace eq9 := eq9.symm
  subst eq9
  obtain ⟨A, RA, PE, OF, TA, RT, RH, HS, TI, ⟨cmm, c0, c1, c2, c3, c4, c5, c6, c7⟩, ⟨hMa, hMb, hMc, hMd⟩, hHS, hTI⟩ := id hMf
  obtain ⟨hs1, ⟨hs2, hs3⟩, hs4⟩ := id hs
  have hs5 := hs1.2.1
  have hs6 := hs4.1
  have hs7 := nW_le (hT σ.1)
  have hs8 := hs1.1
  refine k_iload_n 1 1 dX8_datumOf_4 rfl rfl ?_
  rcases (by omega : what = 0 ∨ what = 1 ∨ what = 2 ∨ what = 3 ∨ (what < 0 ∨ 3 < what)) with h5 | h5 | h5 | h5 | h5
  · refine k_swIn 0 36 dX8_datumOf_5 (inI_mk (by omega) (by omega)) h5 (by decide) (by decide) rfl (by decide) ?_
    refine k_aload_n 0 0 dX8_datumOf_36 rfl rfl ?_
    refine k_iconst dX8_datumOf_37 ?_
    refine k_useR (k_runV (c_X8_extreme_a θ.2.1 κ (mm := mm) hMf hs) w_X8_118 ⟨q_919, q_26⟩ rfl rfl cmm rfl ⟨(Nat.le_of_ble_eq_true rfl), (Nat.le_of_ble_eq_true rfl)⟩ (Nat.le_of_ble_eq_true rfl) dX8_datumOf_38) ⟨(Nat.le_of_ble_eq_true rfl), (Nat.le_of_ble_eq_true rfl)⟩ ?_
    refine k_l2i dX8_datumOf_41 ?_
    exact k_iret dX8_datumOf_42 rfl (Nat.le_of_ble_eq_true rfl) (Nat.le_of_ble_eq_true rfl) (⟨_, rfl, (congrArg (fun z => Value.int (iI z)) (by rw [h5, dat, if_pos rfl])), rfl, hMf, hrF⟩)
  · refine k_swIn 1 43 dX8_datumOf_5 (inI_mk (by omega) (by omega)) h5 (by decide) (by decide) rfl (by decide) ?_
    refine k_aload_n 0 0 dX8_datumOf_43 rfl rfl ?_
    refine k_iconst dX8_datumOf_44 ?_
    refine k_useR (k_runV (c_X8_extreme_b θ.2.1 κ (mm := mm) hMf hs) w_X8_118 ⟨q_919, q_26⟩ rfl rfl cmm rfl ⟨(Nat.le_of_ble_eq_true rfl), (Nat.le_of_ble_eq_true rfl)⟩ (Nat.le_of_ble_eq_true rfl) dX8_datumOf_45) ⟨(Nat.le_of_ble_eq_true rfl), (Nat.le_of_ble_eq_true rfl)⟩ ?_
    refine k_l2i dX8_datumOf_48 ?_
    exact k_iret dX8_datumOf_49 rfl (Nat.le_of_ble_eq_true rfl) (Nat.le_of_ble_eq_true rfl) (⟨_, rfl, (congrArg (fun z => Value.int (iI z)) (by rw [h5, dat, if_neg (by decide), if_pos rfl])), rfl, hMf, hrF⟩)
  · refine k_swIn 2 50 dX8_datumOf_5 (inI_mk (by omega) (by omega)) h5 (by decide) (by decide) rfl (by decide) ?_
    refine k_aload_n 0 0 dX8_datumOf_50 rfl rfl ?_
    refine k_iconst dX8_datumOf_51 ?_
    refine k_useR (k_runV (c_X8_mean θ.2.1 κ (b := true) (mm := mm) hMf hs) w_X8_122 ⟨q_926, q_27⟩ rfl rfl cmm rfl ⟨(Nat.le_of_ble_eq_true rfl), (Nat.le_of_ble_eq_true rfl)⟩ (Nat.le_of_ble_eq_true rfl) dX8_datumOf_52) ⟨(Nat.le_of_ble_eq_true rfl), (Nat.le_of_ble_eq_true rfl)⟩ ?_
    refine k_l2i dX8_datumOf_55 ?_
    exact k_iret dX8_datumOf_56 rfl (Nat.le_of_ble_eq_true rfl) (Nat.le_of_ble_eq_true rfl) (⟨_, rfl, (congrArg (fun z => Value.int (iI z)) (by rw [h5, dat, if_neg (by decide), if_neg (by decide), if_pos rfl])), rfl, hMf, hrF⟩)
  · refine k_swIn 3 57 dX8_datumOf_5 (inI_mk (by omega) (by omega)) h5 (by decide) (by decide) rfl (by decide) ?_
    refine k_aload_n 0 0 dX8_datumOf_57 rfl rfl ?_
    refine k_iconst dX8_datumOf_58 ?_
    refine k_useR (k_runV (c_X8_mean θ.2.1 κ (b := false) (mm := mm) hMf hs) w_X8_122 ⟨q_926, q_27⟩ rfl rfl cmm rfl ⟨(Nat.le_of_ble_eq_true rfl), (Nat.le_of_ble_eq_true rfl)⟩ (Nat.le_of_ble_eq_true rfl) dX8_datumOf_59) ⟨(Nat.le_of_ble_eq_true rfl), (Nat.le_of_ble_eq_true rfl)⟩ ?_
    refine k_l2i dX8_datumOf_62 ?_
    exact k_iret dX8_datumOf_63 rfl (Nat.le_of_ble_eq_true rfl) (Nat.le_of_ble_eq_true rfl) (⟨_, rfl, (congrArg (fun z => Value.int (iI z)) (by rw [h5, dat, if_neg (by decide), if_neg (by decide), if_neg (by decide), if_pos rfl])), rfl, hMf, hrF⟩)
  · refine k_swOut 64 dX8_datumOf_5 (inI_mk (by omega) (by omega)) h5 (by decide) ?_
    refine k_aload_n 0 0 dX8_datumOf_64 rfl rfl ?_
    refine k_useR (k_runV (c_X8_greatestRange θ.2.1 κ (mm := mm) hMf hs) w_X8_126 ⟨q_930, q_28⟩ rfl rfl cmm rfl ⟨(Nat.le_of_ble_eq_true rfl), (Nat.le_of_ble_eq_true rfl)⟩ (Nat.le_of_ble_eq_true rfl) dX8_datumOf_65) ⟨(Nat.le_of_ble_eq_true rfl), (Nat.le_of_ble_eq_true rfl)⟩ ?_
    refine k_l2i dX8_datumOf_68 ?_
    exact k_iret dX8_datumOf_69 rfl (Nat.le_of_ble_eq_true rfl) (Nat.le_of_ble_eq_true rfl) (⟨_, rfl, (congrArg (fun z => Value.int (iI z)) (by rw [dat, if_neg (by omega), if_neg (by omega), if_neg (by omega), if_neg (by omega)])), rfl, hMf, hrF⟩)
set_option maxHeartbeats 4000000 in
set_option maxRecDepth 100000 in
theorem c_X8_counted_f (la : Launch) (κ : Kx) {L : List Nat} {f : Nat → wE} {mm : Nat} {thr : Int} {σ : Sg} {what : Int}   (hMf : MSf κ L f mm thr σ) (hs : SgOk σ) (hwh : 0 ≤ what ∧ what ≤ 3) : k_M la κ yX8_counted cX8_counted 2 (some .int) 3 0 0 [.ref mm, .int (iI what)] L f (k_ro L f (.int (iI (numS σ what)))) := by
  refine k_head RX8 [(0, .ref mm), (1, .int (iI what))] rfl (by decide) (Nat.le_of_ble_eq_true rfl) rfl (fun θ hθ hin => ?_)
  obtain ⟨A, RA, PE, OF, TA, RT, RH, HS, TI, ⟨cmm, c0, c1, c2, c3, c4, c5, c6, c7⟩, ⟨hMa, hMb, hMc, hMd⟩, hHS, hTI⟩ := id hMf
  obtain ⟨hs1, ⟨hs2, hs3⟩, hs4⟩ := id hs
  have hs5 := hs1.2.1
  have hs6 := hs4.1
  have hs7 := nW_le (hT σ.1)
  have hs8 := hs1.1
  refine k_aload_n 0 0 dX8_counted_0 rfl rfl ?_
  refine k_useU (k_runV (c_X8_find_f θ.2.1 κ (σ := σ) (thr := thr) (mm := mm) hMf) w_X8_90 ⟨q_872, q_20⟩ rfl rfl cmm rfl ⟨(Nat.le_of_ble_eq_true rfl), (Nat.le_of_ble_eq_true rfl)⟩ (Nat.le_of_ble_eq_true rfl) dX8_counted_1) ⟨(Nat.le_of_ble_eq_true rfl), (Nat.le_of_ble_eq_true rfl)⟩ (fun L9 f9 hw => ?_)
  obtain ⟨e9, e8⟩ := hw
  replace e9 := e9.symm
  replace e8 := e8.symm
  subst e9
  subst e8
  refine k_iload_n 1 1 dX8_counted_4 rfl rfl ?_
  refine k_if_ne 15 dX8_counted_5 (by decide) (inI_mk (by omega) (by omega)) (fun h5 => ?_) (fun h5 => ?_)
  · refine k_iload_n 1 1 dX8_counted_15 rfl rfl ?_
    refine k_iconst dX8_counted_16 ?_
    refine k_icmp_ne 27 dX8_counted_17 (by decide) (inI_mk (by omega) (by omega)) (inI_mk (by omega) (by omega)) (fun h17 => ?_) (fun h17 => ?_)
    · refine k_iload_n 1 1 dX8_counted_27 rfl rfl ?_
      refine k_iconst dX8_counted_28 ?_
      refine k_icmp_ne 39 dX8_counted_29 (by decide) (inI_mk (by omega) (by omega)) (inI_mk (by omega) (by omega)) (fun h29 => ?_) (fun h29 => ?_)
      · refine k_aload_n 0 0 dX8_counted_39 rfl rfl ?_
        refine k_get 8 i_X8 q_791 cmm rfl (by decide) rfl dX8_counted_40 ?_
        exact k_iret dX8_counted_43 rfl (Nat.le_of_ble_eq_true rfl) (Nat.le_of_ble_eq_true rfl) (k_oki (by rw [numS, if_neg (by omega), if_neg (by omega), if_neg (by omega)]))
      · refine k_aload_n 0 0 dX8_counted_32 rfl rfl ?_
        refine k_get 6 i_X8 q_789 cmm rfl (by decide) rfl dX8_counted_33 ?_
        refine k_goto 43 dX8_counted_36 (by decide) ?_
        exact k_iret dX8_counted_43 rfl (Nat.le_of_ble_eq_true rfl) (Nat.le_of_ble_eq_true rfl) (k_oki (by rw [numS, if_neg (by omega), if_neg (by omega), if_pos (by omega)]))
    · refine k_aload_n 0 0 dX8_counted_20 rfl rfl ?_
      refine k_get 13 i_X8 q_796 cmm rfl (by decide) rfl dX8_counted_21 ?_
      refine k_goto 43 dX8_counted_24 (by decide) ?_
      exact k_iret dX8_counted_43 rfl (Nat.le_of_ble_eq_true rfl) (Nat.le_of_ble_eq_true rfl) (k_oki (by rw [numS, if_neg (by omega), if_pos (by omega)]))
  · refine k_aload_n 0 0 dX8_counted_8 rfl rfl ?_
    refine k_get 1 i_X8 q_784 cmm rfl (by decide) rfl dX8_counted_9 ?_
    refine k_goto 43 dX8_counted_12 (by decide) ?_
    exact k_iret dX8_counted_43 rfl (Nat.le_of_ble_eq_true rfl) (Nat.le_of_ble_eq_true rfl) (k_oki (by rw [numS, if_pos (by omega)]))
set_option maxHeartbeats 4000000 in
set_option maxRecDepth 100000 in
theorem c_X8_counted (la : Launch) (κ : Kx) {L : List Nat} {f : Nat → wE} {mm : Nat} {thr : Int} {σ : Sg} {what : Int}   (hM : MS κ L f mm thr σ) (hs : SgOk σ) (hwh : 0 ≤ what ∧ what ≤ 3) : k_M la κ yX8_counted cX8_counted 2 (some .int) 6 0 0 [.ref mm, .int (iI what)] L f (k_rn (fun v9 L' f' => v9 = .int (iI (numS σ what)) ∧ L' = L ∧ MSf κ L' f' mm thr σ ∧ k_fr SM L f L' f')) := by
  refine k_head RX8 [(0, .ref mm), (1, .int (iI what))] rfl (by decide) (Nat.le_of_ble_eq_true rfl) rfl (fun θ hθ hin => ?_)
  obtain ⟨fs9, cmm⟩ := hM.cl
  refine k_aload_n 0 0 dX8_counted_0 rfl rfl ?_
  refine k_useU (k_runV (c_X8_find θ.2.1 κ (σ := σ) (thr := thr) (mm := mm) hM hs) w_X8_90 ⟨q_872, q_20⟩ rfl rfl cmm rfl ⟨(Nat.le_of_ble_eq_true rfl), (Nat.le_of_ble_eq_true rfl)⟩ (Nat.le_of_ble_eq_true rfl) dX8_counted_1) ⟨(Nat.le_of_ble_eq_true rfl), (Nat.le_of_ble_eq_true rfl)⟩ (fun Lq fq hwq => ?_)
  obtain ⟨eq9, hMf, hrF⟩ := hwq
  replace eq9 := eq9.symm
  subst eq9
  obtain ⟨A, RA, PE, OF, TA, RT, RH, HS, TI, ⟨cmm, c0, c1, c2, c3, c4, c5, c6, c7⟩, ⟨hMa, hMb, hMc, hMd⟩, hHS, hTI⟩ := id hMf
  obtain ⟨hs1, ⟨hs2, hs3⟩, hs4⟩ := id hs
  have hs5 := hs1.2.1
  have hs6 := hs4.1
  have hs7 := nW_le (hT σ.1)
  have hs8 := hs1.1
  refine k_iload_n 1 1 dX8_counted_4 rfl rfl ?_
  refine k_if_ne 15 dX8_counted_5 (by decide) (inI_mk (by omega) (by omega)) (fun h5 => ?_) (fun h5 => ?_)
  · refine k_iload_n 1 1 dX8_counted_15 rfl rfl ?_
    refine k_iconst dX8_counted_16 ?_
    refine k_icmp_ne 27 dX8_counted_17 (by decide) (inI_mk (by omega) (by omega)) (inI_mk (by omega) (by omega)) (fun h17 => ?_) (fun h17 => ?_)
    · refine k_iload_n 1 1 dX8_counted_27 rfl rfl ?_
      refine k_iconst dX8_counted_28 ?_
      refine k_icmp_ne 39 dX8_counted_29 (by decide) (inI_mk (by omega) (by omega)) (inI_mk (by omega) (by omega)) (fun h29 => ?_) (fun h29 => ?_)
      · refine k_aload_n 0 0 dX8_counted_39 rfl rfl ?_
        refine k_get 8 i_X8 q_791 cmm rfl (by decide) rfl dX8_counted_40 ?_
        exact k_iret dX8_counted_43 rfl (Nat.le_of_ble_eq_true rfl) (Nat.le_of_ble_eq_true rfl) (⟨_, rfl, (congrArg (fun z => Value.int (iI z)) (by rw [numS, if_neg (by omega), if_neg (by omega), if_neg (by omega)])), rfl, hMf, hrF⟩)
      · refine k_aload_n 0 0 dX8_counted_32 rfl rfl ?_
        refine k_get 6 i_X8 q_789 cmm rfl (by decide) rfl dX8_counted_33 ?_
        refine k_goto 43 dX8_counted_36 (by decide) ?_
        exact k_iret dX8_counted_43 rfl (Nat.le_of_ble_eq_true rfl) (Nat.le_of_ble_eq_true rfl) (⟨_, rfl, (congrArg (fun z => Value.int (iI z)) (by rw [numS, if_neg (by omega), if_neg (by omega), if_pos (by omega)])), rfl, hMf, hrF⟩)
    · refine k_aload_n 0 0 dX8_counted_20 rfl rfl ?_
      refine k_get 13 i_X8 q_796 cmm rfl (by decide) rfl dX8_counted_21 ?_
      refine k_goto 43 dX8_counted_24 (by decide) ?_
      exact k_iret dX8_counted_43 rfl (Nat.le_of_ble_eq_true rfl) (Nat.le_of_ble_eq_true rfl) (⟨_, rfl, (congrArg (fun z => Value.int (iI z)) (by rw [numS, if_neg (by omega), if_pos (by omega)])), rfl, hMf, hrF⟩)
  · refine k_aload_n 0 0 dX8_counted_8 rfl rfl ?_
    refine k_get 1 i_X8 q_784 cmm rfl (by decide) rfl dX8_counted_9 ?_
    refine k_goto 43 dX8_counted_12 (by decide) ?_
    exact k_iret dX8_counted_43 rfl (Nat.le_of_ble_eq_true rfl) (Nat.le_of_ble_eq_true rfl) (⟨_, rfl, (congrArg (fun z => Value.int (iI z)) (by rw [numS, if_pos (by omega)])), rfl, hMf, hrF⟩)
set_option maxHeartbeats 4000000 in
set_option maxRecDepth 100000 in
theorem c_X8_sumOff_f (la : Launch) (κ : Kx) {L : List Nat} {f : Nat → wE} {mm : Nat} {thr : Int} {σ : Sg}   (hMf : MSf κ L f mm thr σ) (hs : SgOk σ) : k_M la κ yX8_sumOff cX8_sumOff 4 (some .long) 3 0 0 [.ref mm] L f (k_ro L f (.long (lI (sumD (hT σ.1) σ.2.2.2 σ.2.2.2.1)))) := by
  refine k_head RX8 [(0, .ref mm)] rfl (by decide) (Nat.le_of_ble_eq_true rfl) rfl (fun θ hθ hin => ?_)
  obtain ⟨A, RA, PE, OF, TA, RT, RH, HS, TI, ⟨cmm, c0, c1, c2, c3, c4, c5, c6, c7⟩, ⟨hMa, hMb, hMc, hMd⟩, hHS, hTI⟩ := id hMf
  obtain ⟨hs1, ⟨hs2, hs3⟩, hs4⟩ := id hs
  have hs5 := hs1.2.1
  have hs6 := hs4.1
  have hs7 := nW_le (hT σ.1)
  have hs8 := hs1.1
  refine k_aload_n 0 0 dX8_sumOff_0 rfl rfl ?_
  refine k_useU (k_runV (c_X8_find_f θ.2.1 κ (σ := σ) (thr := thr) (mm := mm) hMf) w_X8_90 ⟨q_872, q_20⟩ rfl rfl cmm rfl ⟨(Nat.le_of_ble_eq_true rfl), (Nat.le_of_ble_eq_true rfl)⟩ (Nat.le_of_ble_eq_true rfl) dX8_sumOff_1) ⟨(Nat.le_of_ble_eq_true rfl), (Nat.le_of_ble_eq_true rfl)⟩ (fun L9 f9 hw => ?_)
  obtain ⟨e9, e8⟩ := hw
  replace e9 := e9.symm
  replace e8 := e8.symm
  subst e9
  subst e8
  refine k_lconst 0 dX8_sumOff_4 (by decide) ?_
  refine k_lstore_n 1 [(1, .long (lI 0)), (0, .ref mm)] dX8_sumOff_5 rfl (by decide) rfl ?_
  refine k_iconst dX8_sumOff_6 ?_
  refine k_istore_n 3 [(3, .int (iI 0)), (1, .long (lI 0)), (0, .ref mm)] dX8_sumOff_7 rfl (by decide) rfl ?_
  have lp8 : ∀ (fuel : Nat) (i : Nat), (i ≤ σ.2.2.2.1) → σ.2.2.2.1 - i < fuel → k_G θ κ cX8_sumOff 4 (some .long) RX8 (k_rm 3 0 0) (k_MQ θ κ (k_ro L f (.long (lI (sumD (hT σ.1) σ.2.2.2 σ.2.2.2.1)))) 0 0) L f 0 0 8 [(0, .ref mm), (1, .long (lI (sumD (hT σ.1) σ.2.2.2 i))), (3, .int (iI (i : Int)))] [] := by
    intro fuel
    induction fuel with
    | zero =>
      intro i hi hfu
      exact absurd hfu (Nat.not_lt_zero _)
    | succ fuel ih8 =>
      intro i hi hfu
      refine k_iload_n 2 3 dX8_sumOff_8 rfl rfl ?_
      refine k_aload_n 0 0 dX8_sumOff_9 rfl rfl ?_
      refine k_get 8 i_X8 q_791 cmm rfl (by decide) rfl dX8_sumOff_10 ?_
      refine k_icmp_ge 30 dX8_sumOff_13 (by decide) (inI_mk (by omega) (by omega)) (inI_mk (by omega) (by omega)) (fun h13 => ?_) (fun h13 => ?_)
      · refine k_lload_n 1 1 dX8_sumOff_30 rfl rfl ?_
        exact k_lret dX8_sumOff_31 rfl (Nat.le_of_ble_eq_true rfl) (Nat.le_of_ble_eq_true rfl) (k_okl (by rw [show i = σ.2.2.2.1 by omega]))
      · refine k_lload_n 1 1 dX8_sumOff_16 rfl rfl ?_
        refine k_aload_n 0 0 dX8_sumOff_17 rfl rfl ?_
        refine k_iload_n 2 3 dX8_sumOff_18 rfl rfl ?_
        refine k_useR (k_runV (c_X8_off θ.2.1 κ (i := i) (mm := mm) hMf hs (by omega)) w_X8_178 ⟨q_1013, q_36⟩ rfl rfl cmm rfl ⟨(Nat.le_of_ble_eq_true rfl), (Nat.le_of_ble_eq_true rfl)⟩ (Nat.le_of_ble_eq_true rfl) dX8_sumOff_19) ⟨(Nat.le_of_ble_eq_true rfl), (Nat.le_of_ble_eq_true rfl)⟩ ?_
        refine k_ladd dX8_sumOff_22 ?_
        refine k_lstore_n 1 [(1, .long (lI ((sumD (hT σ.1) σ.2.2.2 i) + dif (hT σ.1) σ.2.2.2 i))), (0, .ref mm), (3, .int (iI (i : Int)))] dX8_sumOff_23 rfl (by decide) rfl ?_
        refine k_iinc 2 [(3, .int (iI ((i : Int) + 1))), (1, .long (lI ((sumD (hT σ.1) σ.2.2.2 i) + dif (hT σ.1) σ.2.2.2 i))), (0, .ref mm)] dX8_sumOff_24 rfl (by decide) rfl ?_
        refine k_goto 8 dX8_sumOff_27 (by decide) ?_
        refine k_perm [2, 1, 0] [(0, .ref mm), (1, .long (lI ((sumD (hT σ.1) σ.2.2.2 i) + dif (hT σ.1) σ.2.2.2 i))), (3, .int (iI ((i : Int) + 1)))] rfl ?_
        exact ih8 (i + 1) (by omega) (by omega)
  refine k_perm [2, 1, 0] [(0, .ref mm), (1, .long (lI 0)), (3, .int (iI 0))] rfl ?_
  exact lp8 _ 0 (Nat.zero_le _) (Nat.lt_succ_self _)
set_option maxHeartbeats 4000000 in
set_option maxRecDepth 100000 in
theorem c_X8_sumOff (la : Launch) (κ : Kx) {L : List Nat} {f : Nat → wE} {mm : Nat} {thr : Int} {σ : Sg}   (hM : MS κ L f mm thr σ) (hs : SgOk σ) : k_M la κ yX8_sumOff cX8_sumOff 4 (some .long) 6 0 0 [.ref mm] L f (k_rn (fun v9 L' f' => v9 = .long (lI (sumD (hT σ.1) σ.2.2.2 σ.2.2.2.1)) ∧ L' = L ∧ MSf κ L' f' mm thr σ ∧ k_fr SM L f L' f')) := by
  refine k_head RX8 [(0, .ref mm)] rfl (by decide) (Nat.le_of_ble_eq_true rfl) rfl (fun θ hθ hin => ?_)
  obtain ⟨fs9, cmm⟩ := hM.cl
  refine k_aload_n 0 0 dX8_sumOff_0 rfl rfl ?_
  refine k_useU (k_runV (c_X8_find θ.2.1 κ (σ := σ) (thr := thr) (mm := mm) hM hs) w_X8_90 ⟨q_872, q_20⟩ rfl rfl cmm rfl ⟨(Nat.le_of_ble_eq_true rfl), (Nat.le_of_ble_eq_true rfl)⟩ (Nat.le_of_ble_eq_true rfl) dX8_sumOff_1) ⟨(Nat.le_of_ble_eq_true rfl), (Nat.le_of_ble_eq_true rfl)⟩ (fun Lq fq hwq => ?_)
  obtain ⟨eq9, hMf, hrF⟩ := hwq
  replace eq9 := eq9.symm
  subst eq9
  obtain ⟨A, RA, PE, OF, TA, RT, RH, HS, TI, ⟨cmm, c0, c1, c2, c3, c4, c5, c6, c7⟩, ⟨hMa, hMb, hMc, hMd⟩, hHS, hTI⟩ := id hMf
  obtain ⟨hs1, ⟨hs2, hs3⟩, hs4⟩ := id hs
  have hs5 := hs1.2.1
  have hs6 := hs4.1
  have hs7 := nW_le (hT σ.1)
  have hs8 := hs1.1
  refine k_lconst 0 dX8_sumOff_4 (by decide) ?_
  refine k_lstore_n 1 [(1, .long (lI 0)), (0, .ref mm)] dX8_sumOff_5 rfl (by decide) rfl ?_
  refine k_iconst dX8_sumOff_6 ?_
  refine k_istore_n 3 [(3, .int (iI 0)), (1, .long (lI 0)), (0, .ref mm)] dX8_sumOff_7 rfl (by decide) rfl ?_
  have lp8 : ∀ (fuel : Nat) (i : Nat), (i ≤ σ.2.2.2.1) → σ.2.2.2.1 - i < fuel → k_G θ κ cX8_sumOff 4 (some .long) RX8 (k_rm 6 0 0) (k_MQ θ κ (k_rn (fun v9 L' f' => v9 = .long (lI (sumD (hT σ.1) σ.2.2.2 σ.2.2.2.1)) ∧ L' = L ∧ MSf κ L' f' mm thr σ ∧ k_fr SM L f L' f')) 0 0) L fq 0 0 8 [(0, .ref mm), (1, .long (lI (sumD (hT σ.1) σ.2.2.2 i))), (3, .int (iI (i : Int)))] [] := by
    intro fuel
    induction fuel with
    | zero =>
      intro i hi hfu
      exact absurd hfu (Nat.not_lt_zero _)
    | succ fuel ih8 =>
      intro i hi hfu
      refine k_iload_n 2 3 dX8_sumOff_8 rfl rfl ?_
      refine k_aload_n 0 0 dX8_sumOff_9 rfl rfl ?_
      refine k_get 8 i_X8 q_791 cmm rfl (by decide) rfl dX8_sumOff_10 ?_
      refine k_icmp_ge 30 dX8_sumOff_13 (by decide) (inI_mk (by omega) (by omega)) (inI_mk (by omega) (by omega)) (fun h13 => ?_) (fun h13 => ?_)
      · refine k_lload_n 1 1 dX8_sumOff_30 rfl rfl ?_
        exact k_lret dX8_sumOff_31 rfl (Nat.le_of_ble_eq_true rfl) (Nat.le_of_ble_eq_true rfl) (⟨_, rfl, (congrArg (fun z => Value.long (lI z)) (by rw [show i = σ.2.2.2.1 by omega])), rfl, hMf, hrF⟩)
      · refine k_lload_n 1 1 dX8_sumOff_16 rfl rfl ?_
        refine k_aload_n 0 0 dX8_sumOff_17 rfl rfl ?_
        refine k_iload_n 2 3 dX8_sumOff_18 rfl rfl ?_
        refine k_useR (k_runV (c_X8_off θ.2.1 κ (i := i) (mm := mm) hMf hs (by omega)) w_X8_178 ⟨q_1013, q_36⟩ rfl rfl cmm rfl ⟨(Nat.le_of_ble_eq_true rfl), (Nat.le_of_ble_eq_true rfl)⟩ (Nat.le_of_ble_eq_true rfl) dX8_sumOff_19) ⟨(Nat.le_of_ble_eq_true rfl), (Nat.le_of_ble_eq_true rfl)⟩ ?_
        refine k_ladd dX8_sumOff_22 ?_
        refine k_lstore_n 1 [(1, .long (lI ((sumD (hT σ.1) σ.2.2.2 i) + dif (hT σ.1) σ.2.2.2 i))), (0, .ref mm), (3, .int (iI (i : Int)))] dX8_sumOff_23 rfl (by decide) rfl ?_
        refine k_iinc 2 [(3, .int (iI ((i : Int) + 1))), (1, .long (lI ((sumD (hT σ.1) σ.2.2.2 i) + dif (hT σ.1) σ.2.2.2 i))), (0, .ref mm)] dX8_sumOff_24 rfl (by decide) rfl ?_
        refine k_goto 8 dX8_sumOff_27 (by decide) ?_
        refine k_perm [2, 1, 0] [(0, .ref mm), (1, .long (lI ((sumD (hT σ.1) σ.2.2.2 i) + dif (hT σ.1) σ.2.2.2 i))), (3, .int (iI ((i : Int) + 1)))] rfl ?_
        exact ih8 (i + 1) (by omega) (by omega)
  refine k_perm [2, 1, 0] [(0, .ref mm), (1, .long (lI 0)), (3, .int (iI 0))] rfl ?_
  exact lp8 _ 0 (Nat.zero_le _) (Nat.lt_succ_self _)
set_option maxHeartbeats 4000000 in
set_option maxRecDepth 100000 in
theorem c_X8_between (la : Launch) (κ : Kx) {L : List Nat} {f : Nat → wE} {mm : Nat} {thr : Int} {σ : Sg} {p k : Nat} {t : Int}   (hMf : MSf κ L f mm thr σ) (hs : SgOk σ) (hp : p < σ.2.1) (hk : k + 1 < nW (hT σ.1)) (ht1 : pT (hT σ.1) (σ.2.2.1 p) k ≤ t) (ht2 : t < pT (hT σ.1) (σ.2.2.1 p) (k + 1)) : k_M la κ yX8_between cX8_between 9 (some .long) 3 0 0 [.ref mm, .int (iI (p : Int)), .int (iI (k : Int)), .int (iI t)] L f (k_ro L f (.long (lI (btw (hT σ.1) (σ.2.2.1 p) (k + 1) t)))) := by
  refine k_head RX8 [(0, .ref mm), (1, .int (iI (p : Int))), (2, .int (iI (k : Int))), (3, .int (iI t))] rfl (by decide) (Nat.le_of_ble_eq_true rfl) rfl (fun θ hθ hin => ?_)
  obtain ⟨A, RA, PE, OF, TA, RT, RH, HS, TI, ⟨cmm, c0, c1, c2, c3, c4, c5, c6, c7⟩, ⟨hMa, hMb, hMc, hMd⟩, hHS, hTI⟩ := id hMf
  obtain ⟨hs1, ⟨hs2, hs3⟩, hs4⟩ := id hs
  have hs5 := hs1.2.1
  have hs6 := hs4.1
  have hs7 := nW_le (hT σ.1)
  have hs8 := hs1.1
  have hok := hs3 p hp
  have b1 := pT_bd (h := (hT σ.1)) hok (k := k) (by omega)
  have b2 := pT_bd (h := (hT σ.1)) hok (k := k + 1) (by omega)
  have b3 := pH_bd (h := (hT σ.1)) hok (hT_bd hs1) k
  have b4 := pH_bd (h := (hT σ.1)) hok (hT_bd hs1) (k + 1)
  have bw := btw_bd (h := (hT σ.1)) hok (hT_bd hs1) hk ht1 ht2
  refine k_aload_n 0 0 dX8_between_0 rfl rfl ?_
  refine k_iload_n 1 1 dX8_between_1 rfl rfl ?_
  refine k_iload_n 2 2 dX8_between_2 rfl rfl ?_
  refine k_iconst dX8_between_3 ?_
  refine k_iadd dX8_between_4 ?_
  refine k_topi ((k + 1 : Nat) : Int) (by omega) ?_
  refine k_useR (k_runV (c_X8_timeAt θ.2.1 κ (k := (k + 1)) (mm := mm) (p := p) hMf hs hp (by omega)) w_X8_146 ⟨q_963, q_31⟩ rfl rfl cmm rfl ⟨(Nat.le_of_ble_eq_true rfl), (Nat.le_of_ble_eq_true rfl)⟩ (Nat.le_of_ble_eq_true rfl) dX8_between_5) ⟨(Nat.le_of_ble_eq_true rfl), (Nat.le_of_ble_eq_true rfl)⟩ ?_
  refine k_aload_n 0 0 dX8_between_8 rfl rfl ?_
  refine k_iload_n 1 1 dX8_between_9 rfl rfl ?_
  refine k_iload_n 2 2 dX8_between_10 rfl rfl ?_
  refine k_useR (k_runV (c_X8_timeAt θ.2.1 κ (k := k) (mm := mm) (p := p) hMf hs hp (by omega)) w_X8_146 ⟨q_963, q_31⟩ rfl rfl cmm rfl ⟨(Nat.le_of_ble_eq_true rfl), (Nat.le_of_ble_eq_true rfl)⟩ (Nat.le_of_ble_eq_true rfl) dX8_between_11) ⟨(Nat.le_of_ble_eq_true rfl), (Nat.le_of_ble_eq_true rfl)⟩ ?_
  refine k_isub dX8_between_14 ?_
  refine k_i2l dX8_between_15 (inI_mk (by omega) (by omega)) ?_
  refine k_lstore [(4, .long (lI (pT (hT σ.1) (σ.2.2.1 p) (k + 1) - pT (hT σ.1) (σ.2.2.1 p) k))), (0, .ref mm), (1, .int (iI (p : Int))), (2, .int (iI (k : Int))), (3, .int (iI t))] dX8_between_16 (by decide) rfl ?_
  refine k_iload_n 4 3 dX8_between_18 rfl rfl ?_
  refine k_aload_n 1 0 dX8_between_19 rfl rfl ?_
  refine k_iload_n 2 1 dX8_between_20 rfl rfl ?_
  refine k_iload_n 3 2 dX8_between_21 rfl rfl ?_
  refine k_useR (k_runV (c_X8_timeAt θ.2.1 κ (k := k) (mm := mm) (p := p) hMf hs hp (by omega)) w_X8_146 ⟨q_963, q_31⟩ rfl rfl cmm rfl ⟨(Nat.le_of_ble_eq_true rfl), (Nat.le_of_ble_eq_true rfl)⟩ (Nat.le_of_ble_eq_true rfl) dX8_between_22) ⟨(Nat.le_of_ble_eq_true rfl), (Nat.le_of_ble_eq_true rfl)⟩ ?_
  refine k_isub dX8_between_25 ?_
  refine k_i2l dX8_between_26 (inI_mk (by omega) (by omega)) ?_
  refine k_lstore [(6, .long (lI (t - pT (hT σ.1) (σ.2.2.1 p) k))), (4, .long (lI (pT (hT σ.1) (σ.2.2.1 p) (k + 1) - pT (hT σ.1) (σ.2.2.1 p) k))), (0, .ref mm), (1, .int (iI (p : Int))), (2, .int (iI (k : Int))), (3, .int (iI t))] dX8_between_27 (by decide) rfl ?_
  refine k_ldc2 6 q_986 (by decide) dX8_between_29 ?_
  refine k_lload 0 dX8_between_32 rfl ?_
  refine k_lmul dX8_between_34 ?_
  refine k_lload 1 dX8_between_35 rfl ?_
  refine k_ldiv dX8_between_37 (inL_mk (by omega) (by omega)) (inL_mk (by omega) (by omega)) (by omega) ?_
  obtain ⟨sx1, sx2, sx3, sx4⟩ := sx_bd (e := t - pT (hT σ.1) (σ.2.2.1 p) k) (d := pT (hT σ.1) (σ.2.2.1 p) (k + 1) - pT (hT σ.1) (σ.2.2.1 p) k) (by omega) (by omega)
  obtain ⟨sx, hsx⟩ : ∃ sx : Nat, (6 * (t - pT (hT σ.1) (σ.2.2.1 p) k)).tdiv (pT (hT σ.1) (σ.2.2.1 p) (k + 1) - pT (hT σ.1) (σ.2.2.1 p) k) = (sx : Int) := ⟨_, (Int.toNat_of_nonneg sx1).symm⟩
  have h6 : sx < 6 := by omega
  obtain ⟨g1, g2⟩ := tw_get h6
  have g3 := twA_bd (sx : Int)
  have g4 := twI_bd (sx : Int)
  rw [g1] at g3
  rw [g2] at g4
  rw [gone, hsx, g1, g2] at bw
  refine k_topl (sx : Int) hsx ?_
  refine k_l2i dX8_between_38 ?_
  refine k_istore [(8, .int (iI (sx : Int))), (6, .long (lI (t - pT (hT σ.1) (σ.2.2.1 p) k))), (4, .long (lI (pT (hT σ.1) (σ.2.2.1 p) (k + 1) - pT (hT σ.1) (σ.2.2.1 p) k))), (0, .ref mm), (1, .int (iI (p : Int))), (2, .int (iI (k : Int))), (3, .int (iI t))] dX8_between_39 (by decide) rfl ?_
  refine k_aload_n 3 0 dX8_between_41 rfl rfl ?_
  refine k_iload_n 4 1 dX8_between_42 rfl rfl ?_
  refine k_iload_n 5 2 dX8_between_43 rfl rfl ?_
  refine k_useR (k_runV (c_X8_heightAt θ.2.1 κ (k := k) (mm := mm) (p := p) hMf hs hp (by omega)) w_X8_152 ⟨q_971, q_32⟩ rfl rfl cmm rfl ⟨(Nat.le_of_ble_eq_true rfl), (Nat.le_of_ble_eq_true rfl)⟩ (Nat.le_of_ble_eq_true rfl) dX8_between_44) ⟨(Nat.le_of_ble_eq_true rfl), (Nat.le_of_ble_eq_true rfl)⟩ ?_
  refine k_aload_n 3 0 dX8_between_47 rfl rfl ?_
  refine k_iload_n 4 1 dX8_between_48 rfl rfl ?_
  refine k_iload_n 5 2 dX8_between_49 rfl rfl ?_
  refine k_iconst dX8_between_50 ?_
  refine k_iadd dX8_between_51 ?_
  refine k_topi ((k + 1 : Nat) : Int) (by omega) ?_
  refine k_useR (k_runV (c_X8_heightAt θ.2.1 κ (k := (k + 1)) (mm := mm) (p := p) hMf hs hp (by omega)) w_X8_152 ⟨q_971, q_32⟩ rfl rfl cmm rfl ⟨(Nat.le_of_ble_eq_true rfl), (Nat.le_of_ble_eq_true rfl)⟩ (Nat.le_of_ble_eq_true rfl) dX8_between_52) ⟨(Nat.le_of_ble_eq_true rfl), (Nat.le_of_ble_eq_true rfl)⟩ ?_
  refine k_aload_n 3 0 dX8_between_55 rfl rfl ?_
  refine k_iload_n 4 1 dX8_between_56 rfl rfl ?_
  refine k_iload_n 5 2 dX8_between_57 rfl rfl ?_
  refine k_useR (k_runV (c_X8_heightAt θ.2.1 κ (k := k) (mm := mm) (p := p) hMf hs hp (by omega)) w_X8_152 ⟨q_971, q_32⟩ rfl rfl cmm rfl ⟨(Nat.le_of_ble_eq_true rfl), (Nat.le_of_ble_eq_true rfl)⟩ (Nat.le_of_ble_eq_true rfl) dX8_between_58) ⟨(Nat.le_of_ble_eq_true rfl), (Nat.le_of_ble_eq_true rfl)⟩ ?_
  refine k_lsub dX8_between_61 ?_
  refine k_gets k_Zs2 q_987 dX8_between_62 ?_
  refine k_iload 0 dX8_between_65 rfl ?_
  refine k_ti k_Zs2 sx rfl (by omega) dX8_between_67 ?_
  refine k_i2l dX8_between_68 (inI_mk (by omega) (by omega)) ?_
  refine k_lload 2 dX8_between_69 rfl ?_
  refine k_lmul dX8_between_71 ?_
  refine k_gets k_Zs3 q_989 dX8_between_72 ?_
  refine k_iload 0 dX8_between_75 rfl ?_
  refine k_ti k_Zs3 sx rfl (by omega) dX8_between_77 ?_
  refine k_i2l dX8_between_78 (inI_mk (by omega) (by omega)) ?_
  refine k_ldc2 6 q_986 (by decide) dX8_between_79 ?_
  refine k_lload 1 dX8_between_82 rfl ?_
  refine k_lmul dX8_between_84 ?_
  refine k_iload 0 dX8_between_85 rfl ?_
  refine k_i2l dX8_between_87 (inI_mk (by omega) (by omega)) ?_
  refine k_lload 2 dX8_between_88 rfl ?_
  refine k_lmul dX8_between_90 ?_
  refine k_lsub dX8_between_91 ?_
  refine k_lmul dX8_between_92 ?_
  refine k_ladd dX8_between_93 ?_
  refine k_lmul dX8_between_94 ?_
  refine k_ldc2 12 q_991 (by decide) dX8_between_95 ?_
  refine k_lload 2 dX8_between_98 rfl ?_
  refine k_lmul dX8_between_100 ?_
  refine k_ldiv dX8_between_101 (inL_mk (by omega) (by omega)) (inL_mk (by omega) (by omega)) (by omega) ?_
  refine k_ladd dX8_between_102 ?_
  exact k_lret dX8_between_103 rfl (Nat.le_of_ble_eq_true rfl) (Nat.le_of_ble_eq_true rfl) (k_okl (by unfold btw; rw [show k + 1 - 1 = k from rfl, gone, hsx, g1, g2]))
set_option maxHeartbeats 4000000 in
set_option maxRecDepth 100000 in
theorem c_X8_waterAhead (la : Launch) (κ : Kx) {L : List Nat} {f : Nat → wE} {mm : Nat} {thr : Int} {σ : Sg} {p : Nat} {t : Int}   (hM : MS κ L f mm thr σ) (hs : SgOk σ) (hp : p < σ.2.1) (ht : inI t) : k_M la κ yX8_waterAhead cX8_waterAhead 4 (some .int) 7 0 0 [.ref mm, .int (iI (p : Int)), .int (iI t)] L f (k_rn (fun v9 L' f' => v9 = .int (iI (aheadS σ p t)) ∧ L' = L ∧ MSf κ L' f' mm thr σ ∧ k_fr SM L f L' f')) := by
  refine k_head RX8 [(0, .ref mm), (1, .int (iI (p : Int))), (2, .int (iI t))] rfl (by decide) (Nat.le_of_ble_eq_true rfl) rfl (fun θ hθ hin => ?_)
  obtain ⟨fs9, cmm⟩ := hM.cl
  refine k_aload_n 0 0 dX8_waterAhead_0 rfl rfl ?_
  refine k_iload_n 1 1 dX8_waterAhead_1 rfl rfl ?_
  refine k_useV (k_runV (c_X8_isOrdered θ.2.1 κ (p := p) (σ := σ) (mm := mm) hM hs hp) w_X8_149 ⟨q_959, q_30⟩ rfl rfl cmm rfl ⟨(Nat.le_of_ble_eq_true rfl), (Nat.le_of_ble_eq_true rfl)⟩ (Nat.le_of_ble_eq_true rfl) dX8_waterAhead_2) ⟨(Nat.le_of_ble_eq_true rfl), (Nat.le_of_ble_eq_true rfl)⟩ (fun w9 Lq fq hwq => ?_)
  obtain ⟨rfl, eq9, hMf, hrF⟩ := hwq
  replace eq9 := eq9.symm
  subst eq9
  obtain ⟨A, RA, PE, OF, TA, RT, RH, HS, TI, ⟨cmm, c0, c1, c2, c3, c4, c5, c6, c7⟩, ⟨hMa, hMb, hMc, hMd⟩, hHS, hTI⟩ := id hMf
  obtain ⟨hs1, ⟨hs2, hs3⟩, hs4⟩ := id hs
  have hs5 := hs1.2.1
  have hs6 := hs4.1
  have hs7 := nW_le (hT σ.1)
  have hs8 := hs1.1
  refine k_ifb_ne 10 dX8_waterAhead_5 (by decide) (fun h5 => ?_) (fun h5 => ?_)
  · refine k_iconst dX8_waterAhead_10 ?_
    refine k_istore_n 3 [(3, .int (iI (-1))), (0, .ref mm), (1, .int (iI (p : Int))), (2, .int (iI t))] dX8_waterAhead_11 rfl (by decide) rfl ?_
    have lp12 : ∀ (fuel : Nat) (x : Nat) (a : Int), (x ≤ nW (hT σ.1)) → (a = (x : Int) - 1) → (lat (hT σ.1) (σ.2.2.1 p) t x = lat (hT σ.1) (σ.2.2.1 p) t 0) → nW (hT σ.1) - x < fuel → k_G θ κ cX8_waterAhead 4 (some .int) RX8 (k_rm 7 0 0) (k_MQ θ κ (k_rn (fun v9 L' f' => v9 = .int (iI (aheadS σ p t)) ∧ L' = L ∧ MSf κ L' f' mm thr σ ∧ k_fr SM L f L' f')) 0 0) L fq 0 0 12 [(0, .ref mm), (1, .int (iI (p : Int))), (2, .int (iI t)), (3, .int (iI a))] [] := by
      intro fuel
      induction fuel with
      | zero =>
        intro x a hx ha hl hfu
        exact absurd hfu (Nat.not_lt_zero _)
      | succ fuel ih12 =>
        intro x a hx ha hl hfu
        refine k_iload_n 3 3 dX8_waterAhead_12 rfl rfl ?_
        refine k_iconst dX8_waterAhead_13 ?_
        refine k_iadd dX8_waterAhead_14 ?_
        refine k_topi (x : Int) (by omega) ?_
        refine k_aload_n 0 0 dX8_waterAhead_15 rfl rfl ?_
        refine k_get 13 i_X8 q_796 cmm rfl (by decide) rfl dX8_waterAhead_16 ?_
        refine k_icmp_ge 40 dX8_waterAhead_19 (by decide) (inI_mk (by omega) (by omega)) (inI_mk (by omega) (by omega)) (fun h19 => ?_) (fun h19 => ?_)
        · refine k_iload_n 3 3 dX8_waterAhead_40 rfl rfl ?_
          refine k_iconst dX8_waterAhead_41 ?_
          refine k_iadd dX8_waterAhead_42 ?_
          refine k_topi (x : Int) (by omega) ?_
          refine k_aload_n 0 0 dX8_waterAhead_43 rfl rfl ?_
          refine k_get 13 i_X8 q_796 cmm rfl (by decide) rfl dX8_waterAhead_44 ?_
          refine k_icmp_ge 54 dX8_waterAhead_47 (by decide) (inI_mk (by omega) (by omega)) (inI_mk (by omega) (by omega)) (fun h47 => ?_) (fun h47 => ?_)
          · refine k_iconst dX8_waterAhead_54 ?_
            exact k_iret dX8_waterAhead_55 rfl (Nat.le_of_ble_eq_true rfl) (Nat.le_of_ble_eq_true rfl) (⟨_, rfl, (congrArg (fun z => Value.int (iI z)) (by rw [aheadS, if_pos h5, ← hl, lat_stop (fun q9 => by omega), if_neg (by omega)])), rfl, hMf, hrF⟩)
          · refine k_iload_n 3 3 dX8_waterAhead_50 rfl rfl ?_
            refine k_goto 55 dX8_waterAhead_51 (by decide) ?_
            exact k_iret dX8_waterAhead_55 rfl (Nat.le_of_ble_eq_true rfl) (Nat.le_of_ble_eq_true rfl) (⟨_, rfl, (congrArg (fun z => Value.int (iI z)) (by rw [aheadS, if_pos h5, ← hl, lat_stop (fun q9 => by omega), if_pos (by omega)]; exact ha)), rfl, hMf, hrF⟩)
        · refine k_aload_n 0 0 dX8_waterAhead_22 rfl rfl ?_
          refine k_iload_n 1 1 dX8_waterAhead_23 rfl rfl ?_
          refine k_iload_n 3 3 dX8_waterAhead_24 rfl rfl ?_
          refine k_iconst dX8_waterAhead_25 ?_
          refine k_iadd dX8_waterAhead_26 ?_
          refine k_topi (x : Int) (by omega) ?_
          refine k_useR (k_runV (c_X8_timeAt θ.2.1 κ (k := x) (mm := mm) (p := p) hMf hs hp (by omega)) w_X8_146 ⟨q_963, q_31⟩ rfl rfl cmm rfl ⟨(Nat.le_of_ble_eq_true rfl), (Nat.le_of_ble_eq_true rfl)⟩ (Nat.le_of_ble_eq_true rfl) dX8_waterAhead_27) ⟨(Nat.le_of_ble_eq_true rfl), (Nat.le_of_ble_eq_true rfl)⟩ ?_
          have hb1 := pT_bd (h := (hT σ.1)) (hs3 p hp) (k := x) (by omega)
          refine k_iload_n 2 2 dX8_waterAhead_30 rfl rfl ?_
          refine k_icmp_gt 40 dX8_waterAhead_31 (by decide) (inI_mk (by omega) (by omega)) ht (fun h31 => ?_) (fun h31 => ?_)
          · refine k_iload_n 3 3 dX8_waterAhead_40 rfl rfl ?_
            refine k_iconst dX8_waterAhead_41 ?_
            refine k_iadd dX8_waterAhead_42 ?_
            refine k_topi (x : Int) (by omega) ?_
            refine k_aload_n 0 0 dX8_waterAhead_43 rfl rfl ?_
            refine k_get 13 i_X8 q_796 cmm rfl (by decide) rfl dX8_waterAhead_44 ?_
            refine k_icmp_ge 54 dX8_waterAhead_47 (by decide) (inI_mk (by omega) (by omega)) (inI_mk (by omega) (by omega)) (fun h47 => ?_) (fun h47 => ?_)
            · refine k_iconst dX8_waterAhead_54 ?_
              exact k_iret dX8_waterAhead_55 rfl (Nat.le_of_ble_eq_true rfl) (Nat.le_of_ble_eq_true rfl) (⟨_, rfl, (congrArg (fun z => Value.int (iI z)) (by rw [aheadS, if_pos h5, ← hl, lat_stop (fun q9 => by omega), if_neg (by omega)])), rfl, hMf, hrF⟩)
            · refine k_iload_n 3 3 dX8_waterAhead_50 rfl rfl ?_
              refine k_goto 55 dX8_waterAhead_51 (by decide) ?_
              exact k_iret dX8_waterAhead_55 rfl (Nat.le_of_ble_eq_true rfl) (Nat.le_of_ble_eq_true rfl) (⟨_, rfl, (congrArg (fun z => Value.int (iI z)) (by rw [aheadS, if_pos h5, ← hl, lat_stop (fun q9 => by omega), if_pos (by omega)]; exact ha)), rfl, hMf, hrF⟩)
          · refine k_iinc 3 [(3, .int (iI (a + 1))), (0, .ref mm), (1, .int (iI (p : Int))), (2, .int (iI t))] dX8_waterAhead_34 rfl (by decide) rfl ?_
            refine k_goto 12 dX8_waterAhead_37 (by decide) ?_
            refine k_perm [1, 2, 3, 0] [(0, .ref mm), (1, .int (iI (p : Int))), (2, .int (iI t)), (3, .int (iI (a + 1)))] rfl ?_
            exact ih12 (x + 1) (a + 1) (by omega) (by omega) ((lat_go (by omega) (by omega)).symm.trans hl) (by omega)
    refine k_perm [1, 2, 3, 0] [(0, .ref mm), (1, .int (iI (p : Int))), (2, .int (iI t)), (3, .int (iI (-1)))] rfl ?_
    exact lp12 _ 0 (-1) (Nat.zero_le _) rfl rfl (Nat.lt_succ_self _)
  · refine k_iconst dX8_waterAhead_8 ?_
    exact k_iret dX8_waterAhead_9 rfl (Nat.le_of_ble_eq_true rfl) (Nat.le_of_ble_eq_true rfl) (⟨_, rfl, (congrArg (fun z => Value.int (iI z)) (by rw [aheadS, if_neg (by rw [h5]; decide)])), rfl, hMf, hrF⟩)
