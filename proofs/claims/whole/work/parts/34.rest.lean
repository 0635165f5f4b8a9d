set_option maxHeartbeats 4000000 in
set_option maxRecDepth 100000 in
theorem c_X7_read (la : Launch) (κ : Kx) {L : List Nat} {f : Nat → wE} {tt td tb pl rl : Nat} {old : Bool} {σ : Sg} {t ht9 : Int}  (hC : CSF κ L f tt td tb pl rl old σ) (hts : la.stackTraces = false) (hs : SgOk σ) (hti : inI t) (hhi : inI ht9) : k_MX la κ yX7_read cX7_read 3 (some .int) 8 2 62 [.ref tt, .int (iI t), .int (iI ht9)] L f (k_rn (fun v9 L' f' => xRead σ t ht9 = none ∧ v9 = .int (iI ((σ.2.2.2.1 : Int) + 1)) ∧ CS κ L' f' tt (sRead σ t ht9) ∧ k_fr SC L f L' f')) (fun E L' f' => xRead σ t ht9 = some E ∧ CS κ L' f' tt σ ∧ k_fr SC L f L' f') := by
  refine k_headX RX7 [(0, .ref tt), (1, .int (iI t)), (2, .int (iI ht9))] rfl (by decide) (Nat.le_of_ble_eq_true rfl) rfl (fun θ hθ hin hth => ?_)
  have hts2 : θ.2.1.stackTraces = false := by rw [hθ]; exact hts
  obtain ⟨ctt, hTd, hTx, hPs, hRs⟩ := id hC
  obtain ⟨rv, hLr, hRv⟩ := id hRs
  obtain ⟨md3, E3, crl⟩ := hLr.cl
  obtain ⟨hs1, ⟨hs2, hs3⟩, hs4⟩ := id hs
  have hs5 := hs1.2.1
  have hs6 := hs4.1
  have hs7 := nW_le (hT σ.1)
  have hs8 := hs1.1
  refine k_iload_n 1 1 dX7_read_0 rfl rfl ?_
  refine k_useR (k_runS (c_X7_isMinute θ.2.1 κ (z := t) hti) w_X7_95 q_292 rfl rfl ⟨(Nat.le_of_ble_eq_true rfl), (Nat.le_of_ble_eq_true rfl)⟩ (Nat.le_of_ble_eq_true rfl) dX7_read_1) ⟨(Nat.le_of_ble_eq_true rfl), (Nat.le_of_ble_eq_true rfl)⟩ ?_
  refine k_ifb_ne 17 dX7_read_4 (by decide) (fun h4 => ?_) (fun h4 => ?_)
  · have hd4 := of_decide_eq_true h4
    refine k_iload_n 2 2 dX7_read_17 rfl rfl ?_
    refine k_ldc (-50000) q_741 (by decide) dX7_read_18 ?_
    refine k_ldc 50000 q_742 (by decide) dX7_read_20 ?_
    refine k_useR (k_runS (c_X7_isWithin θ.2.1 κ (z := ht9) (a := (-50000)) (b := 50000) hhi (inI_mk (by omega) (by omega)) (inI_mk (by omega) (by omega))) w_X7_37 q_295 rfl rfl ⟨(Nat.le_of_ble_eq_true rfl), (Nat.le_of_ble_eq_true rfl)⟩ (Nat.le_of_ble_eq_true rfl) dX7_read_22) ⟨(Nat.le_of_ble_eq_true rfl), (Nat.le_of_ble_eq_true rfl)⟩ ?_
    refine k_ifb_ne 38 dX7_read_25 (by decide) (fun h25 => ?_) (fun h25 => ?_)
    · have hd25 := of_decide_eq_true h25
      refine k_aload_n 0 0 dX7_read_38 rfl rfl ?_
      refine k_get 3 i_X7 q_142 ctt rfl (by decide) rfl dX7_read_39 ?_
      refine k_useR (k_runV (c_Jx4a65c_size_8abf5 θ.2.1 κ (n := σ.2.2.2.1) (g := rv) (l := rl) hLr) w_X7_55 ⟨q_160, q_161⟩ rfl rfl crl rfl ⟨(Nat.le_of_ble_eq_true rfl), (Nat.le_of_ble_eq_true rfl)⟩ (Nat.le_of_ble_eq_true rfl) dX7_read_42) ⟨(Nat.le_of_ble_eq_true rfl), (Nat.le_of_ble_eq_true rfl)⟩ ?_
      refine k_bipush dX7_read_45 (by decide) ?_
      refine k_icmp_lt 60 dX7_read_47 (by decide) (inI_mk (by omega) (by omega)) (inI_mk (by omega) (by omega)) (fun h47 => ?_) (fun h47 => ?_)
      · refine k_aload_n 0 0 dX7_read_60 rfl rfl ?_
        refine k_get 3 i_X7 q_142 ctt rfl (by decide) rfl dX7_read_61 ?_
        obtain ⟨tn, rfl⟩ : ∃ tn : Nat, t = (tn : Int) := ⟨t.toNat, by omega⟩
        have hTX : TX κ L f tb old σ.1 := hTx
        refine k_new (ci := 3) 18 [.int (iI 0), .int (iI 0)] i_X2 tyX2_ok q_185 q_745 q_61 rfl dv_X2 (Nat.le_of_ble_eq_true rfl) (Nat.le_of_ble_eq_true rfl) dX7_read_64 (fun r9 L1 f1 hz1 hn1 hc1 => ?_)
        have hr1 := k_fr.new hz1
        replace ctt := ctt.fr hr1 rfl
        replace crl := crl.fr hr1 rfl
        have cR9 : Cl L1 f1 r9 (18, .inr (3, [.int (iI 0), .int (iI 0)])) := hc1
        refine k_dup dX7_read_67 rfl ?_
        refine k_iload_n 1 1 dX7_read_68 rfl rfl ?_
        refine k_iload_n 2 2 dX7_read_69 rfl rfl ?_
        refine k_useU (k_runI (c_X2_init θ.2.1 κ (rd := r9) (t := (tn : Int)) (v := ht9) cR9) w_X7_216 q_747 rfl rfl rfl ⟨(Nat.le_of_ble_eq_true rfl), (Nat.le_of_ble_eq_true rfl)⟩ (Nat.le_of_ble_eq_true rfl) dX7_read_70) ⟨(Nat.le_of_ble_eq_true rfl), (Nat.le_of_ble_eq_true rfl)⟩ (fun Lfr9 fr9 hw => ?_)
        obtain ⟨efr9, hnfr9, cfr9⟩ := hw
        replace efr9 := efr9.symm
        subst efr9
        have hrfr9 := k_fr.put hnfr9 cR9
        replace ctt := ctt.fr hrfr9 rfl
        replace crl := crl.fr hrfr9 rfl
        replace cR9 := cfr9
        have hkfr9 := k_new2 hz1 hn1 hnfr9
        replace hTX := hTX.fr hkfr9 rfl
        replace hTd := hTd.fr hkfr9 rfl
        replace hPs := hPs.fr hkfr9 rfl
        replace hLr := hLr.fr hkfr9 rfl
        have hRv1 := fun i (hi : i < σ.2.2.2.1) => (hRv i hi).fr hkfr9 rfl
        refine k_useV (k_runV (c_Jx4a65c_add_9ea2d θ.2.1 κ (tl := 5) (ta := 13) (tv := 18) (n := σ.2.2.2.1) (ci := 3) (g := rv) (l := rl) (v := r9) hLr cR9 (by decide) ⟨by decide, by decide⟩ (by omega) rfl q_1042 (fun i hi => ⟨18, _, hRv1 i hi, by decide, by decide⟩)) w_X7_69 ⟨q_436, q_437⟩ rfl rfl crl rfl ⟨(Nat.le_of_ble_eq_true rfl), (Nat.le_of_ble_eq_true rfl)⟩ (Nat.le_of_ble_eq_true rfl) dX7_read_73) ⟨(Nat.le_of_ble_eq_true rfl), (Nat.le_of_ble_eq_true rfl)⟩ (fun w9 La fa hw9 => ?_)
        obtain ⟨rfl, hL9, hra⟩ := hw9
        replace ctt := ctt.fr hra rfl
        replace cR9 := cR9.fr hra rfl
        replace hTX := hTX.fr hra rfl
        replace hTd := hTd.fr hra rfl
        replace hPs := hPs.fr hra rfl
        replace hLr := hL9
        clear hL9
        obtain ⟨md9, E9, c9l⟩ := hLr.cl
        have hRs2 := ReadsR.add (fun i hi => (hRv1 i hi).fr hra rfl) hLr cR9
        refine k_pop dX7_read_76 rfl ?_
        refine k_aload_n 0 0 dX7_read_77 rfl rfl ?_
        refine k_get 3 i_X7 q_142 ctt rfl (by decide) rfl dX7_read_78 ?_
        refine k_useR (k_runV (c_Jx4a65c_size_8abf5 θ.2.1 κ (n := (σ.2.2.2.1 + 1)) (g := (va_up rv σ.2.2.2.1 r9)) (l := rl) hLr) w_X7_55 ⟨q_160, q_161⟩ rfl rfl c9l rfl ⟨(Nat.le_of_ble_eq_true rfl), (Nat.le_of_ble_eq_true rfl)⟩ (Nat.le_of_ble_eq_true rfl) dX7_read_81) ⟨(Nat.le_of_ble_eq_true rfl), (Nat.le_of_ble_eq_true rfl)⟩ ?_
        exact k_xr (k_iret dX7_read_84 rfl (Nat.le_of_ble_eq_true rfl) (Nat.le_of_ble_eq_true rfl) (⟨_, rfl, (by rw [xRead, if_pos hd4, if_pos hd25, if_pos (by omega)]), (congrArg (fun z => Value.int (iI z)) (by omega)), ⟨td, tb, pl, rl, old, ctt, hTd, hTX, hPs, hRs2⟩, (k_fr.trans (k_fr.mono hkfr9 (fun _ _ => rfl)) hra idf (SC_S2 rfl rfl))⟩))
      · exact k_throw (si := 20) hts2 hth x_IS (by decide) rfl dX7_read_50 dX7_read_53 dX7_read_54 dX7_read_56 dX7_read_59 ⟨(Nat.le_of_ble_eq_true rfl), (Nat.le_of_ble_eq_true rfl), (Nat.le_of_ble_eq_true rfl), (Nat.le_of_ble_eq_true rfl)⟩ (Nat.le_of_ble_eq_true rfl) ⟨(Nat.le_of_ble_eq_true rfl), (Nat.le_of_ble_eq_true rfl)⟩ (⟨(by rw [xRead, if_pos hd4, if_pos hd25, if_neg (by omega)]), hC.cs, k_fr.refl⟩)
    · have hd25 := of_decide_eq_false h25
      exact k_throw (si := 19) hts2 hth x_IA (by decide) rfl dX7_read_28 dX7_read_31 dX7_read_32 dX7_read_34 dX7_read_37 ⟨(Nat.le_of_ble_eq_true rfl), (Nat.le_of_ble_eq_true rfl), (Nat.le_of_ble_eq_true rfl), (Nat.le_of_ble_eq_true rfl)⟩ (Nat.le_of_ble_eq_true rfl) ⟨(Nat.le_of_ble_eq_true rfl), (Nat.le_of_ble_eq_true rfl)⟩ (⟨(by rw [xRead, if_pos hd4, if_neg hd25]), hC.cs, k_fr.refl⟩)
  · have hd4 := of_decide_eq_false h4
    exact k_throw (si := 6) hts2 hth x_IA (by decide) rfl dX7_read_7 dX7_read_10 dX7_read_11 dX7_read_13 dX7_read_16 ⟨(Nat.le_of_ble_eq_true rfl), (Nat.le_of_ble_eq_true rfl), (Nat.le_of_ble_eq_true rfl), (Nat.le_of_ble_eq_true rfl)⟩ (Nat.le_of_ble_eq_true rfl) ⟨(Nat.le_of_ble_eq_true rfl), (Nat.le_of_ble_eq_true rfl)⟩ (⟨(by rw [xRead, if_neg hd4]), hC.cs, k_fr.refl⟩)
set_option maxHeartbeats 4000000 in
set_option maxRecDepth 100000 in
theorem c_X7_adjust (la : Launch) (κ : Kx) {L : List Nat} {f : Nat → wE} {tt td tb pl rl : Nat} {old : Bool} {σ : Sg}   (hC : CSF κ L f tt td tb pl rl old σ) (hts : la.stackTraces = false) (hs : SgOk σ) : k_MX la κ yX7_adjust cX7_adjust 3 (some .int) 8 1 6 [.ref tt] L f (k_rn (fun v9 L' f' => xAdjust σ = none ∧ v9 = .int (iI (raised σ)) ∧ CS κ L' f' tt (sAdjust σ) ∧ k_fr SC L f L' f')) (fun E L' f' => xAdjust σ = some E ∧ CS κ L' f' tt σ ∧ k_fr SC L f L' f') := by
  refine k_headX RX7 [(0, .ref tt)] rfl (by decide) (Nat.le_of_ble_eq_true rfl) rfl (fun θ hθ hin hth => ?_)
  have hts2 : θ.2.1.stackTraces = false := by rw [hθ]; exact hts
  obtain ⟨ctt, hTd, hTx, hPs, hRs⟩ := id hC
  obtain ⟨wl, wv, ctd, hLw, hW, hWi⟩ := id hTd
  obtain ⟨md1, E1, cwl⟩ := hLw.cl
  obtain ⟨rv, hLr, hRv⟩ := id hRs
  obtain ⟨md3, E3, crl⟩ := hLr.cl
  obtain ⟨hs1, ⟨hs2, hs3⟩, hs4⟩ := id hs
  have hs5 := hs1.2.1
  have hs6 := hs4.1
  have hs7 := nW_le (hT σ.1)
  have hs8 := hs1.1
  refine k_aload_n 0 0 dX7_adjust_0 rfl rfl ?_
  refine k_get 3 i_X7 q_142 ctt rfl (by decide) rfl dX7_adjust_1 ?_
  refine k_useR (k_runV (c_Jx4a65c_isEmpty_aae02 θ.2.1 κ (n := σ.2.2.2.1) (g := rv) (l := rl) hLr) w_X7_235 ⟨q_767, q_768⟩ rfl rfl crl rfl ⟨(Nat.le_of_ble_eq_true rfl), (Nat.le_of_ble_eq_true rfl)⟩ (Nat.le_of_ble_eq_true rfl) dX7_adjust_4) ⟨(Nat.le_of_ble_eq_true rfl), (Nat.le_of_ble_eq_true rfl)⟩ ?_
  refine k_ifb_eq 20 dX7_adjust_7 (by decide) (fun h7 => ?_) (fun h7 => ?_)
  · have h7n := of_decide_eq_false h7
    have hsd := sumD_bd hs1 hs4 σ.2.2.2.1 (Nat.le_refl _)
    refine k_aload_n 0 0 dX7_adjust_20 rfl rfl ?_
    refine k_useR (k_runV (c_X7_sumOfDifferences θ.2.1 κ (tt := tt) hC hs) w_X7_219 ⟨q_165, q_0⟩ rfl rfl ctt rfl ⟨(Nat.le_of_ble_eq_true rfl), (Nat.le_of_ble_eq_true rfl)⟩ (Nat.le_of_ble_eq_true rfl) dX7_adjust_21) ⟨(Nat.le_of_ble_eq_true rfl), (Nat.le_of_ble_eq_true rfl)⟩ ?_
    refine k_aload_n 0 0 dX7_adjust_24 rfl rfl ?_
    refine k_get 3 i_X7 q_142 ctt rfl (by decide) rfl dX7_adjust_25 ?_
    refine k_useR (k_runV (c_Jx4a65c_size_8abf5 θ.2.1 κ (n := σ.2.2.2.1) (g := rv) (l := rl) hLr) w_X7_55 ⟨q_160, q_161⟩ rfl rfl crl rfl ⟨(Nat.le_of_ble_eq_true rfl), (Nat.le_of_ble_eq_true rfl)⟩ (Nat.le_of_ble_eq_true rfl) dX7_adjust_28) ⟨(Nat.le_of_ble_eq_true rfl), (Nat.le_of_ble_eq_true rfl)⟩ ?_
    refine k_i2l dX7_adjust_31 (inI_mk (by omega) (by omega)) ?_
    refine k_useR (k_runS (c_X7_quotient θ.2.1 κ (a := sumD (hT σ.1) σ.2.2.2 σ.2.2.2.1) (b := (σ.2.2.2.1 : Int)) (inL_mk (by omega) (by omega)) (inL_mk (by omega) (by omega))) w_X7_241 q_314 rfl rfl ⟨(Nat.le_of_ble_eq_true rfl), (Nat.le_of_ble_eq_true rfl)⟩ (Nat.le_of_ble_eq_true rfl) dX7_adjust_32) ⟨(Nat.le_of_ble_eq_true rfl), (Nat.le_of_ble_eq_true rfl)⟩ ?_
    refine k_topl (raised σ) (by rw [if_neg (by omega)]; rfl) ?_
    have hrb := raised_bd hs
    refine k_l2i dX7_adjust_35 ?_
    refine k_istore_n 1 [(1, .int (iI (raised σ))), (0, .ref tt)] dX7_adjust_36 rfl (by decide) rfl ?_
    refine k_aload_n 1 0 dX7_adjust_37 rfl rfl ?_
    refine k_get 0 i_X7 q_139 ctt rfl (by decide) rfl dX7_adjust_38 ?_
    refine k_getN 1 i_X5 q_105 ctd rfl (by decide) rfl dX7_adjust_41 ?_
    refine k_iload_n 0 1 dX7_adjust_44 rfl rfl ?_
    refine k_iadd dX7_adjust_45 ?_
    refine k_istore_n 2 [(2, .int (iI (σ.1.1 + (raised σ)))), (1, .int (iI (raised σ))), (0, .ref tt)] dX7_adjust_46 rfl (by decide) rfl ?_
    refine k_iload_n 0 2 dX7_adjust_47 rfl rfl ?_
    refine k_sipush dX7_adjust_48 (by decide) ?_
    refine k_sipush dX7_adjust_51 (by decide) ?_
    refine k_useR (k_runS (c_X7_isWithin θ.2.1 κ (z := (σ.1.1 + (raised σ))) (a := (-10000)) (b := 10000) (inI_mk (by omega) (by omega)) (inI_mk (by omega) (by omega)) (inI_mk (by omega) (by omega))) w_X7_37 q_295 rfl rfl ⟨(Nat.le_of_ble_eq_true rfl), (Nat.le_of_ble_eq_true rfl)⟩ (Nat.le_of_ble_eq_true rfl) dX7_adjust_54) ⟨(Nat.le_of_ble_eq_true rfl), (Nat.le_of_ble_eq_true rfl)⟩ ?_
    refine k_ifb_ne 70 dX7_adjust_57 (by decide) (fun h57 => ?_) (fun h57 => ?_)
    · have hd57 := of_decide_eq_true h57
      have hX := hTx.1
      refine k_aload_n 2 0 dX7_adjust_70 rfl rfl ?_
      refine k_get 0 i_X7 q_139 ctt rfl (by decide) rfl dX7_adjust_71 ?_
      refine k_iload_n 0 2 dX7_adjust_74 rfl rfl ?_
      refine k_putN 1 [.ref wl, .int (iI (σ.1.1 + (raised σ)))] i_X5 tyX5_ok nmX5 q_105 ctd rfl (by decide) rfl rfl rfl rfl (Nat.le_of_ble_eq_true rfl) rfl dX7_adjust_75 (fun f1 hf1 hc1 => ?_)
      have hr1 := k_fr.put hf1 ctd
      replace ctt := ctt.fr hr1 rfl
      replace crl := crl.fr hr1 rfl
      replace hX := hX.fr hr1 rfl
      replace hPs := hPs.fr hr1 rfl
      replace hLw := hLw.fr hr1 rfl
      replace hLr := hLr.fr hr1 rfl
      replace ctd : Cl L f1 td (2, .inr (6, [.ref wl, .int (iI (σ.1.1 + (raised σ)))])) := hc1
      have hTd2 : TideR κ L f1 td (σ.1.1 + raised σ, σ.1.2) := ⟨wl, wv, ctd, hLw, fun i hi => (hW i hi).fr hr1 rfl, hWi⟩
      refine k_aload_n 2 0 dX7_adjust_78 rfl rfl ?_
      refine k_iconst dX7_adjust_79 ?_
      refine k_put 4 [.ref td, .ref tb, .ref pl, .ref rl, .int (iI (bI true))] i_X7 tyX7_ok nmX7 q_143 ctt rfl (by decide) rfl rfl (k_nar_b true) (k_fit_b true) (Nat.le_of_ble_eq_true rfl) rfl dX7_adjust_80 (fun f2 hf2 hc2 => ?_)
      have hr2 := k_fr.put hf2 ctt
      replace ctd := ctd.fr hr2 rfl
      replace crl := crl.fr hr2 rfl
      replace hX := hX.fr hr2 rfl
      replace hPs := hPs.fr hr2 rfl
      replace hLr := hLr.fr hr2 rfl
      replace hTd2 := hTd2.fr hr2 rfl
      replace ctt : Cl L f2 tt (1, .inr (8, [.ref td, .ref tb, .ref pl, .ref rl, .int (iI (bI true))])) := hc2
      refine k_aload_n 2 0 dX7_adjust_83 rfl rfl ?_
      refine k_get 3 i_X7 q_142 ctt rfl (by decide) rfl dX7_adjust_84 ?_
      refine k_useU (k_runV (c_Jx4a65c_clear_da8c8 θ.2.1 κ (n := σ.2.2.2.1) (g := rv) (tl := 5) (ta := 13) (l := rl) hLr (by decide)) w_X7_247 ⟨q_774, q_775⟩ rfl rfl crl rfl ⟨(Nat.le_of_ble_eq_true rfl), (Nat.le_of_ble_eq_true rfl)⟩ (Nat.le_of_ble_eq_true rfl) dX7_adjust_87) ⟨(Nat.le_of_ble_eq_true rfl), (Nat.le_of_ble_eq_true rfl)⟩ (fun Lc fc hw => ?_)
      obtain ⟨hL9, hrc⟩ := hw
      replace ctt := ctt.fr hrc rfl
      replace hX := hX.fr hrc rfl
      replace hPs := hPs.fr hrc rfl
      replace hTd2 := hTd2.fr hrc rfl
      have hRs2 : ReadsR κ Lc fc rl (0, σ.2.2.2.2) := ⟨rv, hL9, fun i hi => absurd hi (Nat.not_lt_zero _)⟩
      refine k_iload_n 1 1 dX7_adjust_90 rfl rfl ?_
      exact k_xr (k_iret dX7_adjust_91 rfl (Nat.le_of_ble_eq_true rfl) (Nat.le_of_ble_eq_true rfl) (⟨_, rfl, (by rw [xAdjust, if_neg h7n, if_pos hd57]), rfl, ⟨td, tb, pl, rl, true, ctt, hTd2, ⟨hX, fun e => Bool.noConfusion e⟩, hPs, hRs2⟩, (k_fr.trans (k_fr.trans (k_fr.mono hr1 (SC_of rfl)) hr2 idf (SC_of rfl)) hrc idf (SC_S2 rfl rfl))⟩))
    · have hd57 := of_decide_eq_false h57
      exact k_throw (si := 22) hts2 hth x_IS (by decide) rfl dX7_adjust_60 dX7_adjust_63 dX7_adjust_64 dX7_adjust_66 dX7_adjust_69 ⟨(Nat.le_of_ble_eq_true rfl), (Nat.le_of_ble_eq_true rfl), (Nat.le_of_ble_eq_true rfl), (Nat.le_of_ble_eq_true rfl)⟩ (Nat.le_of_ble_eq_true rfl) ⟨(Nat.le_of_ble_eq_true rfl), (Nat.le_of_ble_eq_true rfl)⟩ (⟨(by rw [xAdjust, if_neg h7n, if_neg hd57]), hC.cs, k_fr.refl⟩)
  · have h7n := of_decide_eq_true h7
    exact k_throw (si := 21) hts2 hth x_IS (by decide) rfl dX7_adjust_10 dX7_adjust_13 dX7_adjust_14 dX7_adjust_16 dX7_adjust_19 ⟨(Nat.le_of_ble_eq_true rfl), (Nat.le_of_ble_eq_true rfl), (Nat.le_of_ble_eq_true rfl), (Nat.le_of_ble_eq_true rfl)⟩ (Nat.le_of_ble_eq_true rfl) ⟨(Nat.le_of_ble_eq_true rfl), (Nat.le_of_ble_eq_true rfl)⟩ (⟨(by rw [xAdjust, if_pos h7n]), hC.cs, k_fr.refl⟩)
set_option maxHeartbeats 4000000 in
set_option maxRecDepth 100000 in
theorem c_X7_windows (la : Launch) (κ : Kx) {L : List Nat} {f : Nat → wE} {tt td tb pl rl : Nat} {old : Bool} {σ : Sg} {p lev a b what : Int}  (hC : CSF κ L f tt td tb pl rl old σ) (hts : la.stackTraces = false) (hs : SgOk σ) (hp : inI p) (hlev : inI lev) (ha : inI a) (hb : inI b) (hwhat : inI what) : k_MX la κ yX7_windows cX7_windows 7 (some .int) 8 1 6 [.ref tt, .int (iI p), .int (iI lev), .int (iI a), .int (iI b), .int (iI what)] L f (k_rn (fun v9 L' f' => xWindows σ p a b what = none ∧ v9 = .int (iI (aWindows σ p lev a b what)) ∧ CS κ L' f' tt (σ) ∧ k_fr SC L f L' f')) (fun E L' f' => xWindows σ p a b what = some E ∧ CS κ L' f' tt σ ∧ k_fr SC L f L' f') := by
  refine k_headX RX7 [(0, .ref tt), (1, .int (iI p)), (2, .int (iI lev)), (3, .int (iI a)), (4, .int (iI b)), (5, .int (iI what))] rfl (by decide) (Nat.le_of_ble_eq_true rfl) rfl (fun θ hθ hin hth => ?_)
  have hts2 : θ.2.1.stackTraces = false := by rw [hθ]; exact hts
  obtain ⟨ctt, hTd, hTx, hPs, hRs⟩ := id hC
  obtain ⟨hs1, ⟨hs2, hs3⟩, hs4⟩ := id hs
  have hs5 := hs1.2.1
  have hs6 := hs4.1
  have hs7 := nW_le (hT σ.1)
  have hs8 := hs1.1
  refine k_iload_n 1 1 dX7_windows_0 rfl rfl ?_
  refine k_iconst dX7_windows_1 ?_
  refine k_icmp_eq 23 dX7_windows_2 (by decide) hp (inI_mk (by omega) (by omega)) (fun h2 => ?_) (fun h2 => ?_)
  · refine k_iload 5 dX7_windows_23 rfl ?_
    refine k_iconst dX7_windows_25 ?_
    refine k_iconst dX7_windows_26 ?_
    refine k_useR (k_runS (c_X7_isWithin θ.2.1 κ (z := what) (a := 0) (b := 3) hwhat (inI_mk (by omega) (by omega)) (inI_mk (by omega) (by omega))) w_X7_37 q_295 rfl rfl ⟨(Nat.le_of_ble_eq_true rfl), (Nat.le_of_ble_eq_true rfl)⟩ (Nat.le_of_ble_eq_true rfl) dX7_windows_27) ⟨(Nat.le_of_ble_eq_true rfl), (Nat.le_of_ble_eq_true rfl)⟩ ?_
    refine k_ifb_ne 43 dX7_windows_30 (by decide) (fun h30 => ?_) (fun h30 => ?_)
    · have hd30 := of_decide_eq_true h30
      refine k_iload_n 3 3 dX7_windows_43 rfl rfl ?_
      refine k_if_lt 61 dX7_windows_44 (by decide) ha (fun h44 => ?_) (fun h44 => ?_)
      · exact k_throw (si := 18) hts2 hth x_IA (by decide) rfl dX7_windows_61 dX7_windows_64 dX7_windows_65 dX7_windows_67 dX7_windows_70 ⟨(Nat.le_of_ble_eq_true rfl), (Nat.le_of_ble_eq_true rfl), (Nat.le_of_ble_eq_true rfl), (Nat.le_of_ble_eq_true rfl)⟩ (Nat.le_of_ble_eq_true rfl) ⟨(Nat.le_of_ble_eq_true rfl), (Nat.le_of_ble_eq_true rfl)⟩ (⟨(by rw [xWindows, if_pos (by omega), if_pos hd30, if_neg (by omega)]), hC.cs, k_fr.refl⟩)
      · refine k_iload_n 3 3 dX7_windows_47 rfl rfl ?_
        refine k_iload 4 dX7_windows_48 rfl ?_
        refine k_icmp_gt 61 dX7_windows_50 (by decide) ha hb (fun h50 => ?_) (fun h50 => ?_)
        · exact k_throw (si := 18) hts2 hth x_IA (by decide) rfl dX7_windows_61 dX7_windows_64 dX7_windows_65 dX7_windows_67 dX7_windows_70 ⟨(Nat.le_of_ble_eq_true rfl), (Nat.le_of_ble_eq_true rfl), (Nat.le_of_ble_eq_true rfl), (Nat.le_of_ble_eq_true rfl)⟩ (Nat.le_of_ble_eq_true rfl) ⟨(Nat.le_of_ble_eq_true rfl), (Nat.le_of_ble_eq_true rfl)⟩ (⟨(by rw [xWindows, if_pos (by omega), if_pos hd30, if_neg (by omega)]), hC.cs, k_fr.refl⟩)
        · refine k_iload 4 dX7_windows_53 rfl ?_
          refine k_sipush dX7_windows_55 (by decide) ?_
          refine k_icmp_lt 71 dX7_windows_58 (by decide) hb (inI_mk (by omega) (by omega)) (fun h58 => ?_) (fun h58 => ?_)
          · obtain ⟨an, rfl⟩ : ∃ an : Nat, a = (an : Int) := ⟨a.toNat, by omega⟩
            obtain ⟨bn, rfl⟩ : ∃ bn : Nat, b = (bn : Int) := ⟨b.toNat, by omega⟩
            refine k_new (ci := 5) 19 [.int (iI 0), .int (iI 0), .int (iI 0), .int (iI 0), .int (iI 0)] i_X4 tyX4_ok q_694 q_695 q_60 rfl dv_X4 (Nat.le_of_ble_eq_true rfl) (Nat.le_of_ble_eq_true rfl) dX7_windows_71 (fun t9 L1 f1 hz1 hn1 hc1 => ?_)
            have hr1 := k_fr.new hz1
            replace ctt := ctt.fr hr1 rfl
            replace hC := hC.fr hr1 rfl
            have cT9 : Cl L1 f1 t9 (19, .inr (5, [.int (iI 0), .int (iI 0), .int (iI 0), .int (iI 0), .int (iI 0)])) := hc1
            refine k_dup dX7_windows_74 rfl ?_
            refine k_useU (k_runIN (c_X4_init θ.2.1 κ (ta := t9) cT9) w_X7_196 q_697 rfl rfl rfl ⟨(Nat.le_of_ble_eq_true rfl), (Nat.le_of_ble_eq_true rfl)⟩ (Nat.le_of_ble_eq_true rfl) dX7_windows_75) ⟨(Nat.le_of_ble_eq_true rfl), (Nat.le_of_ble_eq_true rfl)⟩ (fun Lt ft hw => ?_)
            obtain ⟨en, hnt, hTa⟩ := hw
            replace en := en.symm
            subst en
            have hrt := k_fr.put hnt cT9
            replace ctt := ctt.fr hrt rfl
            replace hC := hC.fr hrt rfl
            have hkt := k_new2 hz1 hn1 hnt
            refine k_astore [(6, .ref t9), (0, .ref tt), (1, .int (iI p)), (2, .int (iI lev)), (3, .int (iI (an : Int))), (4, .int (iI (bn : Int))), (5, .int (iI what))] dX7_windows_78 (by decide) rfl ?_
            refine k_iload_n 2 1 dX7_windows_80 rfl rfl ?_
            refine k_iconst dX7_windows_81 ?_
            refine k_icmp_ne 98 dX7_windows_82 (by decide) hp (inI_mk (by omega) (by omega)) (fun h82 => ?_) (fun h82 => ?_)
            · omega
            · refine k_aload_n 1 0 dX7_windows_85 rfl rfl ?_
              refine k_aload 0 dX7_windows_86 rfl ?_
              refine k_iload_n 3 2 dX7_windows_88 rfl rfl ?_
              refine k_iload_n 4 3 dX7_windows_89 rfl rfl ?_
              refine k_iload 5 dX7_windows_90 rfl ?_
              refine k_useU (k_runV (c_X7_tallyChiefPort θ.2.1 κ (a := an) (b := bn) (tt := tt) (ta := t9) (lev := lev) hC hTa hs hlev ⟨by omega, by omega⟩) w_X7_197 ⟨q_718, q_16⟩ rfl rfl ctt rfl ⟨(Nat.le_of_ble_eq_true rfl), (Nat.le_of_ble_eq_true rfl)⟩ (Nat.le_of_ble_eq_true rfl) dX7_windows_92) ⟨(Nat.le_of_ble_eq_true rfl), (Nat.le_of_ble_eq_true rfl)⟩ (fun Ln fn hw => ?_)
              obtain ⟨en, hrn, hC9, hTa9⟩ := hw
              replace en := en.symm
              subst en
              replace hC := hC9
              replace hTa := hTa9
              refine k_goto 119 dX7_windows_95 (by decide) ?_
              refine k_aload 0 dX7_windows_119 rfl ?_
              refine k_iload 6 dX7_windows_121 rfl ?_
              refine k_useR (k_runV (c_X4_answer θ.2.1 κ (x := (tlC (hT σ.1) lev an (bn + 1 - an))) (ta := t9) (w := what) hTa hd30) w_X7_205 ⟨q_731, q_732⟩ rfl rfl hTa rfl ⟨(Nat.le_of_ble_eq_true rfl), (Nat.le_of_ble_eq_true rfl)⟩ (Nat.le_of_ble_eq_true rfl) dX7_windows_123) ⟨(Nat.le_of_ble_eq_true rfl), (Nat.le_of_ble_eq_true rfl)⟩ ?_
              exact k_xr (k_iret dX7_windows_126 rfl (Nat.le_of_ble_eq_true rfl) (Nat.le_of_ble_eq_true rfl) (⟨_, rfl, (by rw [xWindows, if_pos (by omega), if_pos hd30, if_pos (by omega)]), (by rw [aWindows, if_pos (by omega)]; simp only [Int.toNat_natCast]), hC.cs, (k_fr.trans (k_fr.mono hkt (fun _ _ => rfl)) hrn idf idf)⟩))
          · exact k_throw (si := 18) hts2 hth x_IA (by decide) rfl dX7_windows_61 dX7_windows_64 dX7_windows_65 dX7_windows_67 dX7_windows_70 ⟨(Nat.le_of_ble_eq_true rfl), (Nat.le_of_ble_eq_true rfl), (Nat.le_of_ble_eq_true rfl), (Nat.le_of_ble_eq_true rfl)⟩ (Nat.le_of_ble_eq_true rfl) ⟨(Nat.le_of_ble_eq_true rfl), (Nat.le_of_ble_eq_true rfl)⟩ (⟨(by rw [xWindows, if_pos (by omega), if_pos hd30, if_neg (by omega)]), hC.cs, k_fr.refl⟩)
    · have hd30 := of_decide_eq_false h30
      exact k_throw (si := 7) hts2 hth x_IO (by decide) rfl dX7_windows_33 dX7_windows_36 dX7_windows_37 dX7_windows_39 dX7_windows_42 ⟨(Nat.le_of_ble_eq_true rfl), (Nat.le_of_ble_eq_true rfl), (Nat.le_of_ble_eq_true rfl), (Nat.le_of_ble_eq_true rfl)⟩ (Nat.le_of_ble_eq_true rfl) ⟨(Nat.le_of_ble_eq_true rfl), (Nat.le_of_ble_eq_true rfl)⟩ (⟨(by rw [xWindows, if_pos (by omega), if_neg hd30]), hC.cs, k_fr.refl⟩)
  · refine k_aload_n 0 0 dX7_windows_5 rfl rfl ?_
    refine k_iload_n 1 1 dX7_windows_6 rfl rfl ?_
    refine k_useR (k_runV (c_X7_hasPort θ.2.1 κ (tt := tt) (z := p) hC hs hp) w_X7_143 ⟨q_626, q_15⟩ rfl rfl ctt rfl ⟨(Nat.le_of_ble_eq_true rfl), (Nat.le_of_ble_eq_true rfl)⟩ (Nat.le_of_ble_eq_true rfl) dX7_windows_7) ⟨(Nat.le_of_ble_eq_true rfl), (Nat.le_of_ble_eq_true rfl)⟩ ?_
    refine k_ifb_ne 23 dX7_windows_10 (by decide) (fun h10 => ?_) (fun h10 => ?_)
    · have hd10 := of_decide_eq_true h10
      refine k_iload 5 dX7_windows_23 rfl ?_
      refine k_iconst dX7_windows_25 ?_
      refine k_iconst dX7_windows_26 ?_
      refine k_useR (k_runS (c_X7_isWithin θ.2.1 κ (z := what) (a := 0) (b := 3) hwhat (inI_mk (by omega) (by omega)) (inI_mk (by omega) (by omega))) w_X7_37 q_295 rfl rfl ⟨(Nat.le_of_ble_eq_true rfl), (Nat.le_of_ble_eq_true rfl)⟩ (Nat.le_of_ble_eq_true rfl) dX7_windows_27) ⟨(Nat.le_of_ble_eq_true rfl), (Nat.le_of_ble_eq_true rfl)⟩ ?_
      refine k_ifb_ne 43 dX7_windows_30 (by decide) (fun h30 => ?_) (fun h30 => ?_)
      · have hd30 := of_decide_eq_true h30
        refine k_iload_n 3 3 dX7_windows_43 rfl rfl ?_
        refine k_if_lt 61 dX7_windows_44 (by decide) ha (fun h44 => ?_) (fun h44 => ?_)
        · exact k_throw (si := 18) hts2 hth x_IA (by decide) rfl dX7_windows_61 dX7_windows_64 dX7_windows_65 dX7_windows_67 dX7_windows_70 ⟨(Nat.le_of_ble_eq_true rfl), (Nat.le_of_ble_eq_true rfl), (Nat.le_of_ble_eq_true rfl), (Nat.le_of_ble_eq_true rfl)⟩ (Nat.le_of_ble_eq_true rfl) ⟨(Nat.le_of_ble_eq_true rfl), (Nat.le_of_ble_eq_true rfl)⟩ (⟨(by rw [xWindows, if_pos (by omega), if_pos hd30, if_neg (by omega)]), hC.cs, k_fr.refl⟩)
        · refine k_iload_n 3 3 dX7_windows_47 rfl rfl ?_
          refine k_iload 4 dX7_windows_48 rfl ?_
          refine k_icmp_gt 61 dX7_windows_50 (by decide) ha hb (fun h50 => ?_) (fun h50 => ?_)
          · exact k_throw (si := 18) hts2 hth x_IA (by decide) rfl dX7_windows_61 dX7_windows_64 dX7_windows_65 dX7_windows_67 dX7_windows_70 ⟨(Nat.le_of_ble_eq_true rfl), (Nat.le_of_ble_eq_true rfl), (Nat.le_of_ble_eq_true rfl), (Nat.le_of_ble_eq_true rfl)⟩ (Nat.le_of_ble_eq_true rfl) ⟨(Nat.le_of_ble_eq_true rfl), (Nat.le_of_ble_eq_true rfl)⟩ (⟨(by rw [xWindows, if_pos (by omega), if_pos hd30, if_neg (by omega)]), hC.cs, k_fr.refl⟩)
          · refine k_iload 4 dX7_windows_53 rfl ?_
            refine k_sipush dX7_windows_55 (by decide) ?_
            refine k_icmp_lt 71 dX7_windows_58 (by decide) hb (inI_mk (by omega) (by omega)) (fun h58 => ?_) (fun h58 => ?_)
            · obtain ⟨an, rfl⟩ : ∃ an : Nat, a = (an : Int) := ⟨a.toNat, by omega⟩
              obtain ⟨bn, rfl⟩ : ∃ bn : Nat, b = (bn : Int) := ⟨b.toNat, by omega⟩
              refine k_new (ci := 5) 19 [.int (iI 0), .int (iI 0), .int (iI 0), .int (iI 0), .int (iI 0)] i_X4 tyX4_ok q_694 q_695 q_60 rfl dv_X4 (Nat.le_of_ble_eq_true rfl) (Nat.le_of_ble_eq_true rfl) dX7_windows_71 (fun t9 L2 f2 hz2 hn2 hc2 => ?_)
              have hr2 := k_fr.new hz2
              replace ctt := ctt.fr hr2 rfl
              replace hC := hC.fr hr2 rfl
              have cT9 : Cl L2 f2 t9 (19, .inr (5, [.int (iI 0), .int (iI 0), .int (iI 0), .int (iI 0), .int (iI 0)])) := hc2
              refine k_dup dX7_windows_74 rfl ?_
              refine k_useU (k_runIN (c_X4_init θ.2.1 κ (ta := t9) cT9) w_X7_196 q_697 rfl rfl rfl ⟨(Nat.le_of_ble_eq_true rfl), (Nat.le_of_ble_eq_true rfl)⟩ (Nat.le_of_ble_eq_true rfl) dX7_windows_75) ⟨(Nat.le_of_ble_eq_true rfl), (Nat.le_of_ble_eq_true rfl)⟩ (fun Lt ft hw => ?_)
              obtain ⟨en, hnt, hTa⟩ := hw
              replace en := en.symm
              subst en
              have hrt := k_fr.put hnt cT9
              replace ctt := ctt.fr hrt rfl
              replace hC := hC.fr hrt rfl
              have hkt := k_new2 hz2 hn2 hnt
              refine k_astore [(6, .ref t9), (0, .ref tt), (1, .int (iI p)), (2, .int (iI lev)), (3, .int (iI (an : Int))), (4, .int (iI (bn : Int))), (5, .int (iI what))] dX7_windows_78 (by decide) rfl ?_
              refine k_iload_n 2 1 dX7_windows_80 rfl rfl ?_
              refine k_iconst dX7_windows_81 ?_
              refine k_icmp_ne 98 dX7_windows_82 (by decide) hp (inI_mk (by omega) (by omega)) (fun h82 => ?_) (fun h82 => ?_)
              · obtain ⟨pn, rfl⟩ : ∃ pn : Nat, p = (pn : Int) := ⟨p.toNat, by omega⟩
                obtain ⟨ctt, hTd, hTx, hPs, hRs⟩ := id hC
                obtain ⟨pv, hv, ov, hLp, hPv, hPi⟩ := id hPs
                obtain ⟨md2, E2, cpl⟩ := hLp.cl
                obtain ⟨hs1, ⟨hs2, hs3⟩, hs4⟩ := id hs
                have hs5 := hs1.2.1
                have hs6 := hs4.1
                have hs7 := nW_le (hT σ.1)
                have hs8 := hs1.1
                refine k_aload_n 1 0 dX7_windows_98 rfl rfl ?_
                refine k_aload 0 dX7_windows_99 rfl ?_
                refine k_aload_n 1 0 dX7_windows_101 rfl rfl ?_
                refine k_get 2 i_X7 q_141 ctt rfl (by decide) rfl dX7_windows_102 ?_
                refine k_iload_n 2 1 dX7_windows_105 rfl rfl ?_
                refine k_useR (k_runV (c_Jx4a65c_get_915e3 θ.2.1 κ (n := σ.2.1) (g := pv) (i := pn) (l := pl) hLp (by omega)) w_X7_82 ⟨q_172, q_173⟩ rfl rfl cpl rfl ⟨(Nat.le_of_ble_eq_true rfl), (Nat.le_of_ble_eq_true rfl)⟩ (Nat.le_of_ble_eq_true rfl) dX7_windows_106) ⟨(Nat.le_of_ble_eq_true rfl), (Nat.le_of_ble_eq_true rfl)⟩ ?_
                have hPn := hPv pn (by omega)
                have hP : PortR L2 ft (pv pn) (σ.2.2.1 pn) := ⟨hv pn, ov pn, hPn.1, hPn.2.1, hPn.2.2⟩
                refine k_castS q_255 hPn.1 rfl dX7_windows_109 ?_
                refine k_iload_n 3 2 dX7_windows_112 rfl rfl ?_
                refine k_iload_n 4 3 dX7_windows_113 rfl rfl ?_
                refine k_iload 5 dX7_windows_114 rfl ?_
                refine k_useU (k_runV (c_X7_tallyPort θ.2.1 κ (a := an) (b := bn) (q := (σ.2.2.1 pn)) (tt := tt) (ta := t9) (pt := (pv pn)) (lev := lev) hC hTa hP hs (hs3 pn (by omega)) hlev ⟨by omega, by omega⟩) w_X7_201 ⟨q_728, q_17⟩ rfl rfl ctt rfl ⟨(Nat.le_of_ble_eq_true rfl), (Nat.le_of_ble_eq_true rfl)⟩ (Nat.le_of_ble_eq_true rfl) dX7_windows_116) ⟨(Nat.le_of_ble_eq_true rfl), (Nat.le_of_ble_eq_true rfl)⟩ (fun Ln fn hw => ?_)
                obtain ⟨en, hrn, hC9, hTa9⟩ := hw
                replace en := en.symm
                subst en
                replace hC := hC9
                replace hTa := hTa9
                refine k_aload 0 dX7_windows_119 rfl ?_
                refine k_iload 6 dX7_windows_121 rfl ?_
                refine k_useR (k_runV (c_X4_answer θ.2.1 κ (x := (if ord (hT σ.1) (σ.2.2.1 pn) = true then tlP (hT σ.1) (σ.2.2.1 pn) lev an (bn + 1 - an) else tl0)) (ta := t9) (w := what) hTa hd30) w_X7_205 ⟨q_731, q_732⟩ rfl rfl hTa rfl ⟨(Nat.le_of_ble_eq_true rfl), (Nat.le_of_ble_eq_true rfl)⟩ (Nat.le_of_ble_eq_true rfl) dX7_windows_123) ⟨(Nat.le_of_ble_eq_true rfl), (Nat.le_of_ble_eq_true rfl)⟩ ?_
                exact k_xr (k_iret dX7_windows_126 rfl (Nat.le_of_ble_eq_true rfl) (Nat.le_of_ble_eq_true rfl) (⟨_, rfl, (by rw [xWindows, if_pos (by omega), if_pos hd30, if_pos (by omega)]), (by rw [aWindows, if_neg (show ¬ ((pn : Int) = -1) by omega)]; simp only [Int.toNat_natCast]), hC.cs, (k_fr.trans (k_fr.mono hkt (fun _ _ => rfl)) hrn idf idf)⟩))
              · omega
            · exact k_throw (si := 18) hts2 hth x_IA (by decide) rfl dX7_windows_61 dX7_windows_64 dX7_windows_65 dX7_windows_67 dX7_windows_70 ⟨(Nat.le_of_ble_eq_true rfl), (Nat.le_of_ble_eq_true rfl), (Nat.le_of_ble_eq_true rfl), (Nat.le_of_ble_eq_true rfl)⟩ (Nat.le_of_ble_eq_true rfl) ⟨(Nat.le_of_ble_eq_true rfl), (Nat.le_of_ble_eq_true rfl)⟩ (⟨(by rw [xWindows, if_pos (by omega), if_pos hd30, if_neg (by omega)]), hC.cs, k_fr.refl⟩)
      · have hd30 := of_decide_eq_false h30
        exact k_throw (si := 7) hts2 hth x_IO (by decide) rfl dX7_windows_33 dX7_windows_36 dX7_windows_37 dX7_windows_39 dX7_windows_42 ⟨(Nat.le_of_ble_eq_true rfl), (Nat.le_of_ble_eq_true rfl), (Nat.le_of_ble_eq_true rfl), (Nat.le_of_ble_eq_true rfl)⟩ (Nat.le_of_ble_eq_true rfl) ⟨(Nat.le_of_ble_eq_true rfl), (Nat.le_of_ble_eq_true rfl)⟩ (⟨(by rw [xWindows, if_pos (by omega), if_neg hd30]), hC.cs, k_fr.refl⟩)
    · have hd10 := of_decide_eq_false h10
      exact k_throw (si := 12) hts2 hth x_IO (by decide) rfl dX7_windows_13 dX7_windows_16 dX7_windows_17 dX7_windows_19 dX7_windows_22 ⟨(Nat.le_of_ble_eq_true rfl), (Nat.le_of_ble_eq_true rfl), (Nat.le_of_ble_eq_true rfl), (Nat.le_of_ble_eq_true rfl)⟩ (Nat.le_of_ble_eq_true rfl) ⟨(Nat.le_of_ble_eq_true rfl), (Nat.le_of_ble_eq_true rfl)⟩ (⟨(by rw [xWindows, if_neg (by omega)]), hC.cs, k_fr.refl⟩)
