theorem PortsR.add2 {κ : Kx} {L L0 L1 : List Nat} {f f0 f1 : Nat → wE} {pl n p ph po : Nat} {qs : Nat → Pt} {pv hv ov : Nat → Nat} (hP0 : ∀ i, i < n → Cl L0 f0 (pv i) (15, .inr (2, [.ref (hv i), .ref (ov i), .int (iI (qs i).2.2.2.2)])) ∧ Cl L0 f0 (hv i) (16, .inr (1, [.int (iI (qs i).1), .int (iI (qs i).2.1)])) ∧ Cl L0 f0 (ov i) (17, .inr (1, [.int (iI (qs i).2.2.1), .int (iI (qs i).2.2.2.1)])))
    (hP : ∀ i, i < n → Cl L f (pv i) (15, .inr (2, [.ref (hv i), .ref (ov i), .int (iI (qs i).2.2.2.2)])) ∧ Cl L f (hv i) (16, .inr (1, [.int (iI (qs i).1), .int (iI (qs i).2.1)])) ∧ Cl L f (ov i) (17, .inr (1, [.int (iI (qs i).2.2.1), .int (iI (qs i).2.2.2.1)])))
    (hr : k_fr (S2 4 12) L f L1 f1) (hn : p ∉ L0 ∧ ph ∉ L0 ∧ po ∉ L0) (hL : ListR κ L1 f1 pl 4 12 (n + 1) (va_up pv n p)) (c1 : Cl L1 f1 p (15, .inr (2, [.ref ph, .ref po, .int (iI 0)]))) (c2 : Cl L1 f1 ph (16, .inr (1, [.int (iI 0), .int (iI 100)]))) (c3 : Cl L1 f1 po (17, .inr (1, [.int (iI 0), .int (iI 100)]))) (hi : ∀ i j, i < n → j < n → i ≠ j → pv i ≠ pv j ∧ hv i ≠ hv j ∧ ov i ≠ ov j) : PortsR κ L1 f1 pl (n + 1) (va_up qs n (0, 100, 0, 100, 0)) := by
  refine ⟨va_up pv n p, va_up hv n ph, va_up ov n po, hL, fun i hi2 => ?_, fun i j hi2 hj2 hij => ?_⟩
  · by_cases e : i = n
    · subst e
      rw [va_up_self, va_up_self, va_up_self, va_up_self]
      exact ⟨c1, c2, c3⟩
    · rw [va_up_ne _ _ e, va_up_ne _ _ e, va_up_ne _ _ e, va_up_ne _ _ e]
      obtain ⟨a1, a2, a3⟩ := hP i (by omega)
      exact ⟨a1.fr hr rfl, a2.fr hr rfl, a3.fr hr rfl⟩
  · by_cases e1 : i = n
    · have e2 : j ≠ n := by omega
      obtain ⟨a1, a2, a3⟩ := hP0 j (by omega)
      rw [e1, va_up_self, va_up_self, va_up_self, va_up_ne _ _ e2, va_up_ne _ _ e2, va_up_ne _ _ e2]
      exact ⟨fun q => hn.1 (by rw [q]; exact a1.1), fun q => hn.2.1 (by rw [q]; exact a2.1), fun q => hn.2.2 (by rw [q]; exact a3.1)⟩
    · rw [va_up_ne _ _ e1, va_up_ne _ _ e1, va_up_ne _ _ e1]
      obtain ⟨a1, a2, a3⟩ := hP0 i (by omega)
      by_cases e2 : j = n
      · rw [e2, va_up_self, va_up_self, va_up_self]
        exact ⟨fun q => hn.1 (by rw [← q]; exact a1.1), fun q => hn.2.1 (by rw [← q]; exact a2.1), fun q => hn.2.2 (by rw [← q]; exact a3.1)⟩
      · rw [va_up_ne _ _ e2, va_up_ne _ _ e2, va_up_ne _ _ e2]
        exact hi i j (by omega) (by omega) hij
set_option maxHeartbeats 4000000 in
set_option maxRecDepth 100000 in
theorem c_X7_setPort (la : Launch) (κ : Kx) {L : List Nat} {f : Nat → wE} {tt td tb pl rl : Nat} {old : Bool} {σ : Sg} {p sh fa : Int} {b : Bool}  (hC : CSF κ L f tt td tb pl rl old σ) (hts : la.stackTraces = false) (hs : SgOk σ) (hp : inI p) (hsh : inI sh) (hfa : inI fa) : k_MX la κ yX7_setPort cX7_setPort 7 (some .int) 6 1 6 [.ref tt, .int (iI p), .int (iI (bI b)), .int (iI sh), .int (iI fa)] L f (k_rn (fun v9 L' f' => xSetPort σ p sh fa = none ∧ v9 = .int (iI (aSetPort (σ.2.2.1 p.toNat) b)) ∧ CS κ L' f' tt (sSetPort σ p b sh fa) ∧ k_fr SC L f L' f')) (fun E L' f' => xSetPort σ p sh fa = some E ∧ CS κ L' f' tt σ ∧ k_fr SC L f L' f') := by
  refine k_headX RX7 [(0, .ref tt), (1, .int (iI p)), (2, .int (iI (bI b))), (3, .int (iI sh)), (4, .int (iI fa))] rfl (by decide) (Nat.le_of_ble_eq_true rfl) rfl (fun θ hθ hin hth => ?_)
  have hts2 : θ.2.1.stackTraces = false := by rw [hθ]; exact hts
  obtain ⟨ctt, hTd, hTx, hPs, hRs⟩ := id hC
  obtain ⟨pv, hv, ov, hLp, hPv, hPi⟩ := id hPs
  obtain ⟨md2, E2, cpl⟩ := hLp.cl
  obtain ⟨hs1, ⟨hs2, hs3⟩, hs4⟩ := id hs
  have hs5 := hs1.2.1
  have hs6 := hs4.1
  have hs7 := nW_le (hT σ.1)
  have hs8 := hs1.1
  refine k_aload_n 0 0 dX7_setPort_0 rfl rfl ?_
  refine k_iload_n 1 1 dX7_setPort_1 rfl rfl ?_
  refine k_useR (k_runV (c_X7_hasPort θ.2.1 κ (tt := tt) (z := p) hC hs hp) w_X7_143 ⟨q_459, q_12⟩ rfl rfl ctt rfl ⟨(Nat.le_of_ble_eq_true rfl), (Nat.le_of_ble_eq_true rfl)⟩ (Nat.le_of_ble_eq_true rfl) dX7_setPort_2) ⟨(Nat.le_of_ble_eq_true rfl), (Nat.le_of_ble_eq_true rfl)⟩ ?_
  refine k_ifb_ne 18 dX7_setPort_5 (by decide) (fun h5 => ?_) (fun h5 => ?_)
  · have hd5 := of_decide_eq_true h5
    refine k_iload_n 3 3 dX7_setPort_18 rfl rfl ?_
    refine k_sipush dX7_setPort_19 (by decide) ?_
    refine k_sipush dX7_setPort_22 (by decide) ?_
    refine k_useR (k_runS (c_X7_isWithin θ.2.1 κ (z := sh) (a := (-300)) (b := 300) hsh (inI_mk (by omega) (by omega)) (inI_mk (by omega) (by omega))) w_X7_37 q_136 rfl rfl ⟨(Nat.le_of_ble_eq_true rfl), (Nat.le_of_ble_eq_true rfl)⟩ (Nat.le_of_ble_eq_true rfl) dX7_setPort_25) ⟨(Nat.le_of_ble_eq_true rfl), (Nat.le_of_ble_eq_true rfl)⟩ ?_
    refine k_ifb_ne 41 dX7_setPort_28 (by decide) (fun h28 => ?_) (fun h28 => ?_)
    · have hd28 := of_decide_eq_true h28
      refine k_iload 4 dX7_setPort_41 rfl ?_
      refine k_iconst dX7_setPort_43 ?_
      refine k_sipush dX7_setPort_44 (by decide) ?_
      refine k_useR (k_runS (c_X7_isWithin θ.2.1 κ (z := fa) (a := 0) (b := 300) hfa (inI_mk (by omega) (by omega)) (inI_mk (by omega) (by omega))) w_X7_37 q_136 rfl rfl ⟨(Nat.le_of_ble_eq_true rfl), (Nat.le_of_ble_eq_true rfl)⟩ (Nat.le_of_ble_eq_true rfl) dX7_setPort_47) ⟨(Nat.le_of_ble_eq_true rfl), (Nat.le_of_ble_eq_true rfl)⟩ ?_
      refine k_ifb_ne 63 dX7_setPort_50 (by decide) (fun h50 => ?_) (fun h50 => ?_)
      · have hd50 := of_decide_eq_true h50
        obtain ⟨pn, rfl⟩ : ∃ pn : Nat, p = (pn : Int) := ⟨p.toNat, by omega⟩
        have hpn : pn < σ.2.1 := by omega
        have hPn := hPv pn hpn
        obtain ⟨cpt, cph, cpo⟩ := hPn
        have hTX : TX κ L f tb old σ.1 := hTx
        refine k_aload_n 0 0 dX7_setPort_63 rfl rfl ?_
        refine k_get 2 i_X7 q_114 ctt rfl (by decide) rfl dX7_setPort_64 ?_
        refine k_iload_n 1 1 dX7_setPort_67 rfl rfl ?_
        refine k_useR (k_runV (c_Jx4a65c_get_915e3 θ.2.1 κ (n := σ.2.1) (g := pv) (i := pn) (l := pl) hLp hpn) w_X7_82 ⟨q_215, q_216⟩ rfl rfl cpl rfl ⟨(Nat.le_of_ble_eq_true rfl), (Nat.le_of_ble_eq_true rfl)⟩ (Nat.le_of_ble_eq_true rfl) dX7_setPort_68) ⟨(Nat.le_of_ble_eq_true rfl), (Nat.le_of_ble_eq_true rfl)⟩ ?_
        refine k_castS q_367 cpt rfl dX7_setPort_71 ?_
        refine k_iload_n 2 2 dX7_setPort_74 rfl rfl ?_
        rcases b with _ | _
        · refine k_useR (k_runV (c_X1_followOf_f θ.2.1 κ (ph := (hv pn)) (po := (ov pn)) (pt := (pv pn)) cpt) w_X7_152 ⟨q_466, q_467⟩ rfl rfl cpt rfl ⟨(Nat.le_of_ble_eq_true rfl), (Nat.le_of_ble_eq_true rfl)⟩ (Nat.le_of_ble_eq_true rfl) dX7_setPort_75) ⟨(Nat.le_of_ble_eq_true rfl), (Nat.le_of_ble_eq_true rfl)⟩ ?_
          refine k_astore [(5, .ref (ov pn)), (0, .ref tt), (1, .int (iI (pn : Int))), (2, .int (iI (bI false))), (3, .int (iI sh)), (4, .int (iI fa))] dX7_setPort_78 (by decide) rfl ?_
          refine k_aload 0 dX7_setPort_80 rfl ?_
          refine k_getN 1 i_X0 q_383 cpo rfl (by decide) rfl dX7_setPort_82 ?_
          refine k_istore [(6, .int (iI ((σ.2.2.1 pn).2.2.2.1))), (5, .ref (ov pn)), (0, .ref tt), (1, .int (iI (pn : Int))), (2, .int (iI (bI false))), (3, .int (iI sh)), (4, .int (iI fa))] dX7_setPort_85 (by decide) rfl ?_
          refine k_aload 1 dX7_setPort_87 rfl ?_
          refine k_iload_n 5 3 dX7_setPort_89 rfl rfl ?_
          refine k_putN 0 [.int (iI sh), .int (iI ((σ.2.2.1 pn).2.2.2.1))] i_X0 tyX0_ok nmX0 q_380 cpo rfl (by decide) rfl rfl rfl rfl (Nat.le_of_ble_eq_true rfl) rfl dX7_setPort_90 (fun f1 hf1 hc1 => ?_)
          have hr1 := k_fr.put hf1 cpo
          replace ctt := ctt.fr hr1 rfl
          replace cpl := cpl.fr hr1 rfl
          replace cpt := cpt.fr hr1 rfl
          replace cph := cph.fr hr1 rfl
          replace hTX := hTX.fr hr1 rfl
          replace hTd := hTd.fr hr1 rfl
          replace hRs := hRs.fr hr1 rfl
          replace hLp := hLp.fr hr1 rfl
          replace cpo : Cl L f1 (ov pn) (17, .inr (1, [.int (iI sh), .int (iI ((σ.2.2.1 pn).2.2.2.1))])) := hc1
          refine k_aload 1 dX7_setPort_93 rfl ?_
          refine k_iload 6 dX7_setPort_95 rfl ?_
          refine k_putN 1 [.int (iI sh), .int (iI fa)] i_X0 tyX0_ok nmX0 q_383 cpo rfl (by decide) rfl rfl rfl rfl (Nat.le_of_ble_eq_true rfl) rfl dX7_setPort_97 (fun f2 hf2 hc2 => ?_)
          have hr2 := k_fr.put hf2 cpo
          replace ctt := ctt.fr hr2 rfl
          replace cpl := cpl.fr hr2 rfl
          replace cpt := cpt.fr hr2 rfl
          replace cph := cph.fr hr2 rfl
          replace hTX := hTX.fr hr2 rfl
          replace hTd := hTd.fr hr2 rfl
          replace hRs := hRs.fr hr2 rfl
          replace hLp := hLp.fr hr2 rfl
          replace cpo : Cl L f2 (ov pn) (17, .inr (1, [.int (iI sh), .int (iI fa)])) := hc2
          have hPs2 := PortsR.setL hLp hPv hPi hpn (fun z hz => (hf2 z hz).trans (hf1 z hz)) cpo
          refine k_iload 0 dX7_setPort_100 rfl ?_
          exact k_xr (k_iret dX7_setPort_102 rfl (Nat.le_of_ble_eq_true rfl) (Nat.le_of_ble_eq_true rfl) (⟨_, rfl, (by rw [xSetPort, if_pos hd5, if_pos hd28, if_pos hd50]), rfl, ⟨td, tb, pl, rl, old, ctt, hTd, hTX, hPs2, hRs⟩, (k_fr.trans (k_fr.mono hr1 (SC_of rfl)) hr2 idf (SC_of rfl))⟩))
        · refine k_useR (k_runV (c_X1_followOf_t θ.2.1 κ (ph := (hv pn)) (po := (ov pn)) (pt := (pv pn)) cpt) w_X7_152 ⟨q_466, q_467⟩ rfl rfl cpt rfl ⟨(Nat.le_of_ble_eq_true rfl), (Nat.le_of_ble_eq_true rfl)⟩ (Nat.le_of_ble_eq_true rfl) dX7_setPort_75) ⟨(Nat.le_of_ble_eq_true rfl), (Nat.le_of_ble_eq_true rfl)⟩ ?_
          refine k_astore [(5, .ref (hv pn)), (0, .ref tt), (1, .int (iI (pn : Int))), (2, .int (iI (bI true))), (3, .int (iI sh)), (4, .int (iI fa))] dX7_setPort_78 (by decide) rfl ?_
          refine k_aload 0 dX7_setPort_80 rfl ?_
          refine k_getN 1 i_X0 q_383 cph rfl (by decide) rfl dX7_setPort_82 ?_
          refine k_istore [(6, .int (iI ((σ.2.2.1 pn).2.1))), (5, .ref (hv pn)), (0, .ref tt), (1, .int (iI (pn : Int))), (2, .int (iI (bI true))), (3, .int (iI sh)), (4, .int (iI fa))] dX7_setPort_85 (by decide) rfl ?_
          refine k_aload 1 dX7_setPort_87 rfl ?_
          refine k_iload_n 5 3 dX7_setPort_89 rfl rfl ?_
          refine k_putN 0 [.int (iI sh), .int (iI ((σ.2.2.1 pn).2.1))] i_X0 tyX0_ok nmX0 q_380 cph rfl (by decide) rfl rfl rfl rfl (Nat.le_of_ble_eq_true rfl) rfl dX7_setPort_90 (fun f3 hf3 hc3 => ?_)
          have hr3 := k_fr.put hf3 cph
          replace ctt := ctt.fr hr3 rfl
          replace cpl := cpl.fr hr3 rfl
          replace cpt := cpt.fr hr3 rfl
          replace cpo := cpo.fr hr3 rfl
          replace hTX := hTX.fr hr3 rfl
          replace hTd := hTd.fr hr3 rfl
          replace hRs := hRs.fr hr3 rfl
          replace hLp := hLp.fr hr3 rfl
          replace cph : Cl L f3 (hv pn) (16, .inr (1, [.int (iI sh), .int (iI ((σ.2.2.1 pn).2.1))])) := hc3
          refine k_aload 1 dX7_setPort_93 rfl ?_
          refine k_iload 6 dX7_setPort_95 rfl ?_
          refine k_putN 1 [.int (iI sh), .int (iI fa)] i_X0 tyX0_ok nmX0 q_383 cph rfl (by decide) rfl rfl rfl rfl (Nat.le_of_ble_eq_true rfl) rfl dX7_setPort_97 (fun f4 hf4 hc4 => ?_)
          have hr4 := k_fr.put hf4 cph
          replace ctt := ctt.fr hr4 rfl
          replace cpl := cpl.fr hr4 rfl
          replace cpt := cpt.fr hr4 rfl
          replace cpo := cpo.fr hr4 rfl
          replace hTX := hTX.fr hr4 rfl
          replace hTd := hTd.fr hr4 rfl
          replace hRs := hRs.fr hr4 rfl
          replace hLp := hLp.fr hr4 rfl
          replace cph : Cl L f4 (hv pn) (16, .inr (1, [.int (iI sh), .int (iI fa)])) := hc4
          have hPs2 := PortsR.setH hLp hPv hPi hpn (fun z hz => (hf4 z hz).trans (hf3 z hz)) cph
          refine k_iload 0 dX7_setPort_100 rfl ?_
          exact k_xr (k_iret dX7_setPort_102 rfl (Nat.le_of_ble_eq_true rfl) (Nat.le_of_ble_eq_true rfl) (⟨_, rfl, (by rw [xSetPort, if_pos hd5, if_pos hd28, if_pos hd50]), rfl, ⟨td, tb, pl, rl, old, ctt, hTd, hTX, hPs2, hRs⟩, (k_fr.trans (k_fr.mono hr3 (SC_of rfl)) hr4 idf (SC_of rfl))⟩))
      · have hd50 := of_decide_eq_false h50
        exact k_throw (si := 12) hts2 hth x_IA (by decide) rfl dX7_setPort_53 dX7_setPort_56 dX7_setPort_57 dX7_setPort_59 dX7_setPort_62 ⟨(Nat.le_of_ble_eq_true rfl), (Nat.le_of_ble_eq_true rfl), (Nat.le_of_ble_eq_true rfl), (Nat.le_of_ble_eq_true rfl)⟩ (Nat.le_of_ble_eq_true rfl) ⟨(Nat.le_of_ble_eq_true rfl), (Nat.le_of_ble_eq_true rfl)⟩ (⟨(by rw [xSetPort, if_pos hd5, if_pos hd28, if_neg hd50]), hC.cs, k_fr.refl⟩)
    · have hd28 := of_decide_eq_false h28
      exact k_throw (si := 11) hts2 hth x_IA (by decide) rfl dX7_setPort_31 dX7_setPort_34 dX7_setPort_35 dX7_setPort_37 dX7_setPort_40 ⟨(Nat.le_of_ble_eq_true rfl), (Nat.le_of_ble_eq_true rfl), (Nat.le_of_ble_eq_true rfl), (Nat.le_of_ble_eq_true rfl)⟩ (Nat.le_of_ble_eq_true rfl) ⟨(Nat.le_of_ble_eq_true rfl), (Nat.le_of_ble_eq_true rfl)⟩ (⟨(by rw [xSetPort, if_pos hd5, if_neg hd28]), hC.cs, k_fr.refl⟩)
  · have hd5 := of_decide_eq_false h5
    exact k_throw (si := 10) hts2 hth x_IO (by decide) rfl dX7_setPort_8 dX7_setPort_11 dX7_setPort_12 dX7_setPort_14 dX7_setPort_17 ⟨(Nat.le_of_ble_eq_true rfl), (Nat.le_of_ble_eq_true rfl), (Nat.le_of_ble_eq_true rfl), (Nat.le_of_ble_eq_true rfl)⟩ (Nat.le_of_ble_eq_true rfl) ⟨(Nat.le_of_ble_eq_true rfl), (Nat.le_of_ble_eq_true rfl)⟩ (⟨(by rw [xSetPort, if_neg hd5]), hC.cs, k_fr.refl⟩)
set_option maxHeartbeats 4000000 in
set_option maxRecDepth 100000 in
theorem c_X7_addWave (la : Launch) (κ : Kx) {L : List Nat} {f : Nat → wE} {tt td tb pl rl : Nat} {old : Bool} {σ : Sg} {r p o : Int}  (hC : CSF κ L f tt td tb pl rl old σ) (hts : la.stackTraces = false) (hs : SgOk σ) (hr : inI r) (hp : inI p) (ho : inI o) : k_MX la κ yX7_addWave cX7_addWave 4 (some .int) 8 2 63 [.ref tt, .int (iI r), .int (iI p), .int (iI o)] L f (k_rn (fun v9 L' f' => xAddWave σ r p o = none ∧ v9 = .int (iI ((σ.1.2.1 : Int))) ∧ CS κ L' f' tt (sAddWave σ r p o) ∧ k_fr SC L f L' f')) (fun E L' f' => xAddWave σ r p o = some E ∧ CS κ L' f' tt σ ∧ k_fr SC L f L' f') := by
  refine k_headX RX7 [(0, .ref tt), (1, .int (iI r)), (2, .int (iI p)), (3, .int (iI o))] rfl (by decide) (Nat.le_of_ble_eq_true rfl) rfl (fun θ hθ hin hth => ?_)
  have hts2 : θ.2.1.stackTraces = false := by rw [hθ]; exact hts
  obtain ⟨ctt, hTd, hTx, hPs, hRs⟩ := id hC
  obtain ⟨wl, wv, ctd, hLw, hW, hWi⟩ := id hTd
  obtain ⟨md1, E1, cwl⟩ := hLw.cl
  obtain ⟨hs1, ⟨hs2, hs3⟩, hs4⟩ := id hs
  have hs5 := hs1.2.1
  have hs6 := hs4.1
  have hs7 := nW_le (hT σ.1)
  have hs8 := hs1.1
  refine k_iload_n 1 1 dX7_addWave_0 rfl rfl ?_
  refine k_iconst dX7_addWave_1 ?_
  refine k_sipush dX7_addWave_2 (by decide) ?_
  refine k_useR (k_runS (c_X7_isWithin θ.2.1 κ (z := r) (a := 0) (b := 5000) hr (inI_mk (by omega) (by omega)) (inI_mk (by omega) (by omega))) w_X7_37 q_136 rfl rfl ⟨(Nat.le_of_ble_eq_true rfl), (Nat.le_of_ble_eq_true rfl)⟩ (Nat.le_of_ble_eq_true rfl) dX7_addWave_5) ⟨(Nat.le_of_ble_eq_true rfl), (Nat.le_of_ble_eq_true rfl)⟩ ?_
  refine k_ifb_ne 21 dX7_addWave_8 (by decide) (fun h8 => ?_) (fun h8 => ?_)
  · have hd8 := of_decide_eq_true h8
    refine k_iload_n 2 2 dX7_addWave_21 rfl rfl ?_
    refine k_bipush dX7_addWave_22 (by decide) ?_
    refine k_sipush dX7_addWave_24 (by decide) ?_
    refine k_useR (k_runS (c_X7_isWithin θ.2.1 κ (z := p) (a := 60) (b := 20000) hp (inI_mk (by omega) (by omega)) (inI_mk (by omega) (by omega))) w_X7_37 q_136 rfl rfl ⟨(Nat.le_of_ble_eq_true rfl), (Nat.le_of_ble_eq_true rfl)⟩ (Nat.le_of_ble_eq_true rfl) dX7_addWave_27) ⟨(Nat.le_of_ble_eq_true rfl), (Nat.le_of_ble_eq_true rfl)⟩ ?_
    refine k_ifb_ne 43 dX7_addWave_30 (by decide) (fun h30 => ?_) (fun h30 => ?_)
    · have hd30 := of_decide_eq_true h30
      refine k_iload_n 3 3 dX7_addWave_43 rfl rfl ?_
      refine k_iconst dX7_addWave_44 ?_
      refine k_iload_n 2 2 dX7_addWave_45 rfl rfl ?_
      refine k_iconst dX7_addWave_46 ?_
      refine k_isub dX7_addWave_47 ?_
      refine k_useR (k_runS (c_X7_isWithin θ.2.1 κ (z := o) (a := 0) (b := (p - 1)) ho (inI_mk (by omega) (by omega)) (inI_mk (by omega) (by omega))) w_X7_37 q_136 rfl rfl ⟨(Nat.le_of_ble_eq_true rfl), (Nat.le_of_ble_eq_true rfl)⟩ (Nat.le_of_ble_eq_true rfl) dX7_addWave_48) ⟨(Nat.le_of_ble_eq_true rfl), (Nat.le_of_ble_eq_true rfl)⟩ ?_
      refine k_ifb_ne 64 dX7_addWave_51 (by decide) (fun h51 => ?_) (fun h51 => ?_)
      · have hd51 := of_decide_eq_true h51
        refine k_aload_n 0 0 dX7_addWave_64 rfl rfl ?_
        refine k_get 0 i_X7 q_112 ctt rfl (by decide) rfl dX7_addWave_65 ?_
        refine k_getN 0 i_X5 q_77 ctd rfl (by decide) rfl dX7_addWave_68 ?_
        refine k_useR (k_runV (c_Jx4a65c_size_8abf5 θ.2.1 κ (n := σ.1.2.1) (g := wv) (l := wl) hLw) w_X7_55 ⟨q_211, q_212⟩ rfl rfl cwl rfl ⟨(Nat.le_of_ble_eq_true rfl), (Nat.le_of_ble_eq_true rfl)⟩ (Nat.le_of_ble_eq_true rfl) dX7_addWave_71) ⟨(Nat.le_of_ble_eq_true rfl), (Nat.le_of_ble_eq_true rfl)⟩ ?_
        refine k_bipush dX7_addWave_74 (by decide) ?_
        refine k_icmp_lt 89 dX7_addWave_76 (by decide) (inI_mk (by omega) (by omega)) (inI_mk (by omega) (by omega)) (fun h76 => ?_) (fun h76 => ?_)
        · refine k_aload_n 0 0 dX7_addWave_89 rfl rfl ?_
          refine k_get 0 i_X7 q_112 ctt rfl (by decide) rfl dX7_addWave_90 ?_
          refine k_getN 0 i_X5 q_77 ctd rfl (by decide) rfl dX7_addWave_93 ?_
          refine k_new (ci := 7) 14 [.int (iI 0), .int (iI 0), .int (iI 0)] i_X6 tyX6_ok q_547 q_548 q_25 rfl dv_X6 (Nat.le_of_ble_eq_true rfl) (Nat.le_of_ble_eq_true rfl) dX7_addWave_96 (fun w L1 f1 hz1 hn1 hc1 => ?_)
          have hr1 := k_fr.new hz1
          replace ctt := ctt.fr hr1 rfl
          replace ctd := ctd.fr hr1 rfl
          replace cwl := cwl.fr hr1 rfl
          have cW : Cl L1 f1 w (14, .inr (7, [.int (iI 0), .int (iI 0), .int (iI 0)])) := hc1
          refine k_dup dX7_addWave_99 rfl ?_
          refine k_iload_n 1 1 dX7_addWave_100 rfl rfl ?_
          refine k_iload_n 2 2 dX7_addWave_101 rfl rfl ?_
          refine k_iload_n 3 3 dX7_addWave_102 rfl rfl ?_
          refine k_useU (k_runI (c_X6_init θ.2.1 κ (w := w) (r := r) (p := p) (o := o) cW) w_X7_66 q_550 rfl rfl rfl ⟨(Nat.le_of_ble_eq_true rfl), (Nat.le_of_ble_eq_true rfl)⟩ (Nat.le_of_ble_eq_true rfl) dX7_addWave_103) ⟨(Nat.le_of_ble_eq_true rfl), (Nat.le_of_ble_eq_true rfl)⟩ (fun Lfw fw hw => ?_)
          obtain ⟨efw, hnfw, cfw⟩ := hw
          replace efw := efw.symm
          subst efw
          have hrfw := k_fr.put hnfw cW
          replace ctt := ctt.fr hrfw rfl
          replace ctd := ctd.fr hrfw rfl
          replace cwl := cwl.fr hrfw rfl
          replace cW := cfw
          have hkfw := k_new2 hz1 hn1 hnfw
          have hX := hTx.1.fr hkfw rfl
          replace hPs := hPs.fr hkfw rfl
          replace hRs := hRs.fr hkfw rfl
          replace hLw := hLw.fr hkfw rfl
          have hW1 := fun i (hi : i < σ.1.2.1) => (hW i hi).fr hkfw rfl
          refine k_useV (k_runV (c_Jx4a65c_add_9ea2d θ.2.1 κ (tl := 6) (ta := 11) (tv := 14) (n := σ.1.2.1) (ci := 7) (g := wv) (l := wl) (v := w) hLw cW (by decide) ⟨by decide, by decide⟩ (by omega) rfl q_575 (fun i hi => ⟨14, _, hW1 i hi, by decide, by decide⟩)) w_X7_69 ⟨q_401, q_402⟩ rfl rfl cwl rfl ⟨(Nat.le_of_ble_eq_true rfl), (Nat.le_of_ble_eq_true rfl)⟩ (Nat.le_of_ble_eq_true rfl) dX7_addWave_106) ⟨(Nat.le_of_ble_eq_true rfl), (Nat.le_of_ble_eq_true rfl)⟩ (fun w9 La fa hw9 => ?_)
          obtain ⟨rfl, hL9, hra⟩ := hw9
          replace ctt := ctt.fr hra rfl
          replace ctd := ctd.fr hra rfl
          replace cW := cW.fr hra rfl
          replace hX := hX.fr hra rfl
          replace hPs := hPs.fr hra rfl
          replace hRs := hRs.fr hra rfl
          replace hLw := hL9
          clear hL9
          obtain ⟨md9, E9, c9l⟩ := hLw.cl
          have hTd2 := TideR.add hW (fun i hi => (hW1 i hi).fr hra rfl) hn1 ctd hLw cW hWi
          refine k_pop dX7_addWave_109 rfl ?_
          refine k_aload_n 0 0 dX7_addWave_110 rfl rfl ?_
          refine k_iconst dX7_addWave_111 ?_
          refine k_put 4 [.ref td, .ref tb, .ref pl, .ref rl, .int (iI (bI true))] i_X7 tyX7_ok nmX7 q_116 ctt rfl (by decide) rfl rfl (k_nar_b true) (k_fit_b true) (Nat.le_of_ble_eq_true rfl) rfl dX7_addWave_112 (fun f2 hf2 hc2 => ?_)
          have hr2 := k_fr.put hf2 ctt
          replace ctd := ctd.fr hr2 rfl
          replace c9l := c9l.fr hr2 rfl
          replace cW := cW.fr hr2 rfl
          replace hX := hX.fr hr2 rfl
          replace hPs := hPs.fr hr2 rfl
          replace hRs := hRs.fr hr2 rfl
          replace hLw := hLw.fr hr2 rfl
          replace hTd2 := hTd2.fr hr2 rfl
          replace ctt : Cl La f2 tt (1, .inr (8, [.ref td, .ref tb, .ref pl, .ref rl, .int (iI (bI true))])) := hc2
          refine k_aload_n 0 0 dX7_addWave_115 rfl rfl ?_
          refine k_get 0 i_X7 q_112 ctt rfl (by decide) rfl dX7_addWave_116 ?_
          refine k_getN 0 i_X5 q_77 ctd rfl (by decide) rfl dX7_addWave_119 ?_
          refine k_useR (k_runV (c_Jx4a65c_size_8abf5 θ.2.1 κ (n := (σ.1.2.1 + 1)) (g := (va_up wv σ.1.2.1 w)) (l := wl) hLw) w_X7_55 ⟨q_211, q_212⟩ rfl rfl c9l rfl ⟨(Nat.le_of_ble_eq_true rfl), (Nat.le_of_ble_eq_true rfl)⟩ (Nat.le_of_ble_eq_true rfl) dX7_addWave_122) ⟨(Nat.le_of_ble_eq_true rfl), (Nat.le_of_ble_eq_true rfl)⟩ ?_
          refine k_iconst dX7_addWave_125 ?_
          refine k_isub dX7_addWave_126 ?_
          exact k_xr (k_iret dX7_addWave_127 rfl (Nat.le_of_ble_eq_true rfl) (Nat.le_of_ble_eq_true rfl) (⟨_, rfl, (by rw [xAddWave, if_pos hd8, if_pos hd30, if_pos hd51, if_pos (by omega)]), (congrArg (fun z => Value.int (iI z)) (by omega)), ⟨td, tb, pl, rl, true, ctt, hTd2, ⟨hX, fun e => Bool.noConfusion e⟩, hPs, hRs⟩, (k_fr.trans (k_fr.trans (k_fr.mono hkfw (fun _ _ => rfl)) hra idf (SC_S2 rfl rfl)) hr2 idf (SC_of rfl))⟩))
        · exact k_throw (si := 3) hts2 hth x_IS (by decide) rfl dX7_addWave_79 dX7_addWave_82 dX7_addWave_83 dX7_addWave_85 dX7_addWave_88 ⟨(Nat.le_of_ble_eq_true rfl), (Nat.le_of_ble_eq_true rfl), (Nat.le_of_ble_eq_true rfl), (Nat.le_of_ble_eq_true rfl)⟩ (Nat.le_of_ble_eq_true rfl) ⟨(Nat.le_of_ble_eq_true rfl), (Nat.le_of_ble_eq_true rfl)⟩ (⟨(by rw [xAddWave, if_pos hd8, if_pos hd30, if_pos hd51, if_neg (by omega)]), hC.cs, k_fr.refl⟩)
      · have hd51 := of_decide_eq_false h51
        exact k_throw (si := 2) hts2 hth x_IA (by decide) rfl dX7_addWave_54 dX7_addWave_57 dX7_addWave_58 dX7_addWave_60 dX7_addWave_63 ⟨(Nat.le_of_ble_eq_true rfl), (Nat.le_of_ble_eq_true rfl), (Nat.le_of_ble_eq_true rfl), (Nat.le_of_ble_eq_true rfl)⟩ (Nat.le_of_ble_eq_true rfl) ⟨(Nat.le_of_ble_eq_true rfl), (Nat.le_of_ble_eq_true rfl)⟩ (⟨(by rw [xAddWave, if_pos hd8, if_pos hd30, if_neg hd51]), hC.cs, k_fr.refl⟩)
    · have hd30 := of_decide_eq_false h30
      exact k_throw (si := 1) hts2 hth x_IA (by decide) rfl dX7_addWave_33 dX7_addWave_36 dX7_addWave_37 dX7_addWave_39 dX7_addWave_42 ⟨(Nat.le_of_ble_eq_true rfl), (Nat.le_of_ble_eq_true rfl), (Nat.le_of_ble_eq_true rfl), (Nat.le_of_ble_eq_true rfl)⟩ (Nat.le_of_ble_eq_true rfl) ⟨(Nat.le_of_ble_eq_true rfl), (Nat.le_of_ble_eq_true rfl)⟩ (⟨(by rw [xAddWave, if_pos hd8, if_neg hd30]), hC.cs, k_fr.refl⟩)
  · have hd8 := of_decide_eq_false h8
    exact k_throw (si := 0) hts2 hth x_IA (by decide) rfl dX7_addWave_11 dX7_addWave_14 dX7_addWave_15 dX7_addWave_17 dX7_addWave_20 ⟨(Nat.le_of_ble_eq_true rfl), (Nat.le_of_ble_eq_true rfl), (Nat.le_of_ble_eq_true rfl), (Nat.le_of_ble_eq_true rfl)⟩ (Nat.le_of_ble_eq_true rfl) ⟨(Nat.le_of_ble_eq_true rfl), (Nat.le_of_ble_eq_true rfl)⟩ (⟨(by rw [xAddWave, if_neg hd8]), hC.cs, k_fr.refl⟩)
set_option maxHeartbeats 4000000 in
set_option maxRecDepth 100000 in
theorem c_X7_addPort (la : Launch) (κ : Kx) {L : List Nat} {f : Nat → wE} {tt td tb pl rl : Nat} {old : Bool} {σ : Sg}   (hC : CSF κ L f tt td tb pl rl old σ) (hts : la.stackTraces = false) (hs : SgOk σ) : k_MX la κ yX7_addPort cX7_addPort 1 (some .int) 8 4 67 [.ref tt] L f (k_rn (fun v9 L' f' => xAddPort σ = none ∧ v9 = .int (iI ((σ.2.1 : Int))) ∧ CS κ L' f' tt (sAddPort σ) ∧ k_fr SC L f L' f')) (fun E L' f' => xAddPort σ = some E ∧ CS κ L' f' tt σ ∧ k_fr SC L f L' f') := by
  refine k_headX RX7 [(0, .ref tt)] rfl (by decide) (Nat.le_of_ble_eq_true rfl) rfl (fun θ hθ hin hth => ?_)
  have hts2 : θ.2.1.stackTraces = false := by rw [hθ]; exact hts
  obtain ⟨ctt, hTd, hTx, hPs, hRs⟩ := id hC
  obtain ⟨pv, hv, ov, hLp, hPv, hPi⟩ := id hPs
  obtain ⟨md2, E2, cpl⟩ := hLp.cl
  obtain ⟨hs1, ⟨hs2, hs3⟩, hs4⟩ := id hs
  have hs5 := hs1.2.1
  have hs6 := hs4.1
  have hs7 := nW_le (hT σ.1)
  have hs8 := hs1.1
  have ctt0 := ctt
  have cpl0 := cpl
  have hTX : TX κ L f tb old σ.1 := hTx
  refine k_aload_n 0 0 dX7_addPort_0 rfl rfl ?_
  refine k_get 2 i_X7 q_114 ctt rfl (by decide) rfl dX7_addPort_1 ?_
  refine k_useR (k_runV (c_Jx4a65c_size_8abf5 θ.2.1 κ (n := σ.2.1) (g := pv) (l := pl) hLp) w_X7_55 ⟨q_211, q_212⟩ rfl rfl cpl rfl ⟨(Nat.le_of_ble_eq_true rfl), (Nat.le_of_ble_eq_true rfl)⟩ (Nat.le_of_ble_eq_true rfl) dX7_addPort_4) ⟨(Nat.le_of_ble_eq_true rfl), (Nat.le_of_ble_eq_true rfl)⟩ ?_
  refine k_bipush dX7_addPort_7 (by decide) ?_
  refine k_icmp_lt 22 dX7_addPort_9 (by decide) (inI_mk (by omega) (by omega)) (inI_mk (by omega) (by omega)) (fun h9 => ?_) (fun h9 => ?_)
  · refine k_aload_n 0 0 dX7_addPort_22 rfl rfl ?_
    refine k_get 2 i_X7 q_114 ctt rfl (by decide) rfl dX7_addPort_23 ?_
    refine k_new (ci := 2) 15 [.null, .null, .int (iI 0)] i_X1 tyX1_ok q_367 q_368 q_30 rfl dv_X1 (Nat.le_of_ble_eq_true rfl) (Nat.le_of_ble_eq_true rfl) dX7_addPort_26 (fun p9 L1 f1 hz1 hn1 hc1 => ?_)
    have hr1 := k_fr.new hz1
    replace ctt := ctt.fr hr1 rfl
    replace cpl := cpl.fr hr1 rfl
    have cP9 : Cl L1 f1 p9 (15, .inr (2, [.null, .null, .int (iI 0)])) := hc1
    refine k_dup dX7_addPort_29 rfl ?_
    refine k_useU (k_runIN (c_X1_init θ.2.1 κ (pt := p9) cP9) w_X7_142 q_370 rfl rfl rfl ⟨(Nat.le_of_ble_eq_true rfl), (Nat.le_of_ble_eq_true rfl)⟩ (Nat.le_of_ble_eq_true rfl) dX7_addPort_30) ⟨(Nat.le_of_ble_eq_true rfl), (Nat.le_of_ble_eq_true rfl)⟩ (fun Lp fp hw => ?_)
    obtain ⟨⟨ph9, po9, hph9, hpo9, cpt9, cph9, cpo9⟩, hon⟩ := hw
    have hkn := k_new3 hz1 hn1 hon
    replace ctt := ctt0.fr hkn rfl
    replace cpl := cpl0.fr hkn rfl
    have hTX2 := hTX.fr hkn rfl
    replace hTd := hTd.fr hkn rfl
    replace hRs := hRs.fr hkn rfl
    replace hLp := hLp.fr hkn rfl
    have hPv1 := fun i (hi : i < σ.2.1) => (⟨(hPv i hi).1.fr hkn rfl, (hPv i hi).2.1.fr hkn rfl, (hPv i hi).2.2.fr hkn rfl⟩ : Cl Lp fp (pv i) _ ∧ Cl Lp fp (hv i) _ ∧ Cl Lp fp (ov i) _)
    have hnn9 : p9 ∉ L ∧ ph9 ∉ L ∧ po9 ∉ L := ⟨hn1, fun hx => hph9 (hz1 ph9 hx).1, fun hx => hpo9 (hz1 po9 hx).1⟩
    refine k_useV (k_runV (c_Jx4a65c_add_9ea2d θ.2.1 κ (tl := 4) (ta := 12) (tv := 15) (n := σ.2.1) (ci := 2) (g := pv) (l := pl) (v := p9) hLp cpt9 (by decide) ⟨by decide, by decide⟩ (by omega) rfl q_576 (fun i hi => ⟨15, _, (hPv1 i hi).1, by decide, by decide⟩)) w_X7_69 ⟨q_401, q_402⟩ rfl rfl cpl rfl ⟨(Nat.le_of_ble_eq_true rfl), (Nat.le_of_ble_eq_true rfl)⟩ (Nat.le_of_ble_eq_true rfl) dX7_addPort_33) ⟨(Nat.le_of_ble_eq_true rfl), (Nat.le_of_ble_eq_true rfl)⟩ (fun w9 La fa hw9 => ?_)
    obtain ⟨rfl, hL9, hra⟩ := hw9
    replace ctt := ctt.fr hra rfl
    replace cpt9 := cpt9.fr hra rfl
    replace cph9 := cph9.fr hra rfl
    replace cpo9 := cpo9.fr hra rfl
    replace hTX2 := hTX2.fr hra rfl
    replace hTd := hTd.fr hra rfl
    replace hRs := hRs.fr hra rfl
    replace hLp := hL9
    clear hL9
    obtain ⟨md9, E9, c9l⟩ := hLp.cl
    have hPs2 := PortsR.add2 hPv hPv1 hra hnn9 hLp cpt9 cph9 cpo9 hPi
    refine k_pop dX7_addPort_36 rfl ?_
    refine k_aload_n 0 0 dX7_addPort_37 rfl rfl ?_
    refine k_get 2 i_X7 q_114 ctt rfl (by decide) rfl dX7_addPort_38 ?_
    refine k_useR (k_runV (c_Jx4a65c_size_8abf5 θ.2.1 κ (n := (σ.2.1 + 1)) (g := (va_up pv σ.2.1 p9)) (l := pl) hLp) w_X7_55 ⟨q_211, q_212⟩ rfl rfl c9l rfl ⟨(Nat.le_of_ble_eq_true rfl), (Nat.le_of_ble_eq_true rfl)⟩ (Nat.le_of_ble_eq_true rfl) dX7_addPort_41) ⟨(Nat.le_of_ble_eq_true rfl), (Nat.le_of_ble_eq_true rfl)⟩ ?_
    refine k_iconst dX7_addPort_44 ?_
    refine k_isub dX7_addPort_45 ?_
    exact k_xr (k_iret dX7_addPort_46 rfl (Nat.le_of_ble_eq_true rfl) (Nat.le_of_ble_eq_true rfl) (⟨_, rfl, (by rw [xAddPort, if_pos (by omega)]), (congrArg (fun z => Value.int (iI z)) (by omega)), ⟨td, tb, pl, rl, old, ctt, hTd, hTX2, hPs2, hRs⟩, (k_fr.trans (k_fr.mono hkn (fun _ _ => rfl)) hra idf (SC_S2 rfl rfl))⟩))
  · exact k_throw (si := 9) hts2 hth x_IS (by decide) rfl dX7_addPort_12 dX7_addPort_15 dX7_addPort_16 dX7_addPort_18 dX7_addPort_21 ⟨(Nat.le_of_ble_eq_true rfl), (Nat.le_of_ble_eq_true rfl), (Nat.le_of_ble_eq_true rfl), (Nat.le_of_ble_eq_true rfl)⟩ (Nat.le_of_ble_eq_true rfl) ⟨(Nat.le_of_ble_eq_true rfl), (Nat.le_of_ble_eq_true rfl)⟩ (⟨(by rw [xAddPort, if_neg (by omega)]), hC.cs, k_fr.refl⟩)
