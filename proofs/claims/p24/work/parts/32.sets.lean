def TX (κ : Kx) (L : List Nat) (f : Nat → wE) (tb : Nat) (old : Bool) (τ : Td) : Prop := TblX κ L f tb ∧ (old = false → TblR κ L f tb (hT τ))
theorem TX.fr {κ : Kx} {L L' : List Nat} {f f' : Nat → wE} {tb : Nat} {old : Bool} {τ : Td} {S : Nat → Bool} (h : TX κ L f tb old τ) (hf : k_fr S L f L' f') (hS : (S 3 || S 7 || S 8 || S 9 || S 10) = false) : TX κ L' f' tb old τ := ⟨h.1.fr hf hS, fun e => (h.2 e).fr hf hS⟩
theorem PortsR.setH {κ : Kx} {L : List Nat} {f f' : Nat → wE} {pl n k : Nat} {qs : Nat → Pt} {pv hv ov : Nat → Nat} {s t : Int} (hL : ListR κ L f' pl 4 12 n pv) (hP : ∀ i, i < n → Cl L f (pv i) (15, .inr (2, [.ref (hv i), .ref (ov i), .int (iI (qs i).2.2.2.2)])) ∧ Cl L f (hv i) (16, .inr (1, [.int (iI (qs i).1), .int (iI (qs i).2.1)])) ∧ Cl L f (ov i) (17, .inr (1, [.int (iI (qs i).2.2.1), .int (iI (qs i).2.2.2.1)])))
    (hi : ∀ i j, i < n → j < n → i ≠ j → pv i ≠ pv j ∧ hv i ≠ hv j ∧ ov i ≠ ov j) (hk : k < n) (hne : ∀ z, z ≠ hv k → f' z = f z) (hc : Cl L f' (hv k) (16, .inr (1, [.int (iI s), .int (iI t)]))) : PortsR κ L f' pl n (va_up qs k (s, t, (qs k).2.2)) := by
  refine ⟨pv, hv, ov, hL, fun i hi2 => ?_, hi⟩
  obtain ⟨c1, c2, c3⟩ := hP i hi2
  have hk1 := (hP k hk).2.1
  by_cases e : i = k
  · subst e
    rw [va_up_self]
    exact ⟨Cl.put hne hk1 c1 (by decide), hc, Cl.put hne hk1 c3 (by decide)⟩
  · rw [va_up_ne _ _ e]
    exact ⟨Cl.put hne hk1 c1 (by decide), Cl.put2 hne c2 (hi i k hi2 hk e).2.1, Cl.put hne hk1 c3 (by decide)⟩
theorem PortsR.setL {κ : Kx} {L : List Nat} {f f' : Nat → wE} {pl n k : Nat} {qs : Nat → Pt} {pv hv ov : Nat → Nat} {s t : Int} (hL : ListR κ L f' pl 4 12 n pv) (hP : ∀ i, i < n → Cl L f (pv i) (15, .inr (2, [.ref (hv i), .ref (ov i), .int (iI (qs i).2.2.2.2)])) ∧ Cl L f (hv i) (16, .inr (1, [.int (iI (qs i).1), .int (iI (qs i).2.1)])) ∧ Cl L f (ov i) (17, .inr (1, [.int (iI (qs i).2.2.1), .int (iI (qs i).2.2.2.1)])))
    (hi : ∀ i j, i < n → j < n → i ≠ j → pv i ≠ pv j ∧ hv i ≠ hv j ∧ ov i ≠ ov j) (hk : k < n) (hne : ∀ z, z ≠ ov k → f' z = f z) (hc : Cl L f' (ov k) (17, .inr (1, [.int (iI s), .int (iI t)]))) : PortsR κ L f' pl n (va_up qs k ((qs k).1, (qs k).2.1, s, t, (qs k).2.2.2.2)) := by
  refine ⟨pv, hv, ov, hL, fun i hi2 => ?_, hi⟩
  obtain ⟨c1, c2, c3⟩ := hP i hi2
  have hk1 := (hP k hk).2.2
  by_cases e : i = k
  · subst e
    rw [va_up_self]
    exact ⟨Cl.put hne hk1 c1 (by decide), Cl.put hne hk1 c2 (by decide), hc⟩
  · rw [va_up_ne _ _ e]
    exact ⟨Cl.put hne hk1 c1 (by decide), Cl.put hne hk1 c2 (by decide), Cl.put2 hne c3 (hi i k hi2 hk e).2.2⟩
theorem PortsR.setA {κ : Kx} {L : List Nat} {f f' : Nat → wE} {pl n k : Nat} {qs : Nat → Pt} {pv hv ov : Nat → Nat} {s : Int} (hL : ListR κ L f' pl 4 12 n pv) (hP : ∀ i, i < n → Cl L f (pv i) (15, .inr (2, [.ref (hv i), .ref (ov i), .int (iI (qs i).2.2.2.2)])) ∧ Cl L f (hv i) (16, .inr (1, [.int (iI (qs i).1), .int (iI (qs i).2.1)])) ∧ Cl L f (ov i) (17, .inr (1, [.int (iI (qs i).2.2.1), .int (iI (qs i).2.2.2.1)])))
    (hi : ∀ i j, i < n → j < n → i ≠ j → pv i ≠ pv j ∧ hv i ≠ hv j ∧ ov i ≠ ov j) (hk : k < n) (hne : ∀ z, z ≠ pv k → f' z = f z) (hc : Cl L f' (pv k) (15, .inr (2, [.ref (hv k), .ref (ov k), .int (iI s)]))) : PortsR κ L f' pl n (va_up qs k (qAdd (qs k) s)) := by
  refine ⟨pv, hv, ov, hL, fun i hi2 => ?_, hi⟩
  obtain ⟨c1, c2, c3⟩ := hP i hi2
  have hk1 := (hP k hk).1
  by_cases e : i = k
  · subst e
    rw [va_up_self]
    exact ⟨hc, Cl.put hne hk1 c2 (by decide), Cl.put hne hk1 c3 (by decide)⟩
  · rw [va_up_ne _ _ e]
    exact ⟨Cl.put2 hne c1 (hi i k hi2 hk e).1, Cl.put hne hk1 c2 (by decide), Cl.put hne hk1 c3 (by decide)⟩
theorem PortsR.add {κ : Kx} {L L1 : List Nat} {f f1 : Nat → wE} {pl n p ph po : Nat} {qs : Nat → Pt} {pv hv ov : Nat → Nat} (hP : ∀ i, i < n → Cl L f (pv i) (15, .inr (2, [.ref (hv i), .ref (ov i), .int (iI (qs i).2.2.2.2)])) ∧ Cl L f (hv i) (16, .inr (1, [.int (iI (qs i).1), .int (iI (qs i).2.1)])) ∧ Cl L f (ov i) (17, .inr (1, [.int (iI (qs i).2.2.1), .int (iI (qs i).2.2.2.1)])))
    (hr : k_fr (S2 4 12) L f L1 f1) (hn : p ∉ L ∧ ph ∉ L ∧ po ∉ L) (hL : ListR κ L1 f1 pl 4 12 (n + 1) (va_up pv n p)) (c1 : Cl L1 f1 p (15, .inr (2, [.ref ph, .ref po, .int (iI 0)]))) (c2 : Cl L1 f1 ph (16, .inr (1, [.int (iI 0), .int (iI 100)]))) (c3 : Cl L1 f1 po (17, .inr (1, [.int (iI 0), .int (iI 100)]))) (hi : ∀ i j, i < n → j < n → i ≠ j → pv i ≠ pv j ∧ hv i ≠ hv j ∧ ov i ≠ ov j) : PortsR κ L1 f1 pl (n + 1) (va_up qs n (0, 100, 0, 100, 0)) := by
  refine ⟨va_up pv n p, va_up hv n ph, va_up ov n po, hL, fun i hi2 => ?_, fun i j hi2 hj2 hij => ?_⟩
  · by_cases e : i = n
    · subst e
      rw [va_up_self, va_up_self, va_up_self, va_up_self]
      exact ⟨c1, c2, c3⟩
    · rw [va_up_ne _ _ e, va_up_ne _ _ e, va_up_ne _ _ e, va_up_ne _ _ e]
      obtain ⟨a1, a2, a3⟩ := hP i (by omega)
      exact ⟨a1.fr hr rfl, a2.fr hr rfl, a3.fr hr rfl⟩
  · by_cases e1 : i = n
    · have e2 : j ≠ n := by omega
      obtain ⟨a1, a2, a3⟩ := hP j (by omega)
      rw [e1, va_up_self, va_up_self, va_up_self, va_up_ne _ _ e2, va_up_ne _ _ e2, va_up_ne _ _ e2]
      exact ⟨fun q => hn.1 (by rw [q]; exact a1.1), fun q => hn.2.1 (by rw [q]; exact a2.1), fun q => hn.2.2 (by rw [q]; exact a3.1)⟩
    · rw [va_up_ne _ _ e1, va_up_ne _ _ e1, va_up_ne _ _ e1]
      obtain ⟨a1, a2, a3⟩ := hP i (by omega)
      by_cases e2 : j = n
      · rw [e2, va_up_self, va_up_self, va_up_self]
        exact ⟨fun q => hn.1 (by rw [← q]; exact a1.1), fun q => hn.2.1 (by rw [← q]; exact a2.1), fun q => hn.2.2 (by rw [← q]; exact a3.1)⟩
      · rw [va_up_ne _ _ e2, va_up_ne _ _ e2, va_up_ne _ _ e2]
        exact hi i j (by omega) (by omega) hij
theorem ReadsR.add {κ : Kx} {L1 : List Nat} {f1 : Nat → wE} {rl r t : Nat} {v : Int} {ρ : Rd} {rv : Nat → Nat} (hR : ∀ i, i < ρ.1 → Cl L1 f1 (rv i) (18, .inr (3, [.int (iI (ρ.2.1 i : Int)), .int (iI (ρ.2.2 i))]))) (hL : ListR κ L1 f1 rl 5 13 (ρ.1 + 1) (va_up rv ρ.1 r)) (c1 : Cl L1 f1 r (18, .inr (3, [.int (iI (t : Int)), .int (iI v)]))) : ReadsR κ L1 f1 rl (ρ.1 + 1, va_up ρ.2.1 ρ.1 t, va_up ρ.2.2 ρ.1 v) := by
  refine ⟨va_up rv ρ.1 r, hL, fun i hi2 => ?_⟩
  have hi3 : i < ρ.1 + 1 := hi2
  show Cl L1 f1 (va_up rv ρ.1 r i) (18, .inr (3, [.int (iI ((va_up ρ.2.1 ρ.1 t i : Nat) : Int)), .int (iI (va_up ρ.2.2 ρ.1 v i))]))
  by_cases e : i = ρ.1
  · subst e
    rw [va_up_self, va_up_self, va_up_self]
    exact c1
  · rw [va_up_ne _ _ e, va_up_ne _ _ e, va_up_ne _ _ e]
    exact hR i (by omega)
set_option maxHeartbeats 4000000 in
set_option maxRecDepth 100000 in
theorem c_X7_setAddition (la : Launch) (κ : Kx) {L : List Nat} {f : Nat → wE} {tt td tb pl rl : Nat} {old : Bool} {σ : Sg} {p ad : Int}  (hC : CSF κ L f tt td tb pl rl old σ) (hts : la.stackTraces = false) (hs : SgOk σ) (hp : inI p) (had : inI ad) : k_MX la κ yX7_setAddition cX7_setAddition 5 (some .int) 6 1 6 [.ref tt, .int (iI p), .int (iI ad)] L f (k_rn (fun v9 L' f' => xSetAdd σ p ad = none ∧ v9 = .int (iI ((σ.2.2.1 p.toNat).2.2.2.2)) ∧ CS κ L' f' tt (sSetAdd σ p ad) ∧ k_fr SC L f L' f')) (fun E L' f' => xSetAdd σ p ad = some E ∧ CS κ L' f' tt σ ∧ k_fr SC L f L' f') := by
  refine k_headX RX7 [(0, .ref tt), (1, .int (iI p)), (2, .int (iI ad))] rfl (by decide) (Nat.le_of_ble_eq_true rfl) rfl (fun θ hθ hin hth => ?_)
  have hts2 : θ.2.1.stackTraces = false := by rw [hθ]; exact hts
  obtain ⟨ctt, hTd, hTx, hPs, hRs⟩ := id hC
  obtain ⟨pv, hv, ov, hLp, hPv, hPi⟩ := id hPs
  obtain ⟨md2, E2, cpl⟩ := hLp.cl
  obtain ⟨hs1, ⟨hs2, hs3⟩, hs4⟩ := id hs
  have hs5 := hs1.2.1
  have hs6 := hs4.1
  have hs7 := nW_le (hT σ.1)
  have hs8 := hs1.1
  refine k_aload_n 0 0 dX7_setAddition_0 rfl rfl ?_
  refine k_iload_n 1 1 dX7_setAddition_1 rfl rfl ?_
  refine k_useR (k_runV (c_X7_hasPort θ.2.1 κ (tt := tt) (z := p) hC hs hp) w_X7_143 ⟨q_459, q_12⟩ rfl rfl ctt rfl ⟨(Nat.le_of_ble_eq_true rfl), (Nat.le_of_ble_eq_true rfl)⟩ (Nat.le_of_ble_eq_true rfl) dX7_setAddition_2) ⟨(Nat.le_of_ble_eq_true rfl), (Nat.le_of_ble_eq_true rfl)⟩ ?_
  refine k_ifb_ne 18 dX7_setAddition_5 (by decide) (fun h5 => ?_) (fun h5 => ?_)
  · have hd5 := of_decide_eq_true h5
    refine k_iload_n 2 2 dX7_setAddition_18 rfl rfl ?_
    refine k_sipush dX7_setAddition_19 (by decide) ?_
    refine k_sipush dX7_setAddition_22 (by decide) ?_
    refine k_useR (k_runS (c_X7_isWithin θ.2.1 κ (z := ad) (a := (-3000)) (b := 3000) had (inI_mk (by omega) (by omega)) (inI_mk (by omega) (by omega))) w_X7_37 q_136 rfl rfl ⟨(Nat.le_of_ble_eq_true rfl), (Nat.le_of_ble_eq_true rfl)⟩ (Nat.le_of_ble_eq_true rfl) dX7_setAddition_25) ⟨(Nat.le_of_ble_eq_true rfl), (Nat.le_of_ble_eq_true rfl)⟩ ?_
    refine k_ifb_ne 41 dX7_setAddition_28 (by decide) (fun h28 => ?_) (fun h28 => ?_)
    · have hd28 := of_decide_eq_true h28
      obtain ⟨pn, rfl⟩ : ∃ pn : Nat, p = (pn : Int) := ⟨p.toNat, by omega⟩
      have hpn : pn < σ.2.1 := by omega
      have cpn := (hPv pn hpn).1
      refine k_aload_n 0 0 dX7_setAddition_41 rfl rfl ?_
      refine k_get 2 i_X7 q_114 ctt rfl (by decide) rfl dX7_setAddition_42 ?_
      refine k_iload_n 1 1 dX7_setAddition_45 rfl rfl ?_
      refine k_useR (k_runV (c_Jx4a65c_get_915e3 θ.2.1 κ (n := σ.2.1) (g := pv) (i := pn) (l := pl) hLp hpn) w_X7_82 ⟨q_215, q_216⟩ rfl rfl cpl rfl ⟨(Nat.le_of_ble_eq_true rfl), (Nat.le_of_ble_eq_true rfl)⟩ (Nat.le_of_ble_eq_true rfl) dX7_setAddition_46) ⟨(Nat.le_of_ble_eq_true rfl), (Nat.le_of_ble_eq_true rfl)⟩ ?_
      refine k_castS q_367 cpn rfl dX7_setAddition_49 ?_
      refine k_astore_n 3 [(3, .ref (pv pn)), (0, .ref tt), (1, .int (iI (pn : Int))), (2, .int (iI ad))] dX7_setAddition_52 rfl (by decide) rfl ?_
      have hTX : TX κ L f tb old σ.1 := hTx
      refine k_aload_n 0 3 dX7_setAddition_53 rfl rfl ?_
      refine k_getN 2 i_X1 q_392 cpn rfl (by decide) rfl dX7_setAddition_54 ?_
      refine k_istore [(4, .int (iI ((σ.2.2.1 pn).2.2.2.2))), (3, .ref (pv pn)), (0, .ref tt), (1, .int (iI (pn : Int))), (2, .int (iI ad))] dX7_setAddition_57 (by decide) rfl ?_
      refine k_aload_n 1 3 dX7_setAddition_59 rfl rfl ?_
      refine k_iload_n 4 2 dX7_setAddition_60 rfl rfl ?_
      refine k_putN 2 [.ref (hv pn), .ref (ov pn), .int (iI ad)] i_X1 tyX1_ok nmX1 q_392 cpn rfl (by decide) rfl rfl rfl rfl (Nat.le_of_ble_eq_true rfl) rfl dX7_setAddition_61 (fun f1 hf1 hc1 => ?_)
      have hr1 := k_fr.put hf1 cpn
      replace ctt := ctt.fr hr1 rfl
      replace cpl := cpl.fr hr1 rfl
      replace hTX := hTX.fr hr1 rfl
      replace hTd := hTd.fr hr1 rfl
      replace hRs := hRs.fr hr1 rfl
      replace hLp := hLp.fr hr1 rfl
      replace cpn : Cl L f1 (pv pn) (15, .inr (2, [.ref (hv pn), .ref (ov pn), .int (iI ad)])) := hc1
      have hPs2 := PortsR.setA hLp hPv hPi hpn hf1 cpn
      refine k_iload 0 dX7_setAddition_64 rfl ?_
      exact k_xr (k_iret dX7_setAddition_66 rfl (Nat.le_of_ble_eq_true rfl) (Nat.le_of_ble_eq_true rfl) (⟨_, rfl, (by rw [xSetAdd, if_pos hd5, if_pos hd28]), rfl, ⟨td, tb, pl, rl, old, ctt, hTd, hTX, hPs2, hRs⟩, (k_fr.mono hr1 (SC_of rfl))⟩))
    · have hd28 := of_decide_eq_false h28
      exact k_throw (si := 13) hts2 hth x_IA (by decide) rfl dX7_setAddition_31 dX7_setAddition_34 dX7_setAddition_35 dX7_setAddition_37 dX7_setAddition_40 ⟨(Nat.le_of_ble_eq_true rfl), (Nat.le_of_ble_eq_true rfl), (Nat.le_of_ble_eq_true rfl), (Nat.le_of_ble_eq_true rfl)⟩ (Nat.le_of_ble_eq_true rfl) ⟨(Nat.le_of_ble_eq_true rfl), (Nat.le_of_ble_eq_true rfl)⟩ (⟨(by rw [xSetAdd, if_pos hd5, if_neg hd28]), hC.cs, k_fr.refl⟩)
  · have hd5 := of_decide_eq_false h5
    exact k_throw (si := 10) hts2 hth x_IO (by decide) rfl dX7_setAddition_8 dX7_setAddition_11 dX7_setAddition_12 dX7_setAddition_14 dX7_setAddition_17 ⟨(Nat.le_of_ble_eq_true rfl), (Nat.le_of_ble_eq_true rfl), (Nat.le_of_ble_eq_true rfl), (Nat.le_of_ble_eq_true rfl)⟩ (Nat.le_of_ble_eq_true rfl) ⟨(Nat.le_of_ble_eq_true rfl), (Nat.le_of_ble_eq_true rfl)⟩ (⟨(by rw [xSetAdd, if_neg hd5]), hC.cs, k_fr.refl⟩)
