def k_on (a : Nat) (L : List Nat) (f : Nat → wE) (L' : List Nat) (f' : Nat → wE) : Prop := ∀ z ∈ L, z ∈ L' ∧ (z ≠ a → f' z = f z)
theorem k_on.put {a : Nat} {L : List Nat} {f f' : Nat → wE} (h : ∀ z, z ≠ a → f' z = f z) : k_on a L f L f' := fun z hz => ⟨hz, h z⟩
theorem k_on.ofF {a : Nat} {L L' : List Nat} {f f' : Nat → wE} (h : k_fr (fun _ => false) L f L' f') : k_on a L f L' f' := fun z hz => ⟨(h z hz).1, fun _ => (h z hz).2 rfl⟩
theorem k_on.trans {a : Nat} {L L1 L2 : List Nat} {f f1 f2 : Nat → wE} (h1 : k_on a L f L1 f1) (h2 : k_on a L1 f1 L2 f2) : k_on a L f L2 f2 := fun z hz => ⟨(h2 z (h1 z hz).1).1, fun hn => ((h2 z (h1 z hz).1).2 hn).trans ((h1 z hz).2 hn)⟩
theorem k_new3 {L L1 L2 : List Nat} {f f1 f2 : Nat → wE} {a : Nat} (hz : ∀ z ∈ L, z ∈ L1 ∧ f1 z = f z) (hn : a ∉ L) (h : k_on a L1 f1 L2 f2) : k_fr (fun _ => false) L f L2 f2 := fun z hz1 => ⟨(h z (hz z hz1).1).1, fun _ => ((h z (hz z hz1).1).2 (fun e => hn (by rw [← e]; exact hz1))).trans (hz z hz1).2⟩
theorem k_new2 {L L1 : List Nat} {f f1 f2 : Nat → wE} {a : Nat} (hz : ∀ z ∈ L, z ∈ L1 ∧ f1 z = f z) (hn : a ∉ L) (h : ∀ z, z ≠ a → f2 z = f1 z) : k_fr (fun _ => false) L f L1 f2 := fun z hz1 => ⟨(hz z hz1).1, fun _ => (h z (fun e => hn (by rw [← e]; exact hz1))).trans (hz z hz1).2⟩
set_option maxHeartbeats 4000000 in
set_option maxRecDepth 100000 in
theorem c_X0_init (la : Launch) (κ : Kx) {L : List Nat} {f : Nat → wE} {fo tg : Nat} (cfo : Cl L f fo (tg, .inr (1, [.int (iI 0), .int (iI 0)])))   : k_M la κ yX0_init cX0_init 1 none 1 0 0 [.ref fo] L f (k_ru (fun L' f' => L' = L ∧ (∀ z, z ≠ fo → f' z = f z) ∧ Cl L f' fo (tg, .inr (1, [.int (iI 0), .int (iI 100)])))) := by
  refine k_head RX0 [(0, .ref fo)] rfl (by decide) (Nat.le_of_ble_eq_true rfl) rfl (fun θ hθ hin => ?_)
  refine k_aload_n 0 0 dX0_init_0 rfl rfl ?_
  refine k_objInit q_378 q_42 q_43 (Nat.le_of_ble_eq_true rfl) (Nat.le_of_ble_eq_true rfl) dX0_init_1 ?_
  refine k_aload_n 0 0 dX0_init_4 rfl rfl ?_
  refine k_bipush dX0_init_5 (by decide) ?_
  refine k_put 1 [.int (iI 0), .int (iI 100)] i_X0 tyX0_ok nmX0 q_381 cfo rfl (by decide) rfl rfl rfl rfl (Nat.le_of_ble_eq_true rfl) rfl dX0_init_7 (fun f1 hf1 hc1 => ?_)
  have hr1 := k_fr.put hf1 cfo
  replace cfo : Cl L f1 fo (tg, .inr (1, [.int (iI 0), .int (iI 100)])) := hc1
  exact k_vret dX0_init_10 rfl (Nat.le_of_ble_eq_true rfl) (Nat.le_of_ble_eq_true rfl) (⟨rfl, rfl, hf1, cfo⟩)
set_option maxHeartbeats 4000000 in
set_option maxRecDepth 100000 in
theorem c_X1_followOf_t (la : Launch) (κ : Kx) {L : List Nat} {f : Nat → wE} {pt ph po : Nat} {ad : Int} (cpt : Cl L f pt (15, .inr (2, [.ref ph, .ref po, .int (iI ad)])))   : k_M la κ yX1_followOf cX1_followOf 2 (some (.object "TideTable$Follow")) 1 0 0 [.ref pt, .int (iI (bI true))] L f (k_ro L f (.ref ph)) := by
  refine k_head RX1 [(0, .ref pt), (1, .int (iI (bI true)))] rfl (by decide) (Nat.le_of_ble_eq_true rfl) rfl (fun θ hθ hin => ?_)
  refine k_iload_n 1 1 dX1_followOf_0 rfl rfl ?_
  refine k_ifb_eq 11 dX1_followOf_1 (by decide) (fun h1 => ?_) (fun h1 => ?_)
  · exact absurd h1 (by decide)
  · refine k_aload_n 0 0 dX1_followOf_4 rfl rfl ?_
    refine k_get 0 i_X1 q_389 cpt rfl (by decide) rfl dX1_followOf_5 ?_
    refine k_goto 15 dX1_followOf_8 (by decide) ?_
    exact k_aret dX1_followOf_15 rfl (Or.inl ⟨_, rfl⟩) (Nat.le_of_ble_eq_true rfl) (Nat.le_of_ble_eq_true rfl) ⟨rfl, rfl, rfl⟩
set_option maxHeartbeats 4000000 in
set_option maxRecDepth 100000 in
theorem c_X1_followOf_f (la : Launch) (κ : Kx) {L : List Nat} {f : Nat → wE} {pt ph po : Nat} {ad : Int} (cpt : Cl L f pt (15, .inr (2, [.ref ph, .ref po, .int (iI ad)])))   : k_M la κ yX1_followOf cX1_followOf 2 (some (.object "TideTable$Follow")) 1 0 0 [.ref pt, .int (iI (bI false))] L f (k_ro L f (.ref po)) := by
  refine k_head RX1 [(0, .ref pt), (1, .int (iI (bI false)))] rfl (by decide) (Nat.le_of_ble_eq_true rfl) rfl (fun θ hθ hin => ?_)
  refine k_iload_n 1 1 dX1_followOf_0 rfl rfl ?_
  refine k_ifb_eq 11 dX1_followOf_1 (by decide) (fun h1 => ?_) (fun h1 => ?_)
  · refine k_aload_n 0 0 dX1_followOf_11 rfl rfl ?_
    refine k_get 1 i_X1 q_390 cpt rfl (by decide) rfl dX1_followOf_12 ?_
    exact k_aret dX1_followOf_15 rfl (Or.inl ⟨_, rfl⟩) (Nat.le_of_ble_eq_true rfl) (Nat.le_of_ble_eq_true rfl) ⟨rfl, rfl, rfl⟩
  · exact absurd h1 (by decide)
set_option maxHeartbeats 4000000 in
set_option maxRecDepth 100000 in
theorem c_X1_timeOf (la : Launch) (κ : Kx) {L : List Nat} {f : Nat → wE} {pt tb : Nat} {h : Nat → Int} {q : Pt} {k : Nat}  (hTb : TblR κ L f tb h) (hP : PortR L f pt q) (hk : k < nW h) : k_M la κ yX1_timeOf cX1_timeOf 3 (some .int) 3 0 0 [.ref pt, .ref tb, .int (iI (k : Int))] L f (k_ro L f (.int (iI (pT h q k)))) := by
  refine k_head RX1 [(0, .ref pt), (1, .ref tb), (2, .int (iI (k : Int)))] rfl (by decide) (Nat.le_of_ble_eq_true rfl) rfl (fun θ hθ hin => ?_)
  have hnn := nW_le h
  obtain ⟨hs, wt, wh, wi, ctb⟩ := hTb.cl
  obtain ⟨ph, po, cpt, cph, cpo⟩ := id hP
  refine k_aload_n 1 1 dX1_timeOf_0 rfl rfl ?_
  refine k_iload_n 2 2 dX1_timeOf_1 rfl rfl ?_
  refine k_useR (k_runV (c_X3_timeOf θ.2.1 κ (tb := tb) (k := k) hTb (by omega)) w_X1_21 ⟨q_286, q_287⟩ rfl rfl ctb rfl ⟨(Nat.le_of_ble_eq_true rfl), (Nat.le_of_ble_eq_true rfl)⟩ (Nat.le_of_ble_eq_true rfl) dX1_timeOf_2) ⟨(Nat.le_of_ble_eq_true rfl), (Nat.le_of_ble_eq_true rfl)⟩ ?_
  refine k_aload_n 0 0 dX1_timeOf_5 rfl rfl ?_
  refine k_aload_n 1 1 dX1_timeOf_6 rfl rfl ?_
  refine k_iload_n 2 2 dX1_timeOf_7 rfl rfl ?_
  refine k_useR (k_runV (c_X3_isHigh θ.2.1 κ (tb := tb) (k := k) hTb (by omega)) w_X1_27 ⟨q_295, q_296⟩ rfl rfl ctb rfl ⟨(Nat.le_of_ble_eq_true rfl), (Nat.le_of_ble_eq_true rfl)⟩ (Nat.le_of_ble_eq_true rfl) dX1_timeOf_8) ⟨(Nat.le_of_ble_eq_true rfl), (Nat.le_of_ble_eq_true rfl)⟩ ?_
  rcases hhi : hi h k with _ | _
  · refine k_useR (k_runV (c_X1_followOf_f θ.2.1 κ (pt := pt) cpt) w_X1_31 ⟨q_466, q_467⟩ rfl rfl cpt rfl ⟨(Nat.le_of_ble_eq_true rfl), (Nat.le_of_ble_eq_true rfl)⟩ (Nat.le_of_ble_eq_true rfl) dX1_timeOf_11) ⟨(Nat.le_of_ble_eq_true rfl), (Nat.le_of_ble_eq_true rfl)⟩ ?_
    refine k_getN 0 i_X0 q_379 cpo rfl (by decide) rfl dX1_timeOf_14 ?_
    refine k_iadd dX1_timeOf_17 ?_
    exact k_iret dX1_timeOf_18 rfl (Nat.le_of_ble_eq_true rfl) (Nat.le_of_ble_eq_true rfl) (k_oki (by rw [pT, if_neg (by rw [hhi]; decide)]))
  · refine k_useR (k_runV (c_X1_followOf_t θ.2.1 κ (pt := pt) cpt) w_X1_31 ⟨q_466, q_467⟩ rfl rfl cpt rfl ⟨(Nat.le_of_ble_eq_true rfl), (Nat.le_of_ble_eq_true rfl)⟩ (Nat.le_of_ble_eq_true rfl) dX1_timeOf_11) ⟨(Nat.le_of_ble_eq_true rfl), (Nat.le_of_ble_eq_true rfl)⟩ ?_
    refine k_getN 0 i_X0 q_379 cph rfl (by decide) rfl dX1_timeOf_14 ?_
    refine k_iadd dX1_timeOf_17 ?_
    exact k_iret dX1_timeOf_18 rfl (Nat.le_of_ble_eq_true rfl) (Nat.le_of_ble_eq_true rfl) (k_oki (by rw [pT, if_pos hhi]))
set_option maxHeartbeats 4000000 in
set_option maxRecDepth 100000 in
theorem c_X1_heightOf (la : Launch) (κ : Kx) {L : List Nat} {f : Nat → wE} {pt tb : Nat} {h : Nat → Int} {q : Pt} {k : Nat}  (hTb : TblR κ L f tb h) (hP : PortR L f pt q) (hk : k < nW h) (hb : ∀ t, -50000 ≤ h t ∧ h t ≤ 50000) (hok : PtOk q) : k_M la κ yX1_heightOf cX1_heightOf 4 (some .int) 3 0 0 [.ref pt, .ref tb, .int (iI (k : Int))] L f (k_ro L f (.int (iI (pH h q k)))) := by
  refine k_head RX1 [(0, .ref pt), (1, .ref tb), (2, .int (iI (k : Int)))] rfl (by decide) (Nat.le_of_ble_eq_true rfl) rfl (fun θ hθ hin => ?_)
  have hnn := nW_le h
  obtain ⟨hs, wt, wh, wi, ctb⟩ := hTb.cl
  obtain ⟨ph, po, cpt, cph, cpo⟩ := id hP
  obtain ⟨ok1, ok2, ok3, ok4, ok5⟩ := id hok
  refine k_aload_n 0 0 dX1_heightOf_0 rfl rfl ?_
  refine k_aload_n 1 1 dX1_heightOf_1 rfl rfl ?_
  refine k_iload_n 2 2 dX1_heightOf_2 rfl rfl ?_
  refine k_useR (k_runV (c_X3_isHigh θ.2.1 κ (tb := tb) (k := k) hTb (by omega)) w_X1_27 ⟨q_295, q_296⟩ rfl rfl ctb rfl ⟨(Nat.le_of_ble_eq_true rfl), (Nat.le_of_ble_eq_true rfl)⟩ (Nat.le_of_ble_eq_true rfl) dX1_heightOf_3) ⟨(Nat.le_of_ble_eq_true rfl), (Nat.le_of_ble_eq_true rfl)⟩ ?_
  rcases hhi : hi h k with _ | _
  · refine k_useR (k_runV (c_X1_followOf_f θ.2.1 κ (pt := pt) cpt) w_X1_31 ⟨q_466, q_467⟩ rfl rfl cpt rfl ⟨(Nat.le_of_ble_eq_true rfl), (Nat.le_of_ble_eq_true rfl)⟩ (Nat.le_of_ble_eq_true rfl) dX1_heightOf_6) ⟨(Nat.le_of_ble_eq_true rfl), (Nat.le_of_ble_eq_true rfl)⟩ ?_
    refine k_getN 1 i_X0 q_382 cpo rfl (by decide) rfl dX1_heightOf_9 ?_
    refine k_istore_n 3 [(3, .int (iI q.2.2.2.1)), (0, .ref pt), (1, .ref tb), (2, .int (iI (k : Int)))] dX1_heightOf_12 rfl (by decide) rfl ?_
    refine k_aload_n 2 1 dX1_heightOf_13 rfl rfl ?_
    refine k_iload_n 3 2 dX1_heightOf_14 rfl rfl ?_
    refine k_useR (k_runV (c_X3_heightOf θ.2.1 κ (tb := tb) (k := k) hTb (by omega)) w_X1_42 ⟨q_291, q_292⟩ rfl rfl ctb rfl ⟨(Nat.le_of_ble_eq_true rfl), (Nat.le_of_ble_eq_true rfl)⟩ (Nat.le_of_ble_eq_true rfl) dX1_heightOf_15) ⟨(Nat.le_of_ble_eq_true rfl), (Nat.le_of_ble_eq_true rfl)⟩ ?_
    have hpr := mul_bd (a := h (tm h k)) (b := q.2.2.2.1) (A := 50000) (B := 300) (hb (tm h k)).1 (hb (tm h k)).2 (by omega) (by omega)
    refine k_iload_n 0 3 dX1_heightOf_18 rfl rfl ?_
    refine k_imul dX1_heightOf_19 ?_
    refine k_bipush dX1_heightOf_20 (by decide) ?_
    refine k_idiv dX1_heightOf_22 (inI_mk (by omega) (by omega)) (inI_mk (by omega) (by omega)) (by omega) ?_
    refine k_aload_n 1 0 dX1_heightOf_23 rfl rfl ?_
    refine k_get 2 i_X1 q_391 cpt rfl (by decide) rfl dX1_heightOf_24 ?_
    refine k_iadd dX1_heightOf_27 ?_
    exact k_iret dX1_heightOf_28 rfl (Nat.le_of_ble_eq_true rfl) (Nat.le_of_ble_eq_true rfl) (k_oki (by rw [pH, if_neg (by rw [hhi]; decide)]))
  · refine k_useR (k_runV (c_X1_followOf_t θ.2.1 κ (pt := pt) cpt) w_X1_31 ⟨q_466, q_467⟩ rfl rfl cpt rfl ⟨(Nat.le_of_ble_eq_true rfl), (Nat.le_of_ble_eq_true rfl)⟩ (Nat.le_of_ble_eq_true rfl) dX1_heightOf_6) ⟨(Nat.le_of_ble_eq_true rfl), (Nat.le_of_ble_eq_true rfl)⟩ ?_
    refine k_getN 1 i_X0 q_382 cph rfl (by decide) rfl dX1_heightOf_9 ?_
    refine k_istore_n 3 [(3, .int (iI q.2.1)), (0, .ref pt), (1, .ref tb), (2, .int (iI (k : Int)))] dX1_heightOf_12 rfl (by decide) rfl ?_
    refine k_aload_n 2 1 dX1_heightOf_13 rfl rfl ?_
    refine k_iload_n 3 2 dX1_heightOf_14 rfl rfl ?_
    refine k_useR (k_runV (c_X3_heightOf θ.2.1 κ (tb := tb) (k := k) hTb (by omega)) w_X1_42 ⟨q_291, q_292⟩ rfl rfl ctb rfl ⟨(Nat.le_of_ble_eq_true rfl), (Nat.le_of_ble_eq_true rfl)⟩ (Nat.le_of_ble_eq_true rfl) dX1_heightOf_15) ⟨(Nat.le_of_ble_eq_true rfl), (Nat.le_of_ble_eq_true rfl)⟩ ?_
    have hpr := mul_bd (a := h (tm h k)) (b := q.2.1) (A := 50000) (B := 300) (hb (tm h k)).1 (hb (tm h k)).2 (by omega) (by omega)
    refine k_iload_n 0 3 dX1_heightOf_18 rfl rfl ?_
    refine k_imul dX1_heightOf_19 ?_
    refine k_bipush dX1_heightOf_20 (by decide) ?_
    refine k_idiv dX1_heightOf_22 (inI_mk (by omega) (by omega)) (inI_mk (by omega) (by omega)) (by omega) ?_
    refine k_aload_n 1 0 dX1_heightOf_23 rfl rfl ?_
    refine k_get 2 i_X1 q_391 cpt rfl (by decide) rfl dX1_heightOf_24 ?_
    refine k_iadd dX1_heightOf_27 ?_
    exact k_iret dX1_heightOf_28 rfl (Nat.le_of_ble_eq_true rfl) (Nat.le_of_ble_eq_true rfl) (k_oki (by rw [pH, if_pos hhi]))
set_option maxHeartbeats 4000000 in
set_option maxRecDepth 100000 in
theorem c_X1_isOrderly (la : Launch) (κ : Kx) {L : List Nat} {f : Nat → wE} {pt tb : Nat} {h : Nat → Int} {q : Pt}   (hTb : TblR κ L f tb h) (hP : PortR L f pt q) (hok : PtOk q) : k_M la κ yX1_isOrderly cX1_isOrderly 3 (some .boolean) 4 0 0 [.ref pt, .ref tb] L f (k_ro L f (.int (iI (bI (ord h q))))) := by
  refine k_head RX1 [(0, .ref pt), (1, .ref tb)] rfl (by decide) (Nat.le_of_ble_eq_true rfl) rfl (fun θ hθ hin => ?_)
  have hnn := nW_le h
  obtain ⟨hs, wt, wh, wi, ctb⟩ := hTb.cl
  obtain ⟨ph, po, cpt, cph, cpo⟩ := id hP
  refine k_iconst dX1_isOrderly_0 ?_
  refine k_istore_n 2 [(2, .int (iI 1)), (0, .ref pt), (1, .ref tb)] dX1_isOrderly_1 rfl (by decide) rfl ?_
  have lp2 : ∀ (fuel : Nat) (j : Nat), (j + 1 ≤ nW h ∨ j = 0) → (ordF h q j = true) → nW h - j < fuel → k_G θ κ cX1_isOrderly 3 (some .boolean) RX1 (k_rm 4 0 0) (k_MQ θ κ (k_ro L f (.int (iI (bI (ord h q))))) 0 0) L f 0 0 2 [(0, .ref pt), (1, .ref tb), (2, .int (iI ((j + 1 : Nat) : Int)))] [] := by
    intro fuel
    induction fuel with
    | zero =>
      intro j hj ho hfu
      exact absurd hfu (Nat.not_lt_zero _)
    | succ fuel ih2 =>
      intro j hj ho hfu
      refine k_iload_n 2 2 dX1_isOrderly_2 rfl rfl ?_
      refine k_aload_n 1 1 dX1_isOrderly_3 rfl rfl ?_
      refine k_getN 4 i_X3 q_95 ctb rfl (by decide) rfl dX1_isOrderly_4 ?_
      refine k_icmp_ge 35 dX1_isOrderly_7 (by decide) (inI_mk (by omega) (by omega)) (inI_mk (by omega) (by omega)) (fun h7 => ?_) (fun h7 => ?_)
      · refine k_iconst dX1_isOrderly_35 ?_
        exact k_zret (b := true) dX1_isOrderly_36 rfl (Nat.le_of_ble_eq_true rfl) (Nat.le_of_ble_eq_true rfl) (k_okb (by rw [ord, show nW h - 1 = j by omega, ho]))
      · refine k_aload_n 0 0 dX1_isOrderly_10 rfl rfl ?_
        refine k_aload_n 1 1 dX1_isOrderly_11 rfl rfl ?_
        refine k_iload_n 2 2 dX1_isOrderly_12 rfl rfl ?_
        refine k_useR (k_runV (c_X1_timeOf θ.2.1 κ (k := (j + 1)) (pt := pt) (tb := tb) hTb hP (by omega)) w_X1_51 ⟨q_483, q_484⟩ rfl rfl cpt rfl ⟨(Nat.le_of_ble_eq_true rfl), (Nat.le_of_ble_eq_true rfl)⟩ (Nat.le_of_ble_eq_true rfl) dX1_isOrderly_13) ⟨(Nat.le_of_ble_eq_true rfl), (Nat.le_of_ble_eq_true rfl)⟩ ?_
        refine k_aload_n 0 0 dX1_isOrderly_16 rfl rfl ?_
        refine k_aload_n 1 1 dX1_isOrderly_17 rfl rfl ?_
        refine k_iload_n 2 2 dX1_isOrderly_18 rfl rfl ?_
        refine k_iconst dX1_isOrderly_19 ?_
        refine k_isub dX1_isOrderly_20 ?_
        refine k_topi (j : Int) (by omega) ?_
        refine k_useR (k_runV (c_X1_timeOf θ.2.1 κ (k := j) (pt := pt) (tb := tb) hTb hP (by omega)) w_X1_51 ⟨q_483, q_484⟩ rfl rfl cpt rfl ⟨(Nat.le_of_ble_eq_true rfl), (Nat.le_of_ble_eq_true rfl)⟩ (Nat.le_of_ble_eq_true rfl) dX1_isOrderly_21) ⟨(Nat.le_of_ble_eq_true rfl), (Nat.le_of_ble_eq_true rfl)⟩ ?_
        have hb1 := pT_bd (h := h) hok (k := j) (by omega)
        have hb2 := pT_bd (h := h) hok (k := j + 1) (by omega)
        refine k_icmp_gt 29 dX1_isOrderly_24 (by decide) (inI_mk (by omega) (by omega)) (inI_mk (by omega) (by omega)) (fun h24 => ?_) (fun h24 => ?_)
        · refine k_iinc 2 [(2, .int (iI (((j + 1 : Nat) : Int) + 1))), (0, .ref pt), (1, .ref tb)] dX1_isOrderly_29 rfl (by decide) rfl ?_
          refine k_goto 2 dX1_isOrderly_32 (by decide) ?_
          refine k_perm [1, 2, 0] [(0, .ref pt), (1, .ref tb), (2, .int (iI (((j + 1 : Nat) : Int) + 1)))] rfl ?_
          exact ih2 (j + 1) (Or.inl (by omega)) (by rw [ordF, ho, decide_eq_true (show pT h q j < pT h q (j + 1) by omega)]; rfl) (by omega)
        · refine k_iconst dX1_isOrderly_27 ?_
          exact k_zret (b := false) dX1_isOrderly_28 rfl (Nat.le_of_ble_eq_true rfl) (Nat.le_of_ble_eq_true rfl) (k_okb ((ord_no (j := j) (by omega) (by omega)).symm))
  refine k_perm [1, 2, 0] [(0, .ref pt), (1, .ref tb), (2, .int (iI 1))] rfl ?_
  exact lp2 _ 0 (Or.inr rfl) rfl (Nat.lt_succ_self _)
set_option maxHeartbeats 4000000 in
set_option maxRecDepth 100000 in
theorem c_X1_latestWater (la : Launch) (κ : Kx) {L : List Nat} {f : Nat → wE} {pt tb : Nat} {h : Nat → Int} {q : Pt} {w : Nat} {e t : Int}  (hTb : TblR κ L f tb h) (hP : PortR L f pt q) (hok : PtOk q) (he : e = (w : Int) - 1) (hw : w ≤ nW h) (ht : inI t) : k_M la κ yX1_latestWater cX1_latestWater 6 (some .int) 4 0 0 [.ref pt, .ref tb, .int (iI e), .int (iI t)] L f (k_ro L f (.int (iI (((lat h q t w : Nat) : Int) - 1)))) := by
  refine k_head RX1 [(0, .ref pt), (1, .ref tb), (2, .int (iI e)), (3, .int (iI t))] rfl (by decide) (Nat.le_of_ble_eq_true rfl) rfl (fun θ hθ hin => ?_)
  subst he
  have hnn := nW_le h
  obtain ⟨hs, wt, wh, wi, ctb⟩ := hTb.cl
  obtain ⟨ph, po, cpt, cph, cpo⟩ := id hP
  refine k_iload_n 2 2 dX1_latestWater_0 rfl rfl ?_
  refine k_istore [(4, .int (iI ((w : Int) - 1))), (0, .ref pt), (1, .ref tb), (2, .int (iI ((w : Int) - 1))), (3, .int (iI t))] dX1_latestWater_1 (by decide) rfl ?_
  refine k_iload_n 3 2 dX1_latestWater_3 rfl rfl ?_
  refine k_iconst dX1_latestWater_4 ?_
  refine k_iadd dX1_latestWater_5 ?_
  refine k_topi (w : Int) (by omega) ?_
  refine k_istore [(5, .int (iI (w : Int))), (4, .int (iI ((w : Int) - 1))), (0, .ref pt), (1, .ref tb), (2, .int (iI ((w : Int) - 1))), (3, .int (iI t))] dX1_latestWater_6 (by decide) rfl ?_
  have lp8 : ∀ (fuel : Nat) (x : Nat), (w ≤ x ∧ x ≤ nW h) → (lat h q t x = lat h q t w) → nW h - x < fuel → k_G θ κ cX1_latestWater 6 (some .int) RX1 (k_rm 4 0 0) (k_MQ θ κ (k_ro L f (.int (iI (((lat h q t w : Nat) : Int) - 1)))) 0 0) L f 0 0 8 [(0, .ref pt), (1, .ref tb), (2, .int (iI ((w : Int) - 1))), (3, .int (iI t)), (4, .int (iI ((x : Int) - 1))), (5, .int (iI (x : Int)))] [] := by
    intro fuel
    induction fuel with
    | zero =>
      intro x hx hl hfu
      exact absurd hfu (Nat.not_lt_zero _)
    | succ fuel ih8 =>
      intro x hx hl hfu
      refine k_iload 5 dX1_latestWater_8 rfl ?_
      refine k_aload_n 1 1 dX1_latestWater_10 rfl rfl ?_
      refine k_getN 4 i_X3 q_95 ctb rfl (by decide) rfl dX1_latestWater_11 ?_
      refine k_icmp_ge 41 dX1_latestWater_14 (by decide) (inI_mk (by omega) (by omega)) (inI_mk (by omega) (by omega)) (fun h14 => ?_) (fun h14 => ?_)
      · refine k_iload 4 dX1_latestWater_41 rfl ?_
        exact k_iret dX1_latestWater_43 rfl (Nat.le_of_ble_eq_true rfl) (Nat.le_of_ble_eq_true rfl) (k_oki (by rw [← hl, lat_stop (fun q9 => by omega)]))
      · refine k_aload_n 0 0 dX1_latestWater_17 rfl rfl ?_
        refine k_aload_n 1 1 dX1_latestWater_18 rfl rfl ?_
        refine k_iload 5 dX1_latestWater_19 rfl ?_
        refine k_useR (k_runV (c_X1_timeOf θ.2.1 κ (pt := pt) (tb := tb) (k := x) hTb hP (by omega)) w_X1_51 ⟨q_483, q_484⟩ rfl rfl cpt rfl ⟨(Nat.le_of_ble_eq_true rfl), (Nat.le_of_ble_eq_true rfl)⟩ (Nat.le_of_ble_eq_true rfl) dX1_latestWater_21) ⟨(Nat.le_of_ble_eq_true rfl), (Nat.le_of_ble_eq_true rfl)⟩ ?_
        have hb1 := pT_bd (h := h) hok (k := x) (by omega)
        refine k_iload_n 3 3 dX1_latestWater_24 rfl rfl ?_
        refine k_icmp_le 31 dX1_latestWater_25 (by decide) (inI_mk (by omega) (by omega)) ht (fun h25 => ?_) (fun h25 => ?_)
        · refine k_iload 5 dX1_latestWater_31 rfl ?_
          refine k_topi (((x + 1 : Nat) : Int) - 1) (by omega) ?_
          refine k_istore [(4, .int (iI (((x + 1 : Nat) : Int) - 1))), (0, .ref pt), (1, .ref tb), (2, .int (iI ((w : Int) - 1))), (3, .int (iI t)), (5, .int (iI (x : Int)))] dX1_latestWater_33 (by decide) rfl ?_
          refine k_iinc 5 [(5, .int (iI ((x : Int) + 1))), (4, .int (iI (((x + 1 : Nat) : Int) - 1))), (0, .ref pt), (1, .ref tb), (2, .int (iI ((w : Int) - 1))), (3, .int (iI t))] dX1_latestWater_35 rfl (by decide) rfl ?_
          refine k_goto 8 dX1_latestWater_38 (by decide) ?_
          refine k_perm [2, 3, 4, 5, 1, 0] [(0, .ref pt), (1, .ref tb), (2, .int (iI ((w : Int) - 1))), (3, .int (iI t)), (4, .int (iI (((x + 1 : Nat) : Int) - 1))), (5, .int (iI ((x : Int) + 1)))] rfl ?_
          exact ih8 (x + 1) ⟨by omega, by omega⟩ ((lat_go (by omega) (by omega)).symm.trans hl) (by omega)
        · refine k_goto 41 dX1_latestWater_28 (by decide) ?_
          refine k_iload 4 dX1_latestWater_41 rfl ?_
          exact k_iret dX1_latestWater_43 rfl (Nat.le_of_ble_eq_true rfl) (Nat.le_of_ble_eq_true rfl) (k_oki (by rw [← hl, lat_stop (fun q9 => by omega)]))
  refine k_perm [2, 3, 4, 5, 1, 0] [(0, .ref pt), (1, .ref tb), (2, .int (iI ((w : Int) - 1))), (3, .int (iI t)), (4, .int (iI ((w : Int) - 1))), (5, .int (iI (w : Int)))] rfl ?_
  exact lp8 _ w ⟨Nat.le_refl _, hw⟩ rfl (Nat.lt_succ_self _)
set_option maxHeartbeats 4000000 in
set_option maxRecDepth 100000 in
theorem c_X1_twelfthsGone (la : Launch) (κ : Kx) {L : List Nat} {f : Nat → wE} {e d : Int}   (h0 : 0 ≤ e) (h1 : e < d) (h2 : d ≤ 10000) : k_M la κ yX1_twelfthsGone cX1_twelfthsGone 5 (some .long) 2 0 0 [.long (lI e), .long (lI d)] L f (k_ro L f (.long (lI (gone e d)))) := by
  refine k_head RX1 [(0, .long (lI e)), (2, .long (lI d))] rfl (by decide) (Nat.le_of_ble_eq_true rfl) rfl (fun θ hθ hin => ?_)
  obtain ⟨s1, s2, s3, s4⟩ := sx_bd h0 h1
  refine k_ldc2 6 q_521 (by decide) dX1_twelfthsGone_0 ?_
  refine k_lload_n 0 0 dX1_twelfthsGone_3 rfl rfl ?_
  refine k_lmul dX1_twelfthsGone_4 ?_
  refine k_lload_n 1 2 dX1_twelfthsGone_5 rfl rfl ?_
  refine k_useR (k_runSN (c_X7_quotient θ.2.1 κ (a := (6 * e)) (b := d) (inL_mk (by omega) (by omega)) (inL_mk (by omega) (by omega))) w_X1_62 q_338 rfl rfl ⟨(Nat.le_of_ble_eq_true rfl), (Nat.le_of_ble_eq_true rfl)⟩ (Nat.le_of_ble_eq_true rfl) dX1_twelfthsGone_6) ⟨(Nat.le_of_ble_eq_true rfl), (Nat.le_of_ble_eq_true rfl)⟩ ?_
  obtain ⟨sx, hsx⟩ : ∃ sx : Nat, (6 * e).tdiv d = (sx : Int) := ⟨((6 * e).tdiv d).toNat, by omega⟩
  have h6 : sx < 6 := by omega
  obtain ⟨g1, g2⟩ := tw_get h6
  have g3 := twA_bd (sx : Int)
  have g4 := twI_bd (sx : Int)
  refine k_topl (sx : Int) (by rw [if_neg (by omega)]; exact hsx) ?_
  refine k_l2i dX1_twelfthsGone_9 ?_
  refine k_istore [(4, .int (iI (sx : Int))), (0, .long (lI e)), (2, .long (lI d))] dX1_twelfthsGone_10 (by decide) rfl ?_
  refine k_iload 0 dX1_twelfthsGone_12 rfl ?_
  refine k_if_lt 35 dX1_twelfthsGone_14 (by decide) (inI_mk (by omega) (by omega)) (fun h14 => ?_) (fun h14 => ?_)
  · omega
  · refine k_iload 0 dX1_twelfthsGone_17 rfl ?_
    refine k_getsN k_Zs0 q_523 dX1_twelfthsGone_19 ?_
    refine k_tlen k_Zs0 dX1_twelfthsGone_22 ?_
    refine k_icmp_ge 35 dX1_twelfthsGone_23 (by decide) (inI_mk (by omega) (by omega)) (inI_mk (by omega) (by omega)) (fun h23 => ?_) (fun h23 => ?_)
    · omega
    · refine k_iload 0 dX1_twelfthsGone_26 rfl ?_
      refine k_getsN k_Zs1 q_525 dX1_twelfthsGone_28 ?_
      refine k_tlen k_Zs1 dX1_twelfthsGone_31 ?_
      refine k_icmp_lt 37 dX1_twelfthsGone_32 (by decide) (inI_mk (by omega) (by omega)) (inI_mk (by omega) (by omega)) (fun h32 => ?_) (fun h32 => ?_)
      · refine k_getsN k_Zs1 q_525 dX1_twelfthsGone_37 ?_
        refine k_iload 0 dX1_twelfthsGone_40 rfl ?_
        refine k_ti k_Zs1 sx rfl (by omega) dX1_twelfthsGone_42 ?_
        refine k_i2l dX1_twelfthsGone_43 (inI_mk (by omega) (by omega)) ?_
        refine k_lload_n 2 2 dX1_twelfthsGone_44 rfl rfl ?_
        refine k_lmul dX1_twelfthsGone_45 ?_
        refine k_getsN k_Zs0 q_523 dX1_twelfthsGone_46 ?_
        refine k_iload 0 dX1_twelfthsGone_49 rfl ?_
        refine k_ti k_Zs0 sx rfl (by omega) dX1_twelfthsGone_51 ?_
        refine k_i2l dX1_twelfthsGone_52 (inI_mk (by omega) (by omega)) ?_
        refine k_ldc2 6 q_521 (by decide) dX1_twelfthsGone_53 ?_
        refine k_lload_n 1 0 dX1_twelfthsGone_56 rfl rfl ?_
        refine k_lmul dX1_twelfthsGone_57 ?_
        refine k_iload 0 dX1_twelfthsGone_58 rfl ?_
        refine k_i2l dX1_twelfthsGone_60 (inI_mk (by omega) (by omega)) ?_
        refine k_lload_n 2 2 dX1_twelfthsGone_61 rfl rfl ?_
        refine k_lmul dX1_twelfthsGone_62 ?_
        refine k_lsub dX1_twelfthsGone_63 ?_
        refine k_lmul dX1_twelfthsGone_64 ?_
        refine k_ladd dX1_twelfthsGone_65 ?_
        exact k_lret dX1_twelfthsGone_66 rfl (Nat.le_of_ble_eq_true rfl) (Nat.le_of_ble_eq_true rfl) (k_okl (by rw [gone, hsx, g1, g2]))
      · omega
set_option maxHeartbeats 4000000 in
set_option maxRecDepth 100000 in
theorem c_X1_heightBehind (la : Launch) (κ : Kx) {L : List Nat} {f : Nat → wE} {pt tb : Nat} {h : Nat → Int} {q : Pt} {k : Nat} {t : Int}  (hTb : TblR κ L f tb h) (hP : PortR L f pt q) (hb : ∀ t, -50000 ≤ h t ∧ h t ≤ 50000) (hok : PtOk q) (hk : k + 1 < nW h) (ht1 : pT h q k ≤ t) (ht2 : t < pT h q (k + 1)) : k_M la κ yX1_heightBehind cX1_heightBehind 14 (some .int) 4 0 0 [.ref pt, .ref tb, .int (iI (k : Int)), .int (iI t)] L f (k_ro L f (.int (iI (btw h q (k + 1) t)))) := by
  refine k_head RX1 [(0, .ref pt), (1, .ref tb), (2, .int (iI (k : Int))), (3, .int (iI t))] rfl (by decide) (Nat.le_of_ble_eq_true rfl) rfl (fun θ hθ hin => ?_)
  have hnn := nW_le h
  obtain ⟨hs, wt, wh, wi, ctb⟩ := hTb.cl
  obtain ⟨ph, po, cpt, cph, cpo⟩ := id hP
  have bt1 := pT_bd (h := h) hok (k := k) (by omega)
  have bt2 := pT_bd (h := h) hok (k := k + 1) (by omega)
  have bh1 := pH_bd (h := h) hok hb k
  have bh2 := pH_bd (h := h) hok hb (k + 1)
  have bw := btw_bd (h := h) hok hb hk ht1 ht2
  refine k_aload_n 0 0 dX1_heightBehind_0 rfl rfl ?_
  refine k_aload_n 1 1 dX1_heightBehind_1 rfl rfl ?_
  refine k_iload_n 2 2 dX1_heightBehind_2 rfl rfl ?_
  refine k_useR (k_runV (c_X1_timeOf θ.2.1 κ (k := k) (pt := pt) (tb := tb) hTb hP (by omega)) w_X1_51 ⟨q_483, q_484⟩ rfl rfl cpt rfl ⟨(Nat.le_of_ble_eq_true rfl), (Nat.le_of_ble_eq_true rfl)⟩ (Nat.le_of_ble_eq_true rfl) dX1_heightBehind_3) ⟨(Nat.le_of_ble_eq_true rfl), (Nat.le_of_ble_eq_true rfl)⟩ ?_
  refine k_i2l dX1_heightBehind_6 (inI_mk (by omega) (by omega)) ?_
  refine k_lstore [(4, .long (lI (pT h q k))), (0, .ref pt), (1, .ref tb), (2, .int (iI (k : Int))), (3, .int (iI t))] dX1_heightBehind_7 (by decide) rfl ?_
  refine k_aload_n 1 0 dX1_heightBehind_9 rfl rfl ?_
  refine k_aload_n 2 1 dX1_heightBehind_10 rfl rfl ?_
  refine k_iload_n 3 2 dX1_heightBehind_11 rfl rfl ?_
  refine k_iconst dX1_heightBehind_12 ?_
  refine k_iadd dX1_heightBehind_13 ?_
  refine k_topi ((k + 1 : Nat) : Int) (by omega) ?_
  refine k_useR (k_runV (c_X1_timeOf θ.2.1 κ (k := (k + 1)) (pt := pt) (tb := tb) hTb hP (by omega)) w_X1_51 ⟨q_483, q_484⟩ rfl rfl cpt rfl ⟨(Nat.le_of_ble_eq_true rfl), (Nat.le_of_ble_eq_true rfl)⟩ (Nat.le_of_ble_eq_true rfl) dX1_heightBehind_14) ⟨(Nat.le_of_ble_eq_true rfl), (Nat.le_of_ble_eq_true rfl)⟩ ?_
  refine k_i2l dX1_heightBehind_17 (inI_mk (by omega) (by omega)) ?_
  refine k_lload 0 dX1_heightBehind_18 rfl ?_
  refine k_lsub dX1_heightBehind_20 ?_
  refine k_lstore [(6, .long (lI (pT h q (k + 1) - pT h q k))), (4, .long (lI (pT h q k))), (0, .ref pt), (1, .ref tb), (2, .int (iI (k : Int))), (3, .int (iI t))] dX1_heightBehind_21 (by decide) rfl ?_
  refine k_aload_n 2 0 dX1_heightBehind_23 rfl rfl ?_
  refine k_aload_n 3 1 dX1_heightBehind_24 rfl rfl ?_
  refine k_iload_n 4 2 dX1_heightBehind_25 rfl rfl ?_
  refine k_useR (k_runV (c_X1_heightOf θ.2.1 κ (k := k) (pt := pt) (tb := tb) hTb hP (by omega) hb hok) w_X1_54 ⟨q_495, q_496⟩ rfl rfl cpt rfl ⟨(Nat.le_of_ble_eq_true rfl), (Nat.le_of_ble_eq_true rfl)⟩ (Nat.le_of_ble_eq_true rfl) dX1_heightBehind_26) ⟨(Nat.le_of_ble_eq_true rfl), (Nat.le_of_ble_eq_true rfl)⟩ ?_
  refine k_i2l dX1_heightBehind_29 (inI_mk (by omega) (by omega)) ?_
  refine k_lstore [(8, .long (lI (pH h q k))), (6, .long (lI (pT h q (k + 1) - pT h q k))), (4, .long (lI (pT h q k))), (0, .ref pt), (1, .ref tb), (2, .int (iI (k : Int))), (3, .int (iI t))] dX1_heightBehind_30 (by decide) rfl ?_
  refine k_aload_n 3 0 dX1_heightBehind_32 rfl rfl ?_
  refine k_aload_n 4 1 dX1_heightBehind_33 rfl rfl ?_
  refine k_iload_n 5 2 dX1_heightBehind_34 rfl rfl ?_
  refine k_iconst dX1_heightBehind_35 ?_
  refine k_iadd dX1_heightBehind_36 ?_
  refine k_topi ((k + 1 : Nat) : Int) (by omega) ?_
  refine k_useR (k_runV (c_X1_heightOf θ.2.1 κ (k := (k + 1)) (pt := pt) (tb := tb) hTb hP (by omega) hb hok) w_X1_54 ⟨q_495, q_496⟩ rfl rfl cpt rfl ⟨(Nat.le_of_ble_eq_true rfl), (Nat.le_of_ble_eq_true rfl)⟩ (Nat.le_of_ble_eq_true rfl) dX1_heightBehind_37) ⟨(Nat.le_of_ble_eq_true rfl), (Nat.le_of_ble_eq_true rfl)⟩ ?_
  refine k_i2l dX1_heightBehind_40 (inI_mk (by omega) (by omega)) ?_
  refine k_lload 0 dX1_heightBehind_41 rfl ?_
  refine k_lsub dX1_heightBehind_43 ?_
  refine k_lstore [(10, .long (lI (pH h q (k + 1) - pH h q k))), (8, .long (lI (pH h q k))), (6, .long (lI (pT h q (k + 1) - pT h q k))), (4, .long (lI (pT h q k))), (0, .ref pt), (1, .ref tb), (2, .int (iI (k : Int))), (3, .int (iI t))] dX1_heightBehind_44 (by decide) rfl ?_
  refine k_iload_n 7 3 dX1_heightBehind_46 rfl rfl ?_
  refine k_i2l dX1_heightBehind_47 (inI_mk (by omega) (by omega)) ?_
  refine k_lload 3 dX1_heightBehind_48 rfl ?_
  refine k_lsub dX1_heightBehind_50 ?_
  refine k_lload 2 dX1_heightBehind_51 rfl ?_
  refine k_useR (k_runS (c_X1_twelfthsGone θ.2.1 κ (e := (t - pT h q k)) (d := (pT h q (k + 1) - pT h q k)) (by omega) (by omega) (by omega)) w_X1_56 q_519 rfl rfl ⟨(Nat.le_of_ble_eq_true rfl), (Nat.le_of_ble_eq_true rfl)⟩ (Nat.le_of_ble_eq_true rfl) dX1_heightBehind_53) ⟨(Nat.le_of_ble_eq_true rfl), (Nat.le_of_ble_eq_true rfl)⟩ ?_
  refine k_lstore [(12, .long (lI (gone (t - pT h q k) (pT h q (k + 1) - pT h q k)))), (10, .long (lI (pH h q (k + 1) - pH h q k))), (8, .long (lI (pH h q k))), (6, .long (lI (pT h q (k + 1) - pT h q k))), (4, .long (lI (pT h q k))), (0, .ref pt), (1, .ref tb), (2, .int (iI (k : Int))), (3, .int (iI t))] dX1_heightBehind_56 (by decide) rfl ?_
  refine k_lload 2 dX1_heightBehind_58 rfl ?_
  refine k_lload 1 dX1_heightBehind_60 rfl ?_
  refine k_lload 0 dX1_heightBehind_62 rfl ?_
  refine k_lmul dX1_heightBehind_64 ?_
  refine k_ldc2 12 q_527 (by decide) dX1_heightBehind_65 ?_
  refine k_lload 3 dX1_heightBehind_68 rfl ?_
  refine k_lmul dX1_heightBehind_70 ?_
  refine k_useR (k_runSN (c_X7_quotient θ.2.1 κ (a := ((pH h q (k + 1) - pH h q k) * gone (t - pT h q k) (pT h q (k + 1) - pT h q k))) (b := (12 * (pT h q (k + 1) - pT h q k))) (inL_mk (by omega) (by omega)) (inL_mk (by omega) (by omega))) w_X1_62 q_338 rfl rfl ⟨(Nat.le_of_ble_eq_true rfl), (Nat.le_of_ble_eq_true rfl)⟩ (Nat.le_of_ble_eq_true rfl) dX1_heightBehind_71) ⟨(Nat.le_of_ble_eq_true rfl), (Nat.le_of_ble_eq_true rfl)⟩ ?_
  refine k_ladd dX1_heightBehind_74 ?_
  refine k_l2i dX1_heightBehind_75 ?_
  exact k_iret dX1_heightBehind_76 rfl (Nat.le_of_ble_eq_true rfl) (Nat.le_of_ble_eq_true rfl) (k_oki (by rw [if_neg (by omega)]; rfl))
set_option maxHeartbeats 4000000 in
set_option maxRecDepth 100000 in
theorem c_X1_init (la : Launch) (κ : Kx) {L : List Nat} {f : Nat → wE} {pt : Nat} (cpt : Cl L f pt (15, .inr (2, [.null, .null, .int (iI 0)])))   : k_M la κ yX1_init cX1_init 1 none 2 2 4 [.ref pt] L f (k_ru (fun L' f' => (∃ ph po : Nat, ph ∉ L ∧ po ∉ L ∧ Cl L' f' pt (15, .inr (2, [.ref ph, .ref po, .int (iI 0)])) ∧ Cl L' f' ph (16, .inr (1, [.int (iI 0), .int (iI 100)])) ∧ Cl L' f' po (17, .inr (1, [.int (iI 0), .int (iI 100)]))) ∧ k_on pt L f L' f')) := by
  refine k_head RX1 [(0, .ref pt)] rfl (by decide) (Nat.le_of_ble_eq_true rfl) rfl (fun θ hθ hin => ?_)
  refine k_aload_n 0 0 dX1_init_0 rfl rfl ?_
  refine k_objInit q_372 q_42 q_43 (Nat.le_of_ble_eq_true rfl) (Nat.le_of_ble_eq_true rfl) dX1_init_1 ?_
  refine k_aload_n 0 0 dX1_init_4 rfl rfl ?_
  refine k_new (ci := 1) 16 [.int (iI 0), .int (iI 0)] i_X0 tyX0_ok q_373 q_374 q_31 rfl dv_X0 (Nat.le_of_ble_eq_true rfl) (Nat.le_of_ble_eq_true rfl) dX1_init_5 (fun ph L1 f1 hz1 hn1 hc1 => ?_)
  have hr1 := k_fr.new hz1
  replace cpt := cpt.fr hr1 rfl
  have cPh : Cl L1 f1 ph (16, .inr (1, [.int (iI 0), .int (iI 0)])) := hc1
  refine k_dup dX1_init_8 rfl ?_
  refine k_useU (k_runIN (c_X0_init θ.2.1 κ (fo := ph) cPh) w_X1_11 q_376 rfl rfl rfl ⟨(Nat.le_of_ble_eq_true rfl), (Nat.le_of_ble_eq_true rfl)⟩ (Nat.le_of_ble_eq_true rfl) dX1_init_9) ⟨(Nat.le_of_ble_eq_true rfl), (Nat.le_of_ble_eq_true rfl)⟩ (fun Lfph fph hw => ?_)
  obtain ⟨efph, hnfph, cfph⟩ := hw
  replace efph := efph.symm
  subst efph
  have hrfph := k_fr.put hnfph cPh
  replace cpt := cpt.fr hrfph rfl
  replace cPh := cfph
  have hkfph := k_new2 hz1 hn1 hnfph
  refine k_putF 0 [.ref ph, .null, .int (iI 0)] i_X1 tyX1_ok nmX1 q_389 cpt rfl (by decide) rfl (hin rfl) rfl rfl rfl rfl (Nat.le_of_ble_eq_true rfl) rfl dX1_init_12 (fun f2 hf2 hc2 => ?_)
  have hr2 := k_fr.put hf2 cpt
  replace cPh := cPh.fr hr2 rfl
  replace cpt : Cl L1 f2 pt (15, .inr (2, [.ref ph, .null, .int (iI 0)])) := hc2
  refine k_aload_n 0 0 dX1_init_15 rfl rfl ?_
  refine k_new (ci := 1) 17 [.int (iI 0), .int (iI 0)] i_X0 tyX0_ok q_373 q_374 q_31 rfl dv_X0 (Nat.le_of_ble_eq_true rfl) (Nat.le_of_ble_eq_true rfl) dX1_init_16 (fun po L3 f3 hz3 hn3 hc3 => ?_)
  have hr3 := k_fr.new hz3
  replace cpt := cpt.fr hr3 rfl
  replace cPh := cPh.fr hr3 rfl
  have cPo : Cl L3 f3 po (17, .inr (1, [.int (iI 0), .int (iI 0)])) := hc3
  refine k_dup dX1_init_19 rfl ?_
  refine k_useU (k_runIN (c_X0_init θ.2.1 κ (fo := po) cPo) w_X1_11 q_376 rfl rfl rfl ⟨(Nat.le_of_ble_eq_true rfl), (Nat.le_of_ble_eq_true rfl)⟩ (Nat.le_of_ble_eq_true rfl) dX1_init_20) ⟨(Nat.le_of_ble_eq_true rfl), (Nat.le_of_ble_eq_true rfl)⟩ (fun Lfpo fpo hw => ?_)
  obtain ⟨efpo, hnfpo, cfpo⟩ := hw
  replace efpo := efpo.symm
  subst efpo
  have hrfpo := k_fr.put hnfpo cPo
  replace cpt := cpt.fr hrfpo rfl
  replace cPh := cPh.fr hrfpo rfl
  replace cPo := cfpo
  have hkfpo := k_new2 hz3 hn3 hnfpo
  refine k_putF 1 [.ref ph, .ref po, .int (iI 0)] i_X1 tyX1_ok nmX1 q_390 cpt rfl (by decide) rfl (hin rfl) rfl rfl rfl rfl (Nat.le_of_ble_eq_true rfl) rfl dX1_init_23 (fun f4 hf4 hc4 => ?_)
  have hr4 := k_fr.put hf4 cpt
  replace cPh := cPh.fr hr4 rfl
  replace cPo := cPo.fr hr4 rfl
  replace cpt : Cl L3 f4 pt (15, .inr (2, [.ref ph, .ref po, .int (iI 0)])) := hc4
  have hall := (k_on.trans (k_on.trans (k_on.trans (k_on.ofF hkfph) (k_on.put hf2)) (k_on.ofF hkfpo)) (k_on.put hf4))
  exact k_vret dX1_init_26 rfl (Nat.le_of_ble_eq_true rfl) (Nat.le_of_ble_eq_true rfl) (⟨rfl, ⟨ph, po, hn1, fun hx => hn3 ((hz1 po hx).1), cpt, cPh, cPo⟩, hall⟩)
