theorem btw_all {h : Nat → Int} {q : Pt} (ok : PtOk q) (hb : ∀ t, -50000 ≤ h t ∧ h t ≤ 50000) {k : Nat} {t : Int} (h1 : k + 1 < nW h) (h2 : pT h q k ≤ t) (h3 : t < pT h q (k + 1)) : inI (btw h q (k + 1) t) := by
  have a1 := pH_bd ok hb k
  have a2 := pH_bd ok hb (k + 1)
  have a3 := pT_bd ok (show k < nW h by omega)
  have a4 := pT_bd ok h1
  have a5 := gone_bd (e := t - pT h q k) (d := pT h q (k + 1) - pT h q k) (by omega) (by omega)
  have hd : 0 < 12 * (pT h q (k + 1) - pT h q k) := by omega
  unfold btw
  rw [show k + 1 - 1 = k from rfl]
  generalize gone (t - pT h q k) (pT h q (k + 1) - pT h q k) = g at a5 ⊢
  generalize pT h q (k + 1) - pT h q k = d at a5 hd ⊢
  have b1 := mul_bd (a := pH h q (k + 1) - pH h q k) (b := g) (A := 306000) (B := 14 * d) (by omega) (by omega) a5.1 a5.2
  have b2 : ((pH h q (k + 1) - pH h q k) * g).tdiv (12 * d) ≤ 357000 ∧ -357000 ≤ ((pH h q (k + 1) - pH h q k) * g).tdiv (12 * d) := by
    generalize (pH h q (k + 1) - pH h q k) * g = z at b1 ⊢
    rcases Int.le_total 0 z with c | c
    · rw [Int.tdiv_eq_ediv_of_nonneg c]
      have c1 := Int.ediv_le_ediv hd (show z ≤ 357000 * (12 * d) by omega)
      rw [Int.mul_ediv_cancel _ (by omega)] at c1
      have c2 := Int.ediv_nonneg c (show 0 ≤ 12 * d by omega)
      omega
    · have e : z.tdiv (12 * d) = -((-z) / (12 * d)) := by
        rw [← Int.tdiv_eq_ediv_of_nonneg (by omega), Int.neg_tdiv, Int.neg_neg]
      rw [e]
      have c1 := Int.ediv_le_ediv hd (show -z ≤ 357000 * (12 * d) by omega)
      rw [Int.mul_ediv_cancel _ (by omega)] at c1
      have c2 := Int.ediv_nonneg (show 0 ≤ -z by omega) (show 0 ≤ 12 * d by omega)
      omega
  exact inI_mk (by omega) (by omega)
theorem numS_bd {σ : Sg} (hs : SgOk σ) (what : Int) : 0 ≤ numS σ what ∧ numS σ what ≤ 4320 := by
  have h1 := nW_le (hT σ.1)
  obtain ⟨⟨-, h2, -⟩, ⟨h3, -⟩, h4, -⟩ := hs
  unfold numS
  repeat' split
  all_goals omega
set_option maxHeartbeats 4000000 in
set_option maxRecDepth 100000 in
theorem c_X7_tallyPort (la : Launch) (κ : Kx) {L : List Nat} {f : Nat → wE} {tt td tb pl rl ta pt a b : Nat} {old : Bool} {σ : Sg} {q : Pt} {lev : Int}  (hC : CSF κ L f tt td tb pl rl old σ) (hTa : TallyR L f ta tl0) (hP : PortR L f pt q) (hs : SgOk σ) (hok : PtOk q) (hlev : inI lev) (hab : a ≤ b ∧ b < 4320) : k_M la κ yX7_tallyPort cX7_tallyPort 10 none 7 0 0 [.ref tt, .ref ta, .ref pt, .int (iI lev), .int (iI (a : Int)), .int (iI (b : Int))] L f (k_ru (fun L' f' => L' = L ∧ k_fr SC L f L' f' ∧ CSF κ L' f' tt td tb pl rl false σ ∧ TallyR L' f' ta (if ord (hT σ.1) q = true then tlP (hT σ.1) q lev a (b + 1 - a) else tl0))) := by
  refine k_head RX7 [(0, .ref tt), (1, .ref ta), (2, .ref pt), (3, .int (iI lev)), (4, .int (iI (a : Int))), (5, .int (iI (b : Int)))] rfl (by decide) (Nat.le_of_ble_eq_true rfl) rfl (fun θ hθ hin => ?_)
  obtain ⟨ctt, hTd, hTx, hPs, hRs⟩ := id hC
  refine k_aload_n 0 0 dX7_tallyPort_0 rfl rfl ?_
  refine k_useV (k_runV (c_X7_currentTable θ.2.1 κ (tt := tt) hC hs) w_X7_110 ⟨q_212, q_2⟩ rfl rfl ctt rfl ⟨(Nat.le_of_ble_eq_true rfl), (Nat.le_of_ble_eq_true rfl)⟩ (Nat.le_of_ble_eq_true rfl) dX7_tallyPort_1) ⟨(Nat.le_of_ble_eq_true rfl), (Nat.le_of_ble_eq_true rfl)⟩ (fun w L9 f9 hw => ?_)
  obtain ⟨rfl, eL9, hr9, hC9⟩ := hw
  replace eL9 := eL9.symm
  subst eL9
  replace hC := hC9
  clear hC9
  replace hTa := hTa.fr hr9 rfl
  replace hP := hP.fr hr9 rfl
  obtain ⟨ctt, hTd, hTx, hPs, hRs⟩ := id hC
  have hTb := hTx.2 rfl
  obtain ⟨hs9, wt9, wh9, wi9, ctb⟩ := hTb.cl
  obtain ⟨ph9, po9, cpt⟩ := hP.cl
  have hnn := nW_le (hT σ.1)
  refine k_astore [(6, .ref tb), (0, .ref tt), (1, .ref ta), (2, .ref pt), (3, .int (iI lev)), (4, .int (iI (a : Int))), (5, .int (iI (b : Int)))] dX7_tallyPort_4 (by decide) rfl ?_
  refine k_aload_n 3 2 dX7_tallyPort_6 rfl rfl ?_
  refine k_aload 0 dX7_tallyPort_7 rfl ?_
  refine k_useR (k_runV (c_X1_isOrderly θ.2.1 κ (pt := pt) (tb := tb) hTb hP hok) w_X7_169 ⟨q_260, q_261⟩ rfl rfl cpt rfl ⟨(Nat.le_of_ble_eq_true rfl), (Nat.le_of_ble_eq_true rfl)⟩ (Nat.le_of_ble_eq_true rfl) dX7_tallyPort_9) ⟨(Nat.le_of_ble_eq_true rfl), (Nat.le_of_ble_eq_true rfl)⟩ ?_
  refine k_ifb_ne 16 dX7_tallyPort_12 (by decide) (fun h12 => ?_) (fun h12 => ?_)
  · refine k_iconst dX7_tallyPort_16 ?_
    refine k_topi (((wAt (hT σ.1) q a 0 : Nat) : Int) - 1) rfl ?_
    refine k_istore [(7, .int (iI (((wAt (hT σ.1) q a 0 : Nat) : Int) - 1))), (6, .ref tb), (0, .ref tt), (1, .ref ta), (2, .ref pt), (3, .int (iI lev)), (4, .int (iI (a : Int))), (5, .int (iI (b : Int)))] dX7_tallyPort_17 (by decide) rfl ?_
    refine k_iload 6 dX7_tallyPort_19 rfl ?_
    refine k_istore [(8, .int (iI (a : Int))), (7, .int (iI (((wAt (hT σ.1) q a 0 : Nat) : Int) - 1))), (6, .ref tb), (0, .ref tt), (1, .ref ta), (2, .ref pt), (3, .int (iI lev)), (4, .int (iI (a : Int))), (5, .int (iI (b : Int)))] dX7_tallyPort_21 (by decide) rfl ?_
    have lp23 : ∀ (fuel : Nat) (fw : Nat → wE) (m : Nat), (a + m ≤ b + 1) → (k_fr SC L f L fw) → (Cl L fw tb (3, .inr (4, [.ref hs9, .ref wt9, .ref wh9, .ref wi9, .int (iI (nW (hT σ.1) : Int))]))) → (Cl L fw pt (15, .inr (2, [.ref ph9, .ref po9, .int (iI q.2.2.2.2)]))) → (CSF κ L fw tt td tb pl rl false σ) → (TallyR L fw ta (tlP (hT σ.1) q lev a m)) → (PortR L fw pt q) → (TblR κ L fw tb (hT σ.1)) → b + 1 - (a + m) < fuel → k_G θ κ cX7_tallyPort 10 none RX7 (k_rm 7 0 0) (k_MQ θ κ (k_ru (fun L' f' => L' = L ∧ k_fr SC L f L' f' ∧ CSF κ L' f' tt td tb pl rl false σ ∧ TallyR L' f' ta (if ord (hT σ.1) q = true then tlP (hT σ.1) q lev a (b + 1 - a) else tl0))) 0 0) L fw 0 0 23 [(0, .ref tt), (1, .ref ta), (2, .ref pt), (3, .int (iI lev)), (4, .int (iI (a : Int))), (5, .int (iI (b : Int))), (6, .ref tb), (7, .int (iI (((wAt (hT σ.1) q a m : Nat) : Int) - 1))), (8, .int (iI ((a + m : Nat) : Int)))] [] := by
      intro fuel
      induction fuel with
      | zero =>
        intro fw m hm hfr ctb cpt hC hTa hP hTb hfu
        exact absurd hfu (Nat.not_lt_zero _)
      | succ fuel ih23 =>
        intro fw m hm hfr ctb cpt hC hTa hP hTb hfu
        refine k_iload 8 dX7_tallyPort_23 rfl ?_
        refine k_iload 5 dX7_tallyPort_25 rfl ?_
        refine k_icmp_gt 87 dX7_tallyPort_27 (by decide) (inI_mk (by omega) (by omega)) (inI_mk (by omega) (by omega)) (fun h27 => ?_) (fun h27 => ?_)
        · exact k_vret dX7_tallyPort_87 rfl (Nat.le_of_ble_eq_true rfl) (Nat.le_of_ble_eq_true rfl) (⟨rfl, rfl, hfr, hC, by rw [if_pos h12, show b + 1 - a = m by omega]; exact hTa⟩)
        · refine k_aload_n 2 2 dX7_tallyPort_30 rfl rfl ?_
          refine k_aload 6 dX7_tallyPort_31 rfl ?_
          refine k_iload 7 dX7_tallyPort_33 rfl ?_
          refine k_iload 8 dX7_tallyPort_35 rfl ?_
          refine k_useR (k_runV (c_X1_latestWater θ.2.1 κ (w := (wAt (hT σ.1) q a m)) (h := (hT σ.1)) (pt := pt) (tb := tb) (e := (((wAt (hT σ.1) q a m : Nat) : Int) - 1)) (t := ((a + m : Nat) : Int)) hTb hP hok rfl (wAt_spec (h := (hT σ.1)) (q := q) (a := a) m).1 (inI_mk (by omega) (by omega))) w_X7_180 ⟨q_663, q_664⟩ rfl rfl cpt rfl ⟨(Nat.le_of_ble_eq_true rfl), (Nat.le_of_ble_eq_true rfl)⟩ (Nat.le_of_ble_eq_true rfl) dX7_tallyPort_37) ⟨(Nat.le_of_ble_eq_true rfl), (Nat.le_of_ble_eq_true rfl)⟩ ?_
          refine k_topi (((wAt (hT σ.1) q a (m + 1) : Nat) : Int) - 1) rfl ?_
          have hwa := (wAt_spec (h := (hT σ.1)) (q := q) (a := a) (m + 1))
          have hwa1 := hwa.1
          refine k_istore [(7, .int (iI (((wAt (hT σ.1) q a (m + 1) : Nat) : Int) - 1))), (0, .ref tt), (1, .ref ta), (2, .ref pt), (3, .int (iI lev)), (4, .int (iI (a : Int))), (5, .int (iI (b : Int))), (6, .ref tb), (8, .int (iI ((a + m : Nat) : Int)))] dX7_tallyPort_40 (by decide) rfl ?_
          refine k_aload 7 dX7_tallyPort_42 rfl ?_
          refine k_iload 0 dX7_tallyPort_44 rfl ?_
          refine k_useR (k_runV (c_X3_isBetweenWaters θ.2.1 κ (h := (hT σ.1)) (tb := tb) (z := (((wAt (hT σ.1) q a (m + 1) : Nat) : Int) - 1)) hTb (inI_mk (by omega) (by omega))) w_X7_184 ⟨q_667, q_668⟩ rfl rfl ctb rfl ⟨(Nat.le_of_ble_eq_true rfl), (Nat.le_of_ble_eq_true rfl)⟩ (Nat.le_of_ble_eq_true rfl) dX7_tallyPort_46) ⟨(Nat.le_of_ble_eq_true rfl), (Nat.le_of_ble_eq_true rfl)⟩ ?_
          refine k_istore [(9, .int (iI (bI (decide (0 ≤ (((wAt (hT σ.1) q a (m + 1) : Nat) : Int) - 1) ∧ (((wAt (hT σ.1) q a (m + 1) : Nat) : Int) - 1) < (nW (hT σ.1) : Int) - 1))))), (7, .int (iI (((wAt (hT σ.1) q a (m + 1) : Nat) : Int) - 1))), (0, .ref tt), (1, .ref ta), (2, .ref pt), (3, .int (iI lev)), (4, .int (iI (a : Int))), (5, .int (iI (b : Int))), (6, .ref tb), (8, .int (iI ((a + m : Nat) : Int)))] dX7_tallyPort_49 (by decide) rfl ?_
          refine k_aload_n 3 1 dX7_tallyPort_51 rfl rfl ?_
          refine k_iload 9 dX7_tallyPort_52 rfl ?_
          refine k_iload 0 dX7_tallyPort_54 rfl ?_
          refine k_ifb_eq 77 dX7_tallyPort_56 (by decide) (fun h56 => ?_) (fun h56 => ?_)
          · refine k_iconst dX7_tallyPort_77 ?_
            refine k_useU (k_runV (c_X4_note θ.2.1 κ (x := (tlP (hT σ.1) q lev a m)) (n := (m : Int)) (ta := ta) (m := ((a + m : Nat) : Int)) (b := false) hTa (tlP_in (h := (hT σ.1)) (q := q) (lev := lev) (a := a) m (by omega)) (by omega) ⟨by omega, by omega⟩) w_X7_268 ⟨q_722, q_723⟩ rfl rfl hTa rfl ⟨(Nat.le_of_ble_eq_true rfl), (Nat.le_of_ble_eq_true rfl)⟩ (Nat.le_of_ble_eq_true rfl) dX7_tallyPort_78) ⟨(Nat.le_of_ble_eq_true rfl), (Nat.le_of_ble_eq_true rfl)⟩ (fun Ln fn hw => ?_)
            obtain ⟨en, hrn, hTa9⟩ := hw
            replace en := en.symm
            subst en
            replace hTa := hTa9
            replace ctb := ctb.fr hrn rfl
            replace cpt := cpt.fr hrn rfl
            replace hC := hC.fr hrn rfl
            replace hP := hP.fr hrn rfl
            replace hTb := hTb.fr hrn rfl
            refine k_iinc 9 [(8, .int (iI (((a + m : Nat) : Int) + 1))), (9, .int (iI (bI (decide (0 ≤ (((wAt (hT σ.1) q a (m + 1) : Nat) : Int) - 1) ∧ (((wAt (hT σ.1) q a (m + 1) : Nat) : Int) - 1) < (nW (hT σ.1) : Int) - 1))))), (7, .int (iI (((wAt (hT σ.1) q a (m + 1) : Nat) : Int) - 1))), (0, .ref tt), (1, .ref ta), (2, .ref pt), (3, .int (iI lev)), (4, .int (iI (a : Int))), (5, .int (iI (b : Int))), (6, .ref tb)] dX7_tallyPort_81 rfl (by decide) rfl ?_
            refine k_goto 23 dX7_tallyPort_84 (by decide) ?_
            refine k_perm [3, 4, 5, 6, 7, 8, 9, 2, 0] [(0, .ref tt), (1, .ref ta), (2, .ref pt), (3, .int (iI lev)), (4, .int (iI (a : Int))), (5, .int (iI (b : Int))), (6, .ref tb), (7, .int (iI (((wAt (hT σ.1) q a (m + 1) : Nat) : Int) - 1))), (8, .int (iI (((a + m : Nat) : Int) + 1)))] rfl ?_
            have hTa2 : TallyR L fn ta (tlP (hT σ.1) q lev a (m + 1)) := by
              rw [tlP, decide_eq_false (fun q9 => of_decide_eq_false h56 ⟨by omega, by omega⟩)]
              exact hTa
            replace hTa := hTa2
            exact ih23 fn (m + 1) (by omega) (k_fr.trans hfr hrn idf (SC_of rfl)) ctb cpt hC hTa hP hTb (by omega)
          · obtain ⟨hw1, hw2⟩ := of_decide_eq_true h56
            obtain ⟨wk, hwk⟩ : ∃ wk : Nat, wAt (hT σ.1) q a (m + 1) = wk + 1 := ⟨wAt (hT σ.1) q a (m + 1) - 1, by omega⟩
            have hwt1 := hwa.2 wk (by omega)
            have hwt2 := wAt_end (h := (hT σ.1)) (q := q) (a := a) (m := m) (by omega)
            rw [hwk] at hwt2
            refine k_aload_n 4 2 dX7_tallyPort_59 rfl rfl ?_
            refine k_aload 8 dX7_tallyPort_60 rfl ?_
            refine k_iload 1 dX7_tallyPort_62 rfl ?_
            refine k_topi (wk : Int) (by omega) ?_
            refine k_iload 9 dX7_tallyPort_64 rfl ?_
            refine k_useR (k_runV (c_X1_heightBehind θ.2.1 κ (h := (hT σ.1)) (k := wk) (pt := pt) (tb := tb) (t := ((a + m : Nat) : Int)) hTb hP (hT_bd hs.1) hok (by omega) (by omega) (by omega)) w_X7_189 ⟨q_672, q_673⟩ rfl rfl cpt rfl ⟨(Nat.le_of_ble_eq_true rfl), (Nat.le_of_ble_eq_true rfl)⟩ (Nat.le_of_ble_eq_true rfl) dX7_tallyPort_66) ⟨(Nat.le_of_ble_eq_true rfl), (Nat.le_of_ble_eq_true rfl)⟩ ?_
            have hbw := btw_all (h := (hT σ.1)) hok (hT_bd hs.1) (k := wk) (t := ((a + m : Nat) : Int)) (by omega) (by omega) (by omega)
            refine k_iload_n 5 3 dX7_tallyPort_69 rfl rfl ?_
            refine k_icmp_lt 77 dX7_tallyPort_70 (by decide) hbw hlev (fun h70 => ?_) (fun h70 => ?_)
            · refine k_iconst dX7_tallyPort_77 ?_
              refine k_useU (k_runV (c_X4_note θ.2.1 κ (x := (tlP (hT σ.1) q lev a m)) (n := (m : Int)) (ta := ta) (m := ((a + m : Nat) : Int)) (b := false) hTa (tlP_in (h := (hT σ.1)) (q := q) (lev := lev) (a := a) m (by omega)) (by omega) ⟨by omega, by omega⟩) w_X7_268 ⟨q_722, q_723⟩ rfl rfl hTa rfl ⟨(Nat.le_of_ble_eq_true rfl), (Nat.le_of_ble_eq_true rfl)⟩ (Nat.le_of_ble_eq_true rfl) dX7_tallyPort_78) ⟨(Nat.le_of_ble_eq_true rfl), (Nat.le_of_ble_eq_true rfl)⟩ (fun Ln fn hw => ?_)
              obtain ⟨en, hrn, hTa9⟩ := hw
              replace en := en.symm
              subst en
              replace hTa := hTa9
              replace ctb := ctb.fr hrn rfl
              replace cpt := cpt.fr hrn rfl
              replace hC := hC.fr hrn rfl
              replace hP := hP.fr hrn rfl
              replace hTb := hTb.fr hrn rfl
              refine k_iinc 9 [(8, .int (iI (((a + m : Nat) : Int) + 1))), (9, .int (iI (bI (decide (0 ≤ (((wAt (hT σ.1) q a (m + 1) : Nat) : Int) - 1) ∧ (((wAt (hT σ.1) q a (m + 1) : Nat) : Int) - 1) < (nW (hT σ.1) : Int) - 1))))), (7, .int (iI (((wAt (hT σ.1) q a (m + 1) : Nat) : Int) - 1))), (0, .ref tt), (1, .ref ta), (2, .ref pt), (3, .int (iI lev)), (4, .int (iI (a : Int))), (5, .int (iI (b : Int))), (6, .ref tb)] dX7_tallyPort_81 rfl (by decide) rfl ?_
              refine k_goto 23 dX7_tallyPort_84 (by decide) ?_
              refine k_perm [3, 4, 5, 6, 7, 8, 9, 2, 0] [(0, .ref tt), (1, .ref ta), (2, .ref pt), (3, .int (iI lev)), (4, .int (iI (a : Int))), (5, .int (iI (b : Int))), (6, .ref tb), (7, .int (iI (((wAt (hT σ.1) q a (m + 1) : Nat) : Int) - 1))), (8, .int (iI (((a + m : Nat) : Int) + 1)))] rfl ?_
              have hTa2 : TallyR L fn ta (tlP (hT σ.1) q lev a (m + 1)) := by
                rw [tlP, hwk, decide_eq_false (fun q9 => by omega)]
                exact hTa
              replace hTa := hTa2
              exact ih23 fn (m + 1) (by omega) (k_fr.trans hfr hrn idf (SC_of rfl)) ctb cpt hC hTa hP hTb (by omega)
            · refine k_iconst dX7_tallyPort_73 ?_
              refine k_goto 78 dX7_tallyPort_74 (by decide) ?_
              refine k_useU (k_runV (c_X4_note θ.2.1 κ (x := (tlP (hT σ.1) q lev a m)) (n := (m : Int)) (ta := ta) (m := ((a + m : Nat) : Int)) (b := true) hTa (tlP_in (h := (hT σ.1)) (q := q) (lev := lev) (a := a) m (by omega)) (by omega) ⟨by omega, by omega⟩) w_X7_268 ⟨q_722, q_723⟩ rfl rfl hTa rfl ⟨(Nat.le_of_ble_eq_true rfl), (Nat.le_of_ble_eq_true rfl)⟩ (Nat.le_of_ble_eq_true rfl) dX7_tallyPort_78) ⟨(Nat.le_of_ble_eq_true rfl), (Nat.le_of_ble_eq_true rfl)⟩ (fun Ln fn hw => ?_)
              obtain ⟨en, hrn, hTa9⟩ := hw
              replace en := en.symm
              subst en
              replace hTa := hTa9
              replace ctb := ctb.fr hrn rfl
              replace cpt := cpt.fr hrn rfl
              replace hC := hC.fr hrn rfl
              replace hP := hP.fr hrn rfl
              replace hTb := hTb.fr hrn rfl
              refine k_iinc 9 [(8, .int (iI (((a + m : Nat) : Int) + 1))), (9, .int (iI (bI (decide (0 ≤ (((wAt (hT σ.1) q a (m + 1) : Nat) : Int) - 1) ∧ (((wAt (hT σ.1) q a (m + 1) : Nat) : Int) - 1) < (nW (hT σ.1) : Int) - 1))))), (7, .int (iI (((wAt (hT σ.1) q a (m + 1) : Nat) : Int) - 1))), (0, .ref tt), (1, .ref ta), (2, .ref pt), (3, .int (iI lev)), (4, .int (iI (a : Int))), (5, .int (iI (b : Int))), (6, .ref tb)] dX7_tallyPort_81 rfl (by decide) rfl ?_
              refine k_goto 23 dX7_tallyPort_84 (by decide) ?_
              refine k_perm [3, 4, 5, 6, 7, 8, 9, 2, 0] [(0, .ref tt), (1, .ref ta), (2, .ref pt), (3, .int (iI lev)), (4, .int (iI (a : Int))), (5, .int (iI (b : Int))), (6, .ref tb), (7, .int (iI (((wAt (hT σ.1) q a (m + 1) : Nat) : Int) - 1))), (8, .int (iI (((a + m : Nat) : Int) + 1)))] rfl ?_
              have hTa2 : TallyR L fn ta (tlP (hT σ.1) q lev a (m + 1)) := by
                rw [tlP, hwk, decide_eq_true ⟨by omega, by omega, by omega⟩]
                exact hTa
              replace hTa := hTa2
              exact ih23 fn (m + 1) (by omega) (k_fr.trans hfr hrn idf (SC_of rfl)) ctb cpt hC hTa hP hTb (by omega)
    refine k_perm [3, 4, 5, 6, 7, 8, 2, 1, 0] [(0, .ref tt), (1, .ref ta), (2, .ref pt), (3, .int (iI lev)), (4, .int (iI (a : Int))), (5, .int (iI (b : Int))), (6, .ref tb), (7, .int (iI (((wAt (hT σ.1) q a 0 : Nat) : Int) - 1))), (8, .int (iI (a : Int)))] rfl ?_
    exact lp23 _ f9 0 (by omega) (k_fr.mono hr9 SC_SU) ctb cpt hC hTa hP hTb (Nat.lt_succ_self _)
  · exact k_vret dX7_tallyPort_15 rfl (Nat.le_of_ble_eq_true rfl) (Nat.le_of_ble_eq_true rfl) (⟨rfl, rfl, (k_fr.mono hr9 SC_SU), hC, by rw [if_neg (by rw [h12]; decide)]; exact hTa⟩)
set_option maxHeartbeats 4000000 in
set_option maxRecDepth 100000 in
theorem c_X7_digest (la : Launch) (κ : Kx) {L : List Nat} {f : Nat → wE} {tt td tb pl rl : Nat} {old : Bool} {σ : Sg}   (hC : CSF κ L f tt td tb pl rl old σ) (hs : SgOk σ) : k_M la κ yX7_digest cX7_digest 5 (some .long) 8 0 0 [.ref tt] L f (k_rn (fun w L' f' => w = .long (lI (digS σ)) ∧ CS κ L' f' tt σ ∧ k_fr SC L f L' f')) := by
  refine k_head RX7 [(0, .ref tt)] rfl (by decide) (Nat.le_of_ble_eq_true rfl) rfl (fun θ hθ hin => ?_)
  obtain ⟨ctt, hTd, hTx, hPs, hRs⟩ := id hC
  refine k_aload_n 0 0 dX7_digest_0 rfl rfl ?_
  refine k_useV (k_runV (c_X7_currentTable θ.2.1 κ (tt := tt) hC hs) w_X7_110 ⟨q_212, q_2⟩ rfl rfl ctt rfl ⟨(Nat.le_of_ble_eq_true rfl), (Nat.le_of_ble_eq_true rfl)⟩ (Nat.le_of_ble_eq_true rfl) dX7_digest_1) ⟨(Nat.le_of_ble_eq_true rfl), (Nat.le_of_ble_eq_true rfl)⟩ (fun w L9 f9 hw => ?_)
  obtain ⟨rfl, eL9, hr9, hC9⟩ := hw
  replace eL9 := eL9.symm
  subst eL9
  replace hC := hC9
  clear hC9
  obtain ⟨ctt, hTd, hTx, hPs, hRs⟩ := id hC
  have hTb := hTx.2 rfl
  obtain ⟨hs9, wt9, wh9, wi9, ctb⟩ := hTb.cl
  refine k_astore_n 1 [(1, .ref tb), (0, .ref tt)] dX7_digest_4 rfl (by decide) rfl ?_
  refine k_ldc2 313 q_227 (by decide) dX7_digest_5 ?_
  refine k_lstore_n 2 [(2, .long (lI 313)), (1, .ref tb), (0, .ref tt)] dX7_digest_8 rfl (by decide) rfl ?_
  refine k_iconst dX7_digest_9 ?_
  refine k_istore [(4, .int (iI 0)), (2, .long (lI 313)), (1, .ref tb), (0, .ref tt)] dX7_digest_10 (by decide) rfl ?_
  have lp12 : ∀ (fuel : Nat) (fw : Nat → wE) (k : Nat), (k ≤ 4) → (k_fr SC L f L fw) → (CSF κ L fw tt td tb pl rl false σ) → 4 - k < fuel → k_G θ κ cX7_digest 5 (some .long) RX7 (k_rm 8 0 0) (k_MQ θ κ (k_rn (fun w L' f' => w = .long (lI (digS σ)) ∧ CS κ L' f' tt σ ∧ k_fr SC L f L' f')) 0 0) L fw 0 0 12 [(0, .ref tt), (1, .ref tb), (2, .long (lI (mixN σ k))), (4, .int (iI (k : Int)))] [] := by
    intro fuel
    induction fuel with
    | zero =>
      intro fw k hk hfr hC hfu
      exact absurd hfu (Nat.not_lt_zero _)
    | succ fuel ih12 =>
      intro fw k hk hfr hC hfu
      refine k_iload 3 dX7_digest_12 rfl ?_
      refine k_iconst dX7_digest_14 ?_
      refine k_icmp_ge 36 dX7_digest_15 (by decide) (inI_mk (by omega) (by omega)) (inI_mk (by omega) (by omega)) (fun h15 => ?_) (fun h15 => ?_)
      · have ek4 : k = 4 := by omega
        subst ek4
        obtain ⟨ctt, hTd, hTx, hPs, hRs⟩ := id hC
        obtain ⟨wl, wv, ctd, hLw, hW, hWi⟩ := id hTd
        obtain ⟨md1, E1, cwl⟩ := hLw.cl
        obtain ⟨pv, hv, ov, hLp, hPv, hPi⟩ := id hPs
        obtain ⟨md2, E2, cpl⟩ := hLp.cl
        have hTb := hTx.2 rfl
        obtain ⟨hs9, wt9, wh9, wi9, ctb⟩ := hTb.cl
        obtain ⟨hs1, ⟨hs2, hs3⟩, hs4⟩ := id hs
        have hs5 := hs1.2.1
        have hs6 := hs4.1
        have hs7 := nW_le (hT σ.1)
        have hs8 := hs1.1
        refine k_lload_n 2 2 dX7_digest_36 rfl rfl ?_
        refine k_aload_n 0 0 dX7_digest_37 rfl rfl ?_
        refine k_get 0 i_X7 q_139 ctt rfl (by decide) rfl dX7_digest_38 ?_
        refine k_getN 1 i_X5 q_105 ctd rfl (by decide) rfl dX7_digest_41 ?_
        refine k_i2l dX7_digest_44 (inI_mk (by omega) (by omega)) ?_
        refine k_useR (k_runS (c_X7_mixed θ.2.1 κ (a := (mixN σ 4)) (b := σ.1.1) ) w_X7_252 q_233 rfl rfl ⟨(Nat.le_of_ble_eq_true rfl), (Nat.le_of_ble_eq_true rfl)⟩ (Nat.le_of_ble_eq_true rfl) dX7_digest_45) ⟨(Nat.le_of_ble_eq_true rfl), (Nat.le_of_ble_eq_true rfl)⟩ ?_
        refine k_lstore_n 2 [(2, .long (lI ((mixN σ 4) * 31 + σ.1.1))), (0, .ref tt), (1, .ref tb), (4, .int (iI (4 : Int)))] dX7_digest_48 rfl (by decide) rfl ?_
        refine k_lload_n 0 2 dX7_digest_49 rfl rfl ?_
        refine k_aload_n 2 1 dX7_digest_50 rfl rfl ?_
        refine k_useR (k_runS (c_X7_mixedWithWaters θ.2.1 κ (h := (hT σ.1)) (dg := (mixN σ 4) * 31 + σ.1.1) (tb := tb) hTb (hT_bd hs1)) w_X7_255 q_237 rfl rfl ⟨(Nat.le_of_ble_eq_true rfl), (Nat.le_of_ble_eq_true rfl)⟩ (Nat.le_of_ble_eq_true rfl) dX7_digest_51) ⟨(Nat.le_of_ble_eq_true rfl), (Nat.le_of_ble_eq_true rfl)⟩ ?_
        refine k_lstore_n 2 [(2, .long (lI (mixW (hT σ.1) ((mixN σ 4) * 31 + σ.1.1) (nW (hT σ.1))))), (0, .ref tt), (1, .ref tb), (4, .int (iI (4 : Int)))] dX7_digest_54 rfl (by decide) rfl ?_
        refine k_iconst dX7_digest_55 ?_
        refine k_istore [(4, .int (iI 0)), (2, .long (lI (mixW (hT σ.1) ((mixN σ 4) * 31 + σ.1.1) (nW (hT σ.1))))), (0, .ref tt), (1, .ref tb)] dX7_digest_56 (by decide) rfl ?_
        have lp58 : ∀ (fuel : Nat) (j : Nat), (j ≤ σ.2.1) → σ.2.1 - j < fuel → k_G θ κ cX7_digest 5 (some .long) RX7 (k_rm 8 0 0) (k_MQ θ κ (k_rn (fun w L' f' => w = .long (lI (digS σ)) ∧ CS κ L' f' tt σ ∧ k_fr SC L f L' f')) 0 0) L fw 0 0 58 [(0, .ref tt), (1, .ref tb), (2, .long (lI (mixP (hT σ.1) σ.2.2.1 (mixW (hT σ.1) (mixN σ 4 * 31 + σ.1.1) (nW (hT σ.1))) j))), (4, .int (iI (j : Int)))] [] := by
          intro fuel
          induction fuel with
          | zero =>
            intro j hj hfu
            exact absurd hfu (Nat.not_lt_zero _)
          | succ fuel ih58 =>
            intro j hj hfu
            refine k_iload 3 dX7_digest_58 rfl ?_
            refine k_aload_n 0 0 dX7_digest_60 rfl rfl ?_
            refine k_get 2 i_X7 q_141 ctt rfl (by decide) rfl dX7_digest_61 ?_
            refine k_useR (k_runV (c_Jx4a65c_size_8abf5 θ.2.1 κ (n := σ.2.1) (g := pv) (l := pl) hLp) w_X7_55 ⟨q_160, q_161⟩ rfl rfl cpl rfl ⟨(Nat.le_of_ble_eq_true rfl), (Nat.le_of_ble_eq_true rfl)⟩ (Nat.le_of_ble_eq_true rfl) dX7_digest_64) ⟨(Nat.le_of_ble_eq_true rfl), (Nat.le_of_ble_eq_true rfl)⟩ ?_
            refine k_icmp_ge 94 dX7_digest_67 (by decide) (inI_mk (by omega) (by omega)) (inI_mk (by omega) (by omega)) (fun h67 => ?_) (fun h67 => ?_)
            · have ej6 : j = σ.2.1 := by omega
              subst ej6
              refine k_iconst dX7_digest_94 ?_
              refine k_istore [(4, .int (iI 0)), (0, .ref tt), (1, .ref tb), (2, .long (lI (mixP (hT σ.1) σ.2.2.1 (mixW (hT σ.1) (mixN σ 4 * 31 + σ.1.1) (nW (hT σ.1))) σ.2.1)))] dX7_digest_95 (by decide) rfl ?_
              have lp97 : ∀ (fuel : Nat) (j : Nat), (j ≤ 5) → 5 - j < fuel → k_G θ κ cX7_digest 5 (some .long) RX7 (k_rm 8 0 0) (k_MQ θ κ (k_rn (fun w L' f' => w = .long (lI (digS σ)) ∧ CS κ L' f' tt σ ∧ k_fr SC L f L' f')) 0 0) L fw 0 0 97 [(0, .ref tt), (1, .ref tb), (2, .long (lI (mixD (hT σ.1) (mixP (hT σ.1) σ.2.2.1 (mixW (hT σ.1) (mixN σ 4 * 31 + σ.1.1) (nW (hT σ.1))) σ.2.1) j))), (4, .int (iI (j : Int)))] [] := by
                intro fuel
                induction fuel with
                | zero =>
                  intro j hj hfu
                  exact absurd hfu (Nat.not_lt_zero _)
                | succ fuel ih97 =>
                  intro j hj hfu
                  refine k_iload 3 dX7_digest_97 rfl ?_
                  refine k_iconst dX7_digest_99 ?_
                  refine k_icmp_ge 121 dX7_digest_100 (by decide) (inI_mk (by omega) (by omega)) (inI_mk (by omega) (by omega)) (fun h100 => ?_) (fun h100 => ?_)
                  · have ej5 : j = 5 := by omega
                    subst ej5
                    refine k_lload_n 2 2 dX7_digest_121 rfl rfl ?_
                    exact k_lret dX7_digest_122 rfl (Nat.le_of_ble_eq_true rfl) (Nat.le_of_ble_eq_true rfl) (⟨_, rfl, rfl, hC.cs, hfr⟩)
                  · refine k_lload_n 2 2 dX7_digest_103 rfl rfl ?_
                    refine k_aload_n 1 1 dX7_digest_104 rfl rfl ?_
                    refine k_iload 3 dX7_digest_105 rfl ?_
                    refine k_useR (k_runV (c_X3_datumOf θ.2.1 κ (h := (hT σ.1)) (tb := tb) (what := (j : Int)) hTb (hT_bd hs1) ⟨by omega, by omega⟩) w_X7_135 ⟨q_280, q_281⟩ rfl rfl ctb rfl ⟨(Nat.le_of_ble_eq_true rfl), (Nat.le_of_ble_eq_true rfl)⟩ (Nat.le_of_ble_eq_true rfl) dX7_digest_107) ⟨(Nat.le_of_ble_eq_true rfl), (Nat.le_of_ble_eq_true rfl)⟩ ?_
                    have hdb := datum_bd (hT_bd hs1) (j : Int)
                    refine k_i2l dX7_digest_110 (inI_mk (by omega) (by omega)) ?_
                    refine k_useR (k_runS (c_X7_mixed θ.2.1 κ (a := (mixD (hT σ.1) (mixP (hT σ.1) σ.2.2.1 (mixW (hT σ.1) (mixN σ 4 * 31 + σ.1.1) (nW (hT σ.1))) σ.2.1) j)) (b := dat (hT σ.1) (j : Int)) ) w_X7_252 q_233 rfl rfl ⟨(Nat.le_of_ble_eq_true rfl), (Nat.le_of_ble_eq_true rfl)⟩ (Nat.le_of_ble_eq_true rfl) dX7_digest_111) ⟨(Nat.le_of_ble_eq_true rfl), (Nat.le_of_ble_eq_true rfl)⟩ ?_
                    refine k_lstore_n 2 [(2, .long (lI ((mixD (hT σ.1) (mixP (hT σ.1) σ.2.2.1 (mixW (hT σ.1) (mixN σ 4 * 31 + σ.1.1) (nW (hT σ.1))) σ.2.1) j) * 31 + (dat (hT σ.1) (j : Int))))), (0, .ref tt), (1, .ref tb), (4, .int (iI (j : Int)))] dX7_digest_114 rfl (by decide) rfl ?_
                    refine k_iinc 3 [(4, .int (iI ((j : Int) + 1))), (2, .long (lI ((mixD (hT σ.1) (mixP (hT σ.1) σ.2.2.1 (mixW (hT σ.1) (mixN σ 4 * 31 + σ.1.1) (nW (hT σ.1))) σ.2.1) j) * 31 + (dat (hT σ.1) (j : Int))))), (0, .ref tt), (1, .ref tb)] dX7_digest_115 rfl (by decide) rfl ?_
                    refine k_goto 97 dX7_digest_118 (by decide) ?_
                    refine k_perm [2, 3, 1, 0] [(0, .ref tt), (1, .ref tb), (2, .long (lI ((mixD (hT σ.1) (mixP (hT σ.1) σ.2.2.1 (mixW (hT σ.1) (mixN σ 4 * 31 + σ.1.1) (nW (hT σ.1))) σ.2.1) j) * 31 + (dat (hT σ.1) (j : Int))))), (4, .int (iI ((j : Int) + 1)))] rfl ?_
                    exact ih97 (j + 1) (by omega) (by omega)
              refine k_perm [1, 2, 3, 0] [(0, .ref tt), (1, .ref tb), (2, .long (lI (mixP (hT σ.1) σ.2.2.1 (mixW (hT σ.1) (mixN σ 4 * 31 + σ.1.1) (nW (hT σ.1))) σ.2.1))), (4, .int (iI 0))] rfl ?_
              exact lp97 _ 0 (by omega) (Nat.lt_succ_self _)
            · refine k_lload_n 2 2 dX7_digest_70 rfl rfl ?_
              refine k_aload_n 1 1 dX7_digest_71 rfl rfl ?_
              refine k_aload_n 0 0 dX7_digest_72 rfl rfl ?_
              refine k_get 2 i_X7 q_141 ctt rfl (by decide) rfl dX7_digest_73 ?_
              refine k_iload 3 dX7_digest_76 rfl ?_
              refine k_useR (k_runV (c_Jx4a65c_get_915e3 θ.2.1 κ (n := σ.2.1) (g := pv) (i := j) (l := pl) hLp (by omega)) w_X7_82 ⟨q_172, q_173⟩ rfl rfl cpl rfl ⟨(Nat.le_of_ble_eq_true rfl), (Nat.le_of_ble_eq_true rfl)⟩ (Nat.le_of_ble_eq_true rfl) dX7_digest_78) ⟨(Nat.le_of_ble_eq_true rfl), (Nat.le_of_ble_eq_true rfl)⟩ ?_
              have hPj := hPv j (by omega)
              refine k_castS q_255 hPj.1 rfl dX7_digest_81 ?_
              refine k_useR (k_runS (c_X7_mixedWithPort θ.2.1 κ (h := (hT σ.1)) (q := (σ.2.2.1 j)) (dg := (mixP (hT σ.1) σ.2.2.1 (mixW (hT σ.1) (mixN σ 4 * 31 + σ.1.1) (nW (hT σ.1))) j)) (tb := tb) (pt := (pv j)) hTb ⟨_, _, hPj.1, hPj.2.1, hPj.2.2⟩ (hT_bd hs1) (hs3 j (by omega))) w_X7_259 q_257 rfl rfl ⟨(Nat.le_of_ble_eq_true rfl), (Nat.le_of_ble_eq_true rfl)⟩ (Nat.le_of_ble_eq_true rfl) dX7_digest_84) ⟨(Nat.le_of_ble_eq_true rfl), (Nat.le_of_ble_eq_true rfl)⟩ ?_
              refine k_lstore_n 2 [(2, .long (lI (mixQ (hT σ.1) (σ.2.2.1 j) (mixP (hT σ.1) σ.2.2.1 (mixW (hT σ.1) (mixN σ 4 * 31 + σ.1.1) (nW (hT σ.1))) j) (nW (hT σ.1))))), (0, .ref tt), (1, .ref tb), (4, .int (iI (j : Int)))] dX7_digest_87 rfl (by decide) rfl ?_
              refine k_iinc 3 [(4, .int (iI ((j : Int) + 1))), (2, .long (lI (mixQ (hT σ.1) (σ.2.2.1 j) (mixP (hT σ.1) σ.2.2.1 (mixW (hT σ.1) (mixN σ 4 * 31 + σ.1.1) (nW (hT σ.1))) j) (nW (hT σ.1))))), (0, .ref tt), (1, .ref tb)] dX7_digest_88 rfl (by decide) rfl ?_
              refine k_goto 58 dX7_digest_91 (by decide) ?_
              refine k_perm [2, 3, 1, 0] [(0, .ref tt), (1, .ref tb), (2, .long (lI (mixQ (hT σ.1) (σ.2.2.1 j) (mixP (hT σ.1) σ.2.2.1 (mixW (hT σ.1) (mixN σ 4 * 31 + σ.1.1) (nW (hT σ.1))) j) (nW (hT σ.1))))), (4, .int (iI ((j : Int) + 1)))] rfl ?_
              exact ih58 (j + 1) (by omega) (by omega)
        refine k_perm [2, 3, 1, 0] [(0, .ref tt), (1, .ref tb), (2, .long (lI (mixW (hT σ.1) ((mixN σ 4) * 31 + σ.1.1) (nW (hT σ.1))))), (4, .int (iI 0))] rfl ?_
        exact lp58 _ 0 (by omega) (Nat.lt_succ_self _)
      · refine k_lload_n 2 2 dX7_digest_18 rfl rfl ?_
        refine k_aload_n 0 0 dX7_digest_19 rfl rfl ?_
        refine k_iload 3 dX7_digest_20 rfl ?_
        refine k_useV (k_runV (c_X7_numberOf θ.2.1 κ (tt := tt) (what := (k : Int)) hC hs (by omega)) w_X7_107 ⟨q_230, q_5⟩ rfl rfl hC.1 rfl ⟨(Nat.le_of_ble_eq_true rfl), (Nat.le_of_ble_eq_true rfl)⟩ (Nat.le_of_ble_eq_true rfl) dX7_digest_22) ⟨(Nat.le_of_ble_eq_true rfl), (Nat.le_of_ble_eq_true rfl)⟩ (fun w Ln fn hw => ?_)
        obtain ⟨rfl, en, hrn, old9, hCn, ho9⟩ := hw
        replace en := en.symm
        subst en
        replace ho9 := ho9 rfl
        subst ho9
        replace hC := hCn
        clear hCn
        have hnb := numS_bd hs (k : Int)
        refine k_i2l dX7_digest_25 (inI_mk (by omega) (by omega)) ?_
        refine k_useR (k_runS (c_X7_mixed θ.2.1 κ (a := (mixN σ k)) (b := (numS σ (k : Int))) ) w_X7_252 q_233 rfl rfl ⟨(Nat.le_of_ble_eq_true rfl), (Nat.le_of_ble_eq_true rfl)⟩ (Nat.le_of_ble_eq_true rfl) dX7_digest_26) ⟨(Nat.le_of_ble_eq_true rfl), (Nat.le_of_ble_eq_true rfl)⟩ ?_
        refine k_lstore_n 2 [(2, .long (lI ((mixN σ k) * 31 + (numS σ (k : Int))))), (0, .ref tt), (1, .ref tb), (4, .int (iI (k : Int)))] dX7_digest_29 rfl (by decide) rfl ?_
        refine k_iinc 3 [(4, .int (iI ((k : Int) + 1))), (2, .long (lI ((mixN σ k) * 31 + (numS σ (k : Int))))), (0, .ref tt), (1, .ref tb)] dX7_digest_30 rfl (by decide) rfl ?_
        refine k_goto 12 dX7_digest_33 (by decide) ?_
        refine k_perm [2, 3, 1, 0] [(0, .ref tt), (1, .ref tb), (2, .long (lI ((mixN σ k) * 31 + (numS σ (k : Int))))), (4, .int (iI ((k : Int) + 1)))] rfl ?_
        exact ih12 fn (k + 1) (by omega) (k_fr.trans hfr hrn idf SC_SU) hC (by omega)
  refine k_perm [3, 2, 1, 0] [(0, .ref tt), (1, .ref tb), (2, .long (lI 313)), (4, .int (iI 0))] rfl ?_
  exact lp12 _ f9 0 (by omega) (k_fr.mono hr9 SC_SU) hC (Nat.lt_succ_self _)
set_option maxHeartbeats 4000000 in
set_option maxRecDepth 100000 in
theorem c_X7_init (la : Launch) (κ : Kx) {L : List Nat} {f : Nat → wE} {tt : Nat} (cti : Cl L f tt (1, .inr (8, [.null, .null, .null, .null, .int (iI (bI false))])))   : k_M la κ yX7_init cX7_init 1 none 6 9 17296 [.ref tt] L f (k_ru (fun L' f' => CS κ L' f' tt sg0 ∧ k_fr SC L f L' f')) := by
  refine k_head RX7 [(0, .ref tt)] rfl (by decide) (Nat.le_of_ble_eq_true rfl) rfl (fun θ hθ hin => ?_)
  refine k_aload_n 0 0 dX7_init_0 rfl rfl ?_
  refine k_objInit q_67 q_68 q_69 (Nat.le_of_ble_eq_true rfl) (Nat.le_of_ble_eq_true rfl) dX7_init_1 ?_
  refine k_aload_n 0 0 dX7_init_4 rfl rfl ?_
  refine k_new (ci := 6) 2 [.null, .int (iI 0)] i_X5 tyX5_ok q_70 q_71 q_39 rfl dv_X5 (Nat.le_of_ble_eq_true rfl) (Nat.le_of_ble_eq_true rfl) dX7_init_5 (fun td L1 f1 hz1 hn1 hc1 => ?_)
  have hr1 := k_fr.new hz1
  replace cti := cti.fr hr1 rfl
  have cTd : Cl L1 f1 td (2, .inr (6, [.null, .int (iI 0)])) := hc1
  refine k_dup dX7_init_8 rfl ?_
  refine k_useU (k_runIN (c_X5_init θ.2.1 κ (td := td) cTd) w_X7_9 q_73 rfl rfl rfl ⟨(Nat.le_of_ble_eq_true rfl), (Nat.le_of_ble_eq_true rfl)⟩ (Nat.le_of_ble_eq_true rfl) dX7_init_9) ⟨(Nat.le_of_ble_eq_true rfl), (Nat.le_of_ble_eq_true rfl)⟩ (fun Lt ft hw => ?_)
  obtain ⟨hTd9, hrt⟩ := hw
  have hTd := hTd9 (fun _ => 0) (fun _ => 0) (fun _ => 0)
  replace cti := cti.fr hrt rfl
  refine k_putF 0 [.ref td, .null, .null, .null, .int (iI (bI false))] i_X7 tyX7_ok nmX7 q_139 cti rfl (by decide) rfl (hin rfl) rfl rfl rfl rfl (Nat.le_of_ble_eq_true rfl) rfl dX7_init_12 (fun f2 hf2 hc2 => ?_)
  have hr2 := k_fr.put hf2 cti
  replace hTd := hTd.fr hr2 rfl
  replace cti : Cl Lt f2 tt (1, .inr (8, [.ref td, .null, .null, .null, .int (iI (bI false))])) := hc2
  refine k_aload_n 0 0 dX7_init_15 rfl rfl ?_
  refine k_new (ci := 4) 3 [.null, .null, .null, .null, .int (iI 0)] i_X3 tyX3_ok q_111 q_112 q_43 rfl dv_X3 (Nat.le_of_ble_eq_true rfl) (Nat.le_of_ble_eq_true rfl) dX7_init_16 (fun tb L3 f3 hz3 hn3 hc3 => ?_)
  have hr3 := k_fr.new hz3
  replace cti := cti.fr hr3 rfl
  replace hTd := hTd.fr hr3 rfl
  have cTb : Cl L3 f3 tb (3, .inr (4, [.null, .null, .null, .null, .int (iI 0)])) := hc3
  refine k_dup dX7_init_19 rfl ?_
  refine k_useU (k_runIN (c_X3_init θ.2.1 κ (tb := tb) cTb) w_X7_18 q_114 rfl rfl rfl ⟨(Nat.le_of_ble_eq_true rfl), (Nat.le_of_ble_eq_true rfl)⟩ (Nat.le_of_ble_eq_true rfl) dX7_init_20) ⟨(Nat.le_of_ble_eq_true rfl), (Nat.le_of_ble_eq_true rfl)⟩ (fun Lb fb hw => ?_)
  obtain ⟨hX, hrb⟩ := hw
  replace cti := cti.fr hrb rfl
  replace hTd := hTd.fr hrb rfl
  refine k_putF 1 [.ref td, .ref tb, .null, .null, .int (iI (bI false))] i_X7 tyX7_ok nmX7 q_140 cti rfl (by decide) rfl (hin rfl) rfl rfl rfl rfl (Nat.le_of_ble_eq_true rfl) rfl dX7_init_23 (fun f4 hf4 hc4 => ?_)
  have hr4 := k_fr.put hf4 cti
  replace hTd := hTd.fr hr4 rfl
  replace hX := hX.fr hr4 rfl
  replace cti : Cl Lb f4 tt (1, .inr (8, [.ref td, .ref tb, .null, .null, .int (iI (bI false))])) := hc4
  refine k_aload_n 0 0 dX7_init_26 rfl rfl ?_
  refine k_new (ci := 0) 4 [.int (iI 0), .null, .int (iI 0)] i_Jx4a65c tyJx4a65c_ok q_137 q_77 q_42 rfl dv_Jx4a65c (Nat.le_of_ble_eq_true rfl) (Nat.le_of_ble_eq_true rfl) dX7_init_27 (fun pl L5 f5 hz5 hn5 hc5 => ?_)
  have hr5 := k_fr.new hz5
  replace cti := cti.fr hr5 rfl
  replace hTd := hTd.fr hr5 rfl
  replace hX := hX.fr hr5 rfl
  have cPl : Cl L5 f5 pl (4, .inr (0, [.int (iI 0), .null, .int (iI 0)])) := hc5
  refine k_dup dX7_init_30 rfl ?_
  refine k_useU (k_runI (c_Jx4a65c_init_da8c8 θ.2.1 κ (l := pl) cPl) w_X7_25 q_79 rfl rfl rfl ⟨(Nat.le_of_ble_eq_true rfl), (Nat.le_of_ble_eq_true rfl)⟩ (Nat.le_of_ble_eq_true rfl) dX7_init_31) ⟨(Nat.le_of_ble_eq_true rfl), (Nat.le_of_ble_eq_true rfl)⟩ (fun Lfpl fpl hw => ?_)
  obtain ⟨efpl, hnfpl, cfpl⟩ := hw
  replace efpl := efpl.symm
  subst efpl
  have hrfpl := k_fr.put hnfpl cPl
  replace cti := cti.fr hrfpl rfl
  replace hTd := hTd.fr hrfpl rfl
  replace hX := hX.fr hrfpl rfl
  replace cPl := cfpl
  have hkfpl := k_new2 hz5 hn5 hnfpl
  refine k_putF 2 [.ref td, .ref tb, .ref pl, .null, .int (iI (bI false))] i_X7 tyX7_ok nmX7 q_141 cti rfl (by decide) rfl (hin rfl) rfl rfl rfl rfl (Nat.le_of_ble_eq_true rfl) rfl dX7_init_34 (fun f6 hf6 hc6 => ?_)
  have hr6 := k_fr.put hf6 cti
  replace cPl := cPl.fr hr6 rfl
  replace hTd := hTd.fr hr6 rfl
  replace hX := hX.fr hr6 rfl
  replace cti : Cl L5 f6 tt (1, .inr (8, [.ref td, .ref tb, .ref pl, .null, .int (iI (bI false))])) := hc6
  refine k_aload_n 0 0 dX7_init_37 rfl rfl ?_
  refine k_new (ci := 0) 5 [.int (iI 0), .null, .int (iI 0)] i_Jx4a65c tyJx4a65c_ok q_137 q_77 q_42 rfl dv_Jx4a65c (Nat.le_of_ble_eq_true rfl) (Nat.le_of_ble_eq_true rfl) dX7_init_38 (fun rl L7 f7 hz7 hn7 hc7 => ?_)
  have hr7 := k_fr.new hz7
  replace cti := cti.fr hr7 rfl
  replace cPl := cPl.fr hr7 rfl
  replace hTd := hTd.fr hr7 rfl
  replace hX := hX.fr hr7 rfl
  have cRl : Cl L7 f7 rl (5, .inr (0, [.int (iI 0), .null, .int (iI 0)])) := hc7
  refine k_dup dX7_init_41 rfl ?_
  refine k_useU (k_runI (c_Jx4a65c_init_da8c8 θ.2.1 κ (l := rl) cRl) w_X7_25 q_79 rfl rfl rfl ⟨(Nat.le_of_ble_eq_true rfl), (Nat.le_of_ble_eq_true rfl)⟩ (Nat.le_of_ble_eq_true rfl) dX7_init_42) ⟨(Nat.le_of_ble_eq_true rfl), (Nat.le_of_ble_eq_true rfl)⟩ (fun Lfrl frl hw => ?_)
  obtain ⟨efrl, hnfrl, cfrl⟩ := hw
  replace efrl := efrl.symm
  subst efrl
  have hrfrl := k_fr.put hnfrl cRl
  replace cti := cti.fr hrfrl rfl
  replace cPl := cPl.fr hrfrl rfl
  replace hTd := hTd.fr hrfrl rfl
  replace hX := hX.fr hrfrl rfl
  replace cRl := cfrl
  have hkfrl := k_new2 hz7 hn7 hnfrl
  refine k_putF 3 [.ref td, .ref tb, .ref pl, .ref rl, .int (iI (bI false))] i_X7 tyX7_ok nmX7 q_142 cti rfl (by decide) rfl (hin rfl) rfl rfl rfl rfl (Nat.le_of_ble_eq_true rfl) rfl dX7_init_45 (fun f8 hf8 hc8 => ?_)
  have hr8 := k_fr.put hf8 cti
  replace cPl := cPl.fr hr8 rfl
  replace cRl := cRl.fr hr8 rfl
  replace hTd := hTd.fr hr8 rfl
  replace hX := hX.fr hr8 rfl
  replace cti : Cl L7 f8 tt (1, .inr (8, [.ref td, .ref tb, .ref pl, .ref rl, .int (iI (bI false))])) := hc8
  refine k_aload_n 0 0 dX7_init_48 rfl rfl ?_
  refine k_iconst dX7_init_49 ?_
  refine k_put 4 [.ref td, .ref tb, .ref pl, .ref rl, .int (iI (bI true))] i_X7 tyX7_ok nmX7 q_143 cti rfl (by decide) rfl rfl (k_nar_b true) (k_fit_b true) (Nat.le_of_ble_eq_true rfl) rfl dX7_init_50 (fun f9 hf9 hc9 => ?_)
  have hr9 := k_fr.put hf9 cti
  replace cPl := cPl.fr hr9 rfl
  replace cRl := cRl.fr hr9 rfl
  replace hTd := hTd.fr hr9 rfl
  replace hX := hX.fr hr9 rfl
  replace cti : Cl L7 f9 tt (1, .inr (8, [.ref td, .ref tb, .ref pl, .ref rl, .int (iI (bI true))])) := hc9
  exact k_vret dX7_init_53 rfl (Nat.le_of_ble_eq_true rfl) (Nat.le_of_ble_eq_true rfl) (⟨rfl, ⟨td, tb, pl, rl, true, cti, hTd, ⟨hX, fun e => Bool.noConfusion e⟩, ⟨(fun _ => 0), (fun _ => 0), (fun _ => 0), ⟨_, κ.2.2.2 4, 0, fun _ => none, cPl, Or.inl ⟨rfl, rfl⟩⟩, fun i hi => absurd hi (Nat.not_lt_zero _), fun i j hi => absurd hi (Nat.not_lt_zero _)⟩, ⟨(fun _ => 0), ⟨_, κ.2.2.2 4, 0, fun _ => none, cRl, Or.inl ⟨rfl, rfl⟩⟩, fun i hi => absurd hi (Nat.not_lt_zero _)⟩⟩, (k_fr.trans (k_fr.trans (k_fr.trans (k_fr.trans (k_fr.trans (k_fr.trans (k_fr.trans (k_fr.trans (k_fr.trans (k_fr.trans (k_fr.mono hr1 (fun _ _ => rfl)) hrt idf (SC_of rfl)) hr2 idf (SC_of rfl)) hr3 idf (fun _ _ => rfl)) hrb idf (SC_of rfl)) hr4 idf (SC_of rfl)) hkfpl idf (fun _ _ => rfl)) hr6 idf (SC_of rfl)) hkfrl idf (fun _ _ => rfl)) hr8 idf (SC_of rfl)) hr9 idf (SC_of rfl))⟩)
