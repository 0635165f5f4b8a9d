theorem btw_all {h : Nat → Int} {q : Pt} (ok : PtOk q) (hb : ∀ t, -50000 ≤ h t ∧ h t ≤ 50000) {k : Nat} {t : Int} (h1 : k + 1 < nW h) (h2 : pT h q k ≤ t) (h3 : t < pT h q (k + 1)) : inI (btw h q (k + 1) t) := by
  have a1 := pH_bd ok hb k
  have a2 := pH_bd ok hb (k + 1)
  have a3 := pT_bd ok (show k < nW h by omega)
  have a4 := pT_bd ok h1
  have a5 := gone_bd (e := t - pT h q k) (d := pT h q (k + 1) - pT h q k) (by omega) (by omega)
  have hd : 0 < 12 * (pT h q (k + 1) - pT h q k) := by omega
  unfold btw
  rw [show k + 1 - 1 = k from rfl]
  generalize gone (t - pT h q k) (pT h q (k + 1) - pT h q k) = g at a5 ⊢
  generalize pT h q (k + 1) - pT h q k = d at a5 hd ⊢
  have b1 := mul_bd (a := pH h q (k + 1) - pH h q k) (b := g) (A := 306000) (B := 14 * d) (by omega) (by omega) a5.1 a5.2
  have b2 : ((pH h q (k + 1) - pH h q k) * g).tdiv (12 * d) ≤ 357000 ∧ -357000 ≤ ((pH h q (k + 1) - pH h q k) * g).tdiv (12 * d) := by
    generalize (pH h q (k + 1) - pH h q k) * g = z at b1 ⊢
    rcases Int.le_total 0 z with c | c
    · rw [Int.tdiv_eq_ediv_of_nonneg c]
      have c1 := Int.ediv_le_ediv hd (show z ≤ 357000 * (12 * d) by omega)
      rw [Int.mul_ediv_cancel _ (by omega)] at c1
      have c2 := Int.ediv_nonneg c (show 0 ≤ 12 * d by omega)
      omega
    · have e : z.tdiv (12 * d) = -((-z) / (12 * d)) := by
        rw [← Int.tdiv_eq_ediv_of_nonneg (by omega), Int.neg_tdiv, Int.neg_neg]
      rw [e]
      have c1 := Int.ediv_le_ediv hd (show -z ≤ 357000 * (12 * d) by omega)
      rw [Int.mul_ediv_cancel _ (by omega)] at c1
      have c2 := Int.ediv_nonneg (show 0 ≤ -z by omega) (show 0 ≤ 12 * d by omega)
      omega
  exact inI_mk (by omega) (by omega)
theorem numS_bd {σ : Sg} (hs : SgOk σ) (what : Int) : 0 ≤ numS σ what ∧ numS σ what ≤ 4320 := by
  have h1 := nW_le (hT σ.1)
  obtain ⟨⟨-, h2, -⟩, ⟨h3, -⟩, h4, -⟩ := hs
  unfold numS
  repeat' split
  all_goals omega
set_option maxHeartbeats 4000000 in
set_option maxRecDepth 100000 in
theorem c_X7_init (la : Launch) (κ : Kx) {L : List Nat} {f : Nat → wE} {tt : Nat} (cti : Cl L f tt (1, .inr (8, [.null, .null, .null, .null, .int (iI (bI false))])))   : k_M la κ yX7_init cX7_init 1 none 6 9 17296 [.ref tt] L f (k_ru (fun L' f' => CS κ L' f' tt sg0 ∧ k_fr SC L f L' f')) := by
  refine k_head RX7 [(0, .ref tt)] rfl (by decide) (Nat.le_of_ble_eq_true rfl) rfl (fun θ hθ hin => ?_)
  refine k_aload_n 0 0 dX7_init_0 rfl rfl ?_
  refine k_objInit q_41 q_42 q_43 (Nat.le_of_ble_eq_true rfl) (Nat.le_of_ble_eq_true rfl) dX7_init_1 ?_
  refine k_aload_n 0 0 dX7_init_4 rfl rfl ?_
  refine k_new (ci := 6) 2 [.null, .int (iI 0)] i_X5 tyX5_ok q_44 q_45 q_15 rfl dv_X5 (Nat.le_of_ble_eq_true rfl) (Nat.le_of_ble_eq_true rfl) dX7_init_5 (fun td L1 f1 hz1 hn1 hc1 => ?_)
  have hr1 := k_fr.new hz1
  replace cti := cti.fr hr1 rfl
  have cTd : Cl L1 f1 td (2, .inr (6, [.null, .int (iI 0)])) := hc1
  refine k_dup dX7_init_8 rfl ?_
  refine k_useU (k_runIN (c_X5_init θ.2.1 κ (td := td) cTd) w_X7_9 q_47 rfl rfl rfl ⟨(Nat.le_of_ble_eq_true rfl), (Nat.le_of_ble_eq_true rfl)⟩ (Nat.le_of_ble_eq_true rfl) dX7_init_9) ⟨(Nat.le_of_ble_eq_true rfl), (Nat.le_of_ble_eq_true rfl)⟩ (fun Lt ft hw => ?_)
  obtain ⟨hTd9, hrt⟩ := hw
  have hTd := hTd9 (fun _ => 0) (fun _ => 0) (fun _ => 0)
  replace cti := cti.fr hrt rfl
  refine k_putF 0 [.ref td, .null, .null, .null, .int (iI (bI false))] i_X7 tyX7_ok nmX7 q_112 cti rfl (by decide) rfl (hin rfl) rfl rfl rfl rfl (Nat.le_of_ble_eq_true rfl) rfl dX7_init_12 (fun f2 hf2 hc2 => ?_)
  have hr2 := k_fr.put hf2 cti
  replace hTd := hTd.fr hr2 rfl
  replace cti : Cl Lt f2 tt (1, .inr (8, [.ref td, .null, .null, .null, .int (iI (bI false))])) := hc2
  refine k_aload_n 0 0 dX7_init_15 rfl rfl ?_
  refine k_new (ci := 4) 3 [.null, .null, .null, .null, .int (iI 0)] i_X3 tyX3_ok q_84 q_85 q_19 rfl dv_X3 (Nat.le_of_ble_eq_true rfl) (Nat.le_of_ble_eq_true rfl) dX7_init_16 (fun tb L3 f3 hz3 hn3 hc3 => ?_)
  have hr3 := k_fr.new hz3
  replace cti := cti.fr hr3 rfl
  replace hTd := hTd.fr hr3 rfl
  have cTb : Cl L3 f3 tb (3, .inr (4, [.null, .null, .null, .null, .int (iI 0)])) := hc3
  refine k_dup dX7_init_19 rfl ?_
  refine k_useU (k_runIN (c_X3_init θ.2.1 κ (tb := tb) cTb) w_X7_18 q_87 rfl rfl rfl ⟨(Nat.le_of_ble_eq_true rfl), (Nat.le_of_ble_eq_true rfl)⟩ (Nat.le_of_ble_eq_true rfl) dX7_init_20) ⟨(Nat.le_of_ble_eq_true rfl), (Nat.le_of_ble_eq_true rfl)⟩ (fun Lb fb hw => ?_)
  obtain ⟨hX, hrb⟩ := hw
  replace cti := cti.fr hrb rfl
  replace hTd := hTd.fr hrb rfl
  refine k_putF 1 [.ref td, .ref tb, .null, .null, .int (iI (bI false))] i_X7 tyX7_ok nmX7 q_113 cti rfl (by decide) rfl (hin rfl) rfl rfl rfl rfl (Nat.le_of_ble_eq_true rfl) rfl dX7_init_23 (fun f4 hf4 hc4 => ?_)
  have hr4 := k_fr.put hf4 cti
  replace hTd := hTd.fr hr4 rfl
  replace hX := hX.fr hr4 rfl
  replace cti : Cl Lb f4 tt (1, .inr (8, [.ref td, .ref tb, .null, .null, .int (iI (bI false))])) := hc4
  refine k_aload_n 0 0 dX7_init_26 rfl rfl ?_
  refine k_new (ci := 0) 4 [.int (iI 0), .null, .int (iI 0)] i_Jx4a65c tyJx4a65c_ok q_110 q_51 q_18 rfl dv_Jx4a65c (Nat.le_of_ble_eq_true rfl) (Nat.le_of_ble_eq_true rfl) dX7_init_27 (fun pl L5 f5 hz5 hn5 hc5 => ?_)
  have hr5 := k_fr.new hz5
  replace cti := cti.fr hr5 rfl
  replace hTd := hTd.fr hr5 rfl
  replace hX := hX.fr hr5 rfl
  have cPl : Cl L5 f5 pl (4, .inr (0, [.int (iI 0), .null, .int (iI 0)])) := hc5
  refine k_dup dX7_init_30 rfl ?_
  refine k_useU (k_runI (c_Jx4a65c_init_da8c8 θ.2.1 κ (l := pl) cPl) w_X7_25 q_53 rfl rfl rfl ⟨(Nat.le_of_ble_eq_true rfl), (Nat.le_of_ble_eq_true rfl)⟩ (Nat.le_of_ble_eq_true rfl) dX7_init_31) ⟨(Nat.le_of_ble_eq_true rfl), (Nat.le_of_ble_eq_true rfl)⟩ (fun Lfpl fpl hw => ?_)
  obtain ⟨efpl, hnfpl, cfpl⟩ := hw
  replace efpl := efpl.symm
  subst efpl
  have hrfpl := k_fr.put hnfpl cPl
  replace cti := cti.fr hrfpl rfl
  replace hTd := hTd.fr hrfpl rfl
  replace hX := hX.fr hrfpl rfl
  replace cPl := cfpl
  have hkfpl := k_new2 hz5 hn5 hnfpl
  refine k_putF 2 [.ref td, .ref tb, .ref pl, .null, .int (iI (bI false))] i_X7 tyX7_ok nmX7 q_114 cti rfl (by decide) rfl (hin rfl) rfl rfl rfl rfl (Nat.le_of_ble_eq_true rfl) rfl dX7_init_34 (fun f6 hf6 hc6 => ?_)
  have hr6 := k_fr.put hf6 cti
  replace cPl := cPl.fr hr6 rfl
  replace hTd := hTd.fr hr6 rfl
  replace hX := hX.fr hr6 rfl
  replace cti : Cl L5 f6 tt (1, .inr (8, [.ref td, .ref tb, .ref pl, .null, .int (iI (bI false))])) := hc6
  refine k_aload_n 0 0 dX7_init_37 rfl rfl ?_
  refine k_new (ci := 0) 5 [.int (iI 0), .null, .int (iI 0)] i_Jx4a65c tyJx4a65c_ok q_110 q_51 q_18 rfl dv_Jx4a65c (Nat.le_of_ble_eq_true rfl) (Nat.le_of_ble_eq_true rfl) dX7_init_38 (fun rl L7 f7 hz7 hn7 hc7 => ?_)
  have hr7 := k_fr.new hz7
  replace cti := cti.fr hr7 rfl
  replace cPl := cPl.fr hr7 rfl
  replace hTd := hTd.fr hr7 rfl
  replace hX := hX.fr hr7 rfl
  have cRl : Cl L7 f7 rl (5, .inr (0, [.int (iI 0), .null, .int (iI 0)])) := hc7
  refine k_dup dX7_init_41 rfl ?_
  refine k_useU (k_runI (c_Jx4a65c_init_da8c8 θ.2.1 κ (l := rl) cRl) w_X7_25 q_53 rfl rfl rfl ⟨(Nat.le_of_ble_eq_true rfl), (Nat.le_of_ble_eq_true rfl)⟩ (Nat.le_of_ble_eq_true rfl) dX7_init_42) ⟨(Nat.le_of_ble_eq_true rfl), (Nat.le_of_ble_eq_true rfl)⟩ (fun Lfrl frl hw => ?_)
  obtain ⟨efrl, hnfrl, cfrl⟩ := hw
  replace efrl := efrl.symm
  subst efrl
  have hrfrl := k_fr.put hnfrl cRl
  replace cti := cti.fr hrfrl rfl
  replace cPl := cPl.fr hrfrl rfl
  replace hTd := hTd.fr hrfrl rfl
  replace hX := hX.fr hrfrl rfl
  replace cRl := cfrl
  have hkfrl := k_new2 hz7 hn7 hnfrl
  refine k_putF 3 [.ref td, .ref tb, .ref pl, .ref rl, .int (iI (bI false))] i_X7 tyX7_ok nmX7 q_115 cti rfl (by decide) rfl (hin rfl) rfl rfl rfl rfl (Nat.le_of_ble_eq_true rfl) rfl dX7_init_45 (fun f8 hf8 hc8 => ?_)
  have hr8 := k_fr.put hf8 cti
  replace cPl := cPl.fr hr8 rfl
  replace cRl := cRl.fr hr8 rfl
  replace hTd := hTd.fr hr8 rfl
  replace hX := hX.fr hr8 rfl
  replace cti : Cl L7 f8 tt (1, .inr (8, [.ref td, .ref tb, .ref pl, .ref rl, .int (iI (bI false))])) := hc8
  refine k_aload_n 0 0 dX7_init_48 rfl rfl ?_
  refine k_iconst dX7_init_49 ?_
  refine k_put 4 [.ref td, .ref tb, .ref pl, .ref rl, .int (iI (bI true))] i_X7 tyX7_ok nmX7 q_116 cti rfl (by decide) rfl rfl (k_nar_b true) (k_fit_b true) (Nat.le_of_ble_eq_true rfl) rfl dX7_init_50 (fun f9 hf9 hc9 => ?_)
  have hr9 := k_fr.put hf9 cti
  replace cPl := cPl.fr hr9 rfl
  replace cRl := cRl.fr hr9 rfl
  replace hTd := hTd.fr hr9 rfl
  replace hX := hX.fr hr9 rfl
  replace cti : Cl L7 f9 tt (1, .inr (8, [.ref td, .ref tb, .ref pl, .ref rl, .int (iI (bI true))])) := hc9
  exact k_vret dX7_init_53 rfl (Nat.le_of_ble_eq_true rfl) (Nat.le_of_ble_eq_true rfl) (⟨rfl, ⟨td, tb, pl, rl, true, cti, hTd, ⟨hX, fun e => Bool.noConfusion e⟩, ⟨(fun _ => 0), (fun _ => 0), (fun _ => 0), ⟨_, κ.2.2.2 4, 0, fun _ => none, cPl, Or.inl ⟨rfl, rfl⟩⟩, fun i hi => absurd hi (Nat.not_lt_zero _), fun i j hi => absurd hi (Nat.not_lt_zero _)⟩, ⟨(fun _ => 0), ⟨_, κ.2.2.2 4, 0, fun _ => none, cRl, Or.inl ⟨rfl, rfl⟩⟩, fun i hi => absurd hi (Nat.not_lt_zero _)⟩⟩, (k_fr.trans (k_fr.trans (k_fr.trans (k_fr.trans (k_fr.trans (k_fr.trans (k_fr.trans (k_fr.trans (k_fr.trans (k_fr.trans (k_fr.mono hr1 (fun _ _ => rfl)) hrt idf (SC_of rfl)) hr2 idf (SC_of rfl)) hr3 idf (fun _ _ => rfl)) hrb idf (SC_of rfl)) hr4 idf (SC_of rfl)) hkfpl idf (fun _ _ => rfl)) hr6 idf (SC_of rfl)) hkfrl idf (fun _ _ => rfl)) hr8 idf (SC_of rfl)) hr9 idf (SC_of rfl))⟩)
