/-! ===== the law, from its entry ===== -/
set_option maxHeartbeats 4000000 in
set_option maxRecDepth 100000 in
theorem law_from0 {θ : Kt} {κ : Kx} {Q : State → Prop} {b N : Nat} {xs : Nat → Int32} (hE : LwE θ κ b N xs) (hend : ∀ (L : List Nat) (f : Nat → wE) (k n : Nat) (lv : List (Nat × Value)), k ≤ 601024 → n ≤ 7293034 → k_G θ κ cL_law 9 (some .boolean) RL room_1 Q L f k n 1469 lv []) : k_G θ κ cL_law 9 (some .boolean) RL room_1 Q [] (fun _ => (0, .inr (0, []))) 0 0 0 [(0, .ref b)] [] := by
  have hN := hE.2.2.2.2.2
  refine k_new (ci := 8) 1 [.null, .null, .null, .null, .int (iI (bI false))] i_X7 tyX7_ok q_62 q_63 q_38 rfl dv_X7 (Nat.le_of_ble_eq_true rfl) (Nat.le_of_ble_eq_true rfl) dL_law_0 (fun tt L1 f1 hz1 hn1 ct => ?_)
  refine k_dup dL_law_3 rfl ?_
  refine k_useU (k_runI (c_X7_init θ.2.1 κ ct) w_L_78 q_65 rfl rfl rfl ⟨(Nat.le_of_ble_eq_true rfl), (Nat.le_of_ble_eq_true rfl)⟩ (Nat.le_of_ble_eq_true rfl) dL_law_4) ⟨(Nat.le_of_ble_eq_true rfl), (Nat.le_of_ble_eq_true rfl)⟩ (fun L2 f2 hw => ?_)
  obtain ⟨hC, hr2⟩ := hw
  refine k_astore_n 1 [(1, .ref tt), (0, .ref b)] dL_law_7 rfl (by decide) rfl ?_
  refine k_new (ci := 9) 21 [.int (iI 0), .int (iI 0), .null, .null, .null, .int (iI 0), .int (iI 0), .null, .int (iI 0), .null, .null, .int (iI (bI false)), .null, .int (iI 0), .null] i_X8 tyX8_ok q_777 q_778 q_44 rfl dv_X8 (Nat.le_of_ble_eq_true rfl) (Nat.le_of_ble_eq_true rfl) dL_law_8 (fun mm L3 f3 hz3 hn3 cm => ?_)
  replace hC := hC.fr (k_fr.new hz3) rfl
  refine k_dup dL_law_11 rfl ?_
  refine k_useU (k_runI (c_X8_init θ.2.1 κ cm) w_L_81 q_780 rfl rfl rfl ⟨(Nat.le_of_ble_eq_true rfl), (Nat.le_of_ble_eq_true rfl)⟩ (Nat.le_of_ble_eq_true rfl) dL_law_12) ⟨(Nat.le_of_ble_eq_true rfl), (Nat.le_of_ble_eq_true rfl)⟩ (fun L4 f4 hw => ?_)
  obtain ⟨hM, hr4⟩ := hw
  replace hC := hC.fr hr4 rfl
  refine k_astore_n 2 [(2, .ref mm), (1, .ref tt), (0, .ref b)] dL_law_15 rfl (by decide) rfl ?_
  refine k_iconst dL_law_16 ?_
  refine k_newal 31 1 q_829 rfl (by omega) (Nat.le_of_ble_eq_true rfl) (Nat.le_of_ble_eq_true rfl) dL_law_17 (fun ou L5 f5 hz5 hn5 co => ?_)
  replace hC := hC.fr (k_fr.new hz5) rfl
  replace hM := hM.fr (k_fr.new hz5) rfl
  refine k_astore_n 3 [(3, .ref ou), (2, .ref mm), (1, .ref tt), (0, .ref b)] dL_law_19 rfl (by decide) rfl ?_
  refine k_iconst dL_law_20 ?_
  refine k_istore [(4, .int (iI 0)), (3, .ref ou), (2, .ref mm), (1, .ref tt), (0, .ref b)] dL_law_21 (by decide) rfl ?_
  exact law_loop hE hend 512 0 L5 f5 _ _ sg0 0 _ (by omega) (by omega) (Nat.le_of_ble_eq_true rfl) (Nat.le_of_ble_eq_true rfl) sg0_ok hC hM ⟨_, co, rfl⟩
