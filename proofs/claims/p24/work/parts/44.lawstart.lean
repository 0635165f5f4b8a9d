/-! ===== the law, from its entry to its loop ===== -/
set_option maxHeartbeats 4000000 in
set_option maxRecDepth 100000 in
theorem law_18 {θ : Kt} {κ : Kx} {Q : State → Prop} {tt : Nat} {σ : Sg} (hts : θ.2.1.stackTraces = false) (hs : SgOk σ) (hend : LEnd θ κ Q) {L : List Nat} {f : Nat → wE} {k n : Nat} {mn : Int} (hp0 : σ.2.1 = 0) (hk : k ≤ 60) (hn : n ≤ 20000) (hmn : 0 ≤ mn ∧ mn ≤ 3) (hC : CS κ L f tt σ) : k_G θ κ cL_law 16 (some .boolean) RL room_1 Q L f k n 18 [(1, .ref tt), (0, .ref (κ.2.2.2 2))] [.int (iI mn)] := by
  refine k_istore_n 2 [(2, .int (iI mn)), (1, .ref tt), (0, .ref (κ.2.2.2 2))] dL_law_18 rfl (by decide) rfl ?_
  refine k_iload_n 0 2 dL_law_19 rfl rfl ?_
  refine k_if_ge 25 dL_law_20 (by decide) (inI_mk (by omega) (by omega)) (fun h20 => ?_) (fun h20 => ?_)
  · refine k_aload_n 1 1 dL_law_25 rfl rfl ?_
    refine a_addPort hts hs hC hp0 (by omega) (by omega) (Nat.le_of_ble_eq_true rfl) dL_law_26 (fun L33 f33 σ2 hC hs2 hp2 => ?_)
    refine k_istore_n 3 [(3, .int (iI 0)), (2, .int (iI mn)), (1, .ref tt), (0, .ref (κ.2.2.2 2))] dL_law_29 rfl (by decide) rfl ?_
    refine k_aload_n 3 0 dL_law_30 rfl rfl ?_
    refine k_iconst dL_law_31 ?_
    refine k_useP (k_runS (c_L_cell θ.2.1 κ (z := 5) ⟨by omega, by omega⟩) w_L_9 q_533 rfl rfl ⟨(Nat.le_of_ble_eq_true rfl), (Nat.le_of_ble_eq_true rfl)⟩ (Nat.le_of_ble_eq_true rfl) dL_law_32) ⟨(by show _ ≤ 600086; omega), (by show _ ≤ 7301442; omega)⟩ (fun z34 hz34 => ?_)
    refine k_sipush dL_law_35 (by decide) ?_
    refine k_useP (k_runS (c_L_below θ.2.1 κ (x := z34) (m := 601) ⟨by omega, by omega⟩) w_L_15 q_529 rfl rfl ⟨(Nat.le_of_ble_eq_true rfl), (Nat.le_of_ble_eq_true rfl)⟩ (Nat.le_of_ble_eq_true rfl) dL_law_38) ⟨(by show _ ≤ 600086; omega), (by show _ ≤ 7301442; omega)⟩ (fun z35 hz35 => ?_)
    refine k_sipush dL_law_41 (by decide) ?_
    refine k_isub dL_law_44 ?_
    obtain ⟨sh, hsh⟩ : ∃ sh : Int, sh = (z35 - 300) := ⟨_, rfl⟩
    refine k_topi sh hsh.symm ?_
    refine k_istore [(4, .int (iI sh)), (3, .int (iI 0)), (2, .int (iI mn)), (1, .ref tt), (0, .ref (κ.2.2.2 2))] dL_law_45 (by decide) rfl ?_
    refine k_aload_n 3 1 dL_law_47 rfl rfl ?_
    refine k_iload_n 1 3 dL_law_48 rfl rfl ?_
    refine k_iconst dL_law_49 ?_
    refine k_iload 0 dL_law_50 rfl ?_
    refine k_iconst dL_law_52 ?_
    refine k_aload_n 4 0 dL_law_53 rfl rfl ?_
    refine k_bipush dL_law_54 (by decide) ?_
    refine k_useP (k_runS (c_L_cell θ.2.1 κ (z := 6) ⟨by omega, by omega⟩) w_L_9 q_533 rfl rfl ⟨(Nat.le_of_ble_eq_true rfl), (Nat.le_of_ble_eq_true rfl)⟩ (Nat.le_of_ble_eq_true rfl) dL_law_56) ⟨(by show _ ≤ 600086; omega), (by show _ ≤ 7301442; omega)⟩ (fun z36 hz36 => ?_)
    refine k_sipush dL_law_59 (by decide) ?_
    refine k_useP (k_runS (c_L_below θ.2.1 κ (x := z36) (m := 300) ⟨by omega, by omega⟩) w_L_15 q_529 rfl rfl ⟨(Nat.le_of_ble_eq_true rfl), (Nat.le_of_ble_eq_true rfl)⟩ (Nat.le_of_ble_eq_true rfl) dL_law_62) ⟨(by show _ ≤ 600086; omega), (by show _ ≤ 7301442; omega)⟩ (fun z37 hz37 => ?_)
    refine k_iadd dL_law_65 ?_
    refine a_setPort (b := true) hts hs2 hC hp2 ⟨by omega, by omega⟩ ⟨by omega, by omega⟩ (by omega) (by omega) (Nat.le_of_ble_eq_true rfl) dL_law_66 (fun L38 f38 σ3 v3 hC hs3 hp3 => ?_)
    refine k_pop dL_law_69 rfl ?_
    refine k_aload_n 3 1 dL_law_70 rfl rfl ?_
    refine k_iload_n 1 3 dL_law_71 rfl rfl ?_
    refine k_iconst dL_law_72 ?_
    refine k_iload 0 dL_law_73 rfl ?_
    refine k_iload 0 dL_law_75 rfl ?_
    refine k_sipush dL_law_77 (by decide) ?_
    have J98 : ∀ ls9 : Int, 0 ≤ ls9 → -300 ≤ sh + ls9 ∧ sh + ls9 ≤ 300 → k_G θ κ cL_law 16 (some .boolean) RL room_1 Q L38 f38 ((k + 4) + 1) ((n + 67) + 6) 98 [(4, .int (iI sh)), (3, .int (iI 0)), (2, .int (iI mn)), (1, .ref tt), (0, .ref (κ.2.2.2 2))] [.int (iI ls9), .int (iI sh), .int (iI 0), .int (iI 0), .ref tt] := by
      intro ls9 hl1 hl2
      refine k_iadd dL_law_98 ?_
      refine k_aload_n 4 0 dL_law_99 rfl rfl ?_
      refine k_bipush dL_law_100 (by decide) ?_
      refine k_useP (k_runS (c_L_cell θ.2.1 κ (z := 8) ⟨by omega, by omega⟩) w_L_9 q_533 rfl rfl ⟨(Nat.le_of_ble_eq_true rfl), (Nat.le_of_ble_eq_true rfl)⟩ (Nat.le_of_ble_eq_true rfl) dL_law_102) ⟨(by show _ ≤ 600086; omega), (by show _ ≤ 7301442; omega)⟩ (fun z39 hz39 => ?_)
      refine k_sipush dL_law_105 (by decide) ?_
      refine k_useP (k_runS (c_L_below θ.2.1 κ (x := z39) (m := 301) ⟨by omega, by omega⟩) w_L_15 q_529 rfl rfl ⟨(Nat.le_of_ble_eq_true rfl), (Nat.le_of_ble_eq_true rfl)⟩ (Nat.le_of_ble_eq_true rfl) dL_law_108) ⟨(by show _ ≤ 600086; omega), (by show _ ≤ 7301442; omega)⟩ (fun z40 hz40 => ?_)
      refine a_setPort (b := false) hts hs3 hC hp3 ⟨by omega, by omega⟩ ⟨by omega, by omega⟩ (by omega) (by omega) (Nat.le_of_ble_eq_true rfl) dL_law_111 (fun L41 f41 σ4 v4 hC hs4 hp4 => ?_)
      refine k_pop dL_law_114 rfl ?_
      refine k_aload_n 3 1 dL_law_115 rfl rfl ?_
      refine k_iload_n 1 3 dL_law_116 rfl rfl ?_
      refine k_aload_n 4 0 dL_law_117 rfl rfl ?_
      refine k_bipush dL_law_118 (by decide) ?_
      refine k_useP (k_runS (c_L_cell θ.2.1 κ (z := 9) ⟨by omega, by omega⟩) w_L_9 q_533 rfl rfl ⟨(Nat.le_of_ble_eq_true rfl), (Nat.le_of_ble_eq_true rfl)⟩ (Nat.le_of_ble_eq_true rfl) dL_law_120) ⟨(by show _ ≤ 600086; omega), (by show _ ≤ 7301442; omega)⟩ (fun z42 hz42 => ?_)
      refine k_sipush dL_law_123 (by decide) ?_
      refine k_useP (k_runS (c_L_below θ.2.1 κ (x := z42) (m := 6001) ⟨by omega, by omega⟩) w_L_15 q_529 rfl rfl ⟨(Nat.le_of_ble_eq_true rfl), (Nat.le_of_ble_eq_true rfl)⟩ (Nat.le_of_ble_eq_true rfl) dL_law_126) ⟨(by show _ ≤ 600086; omega), (by show _ ≤ 7301442; omega)⟩ (fun z43 hz43 => ?_)
      refine k_sipush dL_law_129 (by decide) ?_
      refine k_isub dL_law_132 ?_
      refine a_setAdd hts hs4 hC hp4 ⟨by omega, by omega⟩ (by omega) (by omega) (Nat.le_of_ble_eq_true rfl) dL_law_133 (fun L44 f44 σ5 v5 hC hs5 hp5 => ?_)
      refine k_pop dL_law_136 rfl ?_
      refine k_aload_n 3 1 dL_law_137 rfl rfl ?_
      refine k_iconst dL_law_138 ?_
      refine a_count hts hs5 hC (by omega) (by omega) (Nat.le_of_ble_eq_true rfl) dL_law_139 (fun L45 f45 hC => ?_)
      refine k_istore [(5, .int (iI (nW (hT σ5.1) : Int))), (4, .int (iI sh)), (3, .int (iI 0)), (2, .int (iI mn)), (1, .ref tt), (0, .ref (κ.2.2.2 2))] dL_law_142 (by decide) rfl ?_
      refine k_iconst dL_law_144 ?_
      refine k_istore [(6, .int (iI 0)), (5, .int (iI (nW (hT σ5.1) : Int))), (4, .int (iI sh)), (3, .int (iI 0)), (2, .int (iI mn)), (1, .ref tt), (0, .ref (κ.2.2.2 2))] dL_law_145 (by decide) rfl ?_
      refine k_perm [0, 1, 3, 5] [(6, .int (iI 0)), (5, .int (iI (nW (hT σ5.1) : Int))), (3, .int (iI 0)), (1, .ref tt)] rfl ?_
      exact law_147 hts hs5 hend (by omega) (nW (hT σ5.1)) 0 _ _ _ _ (by omega) (Nat.zero_le _) (by omega) (by omega) hC
    refine k_icmp_ge 97 dL_law_80 (by decide) (inI_mk (by omega) (by omega)) (inI_mk (by omega) (by omega)) (fun h80 => ?_) (fun h80 => ?_)
    · refine k_iconst dL_law_97 ?_
      exact J98 _ (by omega) (by omega)
    · refine k_aload_n 4 0 dL_law_83 rfl rfl ?_
      refine k_bipush dL_law_84 (by decide) ?_
      refine k_useP (k_runS (c_L_cell θ.2.1 κ (z := 7) ⟨by omega, by omega⟩) w_L_9 q_533 rfl rfl ⟨(Nat.le_of_ble_eq_true rfl), (Nat.le_of_ble_eq_true rfl)⟩ (Nat.le_of_ble_eq_true rfl) dL_law_86) ⟨(by show _ ≤ 600086; omega), (by show _ ≤ 7301442; omega)⟩ (fun z46 hz46 => ?_)
      refine k_bipush dL_law_89 (by decide) ?_
      refine k_useP (k_runS (c_L_below θ.2.1 κ (x := z46) (m := 9) ⟨by omega, by omega⟩) w_L_15 q_529 rfl rfl ⟨(Nat.le_of_ble_eq_true rfl), (Nat.le_of_ble_eq_true rfl)⟩ (Nat.le_of_ble_eq_true rfl) dL_law_91) ⟨(by show _ ≤ 600086; omega), (by show _ ≤ 7301442; omega)⟩ (fun z47 hz47 => ?_)
      refine k_goto 98 dL_law_94 (by decide) ?_
      exact J98 _ (by omega) (by omega)
  · omega
set_option maxHeartbeats 4000000 in
set_option maxRecDepth 100000 in
theorem law_from0 {θ : Kt} {κ : Kx} {Q : State → Prop} (hts : θ.2.1.stackTraces = false) (hend : LEnd θ κ Q) : k_G θ κ cL_law 16 (some .boolean) RL room_1 Q [] (fun _ => (0, .inr (0, []))) 0 0 0 [(0, .ref (κ.2.2.2 2))] [] := by
  refine k_new (ci := 8) 1 [.null, .null, .null, .null, .int (iI (bI false))] i_X7 tyX7_ok q_36 q_37 q_14 rfl dv_X7 (Nat.le_of_ble_eq_true rfl) (Nat.le_of_ble_eq_true rfl) dL_law_0 (fun tt L1 f1 hz1 hn1 ct => ?_)
  refine k_dup dL_law_3 rfl ?_
  refine k_useU (k_runI (c_X7_init θ.2.1 κ ct) w_L_41 q_39 rfl rfl rfl ⟨(Nat.le_of_ble_eq_true rfl), (Nat.le_of_ble_eq_true rfl)⟩ (Nat.le_of_ble_eq_true rfl) dL_law_4) ⟨(Nat.le_of_ble_eq_true rfl), (Nat.le_of_ble_eq_true rfl)⟩ (fun L2 f2 hw => ?_)
  obtain ⟨hC, hr2⟩ := hw
  refine k_astore_n 1 [(1, .ref tt), (0, .ref (κ.2.2.2 2))] dL_law_7 rfl (by decide) rfl ?_
  refine k_aload_n 0 1 dL_law_8 rfl rfl ?_
  refine k_aload_n 1 0 dL_law_9 rfl rfl ?_
  refine k_iconst dL_law_10 ?_
  refine k_bipush dL_law_11 (by decide) ?_
  refine k_newai 31 9 q_108 rfl (by omega) (Nat.le_of_ble_eq_true rfl) (Nat.le_of_ble_eq_true rfl) dL_law_13 (fun ww L3 f3 hz3 hn3 cw => ?_)
  replace hC := hC.fr (k_fr.new hz3) rfl
  refine k_useV (k_runS (c_L_waves θ.2.1 κ (A := fun _ => 0) hts sg0_ok rfl rfl hC cw) w_L_42 q_537 rfl rfl ⟨(Nat.le_of_ble_eq_true rfl), (Nat.le_of_ble_eq_true rfl)⟩ (Nat.le_of_ble_eq_true rfl) dL_law_15) ⟨(Nat.le_of_ble_eq_true rfl), (Nat.le_of_ble_eq_true rfl)⟩ (fun w L4 f4 hw => ?_)
  obtain ⟨mn, σ, rfl, hmn, hC, hs, hp0⟩ := hw
  exact law_18 hts hs hend hp0 (Nat.le_of_ble_eq_true rfl) (Nat.le_of_ble_eq_true rfl) hmn hC
