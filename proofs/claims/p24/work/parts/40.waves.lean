/-! ===== the law: its waves ===== -/
set_option maxHeartbeats 4000000 in
set_option maxRecDepth 100000 in
/-- the loop of waves: at most j rounds more -/
theorem wv_loop {θ : Kt} {κ : Kx} {tt ww : Nat} {mn : Int} (hts : θ.2.1.stackTraces = false) (hmn : 0 ≤ mn ∧ mn ≤ 3) : ∀ (j i : Nat) (L : List Nat) (f : Nat → wE) (k n : Nat) (σ : Sg) (A : Nat → Int), mn ≤ (i : Int) + (j : Int) → (i : Int) ≤ mn → k ≤ 2 * i → n ≤ 63 * i → SgOk σ → σ.1.2.1 = i → σ.2.1 = 0 → CS κ L f tt σ → Cl L f ww (31, .inl (κ.2.2.1 0, 9, .inl (fun u9 => iI (A u9)))) → k_G θ κ cL_waves 8 (some .int) RL (k_rm 9 6 189) (k_MQ θ κ (k_rn (fun w L' f' => ∃ (z : Int) (σ' : Sg), w = .int (iI z) ∧ (0 ≤ z ∧ z ≤ 3) ∧ CS κ L' f' tt σ' ∧ SgOk σ' ∧ σ'.2.1 = 0)) 6 189) L f k n 14 [(5, .int (iI (i : Int))), (4, .int (iI mn)), (3, .ref ww), (2, .int (iI 0)), (1, .ref (κ.2.2.2 2)), (0, .ref tt)] [] := by
  intro j
  induction j with
  | zero =>
    intro i L f k n σ A h1 h2 hk hn hs h0 h00 hC cw
    refine k_iload 0 dL_waves_14 rfl ?_
    refine k_iload 1 dL_waves_16 rfl ?_
    refine k_icmp_ge 202 dL_waves_18 (by decide) (inI_mk (by omega) (by omega)) (inI_mk (by omega) (by omega)) (fun h18 => ?_) (fun h18 => ?_)
    · refine k_iload 1 dL_waves_202 rfl ?_
      exact k_iret dL_waves_204 rfl (by omega) (by omega) ⟨_, rfl, mn, σ, rfl, hmn, hC, hs, h00⟩
    · omega
  | succ j ih =>
    intro i L f k n σ A h1 h2 hk hn hs h0 h00 hC cw
    refine k_iload 0 dL_waves_14 rfl ?_
    refine k_iload 1 dL_waves_16 rfl ?_
    refine k_icmp_ge 202 dL_waves_18 (by decide) (inI_mk (by omega) (by omega)) (inI_mk (by omega) (by omega)) (fun h18 => ?_) (fun h18 => ?_)
    · refine k_iload 1 dL_waves_202 rfl ?_
      exact k_iret dL_waves_204 rfl (by omega) (by omega) ⟨_, rfl, mn, σ, rfl, hmn, hC, hs, h00⟩
    · refine k_aload_n 4 1 dL_waves_21 rfl rfl ?_
      refine k_iload_n 3 2 dL_waves_22 rfl rfl ?_
      refine k_iconst dL_waves_23 ?_
      refine k_iadd dL_waves_24 ?_
      refine k_iload 0 dL_waves_25 rfl ?_
      refine k_iadd dL_waves_27 ?_
      refine k_useP (k_runS (c_L_cell θ.2.1 κ (z := ((0 + 1) + (i : Int))) ⟨by omega, by omega⟩) w_L_9 q_533 rfl rfl ⟨(Nat.le_of_ble_eq_true rfl), (Nat.le_of_ble_eq_true rfl)⟩ (Nat.le_of_ble_eq_true rfl) dL_waves_28) ⟨(by show _ ≤ 6; omega), (by show _ ≤ 189; omega)⟩ (fun z1 hz1 => ?_)
      refine k_istore [(6, .int (iI z1)), (5, .int (iI (i : Int))), (4, .int (iI mn)), (3, .ref ww), (2, .int (iI 0)), (1, .ref (κ.2.2.2 2)), (0, .ref tt)] dL_waves_31 (by decide) rfl ?_
      refine k_iload 0 dL_waves_33 rfl ?_
      refine k_iconst dL_waves_35 ?_
      refine k_useP (k_runS (c_L_below θ.2.1 κ (x := z1) (m := 5) ⟨by omega, by omega⟩) w_L_15 q_529 rfl rfl ⟨(Nat.le_of_ble_eq_true rfl), (Nat.le_of_ble_eq_true rfl)⟩ (Nat.le_of_ble_eq_true rfl) dL_waves_36) ⟨(by show _ ≤ 6; omega), (by show _ ≤ 189; omega)⟩ (fun z2 hz2 => ?_)
      have J99 : ∀ pe9 : Int, 60 ≤ pe9 → pe9 ≤ 20000 → k_G θ κ cL_waves 8 (some .int) RL (k_rm 9 6 189) (k_MQ θ κ (k_rn (fun w L' f' => ∃ (z : Int) (σ' : Sg), w = .int (iI z) ∧ (0 ≤ z ∧ z ≤ 3) ∧ CS κ L' f' tt σ' ∧ SgOk σ' ∧ σ'.2.1 = 0)) 6 189) L f k n 99 [(6, .int (iI z1)), (5, .int (iI (i : Int))), (4, .int (iI mn)), (3, .ref ww), (2, .int (iI 0)), (1, .ref (κ.2.2.2 2)), (0, .ref tt)] [.int (iI pe9)] := by
        intro pe9 hp1 hp2
        refine k_istore [(7, .int (iI pe9)), (6, .int (iI z1)), (5, .int (iI (i : Int))), (4, .int (iI mn)), (3, .ref ww), (2, .int (iI 0)), (1, .ref (κ.2.2.2 2)), (0, .ref tt)] dL_waves_99 (by decide) rfl ?_
        refine k_aload_n 4 3 dL_waves_101 rfl rfl ?_
        refine k_iconst dL_waves_102 ?_
        refine k_iload 2 dL_waves_103 rfl ?_
        refine k_imul dL_waves_105 ?_
        refine k_iload 1 dL_waves_106 rfl ?_
        refine k_iconst dL_waves_108 ?_
        refine k_ishrR dL_waves_109 (fun z3 => ?_)
        refine k_bipush dL_waves_110 (by decide) ?_
        refine k_useP (k_runS (c_L_below θ.2.1 κ (x := z3) (m := 9) ⟨by omega, by omega⟩) w_L_15 q_529 rfl rfl ⟨(Nat.le_of_ble_eq_true rfl), (Nat.le_of_ble_eq_true rfl)⟩ (Nat.le_of_ble_eq_true rfl) dL_waves_112) ⟨(by show _ ≤ 6; omega), (by show _ ≤ 189; omega)⟩ (fun z4 hz4 => ?_)
        have J140 : ∀ ra9 : Int, 0 ≤ ra9 → ra9 ≤ 5000 → k_G θ κ cL_waves 8 (some .int) RL (k_rm 9 6 189) (k_MQ θ κ (k_rn (fun w L' f' => ∃ (z : Int) (σ' : Sg), w = .int (iI z) ∧ (0 ≤ z ∧ z ≤ 3) ∧ CS κ L' f' tt σ' ∧ SgOk σ' ∧ σ'.2.1 = 0)) 6 189) L f k n 140 [(7, .int (iI pe9)), (6, .int (iI z1)), (5, .int (iI (i : Int))), (4, .int (iI mn)), (3, .ref ww), (2, .int (iI 0)), (1, .ref (κ.2.2.2 2)), (0, .ref tt)] [.int (iI ra9), .int (iI (3 * (i : Int))), .ref ww] := by
          intro ra9 hr1 hr2
          refine k_iast (3 * i) cw (by omega) (by omega) (by omega) dL_waves_140 (fun f5 hf5 hc5 => ?_)
          have hr5 := k_fr.put hf5 cw
          replace hC := hC.fr hr5 rfl
          replace cw : Cl L f5 ww (31, .inl (κ.2.2.1 0, 9, .inl (fun u9 => iI ((va_up A (3 * i) ra9) u9)))) := hc5
          refine k_aload_n 4 3 dL_waves_141 rfl rfl ?_
          refine k_iconst dL_waves_142 ?_
          refine k_iload 2 dL_waves_143 rfl ?_
          refine k_imul dL_waves_145 ?_
          refine k_iconst dL_waves_146 ?_
          refine k_iadd dL_waves_147 ?_
          refine k_iload 0 dL_waves_148 rfl ?_
          refine k_iast (3 * i + 1) cw (by omega) (by omega) (by omega) dL_waves_150 (fun f6 hf6 hc6 => ?_)
          have hr6 := k_fr.put hf6 cw
          replace hC := hC.fr hr6 rfl
          replace cw : Cl L f6 ww (31, .inl (κ.2.2.1 0, 9, .inl (fun u9 => iI ((va_up (va_up A (3 * i) ra9) (3 * i + 1) pe9) u9)))) := hc6
          refine k_aload_n 4 3 dL_waves_151 rfl rfl ?_
          refine k_iconst dL_waves_152 ?_
          refine k_iload 2 dL_waves_153 rfl ?_
          refine k_imul dL_waves_155 ?_
          refine k_iconst dL_waves_156 ?_
          refine k_iadd dL_waves_157 ?_
          refine k_iload 1 dL_waves_158 rfl ?_
          refine k_bipush dL_waves_160 (by decide) ?_
          refine k_ishrR dL_waves_162 (fun z7 => ?_)
          refine k_iload 0 dL_waves_163 rfl ?_
          refine k_useP (k_runS (c_L_below θ.2.1 κ (x := z7) (m := pe9) ⟨by omega, by omega⟩) w_L_15 q_529 rfl rfl ⟨(Nat.le_of_ble_eq_true rfl), (Nat.le_of_ble_eq_true rfl)⟩ (Nat.le_of_ble_eq_true rfl) dL_waves_165) ⟨(by show _ ≤ 6; omega), (by show _ ≤ 189; omega)⟩ (fun z8 hz8 => ?_)
          refine k_iast (3 * i + 2) cw (by omega) (by omega) (by omega) dL_waves_168 (fun f9 hf9 hc9 => ?_)
          have hr9 := k_fr.put hf9 cw
          replace hC := hC.fr hr9 rfl
          replace cw : Cl L f9 ww (31, .inl (κ.2.2.1 0, 9, .inl (fun u9 => iI ((va_up (va_up (va_up A (3 * i) ra9) (3 * i + 1) pe9) (3 * i + 2) z8) u9)))) := hc9
          refine k_aload_n 7 0 dL_waves_169 rfl rfl ?_
          refine k_aload_n 4 3 dL_waves_170 rfl rfl ?_
          refine k_iconst dL_waves_171 ?_
          refine k_iload 2 dL_waves_172 rfl ?_
          refine k_imul dL_waves_174 ?_
          refine k_iald (3 * i) cw (by omega) (by omega) (by omega) dL_waves_175 ?_
          refine k_topi ra9 (by rw [va_up_ne _ _ (by omega), va_up_ne _ _ (by omega), va_up_self]) ?_
          refine k_iload 0 dL_waves_176 rfl ?_
          refine k_aload_n 4 3 dL_waves_178 rfl rfl ?_
          refine k_iconst dL_waves_179 ?_
          refine k_iload 2 dL_waves_180 rfl ?_
          refine k_imul dL_waves_182 ?_
          refine k_iconst dL_waves_183 ?_
          refine k_iadd dL_waves_184 ?_
          refine k_iald (3 * i + 2) cw (by omega) (by omega) (by omega) dL_waves_185 ?_
          refine k_topi z8 (by rw [va_up_self]) ?_
          refine a_addWave hts hs hC (by omega) ⟨hr1, hr2⟩ ⟨hp1, hp2⟩ ⟨by omega, by omega⟩ (by omega) (by omega) (Nat.le_of_ble_eq_true rfl) dL_waves_186 (fun L10 f10 σ2 hC hs2 e1 e2 hr9 => ?_)
          replace cw := cw.fr hr9 rfl
          refine k_iload 2 dL_waves_189 rfl ?_
          refine k_icmp_eq 196 dL_waves_191 (by decide) (inI_mk (by omega) (by omega)) (inI_mk (by omega) (by omega)) (fun h191 => ?_) (fun h191 => ?_)
          · refine k_iinc 2 [(5, .int (iI ((i : Int) + 1))), (7, .int (iI pe9)), (6, .int (iI z1)), (4, .int (iI mn)), (3, .ref ww), (2, .int (iI 0)), (1, .ref (κ.2.2.2 2)), (0, .ref tt)] dL_waves_196 rfl (by decide) rfl ?_
            refine k_goto 14 dL_waves_199 (by decide) ?_
            refine k_perm [0, 3, 4, 5, 6, 7] [(5, .int (iI ((i : Int) + 1))), (4, .int (iI mn)), (3, .ref ww), (2, .int (iI 0)), (1, .ref (κ.2.2.2 2)), (0, .ref tt)] rfl ?_
            exact ih (i + 1) _ _ _ _ σ2 _ (by omega) (by omega) (by omega) (by omega) hs2 (by omega) (by omega) hC cw
          · omega
        refine k_if_ne 130 dL_waves_115 (by decide) (inI_mk (by omega) (by omega)) (fun h115 => ?_) (fun h115 => ?_)
        · refine k_iload 1 dL_waves_130 rfl ?_
          refine k_iconst dL_waves_132 ?_
          refine k_ishrR dL_waves_133 (fun z11 => ?_)
          refine k_sipush dL_waves_134 (by decide) ?_
          refine k_useP (k_runS (c_L_below θ.2.1 κ (x := z11) (m := 5001) ⟨by omega, by omega⟩) w_L_15 q_529 rfl rfl ⟨(Nat.le_of_ble_eq_true rfl), (Nat.le_of_ble_eq_true rfl)⟩ (Nat.le_of_ble_eq_true rfl) dL_waves_137) ⟨(by show _ ≤ 6; omega), (by show _ ≤ 189; omega)⟩ (fun z12 hz12 => ?_)
          exact J140 _ (by omega) (by omega)
        · refine k_iload 1 dL_waves_118 rfl ?_
          refine k_bipush dL_waves_120 (by decide) ?_
          refine k_ishrR dL_waves_122 (fun z13 => ?_)
          refine k_iconst dL_waves_123 ?_
          refine k_useP (k_runS (c_L_below θ.2.1 κ (x := z13) (m := 4) ⟨by omega, by omega⟩) w_L_15 q_529 rfl rfl ⟨(Nat.le_of_ble_eq_true rfl), (Nat.le_of_ble_eq_true rfl)⟩ (Nat.le_of_ble_eq_true rfl) dL_waves_124) ⟨(by show _ ≤ 6; omega), (by show _ ≤ 189; omega)⟩ (fun z14 hz14 => ?_)
          refine k_goto 140 dL_waves_127 (by decide) ?_
          exact J140 _ (by omega) (by omega)
      refine k_if_ne 58 dL_waves_39 (by decide) (inI_mk (by omega) (by omega)) (fun h39 => ?_) (fun h39 => ?_)
      · refine k_iload 0 dL_waves_58 rfl ?_
        refine k_iconst dL_waves_60 ?_
        refine k_useP (k_runS (c_L_below θ.2.1 κ (x := z1) (m := 5) ⟨by omega, by omega⟩) w_L_15 q_529 rfl rfl ⟨(Nat.le_of_ble_eq_true rfl), (Nat.le_of_ble_eq_true rfl)⟩ (Nat.le_of_ble_eq_true rfl) dL_waves_61) ⟨(by show _ ≤ 6; omega), (by show _ ≤ 189; omega)⟩ (fun z15 hz15 => ?_)
        refine k_iconst dL_waves_64 ?_
        refine k_icmp_ne 85 dL_waves_65 (by decide) (inI_mk (by omega) (by omega)) (inI_mk (by omega) (by omega)) (fun h65 => ?_) (fun h65 => ?_)
        · refine k_sipush dL_waves_85 (by decide) ?_
          refine k_iload 0 dL_waves_88 rfl ?_
          refine k_iconst dL_waves_90 ?_
          refine k_ishrR dL_waves_91 (fun z16 => ?_)
          refine k_sipush dL_waves_92 (by decide) ?_
          refine k_useP (k_runS (c_L_below θ.2.1 κ (x := z16) (m := 1200) ⟨by omega, by omega⟩) w_L_15 q_529 rfl rfl ⟨(Nat.le_of_ble_eq_true rfl), (Nat.le_of_ble_eq_true rfl)⟩ (Nat.le_of_ble_eq_true rfl) dL_waves_95) ⟨(by show _ ≤ 6; omega), (by show _ ≤ 189; omega)⟩ (fun z17 hz17 => ?_)
          refine k_iadd dL_waves_98 ?_
          exact J99 _ (by omega) (by omega)
        · refine k_sipush dL_waves_68 (by decide) ?_
          refine k_iload 0 dL_waves_71 rfl ?_
          refine k_iconst dL_waves_73 ?_
          refine k_ishrR dL_waves_74 (fun z18 => ?_)
          refine k_sipush dL_waves_75 (by decide) ?_
          refine k_useP (k_runS (c_L_below θ.2.1 κ (x := z18) (m := 15000) ⟨by omega, by omega⟩) w_L_15 q_529 rfl rfl ⟨(Nat.le_of_ble_eq_true rfl), (Nat.le_of_ble_eq_true rfl)⟩ (Nat.le_of_ble_eq_true rfl) dL_waves_78) ⟨(by show _ ≤ 6; omega), (by show _ ≤ 189; omega)⟩ (fun z19 hz19 => ?_)
          refine k_iadd dL_waves_81 ?_
          refine k_goto 99 dL_waves_82 (by decide) ?_
          exact J99 _ (by omega) (by omega)
      · refine k_bipush dL_waves_42 (by decide) ?_
        refine k_iload 0 dL_waves_44 rfl ?_
        refine k_iconst dL_waves_46 ?_
        refine k_ishrR dL_waves_47 (fun z20 => ?_)
        refine k_sipush dL_waves_48 (by decide) ?_
        refine k_useP (k_runS (c_L_below θ.2.1 κ (x := z20) (m := 300) ⟨by omega, by omega⟩) w_L_15 q_529 rfl rfl ⟨(Nat.le_of_ble_eq_true rfl), (Nat.le_of_ble_eq_true rfl)⟩ (Nat.le_of_ble_eq_true rfl) dL_waves_51) ⟨(by show _ ≤ 6; omega), (by show _ ≤ 189; omega)⟩ (fun z21 hz21 => ?_)
        refine k_iadd dL_waves_54 ?_
        refine k_goto 99 dL_waves_55 (by decide) ?_
        exact J99 _ (by omega) (by omega)
set_option maxHeartbeats 4000000 in
set_option maxRecDepth 100000 in
theorem c_L_waves (la : Launch) (κ : Kx) {L : List Nat} {f : Nat → wE} {tt ww : Nat} {σ : Sg} {A : Nat → Int} (hts : la.stackTraces = false) (hs : SgOk σ) (h0 : σ.1.2.1 = 0) (h00 : σ.2.1 = 0) (hC : CS κ L f tt σ) (cw : Cl L f ww (31, .inl (κ.2.2.1 0, 9, .inl (fun u9 => iI (A u9))))) : k_M la κ yL_waves cL_waves 8 (some .int) 9 6 189 [.ref tt, .ref (κ.2.2.2 2), .int (iI 0), .ref ww] L f (k_rn (fun w L' f' => ∃ (z : Int) (σ' : Sg), w = .int (iI z) ∧ (0 ≤ z ∧ z ≤ 3) ∧ CS κ L' f' tt σ' ∧ SgOk σ' ∧ σ'.2.1 = 0)) := by
  refine k_head RL [(0, .ref tt), (1, .ref (κ.2.2.2 2)), (2, .int (iI 0)), (3, .ref ww)] rfl (by decide) (Nat.le_of_ble_eq_true rfl) rfl (fun θ hθ hin => ?_)
  have hts2 : θ.2.1.stackTraces = false := by rw [hθ]; exact hts
  refine k_aload_n 1 1 dL_waves_0 rfl rfl ?_
  refine k_iload_n 2 2 dL_waves_1 rfl rfl ?_
  refine k_useP (k_runS (c_L_cell θ.2.1 κ (z := 0) ⟨by omega, by omega⟩) w_L_9 q_533 rfl rfl ⟨(Nat.le_of_ble_eq_true rfl), (Nat.le_of_ble_eq_true rfl)⟩ (Nat.le_of_ble_eq_true rfl) dL_waves_2) ⟨(by show _ ≤ 6; omega), (by show _ ≤ 189; omega)⟩ (fun z22 hz22 => ?_)
  refine k_iconst dL_waves_5 ?_
  refine k_useP (k_runS (c_L_below θ.2.1 κ (x := z22) (m := 4) ⟨by omega, by omega⟩) w_L_15 q_529 rfl rfl ⟨(Nat.le_of_ble_eq_true rfl), (Nat.le_of_ble_eq_true rfl)⟩ (Nat.le_of_ble_eq_true rfl) dL_waves_6) ⟨(by show _ ≤ 6; omega), (by show _ ≤ 189; omega)⟩ (fun z23 hz23 => ?_)
  refine k_istore [(4, .int (iI z23)), (0, .ref tt), (1, .ref (κ.2.2.2 2)), (2, .int (iI 0)), (3, .ref ww)] dL_waves_9 (by decide) rfl ?_
  refine k_iconst dL_waves_11 ?_
  refine k_istore [(5, .int (iI 0)), (4, .int (iI z23)), (0, .ref tt), (1, .ref (κ.2.2.2 2)), (2, .int (iI 0)), (3, .ref ww)] dL_waves_12 (by decide) rfl ?_
  refine k_perm [0, 1, 5, 4, 3, 2] [(5, .int (iI 0)), (4, .int (iI z23)), (3, .ref ww), (2, .int (iI 0)), (1, .ref (κ.2.2.2 2)), (0, .ref tt)] rfl ?_
  exact wv_loop hts2 ⟨by omega, by omega⟩ 3 0 _ _ _ _ σ A (by omega) (by omega) (by omega) (by omega) hs h0 h00 hC cw
