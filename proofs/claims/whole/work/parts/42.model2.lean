set_option maxHeartbeats 4000000 in
set_option maxRecDepth 100000 in
theorem c_X8_find (la : Launch) (κ : Kx) {L : List Nat} {f : Nat → wE} {mm : Nat} {thr : Int} {σ : Sg}   (hM : MS κ L f mm thr σ) (hs : SgOk σ) : k_M la κ yX8_find cX8_find 5 none 3 0 0 [.ref mm] L f (k_ru (fun L' f' => L' = L ∧ MSf κ L' f' mm thr σ ∧ k_fr SM L f L' f')) := by
  refine k_head RX8 [(0, .ref mm)] rfl (by decide) (Nat.le_of_ble_eq_true rfl) rfl (fun θ hθ hin => ?_)
  obtain ⟨A, fr, wts, RA, PE, OF, TA, RT, RH, HS, TI, ⟨cmm, c0, c1, c2, c3, c4, c5, c6, c7⟩, ⟨hMa, hMb, hMc, hMd⟩, hfrs⟩ := id hM
  obtain ⟨hs1, ⟨hs2, hs3⟩, hs4⟩ := id hs
  have hs5 := hs1.2.1
  have hs6 := hs4.1
  have hs7 := nW_le (hT σ.1)
  have hs8 := hs1.1
  refine k_aload_n 0 0 dX8_find_0 rfl rfl ?_
  refine k_get 11 i_X8 q_794 cmm rfl (by decide) rfl dX8_find_1 ?_
  refine k_ifb_eq 8 dX8_find_4 (by decide) (fun h4 => ?_) (fun h4 => ?_)
  · refine k_aload_n 0 0 dX8_find_8 rfl rfl ?_
    refine k_iconst dX8_find_9 ?_
    refine k_put 11 [.int (iI thr), .int (iI (σ.1.2.1 : Int)), .ref (A 0), .ref (A 1), .ref (A 2), .int (iI σ.1.1), .int (iI (σ.2.1 : Int)), .ref (A 3), .int (iI (σ.2.2.2.1 : Int)), .ref (A 4), .ref (A 5), .int (iI (bI true)), .ref (A 6), .int (iI wts), .ref (A 7)] i_X8 tyX8_ok nmX8 q_794 cmm rfl (by decide) rfl rfl (k_nar_b true) (k_fit_b true) (Nat.le_of_ble_eq_true rfl) rfl dX8_find_10 (fun f1 hf1 hc1 => ?_)
    have hr1 := k_fr.put hf1 cmm
    replace c0 := c0.fr hr1 rfl
    replace c1 := c1.fr hr1 rfl
    replace c2 := c2.fr hr1 rfl
    replace c3 := c3.fr hr1 rfl
    replace c4 := c4.fr hr1 rfl
    replace c5 := c5.fr hr1 rfl
    replace c6 := c6.fr hr1 rfl
    replace c7 := c7.fr hr1 rfl
    replace cmm : Cl L f1 mm (21, .inr (9, [.int (iI thr), .int (iI (σ.1.2.1 : Int)), .ref (A 0), .ref (A 1), .ref (A 2), .int (iI σ.1.1), .int (iI (σ.2.1 : Int)), .ref (A 3), .int (iI (σ.2.2.2.1 : Int)), .ref (A 4), .ref (A 5), .int (iI (bI true)), .ref (A 6), .int (iI wts), .ref (A 7)])) := hc1
    refine k_iconst dX8_find_13 ?_
    refine k_istore_n 1 [(1, .int (iI 0)), (0, .ref mm)] dX8_find_14 rfl (by decide) rfl ?_
    have lp15 : ∀ (fuel : Nat) (f9 : Nat → wE) (i : Nat) (HS9 : Nat → Int), (i ≤ 4320) → (∀ t, t < i → HS9 t = (hT σ.1) t) → (k_fr SM L f L f9) → (Cl L f9 mm (21, .inr (9, [.int (iI thr), .int (iI (σ.1.2.1 : Int)), .ref (A 0), .ref (A 1), .ref (A 2), .int (iI σ.1.1), .int (iI (σ.2.1 : Int)), .ref (A 3), .int (iI (σ.2.2.2.1 : Int)), .ref (A 4), .ref (A 5), .int (iI (bI true)), .ref (A 6), .int (iI wts), .ref (A 7)]))) → (Cl L f9 (A 0) (22, .inl (κ.2.2.1 0, 8, .inl (fun u9 => iI (RA u9))))) → (Cl L f9 (A 1) (23, .inl (κ.2.2.1 0, 8, .inl (fun u9 => iI (PE u9))))) → (Cl L f9 (A 2) (24, .inl (κ.2.2.1 0, 8, .inl (fun u9 => iI (OF u9))))) → (Cl L f9 (A 3) (25, .inl (κ.2.2.1 0, 30, .inl (fun u9 => iI (TA u9))))) → (Cl L f9 (A 4) (26, .inl (κ.2.2.1 0, 40, .inl (fun u9 => iI (RT u9))))) → (Cl L f9 (A 5) (27, .inl (κ.2.2.1 0, 40, .inl (fun u9 => iI (RH u9))))) → (Cl L f9 (A 6) (28, .inl (κ.2.2.1 1, 4320, .inr (.inl (fun u9 => lI (HS9 u9)))))) → (Cl L f9 (A 7) (29, .inl (κ.2.2.1 0, 4320, .inl (fun u9 => iI (TI u9))))) → 4320 - i < fuel → k_G θ κ cX8_find 5 none RX8 (k_rm 3 0 0) (k_MQ θ κ (k_ru (fun L' f' => L' = L ∧ MSf κ L' f' mm thr σ ∧ k_fr SM L f L' f')) 0 0) L f9 0 0 15 [(0, .ref mm), (1, .int (iI (i : Int)))] [] := by
      intro fuel
      induction fuel with
      | zero =>
        intro f9 i HS9 hi1 hH9 hfr9 cmm c0 c1 c2 c3 c4 c5 c6 c7 hfu
        exact absurd hfu (Nat.not_lt_zero _)
      | succ fuel ih15 =>
        intro f9 i HS9 hi1 hH9 hfr9 cmm c0 c1 c2 c3 c4 c5 c6 c7 hfu
        refine k_iload_n 1 1 dX8_find_15 rfl rfl ?_
        refine k_sipush dX8_find_16 (by decide) ?_
        refine k_icmp_ge 70 dX8_find_19 (by decide) (inI_mk (by omega) (by omega)) (inI_mk (by omega) (by omega)) (fun h19 => ?_) (fun h19 => ?_)
        · have ei : i = 4320 := by omega
          have hHS : ∀ t, t < 4320 → HS9 t = (hT σ.1) t := fun t ht => hH9 t (by omega)
          refine k_aload_n 0 0 dX8_find_70 rfl rfl ?_
          refine k_iconst dX8_find_71 ?_
          refine k_put 13 [.int (iI thr), .int (iI (σ.1.2.1 : Int)), .ref (A 0), .ref (A 1), .ref (A 2), .int (iI σ.1.1), .int (iI (σ.2.1 : Int)), .ref (A 3), .int (iI (σ.2.2.2.1 : Int)), .ref (A 4), .ref (A 5), .int (iI (bI true)), .ref (A 6), .int (iI 0), .ref (A 7)] i_X8 tyX8_ok nmX8 q_796 cmm rfl (by decide) rfl rfl rfl rfl (Nat.le_of_ble_eq_true rfl) rfl dX8_find_72 (fun f2 hf2 hc2 => ?_)
          have hr2 := k_fr.put hf2 cmm
          replace c0 := c0.fr hr2 rfl
          replace c1 := c1.fr hr2 rfl
          replace c2 := c2.fr hr2 rfl
          replace c3 := c3.fr hr2 rfl
          replace c4 := c4.fr hr2 rfl
          replace c5 := c5.fr hr2 rfl
          replace c6 := c6.fr hr2 rfl
          replace c7 := c7.fr hr2 rfl
          replace cmm : Cl L f2 mm (21, .inr (9, [.int (iI thr), .int (iI (σ.1.2.1 : Int)), .ref (A 0), .ref (A 1), .ref (A 2), .int (iI σ.1.1), .int (iI (σ.2.1 : Int)), .ref (A 3), .int (iI (σ.2.2.2.1 : Int)), .ref (A 4), .ref (A 5), .int (iI (bI true)), .ref (A 6), .int (iI 0), .ref (A 7)])) := hc2
          refine k_iconst dX8_find_75 ?_
          refine k_istore_n 1 [(1, .int (iI 1)), (0, .ref mm)] dX8_find_76 rfl (by decide) rfl ?_
          have lp77 : ∀ (fuel : Nat) (f7 : Nat → wE) (t n : Nat) (TI9 : Nat → Int), (1 ≤ t ∧ t ≤ 4319) → (SW (hT σ.1) t n TI9) → (k_fr SM L f L f7) → (Cl L f7 mm (21, .inr (9, [.int (iI thr), .int (iI (σ.1.2.1 : Int)), .ref (A 0), .ref (A 1), .ref (A 2), .int (iI σ.1.1), .int (iI (σ.2.1 : Int)), .ref (A 3), .int (iI (σ.2.2.2.1 : Int)), .ref (A 4), .ref (A 5), .int (iI (bI true)), .ref (A 6), .int (iI (n : Int)), .ref (A 7)]))) → (Cl L f7 (A 0) (22, .inl (κ.2.2.1 0, 8, .inl (fun u9 => iI (RA u9))))) → (Cl L f7 (A 1) (23, .inl (κ.2.2.1 0, 8, .inl (fun u9 => iI (PE u9))))) → (Cl L f7 (A 2) (24, .inl (κ.2.2.1 0, 8, .inl (fun u9 => iI (OF u9))))) → (Cl L f7 (A 3) (25, .inl (κ.2.2.1 0, 30, .inl (fun u9 => iI (TA u9))))) → (Cl L f7 (A 4) (26, .inl (κ.2.2.1 0, 40, .inl (fun u9 => iI (RT u9))))) → (Cl L f7 (A 5) (27, .inl (κ.2.2.1 0, 40, .inl (fun u9 => iI (RH u9))))) → (Cl L f7 (A 6) (28, .inl (κ.2.2.1 1, 4320, .inr (.inl (fun u9 => lI (HS9 u9)))))) → (Cl L f7 (A 7) (29, .inl (κ.2.2.1 0, 4320, .inl (fun u9 => iI (TI9 u9))))) → 4319 - t < fuel → k_G θ κ cX8_find 5 none RX8 (k_rm 3 0 0) (k_MQ θ κ (k_ru (fun L' f' => L' = L ∧ MSf κ L' f' mm thr σ ∧ k_fr SM L f L' f')) 0 0) L f7 0 0 77 [(0, .ref mm), (1, .int (iI (t : Int)))] [] := by
            intro fuel
            induction fuel with
            | zero =>
              intro f7 t n TI9 ht1 hSW hfr7 cmm c0 c1 c2 c3 c4 c5 c6 c7 hfu
              exact absurd hfu (Nat.not_lt_zero _)
            | succ fuel ih77 =>
              intro f7 t n TI9 ht1 hSW hfr7 cmm c0 c1 c2 c3 c4 c5 c6 c7 hfu
              have hnt : n ≤ t := by rw [hSW.1]; exact wc_le _ t
              refine k_iload_n 1 1 dX8_find_77 rfl rfl ?_
              refine k_sipush dX8_find_78 (by decide) ?_
              refine k_icmp_ge 244 dX8_find_81 (by decide) (inI_mk (by omega) (by omega)) (inI_mk (by omega) (by omega)) (fun h81 => ?_) (fun h81 => ?_)
              · obtain ⟨en, hTI9⟩ := hSW.fin (by omega) (fun y hy1 hy2 => absurd hy2 (by omega))
                subst en
                exact k_vret dX8_find_244 rfl (Nat.le_of_ble_eq_true rfl) (Nat.le_of_ble_eq_true rfl) (⟨rfl, rfl, ⟨A, RA, PE, OF, TA, RT, RH, HS9, TI9, ⟨cmm, c0, c1, c2, c3, c4, c5, c6, c7⟩, ⟨hMa, hMb, hMc, hMd⟩, hHS, hTI9⟩, hfr7⟩)
              · refine k_iload_n 1 1 dX8_find_84 rfl rfl ?_
                refine k_iconst dX8_find_85 ?_
                refine k_iadd dX8_find_86 ?_
                refine k_topi ((t + 1 : Nat) : Int) (by omega) ?_
                refine k_istore_n 2 [(2, .int (iI ((t + 1 : Nat) : Int))), (0, .ref mm), (1, .int (iI (t : Int)))] dX8_find_87 rfl (by decide) rfl ?_
                have lp88 : ∀ (fuel : Nat) (x : Nat), (t + 1 ≤ x ∧ x ≤ 4320) → (∀ y, t + 1 ≤ y → y < x → (hT σ.1) y = (hT σ.1) t) → 4320 - x < fuel → k_G θ κ cX8_find 5 none RX8 (k_rm 3 0 0) (k_MQ θ κ (k_ru (fun L' f' => L' = L ∧ MSf κ L' f' mm thr σ ∧ k_fr SM L f L' f')) 0 0) L f7 0 0 88 [(0, .ref mm), (1, .int (iI (t : Int))), (2, .int (iI (x : Int)))] [] := by
                  intro fuel
                  induction fuel with
                  | zero =>
                    intro x hx1 hrun hfu
                    exact absurd hfu (Nat.not_lt_zero _)
                  | succ fuel ih88 =>
                    intro x hx1 hrun hfu
                    have et := hHS t (by omega)
                    have bt := hT_bd hs1 t
                    refine k_iload_n 2 2 dX8_find_88 rfl rfl ?_
                    refine k_sipush dX8_find_89 (by decide) ?_
                    refine k_icmp_ge 117 dX8_find_92 (by decide) (inI_mk (by omega) (by omega)) (inI_mk (by omega) (by omega)) (fun h92 => ?_) (fun h92 => ?_)
                    · refine k_iload_n 2 2 dX8_find_117 rfl rfl ?_
                      refine k_sipush dX8_find_118 (by decide) ?_
                      refine k_icmp_ne 125 dX8_find_121 (by decide) (inI_mk (by omega) (by omega)) (inI_mk (by omega) (by omega)) (fun h121 => ?_) (fun h121 => ?_)
                      · omega
                      · obtain ⟨en, hTI9⟩ := hSW.fin (by omega) (fun y hy1 hy2 => hrun y hy1 (by omega))
                        subst en
                        exact k_vret dX8_find_124 rfl (Nat.le_of_ble_eq_true rfl) (Nat.le_of_ble_eq_true rfl) (⟨rfl, rfl, ⟨A, RA, PE, OF, TA, RT, RH, HS9, TI9, ⟨cmm, c0, c1, c2, c3, c4, c5, c6, c7⟩, ⟨hMa, hMb, hMc, hMd⟩, hHS, hTI9⟩, hfr7⟩)
                    · have ex := hHS x (by omega)
                      have bx := hT_bd hs1 x
                      refine k_aload_n 0 0 dX8_find_95 rfl rfl ?_
                      refine k_get 12 i_X8 q_795 cmm rfl (by decide) rfl dX8_find_96 ?_
                      refine k_iload_n 2 2 dX8_find_99 rfl rfl ?_
                      refine k_lald x c6 rfl (by omega) (by omega) dX8_find_100 ?_
                      refine k_aload_n 0 0 dX8_find_101 rfl rfl ?_
                      refine k_get 12 i_X8 q_795 cmm rfl (by decide) rfl dX8_find_102 ?_
                      refine k_iload_n 1 1 dX8_find_105 rfl rfl ?_
                      refine k_lald t c6 rfl (by omega) (by omega) dX8_find_106 ?_
                      refine k_lcmp_ne 117 dX8_find_107 dX8_find_108 (by decide) (inL_mk (by omega) (by omega)) (inL_mk (by omega) (by omega)) (fun h107 => ?_) (fun h107 => ?_)
                      · refine k_iload_n 2 2 dX8_find_117 rfl rfl ?_
                        refine k_sipush dX8_find_118 (by decide) ?_
                        refine k_icmp_ne 125 dX8_find_121 (by decide) (inI_mk (by omega) (by omega)) (inI_mk (by omega) (by omega)) (fun h121 => ?_) (fun h121 => ?_)
                        · have e1 := hHS (t - 1) (by omega)
                          have b1 := hT_bd hs1 (t - 1)
                          refine k_aload_n 0 0 dX8_find_125 rfl rfl ?_
                          refine k_get 12 i_X8 q_795 cmm rfl (by decide) rfl dX8_find_126 ?_
                          refine k_iload_n 1 1 dX8_find_129 rfl rfl ?_
                          refine k_lald t c6 rfl (by omega) (by omega) dX8_find_130 ?_
                          refine k_aload_n 0 0 dX8_find_131 rfl rfl ?_
                          refine k_get 12 i_X8 q_795 cmm rfl (by decide) rfl dX8_find_132 ?_
                          refine k_iload_n 1 1 dX8_find_135 rfl rfl ?_
                          refine k_iconst dX8_find_136 ?_
                          refine k_isub dX8_find_137 ?_
                          refine k_lald (t - 1) c6 (by omega) (by omega) (by omega) dX8_find_138 ?_
                          refine k_lcmp_le 163 dX8_find_139 dX8_find_140 (by decide) (inL_mk (by omega) (by omega)) (inL_mk (by omega) (by omega)) (fun h139 => ?_) (fun h139 => ?_)
                          · refine k_iconst dX8_find_163 ?_
                            refine k_istore_n 3 [(3, .int (iI 0)), (0, .ref mm), (1, .int (iI (t : Int))), (2, .int (iI (x : Int)))] dX8_find_164 rfl (by decide) rfl ?_
                            refine k_aload_n 1 0 dX8_find_165 rfl rfl ?_
                            refine k_get 12 i_X8 q_795 cmm rfl (by decide) rfl dX8_find_166 ?_
                            refine k_iload_n 2 1 dX8_find_169 rfl rfl ?_
                            refine k_lald t c6 rfl (by omega) (by omega) dX8_find_170 ?_
                            refine k_aload_n 1 0 dX8_find_171 rfl rfl ?_
                            refine k_get 12 i_X8 q_795 cmm rfl (by decide) rfl dX8_find_172 ?_
                            refine k_iload_n 2 1 dX8_find_175 rfl rfl ?_
                            refine k_iconst dX8_find_176 ?_
                            refine k_isub dX8_find_177 ?_
                            refine k_lald (t - 1) c6 (by omega) (by omega) (by omega) dX8_find_178 ?_
                            refine k_lcmp_ge 203 dX8_find_179 dX8_find_180 (by decide) (inL_mk (by omega) (by omega)) (inL_mk (by omega) (by omega)) (fun h179 => ?_) (fun h179 => ?_)
                            · refine k_iconst dX8_find_203 ?_
                              refine k_istore [(4, .int (iI 0)), (3, .int (iI 0)), (0, .ref mm), (1, .int (iI (t : Int))), (2, .int (iI (x : Int)))] dX8_find_204 (by decide) rfl ?_
                              refine k_iload_n 1 3 dX8_find_206 rfl rfl ?_
                              refine k_if_ne 218 dX8_find_207 (by decide) (inI_mk (by omega) (by omega)) (fun h207 => ?_) (fun h207 => ?_)
                              · omega
                              · refine k_iload 0 dX8_find_210 rfl ?_
                                refine k_if_ne 218 dX8_find_212 (by decide) (inI_mk (by omega) (by omega)) (fun h212 => ?_) (fun h212 => ?_)
                                · omega
                                · refine k_goto 238 dX8_find_215 (by decide) ?_
                                  refine k_iinc 3 [(1, .int (iI ((t : Int) + 1))), (4, .int (iI 0)), (3, .int (iI 0)), (0, .ref mm), (2, .int (iI (x : Int)))] dX8_find_238 rfl (by decide) rfl ?_
                                  refine k_goto 77 dX8_find_241 (by decide) ?_
                                  refine k_perm [3, 0] [(0, .ref mm), (1, .int (iI ((t : Int) + 1)))] rfl ?_
                                  have hnx := nx_of (h := (hT σ.1)) (t := t) (e := x) (by omega) (by omega) (fun y hy1 hy2 => hrun y hy1 hy2) (Or.inr (by omega))
                                  have hwi := isW_of (h := (hT σ.1)) ht1.1 hnx (by omega)
                                  have hSW2 := hSW.no (fun q9 => by have q8 := hwi.mp q9; omega)
                                  exact ih77 f7 (t + 1) n TI9 ⟨by omega, by omega⟩ hSW2 hfr7 cmm c0 c1 c2 c3 c4 c5 c6 c7 (by omega)
                            · refine k_aload_n 1 0 dX8_find_183 rfl rfl ?_
                              refine k_get 12 i_X8 q_795 cmm rfl (by decide) rfl dX8_find_184 ?_
                              refine k_iload_n 3 2 dX8_find_187 rfl rfl ?_
                              refine k_lald x c6 rfl (by omega) (by omega) dX8_find_188 ?_
                              refine k_aload_n 1 0 dX8_find_189 rfl rfl ?_
                              refine k_get 12 i_X8 q_795 cmm rfl (by decide) rfl dX8_find_190 ?_
                              refine k_iload_n 2 1 dX8_find_193 rfl rfl ?_
                              refine k_lald t c6 rfl (by omega) (by omega) dX8_find_194 ?_
                              refine k_lcmp_le 203 dX8_find_195 dX8_find_196 (by decide) (inL_mk (by omega) (by omega)) (inL_mk (by omega) (by omega)) (fun h195 => ?_) (fun h195 => ?_)
                              · refine k_iconst dX8_find_203 ?_
                                refine k_istore [(4, .int (iI 0)), (3, .int (iI 0)), (0, .ref mm), (1, .int (iI (t : Int))), (2, .int (iI (x : Int)))] dX8_find_204 (by decide) rfl ?_
                                refine k_iload_n 1 3 dX8_find_206 rfl rfl ?_
                                refine k_if_ne 218 dX8_find_207 (by decide) (inI_mk (by omega) (by omega)) (fun h207 => ?_) (fun h207 => ?_)
                                · omega
                                · refine k_iload 0 dX8_find_210 rfl ?_
                                  refine k_if_ne 218 dX8_find_212 (by decide) (inI_mk (by omega) (by omega)) (fun h212 => ?_) (fun h212 => ?_)
                                  · omega
                                  · refine k_goto 238 dX8_find_215 (by decide) ?_
                                    refine k_iinc 3 [(1, .int (iI ((t : Int) + 1))), (4, .int (iI 0)), (3, .int (iI 0)), (0, .ref mm), (2, .int (iI (x : Int)))] dX8_find_238 rfl (by decide) rfl ?_
                                    refine k_goto 77 dX8_find_241 (by decide) ?_
                                    refine k_perm [3, 0] [(0, .ref mm), (1, .int (iI ((t : Int) + 1)))] rfl ?_
                                    have hnx := nx_of (h := (hT σ.1)) (t := t) (e := x) (by omega) (by omega) (fun y hy1 hy2 => hrun y hy1 hy2) (Or.inr (by omega))
                                    have hwi := isW_of (h := (hT σ.1)) ht1.1 hnx (by omega)
                                    have hSW2 := hSW.no (fun q9 => by have q8 := hwi.mp q9; omega)
                                    exact ih77 f7 (t + 1) n TI9 ⟨by omega, by omega⟩ hSW2 hfr7 cmm c0 c1 c2 c3 c4 c5 c6 c7 (by omega)
                              · refine k_iconst dX8_find_199 ?_
                                refine k_goto 204 dX8_find_200 (by decide) ?_
                                refine k_istore [(4, .int (iI 1)), (3, .int (iI 0)), (0, .ref mm), (1, .int (iI (t : Int))), (2, .int (iI (x : Int)))] dX8_find_204 (by decide) rfl ?_
                                refine k_iload_n 1 3 dX8_find_206 rfl rfl ?_
                                refine k_if_ne 218 dX8_find_207 (by decide) (inI_mk (by omega) (by omega)) (fun h207 => ?_) (fun h207 => ?_)
                                · omega
                                · refine k_iload 0 dX8_find_210 rfl ?_
                                  refine k_if_ne 218 dX8_find_212 (by decide) (inI_mk (by omega) (by omega)) (fun h212 => ?_) (fun h212 => ?_)
                                  · refine k_aload_n 2 0 dX8_find_218 rfl rfl ?_
                                    refine k_get 14 i_X8 q_797 cmm rfl (by decide) rfl dX8_find_219 ?_
                                    refine k_aload_n 2 0 dX8_find_222 rfl rfl ?_
                                    refine k_get 13 i_X8 q_796 cmm rfl (by decide) rfl dX8_find_223 ?_
                                    refine k_iload_n 3 1 dX8_find_226 rfl rfl ?_
                                    refine k_iast n c7 rfl (by omega) (by omega) dX8_find_227 (fun f3 hf3 hc3 => ?_)
                                    have hr3 := k_fr.put hf3 c7
                                    replace cmm := cmm.fr hr3 rfl
                                    replace c0 := c0.fr hr3 rfl
                                    replace c1 := c1.fr hr3 rfl
                                    replace c2 := c2.fr hr3 rfl
                                    replace c3 := c3.fr hr3 rfl
                                    replace c4 := c4.fr hr3 rfl
                                    replace c5 := c5.fr hr3 rfl
                                    replace c6 := c6.fr hr3 rfl
                                    replace c7 : Cl L f3 (A 7) (29, .inl (κ.2.2.1 0, 4320, .inl (fun u9 => iI ((va_up TI9 n (t : Int)) u9)))) := hc3
                                    refine k_aload_n 2 0 dX8_find_228 rfl rfl ?_
                                    refine k_dup dX8_find_229 rfl ?_
                                    refine k_get 13 i_X8 q_796 cmm rfl (by decide) rfl dX8_find_230 ?_
                                    refine k_iconst dX8_find_233 ?_
                                    refine k_iadd dX8_find_234 ?_
                                    refine k_put 13 [.int (iI thr), .int (iI (σ.1.2.1 : Int)), .ref (A 0), .ref (A 1), .ref (A 2), .int (iI σ.1.1), .int (iI (σ.2.1 : Int)), .ref (A 3), .int (iI (σ.2.2.2.1 : Int)), .ref (A 4), .ref (A 5), .int (iI (bI true)), .ref (A 6), .int (iI ((n : Int) + 1)), .ref (A 7)] i_X8 tyX8_ok nmX8 q_796 cmm rfl (by decide) rfl rfl rfl rfl (Nat.le_of_ble_eq_true rfl) rfl dX8_find_235 (fun f4 hf4 hc4 => ?_)
                                    have hr4 := k_fr.put hf4 cmm
                                    replace c0 := c0.fr hr4 rfl
                                    replace c1 := c1.fr hr4 rfl
                                    replace c2 := c2.fr hr4 rfl
                                    replace c3 := c3.fr hr4 rfl
                                    replace c4 := c4.fr hr4 rfl
                                    replace c5 := c5.fr hr4 rfl
                                    replace c6 := c6.fr hr4 rfl
                                    replace c7 := c7.fr hr4 rfl
                                    replace cmm : Cl L f4 mm (21, .inr (9, [.int (iI thr), .int (iI (σ.1.2.1 : Int)), .ref (A 0), .ref (A 1), .ref (A 2), .int (iI σ.1.1), .int (iI (σ.2.1 : Int)), .ref (A 3), .int (iI (σ.2.2.2.1 : Int)), .ref (A 4), .ref (A 5), .int (iI (bI true)), .ref (A 6), .int (iI ((n : Int) + 1)), .ref (A 7)])) := hc4
                                    refine k_iinc 3 [(1, .int (iI ((t : Int) + 1))), (4, .int (iI 1)), (3, .int (iI 0)), (0, .ref mm), (2, .int (iI (x : Int)))] dX8_find_238 rfl (by decide) rfl ?_
                                    refine k_goto 77 dX8_find_241 (by decide) ?_
                                    refine k_perm [3, 0] [(0, .ref mm), (1, .int (iI ((t : Int) + 1)))] rfl ?_
                                    have hnx := nx_of (h := (hT σ.1)) (t := t) (e := x) (by omega) (by omega) (fun y hy1 hy2 => hrun y hy1 hy2) (Or.inr (by omega))
                                    have hwi := isW_of (h := (hT σ.1)) ht1.1 hnx (by omega)
                                    have hSW2 := hSW.yes (hwi.mpr (by omega)) (by omega)
                                    exact ih77 f4 (t + 1) (n + 1) (va_up TI9 n (t : Int)) ⟨by omega, by omega⟩ hSW2 (k_fr.trans (k_fr.trans hfr7 hr3 idf (SM_of rfl)) hr4 idf (SM_of rfl)) cmm c0 c1 c2 c3 c4 c5 c6 c7 (by omega)
                                  · omega
                          · refine k_aload_n 0 0 dX8_find_143 rfl rfl ?_
                            refine k_get 12 i_X8 q_795 cmm rfl (by decide) rfl dX8_find_144 ?_
                            refine k_iload_n 2 2 dX8_find_147 rfl rfl ?_
                            refine k_lald x c6 rfl (by omega) (by omega) dX8_find_148 ?_
                            refine k_aload_n 0 0 dX8_find_149 rfl rfl ?_
                            refine k_get 12 i_X8 q_795 cmm rfl (by decide) rfl dX8_find_150 ?_
                            refine k_iload_n 1 1 dX8_find_153 rfl rfl ?_
                            refine k_lald t c6 rfl (by omega) (by omega) dX8_find_154 ?_
                            refine k_lcmp_ge 163 dX8_find_155 dX8_find_156 (by decide) (inL_mk (by omega) (by omega)) (inL_mk (by omega) (by omega)) (fun h155 => ?_) (fun h155 => ?_)
                            · refine k_iconst dX8_find_163 ?_
                              refine k_istore_n 3 [(3, .int (iI 0)), (0, .ref mm), (1, .int (iI (t : Int))), (2, .int (iI (x : Int)))] dX8_find_164 rfl (by decide) rfl ?_
                              refine k_aload_n 1 0 dX8_find_165 rfl rfl ?_
                              refine k_get 12 i_X8 q_795 cmm rfl (by decide) rfl dX8_find_166 ?_
                              refine k_iload_n 2 1 dX8_find_169 rfl rfl ?_
                              refine k_lald t c6 rfl (by omega) (by omega) dX8_find_170 ?_
                              refine k_aload_n 1 0 dX8_find_171 rfl rfl ?_
                              refine k_get 12 i_X8 q_795 cmm rfl (by decide) rfl dX8_find_172 ?_
                              refine k_iload_n 2 1 dX8_find_175 rfl rfl ?_
                              refine k_iconst dX8_find_176 ?_
                              refine k_isub dX8_find_177 ?_
                              refine k_lald (t - 1) c6 (by omega) (by omega) (by omega) dX8_find_178 ?_
                              refine k_lcmp_ge 203 dX8_find_179 dX8_find_180 (by decide) (inL_mk (by omega) (by omega)) (inL_mk (by omega) (by omega)) (fun h179 => ?_) (fun h179 => ?_)
                              · refine k_iconst dX8_find_203 ?_
                                refine k_istore [(4, .int (iI 0)), (3, .int (iI 0)), (0, .ref mm), (1, .int (iI (t : Int))), (2, .int (iI (x : Int)))] dX8_find_204 (by decide) rfl ?_
                                refine k_iload_n 1 3 dX8_find_206 rfl rfl ?_
                                refine k_if_ne 218 dX8_find_207 (by decide) (inI_mk (by omega) (by omega)) (fun h207 => ?_) (fun h207 => ?_)
                                · omega
                                · refine k_iload 0 dX8_find_210 rfl ?_
                                  refine k_if_ne 218 dX8_find_212 (by decide) (inI_mk (by omega) (by omega)) (fun h212 => ?_) (fun h212 => ?_)
                                  · omega
                                  · refine k_goto 238 dX8_find_215 (by decide) ?_
                                    refine k_iinc 3 [(1, .int (iI ((t : Int) + 1))), (4, .int (iI 0)), (3, .int (iI 0)), (0, .ref mm), (2, .int (iI (x : Int)))] dX8_find_238 rfl (by decide) rfl ?_
                                    refine k_goto 77 dX8_find_241 (by decide) ?_
                                    refine k_perm [3, 0] [(0, .ref mm), (1, .int (iI ((t : Int) + 1)))] rfl ?_
                                    have hnx := nx_of (h := (hT σ.1)) (t := t) (e := x) (by omega) (by omega) (fun y hy1 hy2 => hrun y hy1 hy2) (Or.inr (by omega))
                                    have hwi := isW_of (h := (hT σ.1)) ht1.1 hnx (by omega)
                                    have hSW2 := hSW.no (fun q9 => by have q8 := hwi.mp q9; omega)
                                    exact ih77 f7 (t + 1) n TI9 ⟨by omega, by omega⟩ hSW2 hfr7 cmm c0 c1 c2 c3 c4 c5 c6 c7 (by omega)
                              · refine k_aload_n 1 0 dX8_find_183 rfl rfl ?_
                                refine k_get 12 i_X8 q_795 cmm rfl (by decide) rfl dX8_find_184 ?_
                                refine k_iload_n 3 2 dX8_find_187 rfl rfl ?_
                                refine k_lald x c6 rfl (by omega) (by omega) dX8_find_188 ?_
                                refine k_aload_n 1 0 dX8_find_189 rfl rfl ?_
                                refine k_get 12 i_X8 q_795 cmm rfl (by decide) rfl dX8_find_190 ?_
                                refine k_iload_n 2 1 dX8_find_193 rfl rfl ?_
                                refine k_lald t c6 rfl (by omega) (by omega) dX8_find_194 ?_
                                refine k_lcmp_le 203 dX8_find_195 dX8_find_196 (by decide) (inL_mk (by omega) (by omega)) (inL_mk (by omega) (by omega)) (fun h195 => ?_) (fun h195 => ?_)
                                · refine k_iconst dX8_find_203 ?_
                                  refine k_istore [(4, .int (iI 0)), (3, .int (iI 0)), (0, .ref mm), (1, .int (iI (t : Int))), (2, .int (iI (x : Int)))] dX8_find_204 (by decide) rfl ?_
                                  refine k_iload_n 1 3 dX8_find_206 rfl rfl ?_
                                  refine k_if_ne 218 dX8_find_207 (by decide) (inI_mk (by omega) (by omega)) (fun h207 => ?_) (fun h207 => ?_)
                                  · omega
                                  · refine k_iload 0 dX8_find_210 rfl ?_
                                    refine k_if_ne 218 dX8_find_212 (by decide) (inI_mk (by omega) (by omega)) (fun h212 => ?_) (fun h212 => ?_)
                                    · omega
                                    · refine k_goto 238 dX8_find_215 (by decide) ?_
                                      refine k_iinc 3 [(1, .int (iI ((t : Int) + 1))), (4, .int (iI 0)), (3, .int (iI 0)), (0, .ref mm), (2, .int (iI (x : Int)))] dX8_find_238 rfl (by decide) rfl ?_
                                      refine k_goto 77 dX8_find_241 (by decide) ?_
                                      refine k_perm [3, 0] [(0, .ref mm), (1, .int (iI ((t : Int) + 1)))] rfl ?_
                                      have hnx := nx_of (h := (hT σ.1)) (t := t) (e := x) (by omega) (by omega) (fun y hy1 hy2 => hrun y hy1 hy2) (Or.inr (by omega))
                                      have hwi := isW_of (h := (hT σ.1)) ht1.1 hnx (by omega)
                                      have hSW2 := hSW.no (fun q9 => by have q8 := hwi.mp q9; omega)
                                      exact ih77 f7 (t + 1) n TI9 ⟨by omega, by omega⟩ hSW2 hfr7 cmm c0 c1 c2 c3 c4 c5 c6 c7 (by omega)
                                · refine k_iconst dX8_find_199 ?_
                                  refine k_goto 204 dX8_find_200 (by decide) ?_
                                  refine k_istore [(4, .int (iI 1)), (3, .int (iI 0)), (0, .ref mm), (1, .int (iI (t : Int))), (2, .int (iI (x : Int)))] dX8_find_204 (by decide) rfl ?_
                                  refine k_iload_n 1 3 dX8_find_206 rfl rfl ?_
                                  refine k_if_ne 218 dX8_find_207 (by decide) (inI_mk (by omega) (by omega)) (fun h207 => ?_) (fun h207 => ?_)
                                  · omega
                                  · refine k_iload 0 dX8_find_210 rfl ?_
                                    refine k_if_ne 218 dX8_find_212 (by decide) (inI_mk (by omega) (by omega)) (fun h212 => ?_) (fun h212 => ?_)
                                    · refine k_aload_n 2 0 dX8_find_218 rfl rfl ?_
                                      refine k_get 14 i_X8 q_797 cmm rfl (by decide) rfl dX8_find_219 ?_
                                      refine k_aload_n 2 0 dX8_find_222 rfl rfl ?_
                                      refine k_get 13 i_X8 q_796 cmm rfl (by decide) rfl dX8_find_223 ?_
                                      refine k_iload_n 3 1 dX8_find_226 rfl rfl ?_
                                      refine k_iast n c7 rfl (by omega) (by omega) dX8_find_227 (fun f5 hf5 hc5 => ?_)
                                      have hr5 := k_fr.put hf5 c7
                                      replace cmm := cmm.fr hr5 rfl
                                      replace c0 := c0.fr hr5 rfl
                                      replace c1 := c1.fr hr5 rfl
                                      replace c2 := c2.fr hr5 rfl
                                      replace c3 := c3.fr hr5 rfl
                                      replace c4 := c4.fr hr5 rfl
                                      replace c5 := c5.fr hr5 rfl
                                      replace c6 := c6.fr hr5 rfl
                                      replace c7 : Cl L f5 (A 7) (29, .inl (κ.2.2.1 0, 4320, .inl (fun u9 => iI ((va_up TI9 n (t : Int)) u9)))) := hc5
                                      refine k_aload_n 2 0 dX8_find_228 rfl rfl ?_
                                      refine k_dup dX8_find_229 rfl ?_
                                      refine k_get 13 i_X8 q_796 cmm rfl (by decide) rfl dX8_find_230 ?_
                                      refine k_iconst dX8_find_233 ?_
                                      refine k_iadd dX8_find_234 ?_
                                      refine k_put 13 [.int (iI thr), .int (iI (σ.1.2.1 : Int)), .ref (A 0), .ref (A 1), .ref (A 2), .int (iI σ.1.1), .int (iI (σ.2.1 : Int)), .ref (A 3), .int (iI (σ.2.2.2.1 : Int)), .ref (A 4), .ref (A 5), .int (iI (bI true)), .ref (A 6), .int (iI ((n : Int) + 1)), .ref (A 7)] i_X8 tyX8_ok nmX8 q_796 cmm rfl (by decide) rfl rfl rfl rfl (Nat.le_of_ble_eq_true rfl) rfl dX8_find_235 (fun f6 hf6 hc6 => ?_)
                                      have hr6 := k_fr.put hf6 cmm
                                      replace c0 := c0.fr hr6 rfl
                                      replace c1 := c1.fr hr6 rfl
                                      replace c2 := c2.fr hr6 rfl
                                      replace c3 := c3.fr hr6 rfl
                                      replace c4 := c4.fr hr6 rfl
                                      replace c5 := c5.fr hr6 rfl
                                      replace c6 := c6.fr hr6 rfl
                                      replace c7 := c7.fr hr6 rfl
                                      replace cmm : Cl L f6 mm (21, .inr (9, [.int (iI thr), .int (iI (σ.1.2.1 : Int)), .ref (A 0), .ref (A 1), .ref (A 2), .int (iI σ.1.1), .int (iI (σ.2.1 : Int)), .ref (A 3), .int (iI (σ.2.2.2.1 : Int)), .ref (A 4), .ref (A 5), .int (iI (bI true)), .ref (A 6), .int (iI ((n : Int) + 1)), .ref (A 7)])) := hc6
                                      refine k_iinc 3 [(1, .int (iI ((t : Int) + 1))), (4, .int (iI 1)), (3, .int (iI 0)), (0, .ref mm), (2, .int (iI (x : Int)))] dX8_find_238 rfl (by decide) rfl ?_
                                      refine k_goto 77 dX8_find_241 (by decide) ?_
                                      refine k_perm [3, 0] [(0, .ref mm), (1, .int (iI ((t : Int) + 1)))] rfl ?_
                                      have hnx := nx_of (h := (hT σ.1)) (t := t) (e := x) (by omega) (by omega) (fun y hy1 hy2 => hrun y hy1 hy2) (Or.inr (by omega))
                                      have hwi := isW_of (h := (hT σ.1)) ht1.1 hnx (by omega)
                                      have hSW2 := hSW.yes (hwi.mpr (by omega)) (by omega)
                                      exact ih77 f6 (t + 1) (n + 1) (va_up TI9 n (t : Int)) ⟨by omega, by omega⟩ hSW2 (k_fr.trans (k_fr.trans hfr7 hr5 idf (SM_of rfl)) hr6 idf (SM_of rfl)) cmm c0 c1 c2 c3 c4 c5 c6 c7 (by omega)
                                    · omega
                            · refine k_iconst dX8_find_159 ?_
                              refine k_goto 164 dX8_find_160 (by decide) ?_
                              refine k_istore_n 3 [(3, .int (iI 1)), (0, .ref mm), (1, .int (iI (t : Int))), (2, .int (iI (x : Int)))] dX8_find_164 rfl (by decide) rfl ?_
                              refine k_aload_n 1 0 dX8_find_165 rfl rfl ?_
                              refine k_get 12 i_X8 q_795 cmm rfl (by decide) rfl dX8_find_166 ?_
                              refine k_iload_n 2 1 dX8_find_169 rfl rfl ?_
                              refine k_lald t c6 rfl (by omega) (by omega) dX8_find_170 ?_
                              refine k_aload_n 1 0 dX8_find_171 rfl rfl ?_
                              refine k_get 12 i_X8 q_795 cmm rfl (by decide) rfl dX8_find_172 ?_
                              refine k_iload_n 2 1 dX8_find_175 rfl rfl ?_
                              refine k_iconst dX8_find_176 ?_
                              refine k_isub dX8_find_177 ?_
                              refine k_lald (t - 1) c6 (by omega) (by omega) (by omega) dX8_find_178 ?_
                              refine k_lcmp_ge 203 dX8_find_179 dX8_find_180 (by decide) (inL_mk (by omega) (by omega)) (inL_mk (by omega) (by omega)) (fun h179 => ?_) (fun h179 => ?_)
                              · refine k_iconst dX8_find_203 ?_
                                refine k_istore [(4, .int (iI 0)), (3, .int (iI 1)), (0, .ref mm), (1, .int (iI (t : Int))), (2, .int (iI (x : Int)))] dX8_find_204 (by decide) rfl ?_
                                refine k_iload_n 1 3 dX8_find_206 rfl rfl ?_
                                refine k_if_ne 218 dX8_find_207 (by decide) (inI_mk (by omega) (by omega)) (fun h207 => ?_) (fun h207 => ?_)
                                · refine k_aload_n 2 0 dX8_find_218 rfl rfl ?_
                                  refine k_get 14 i_X8 q_797 cmm rfl (by decide) rfl dX8_find_219 ?_
                                  refine k_aload_n 2 0 dX8_find_222 rfl rfl ?_
                                  refine k_get 13 i_X8 q_796 cmm rfl (by decide) rfl dX8_find_223 ?_
                                  refine k_iload_n 3 1 dX8_find_226 rfl rfl ?_
                                  refine k_iast n c7 rfl (by omega) (by omega) dX8_find_227 (fun f7 hf7 hc7 => ?_)
                                  have hr7 := k_fr.put hf7 c7
                                  replace cmm := cmm.fr hr7 rfl
                                  replace c0 := c0.fr hr7 rfl
                                  replace c1 := c1.fr hr7 rfl
                                  replace c2 := c2.fr hr7 rfl
                                  replace c3 := c3.fr hr7 rfl
                                  replace c4 := c4.fr hr7 rfl
                                  replace c5 := c5.fr hr7 rfl
                                  replace c6 := c6.fr hr7 rfl
                                  replace c7 : Cl L f7 (A 7) (29, .inl (κ.2.2.1 0, 4320, .inl (fun u9 => iI ((va_up TI9 n (t : Int)) u9)))) := hc7
                                  refine k_aload_n 2 0 dX8_find_228 rfl rfl ?_
                                  refine k_dup dX8_find_229 rfl ?_
                                  refine k_get 13 i_X8 q_796 cmm rfl (by decide) rfl dX8_find_230 ?_
                                  refine k_iconst dX8_find_233 ?_
                                  refine k_iadd dX8_find_234 ?_
                                  refine k_put 13 [.int (iI thr), .int (iI (σ.1.2.1 : Int)), .ref (A 0), .ref (A 1), .ref (A 2), .int (iI σ.1.1), .int (iI (σ.2.1 : Int)), .ref (A 3), .int (iI (σ.2.2.2.1 : Int)), .ref (A 4), .ref (A 5), .int (iI (bI true)), .ref (A 6), .int (iI ((n : Int) + 1)), .ref (A 7)] i_X8 tyX8_ok nmX8 q_796 cmm rfl (by decide) rfl rfl rfl rfl (Nat.le_of_ble_eq_true rfl) rfl dX8_find_235 (fun f8 hf8 hc8 => ?_)
                                  have hr8 := k_fr.put hf8 cmm
                                  replace c0 := c0.fr hr8 rfl
                                  replace c1 := c1.fr hr8 rfl
                                  replace c2 := c2.fr hr8 rfl
                                  replace c3 := c3.fr hr8 rfl
                                  replace c4 := c4.fr hr8 rfl
                                  replace c5 := c5.fr hr8 rfl
                                  replace c6 := c6.fr hr8 rfl
                                  replace c7 := c7.fr hr8 rfl
                                  replace cmm : Cl L f8 mm (21, .inr (9, [.int (iI thr), .int (iI (σ.1.2.1 : Int)), .ref (A 0), .ref (A 1), .ref (A 2), .int (iI σ.1.1), .int (iI (σ.2.1 : Int)), .ref (A 3), .int (iI (σ.2.2.2.1 : Int)), .ref (A 4), .ref (A 5), .int (iI (bI true)), .ref (A 6), .int (iI ((n : Int) + 1)), .ref (A 7)])) := hc8
                                  refine k_iinc 3 [(1, .int (iI ((t : Int) + 1))), (4, .int (iI 0)), (3, .int (iI 1)), (0, .ref mm), (2, .int (iI (x : Int)))] dX8_find_238 rfl (by decide) rfl ?_
                                  refine k_goto 77 dX8_find_241 (by decide) ?_
                                  refine k_perm [3, 0] [(0, .ref mm), (1, .int (iI ((t : Int) + 1)))] rfl ?_
                                  have hnx := nx_of (h := (hT σ.1)) (t := t) (e := x) (by omega) (by omega) (fun y hy1 hy2 => hrun y hy1 hy2) (Or.inr (by omega))
                                  have hwi := isW_of (h := (hT σ.1)) ht1.1 hnx (by omega)
                                  have hSW2 := hSW.yes (hwi.mpr (by omega)) (by omega)
                                  exact ih77 f8 (t + 1) (n + 1) (va_up TI9 n (t : Int)) ⟨by omega, by omega⟩ hSW2 (k_fr.trans (k_fr.trans hfr7 hr7 idf (SM_of rfl)) hr8 idf (SM_of rfl)) cmm c0 c1 c2 c3 c4 c5 c6 c7 (by omega)
                                · omega
                              · refine k_aload_n 1 0 dX8_find_183 rfl rfl ?_
                                refine k_get 12 i_X8 q_795 cmm rfl (by decide) rfl dX8_find_184 ?_
                                refine k_iload_n 3 2 dX8_find_187 rfl rfl ?_
                                refine k_lald x c6 rfl (by omega) (by omega) dX8_find_188 ?_
                                refine k_aload_n 1 0 dX8_find_189 rfl rfl ?_
                                refine k_get 12 i_X8 q_795 cmm rfl (by decide) rfl dX8_find_190 ?_
                                refine k_iload_n 2 1 dX8_find_193 rfl rfl ?_
                                refine k_lald t c6 rfl (by omega) (by omega) dX8_find_194 ?_
                                refine k_lcmp_le 203 dX8_find_195 dX8_find_196 (by decide) (inL_mk (by omega) (by omega)) (inL_mk (by omega) (by omega)) (fun h195 => ?_) (fun h195 => ?_)
                                · refine k_iconst dX8_find_203 ?_
                                  refine k_istore [(4, .int (iI 0)), (3, .int (iI 1)), (0, .ref mm), (1, .int (iI (t : Int))), (2, .int (iI (x : Int)))] dX8_find_204 (by decide) rfl ?_
                                  refine k_iload_n 1 3 dX8_find_206 rfl rfl ?_
                                  refine k_if_ne 218 dX8_find_207 (by decide) (inI_mk (by omega) (by omega)) (fun h207 => ?_) (fun h207 => ?_)
                                  · refine k_aload_n 2 0 dX8_find_218 rfl rfl ?_
                                    refine k_get 14 i_X8 q_797 cmm rfl (by decide) rfl dX8_find_219 ?_
                                    refine k_aload_n 2 0 dX8_find_222 rfl rfl ?_
                                    refine k_get 13 i_X8 q_796 cmm rfl (by decide) rfl dX8_find_223 ?_
                                    refine k_iload_n 3 1 dX8_find_226 rfl rfl ?_
                                    refine k_iast n c7 rfl (by omega) (by omega) dX8_find_227 (fun f9 hf9 hc9 => ?_)
                                    have hr9 := k_fr.put hf9 c7
                                    replace cmm := cmm.fr hr9 rfl
                                    replace c0 := c0.fr hr9 rfl
                                    replace c1 := c1.fr hr9 rfl
                                    replace c2 := c2.fr hr9 rfl
                                    replace c3 := c3.fr hr9 rfl
                                    replace c4 := c4.fr hr9 rfl
                                    replace c5 := c5.fr hr9 rfl
                                    replace c6 := c6.fr hr9 rfl
                                    replace c7 : Cl L f9 (A 7) (29, .inl (κ.2.2.1 0, 4320, .inl (fun u9 => iI ((va_up TI9 n (t : Int)) u9)))) := hc9
                                    refine k_aload_n 2 0 dX8_find_228 rfl rfl ?_
                                    refine k_dup dX8_find_229 rfl ?_
                                    refine k_get 13 i_X8 q_796 cmm rfl (by decide) rfl dX8_find_230 ?_
                                    refine k_iconst dX8_find_233 ?_
                                    refine k_iadd dX8_find_234 ?_
                                    refine k_put 13 [.int (iI thr), .int (iI (σ.1.2.1 : Int)), .ref (A 0), .ref (A 1), .ref (A 2), .int (iI σ.1.1), .int (iI (σ.2.1 : Int)), .ref (A 3), .int (iI (σ.2.2.2.1 : Int)), .ref (A 4), .ref (A 5), .int (iI (bI true)), .ref (A 6), .int (iI ((n : Int) + 1)), .ref (A 7)] i_X8 tyX8_ok nmX8 q_796 cmm rfl (by decide) rfl rfl rfl rfl (Nat.le_of_ble_eq_true rfl) rfl dX8_find_235 (fun f10 hf10 hc10 => ?_)
                                    have hr10 := k_fr.put hf10 cmm
                                    replace c0 := c0.fr hr10 rfl
                                    replace c1 := c1.fr hr10 rfl
                                    replace c2 := c2.fr hr10 rfl
                                    replace c3 := c3.fr hr10 rfl
                                    replace c4 := c4.fr hr10 rfl
                                    replace c5 := c5.fr hr10 rfl
                                    replace c6 := c6.fr hr10 rfl
                                    replace c7 := c7.fr hr10 rfl
                                    replace cmm : Cl L f10 mm (21, .inr (9, [.int (iI thr), .int (iI (σ.1.2.1 : Int)), .ref (A 0), .ref (A 1), .ref (A 2), .int (iI σ.1.1), .int (iI (σ.2.1 : Int)), .ref (A 3), .int (iI (σ.2.2.2.1 : Int)), .ref (A 4), .ref (A 5), .int (iI (bI true)), .ref (A 6), .int (iI ((n : Int) + 1)), .ref (A 7)])) := hc10
                                    refine k_iinc 3 [(1, .int (iI ((t : Int) + 1))), (4, .int (iI 0)), (3, .int (iI 1)), (0, .ref mm), (2, .int (iI (x : Int)))] dX8_find_238 rfl (by decide) rfl ?_
                                    refine k_goto 77 dX8_find_241 (by decide) ?_
                                    refine k_perm [3, 0] [(0, .ref mm), (1, .int (iI ((t : Int) + 1)))] rfl ?_
                                    have hnx := nx_of (h := (hT σ.1)) (t := t) (e := x) (by omega) (by omega) (fun y hy1 hy2 => hrun y hy1 hy2) (Or.inr (by omega))
                                    have hwi := isW_of (h := (hT σ.1)) ht1.1 hnx (by omega)
                                    have hSW2 := hSW.yes (hwi.mpr (by omega)) (by omega)
                                    exact ih77 f10 (t + 1) (n + 1) (va_up TI9 n (t : Int)) ⟨by omega, by omega⟩ hSW2 (k_fr.trans (k_fr.trans hfr7 hr9 idf (SM_of rfl)) hr10 idf (SM_of rfl)) cmm c0 c1 c2 c3 c4 c5 c6 c7 (by omega)
                                  · omega
                                · refine k_iconst dX8_find_199 ?_
                                  refine k_goto 204 dX8_find_200 (by decide) ?_
                                  refine k_istore [(4, .int (iI 1)), (3, .int (iI 1)), (0, .ref mm), (1, .int (iI (t : Int))), (2, .int (iI (x : Int)))] dX8_find_204 (by decide) rfl ?_
                                  refine k_iload_n 1 3 dX8_find_206 rfl rfl ?_
                                  refine k_if_ne 218 dX8_find_207 (by decide) (inI_mk (by omega) (by omega)) (fun h207 => ?_) (fun h207 => ?_)
                                  · refine k_aload_n 2 0 dX8_find_218 rfl rfl ?_
                                    refine k_get 14 i_X8 q_797 cmm rfl (by decide) rfl dX8_find_219 ?_
                                    refine k_aload_n 2 0 dX8_find_222 rfl rfl ?_
                                    refine k_get 13 i_X8 q_796 cmm rfl (by decide) rfl dX8_find_223 ?_
                                    refine k_iload_n 3 1 dX8_find_226 rfl rfl ?_
                                    refine k_iast n c7 rfl (by omega) (by omega) dX8_find_227 (fun f11 hf11 hc11 => ?_)
                                    have hr11 := k_fr.put hf11 c7
                                    replace cmm := cmm.fr hr11 rfl
                                    replace c0 := c0.fr hr11 rfl
                                    replace c1 := c1.fr hr11 rfl
                                    replace c2 := c2.fr hr11 rfl
                                    replace c3 := c3.fr hr11 rfl
                                    replace c4 := c4.fr hr11 rfl
                                    replace c5 := c5.fr hr11 rfl
                                    replace c6 := c6.fr hr11 rfl
                                    replace c7 : Cl L f11 (A 7) (29, .inl (κ.2.2.1 0, 4320, .inl (fun u9 => iI ((va_up TI9 n (t : Int)) u9)))) := hc11
                                    refine k_aload_n 2 0 dX8_find_228 rfl rfl ?_
                                    refine k_dup dX8_find_229 rfl ?_
                                    refine k_get 13 i_X8 q_796 cmm rfl (by decide) rfl dX8_find_230 ?_
                                    refine k_iconst dX8_find_233 ?_
                                    refine k_iadd dX8_find_234 ?_
                                    refine k_put 13 [.int (iI thr), .int (iI (σ.1.2.1 : Int)), .ref (A 0), .ref (A 1), .ref (A 2), .int (iI σ.1.1), .int (iI (σ.2.1 : Int)), .ref (A 3), .int (iI (σ.2.2.2.1 : Int)), .ref (A 4), .ref (A 5), .int (iI (bI true)), .ref (A 6), .int (iI ((n : Int) + 1)), .ref (A 7)] i_X8 tyX8_ok nmX8 q_796 cmm rfl (by decide) rfl rfl rfl rfl (Nat.le_of_ble_eq_true rfl) rfl dX8_find_235 (fun f12 hf12 hc12 => ?_)
                                    have hr12 := k_fr.put hf12 cmm
                                    replace c0 := c0.fr hr12 rfl
                                    replace c1 := c1.fr hr12 rfl
                                    replace c2 := c2.fr hr12 rfl
                                    replace c3 := c3.fr hr12 rfl
                                    replace c4 := c4.fr hr12 rfl
                                    replace c5 := c5.fr hr12 rfl
                                    replace c6 := c6.fr hr12 rfl
                                    replace c7 := c7.fr hr12 rfl
                                    replace cmm : Cl L f12 mm (21, .inr (9, [.int (iI thr), .int (iI (σ.1.2.1 : Int)), .ref (A 0), .ref (A 1), .ref (A 2), .int (iI σ.1.1), .int (iI (σ.2.1 : Int)), .ref (A 3), .int (iI (σ.2.2.2.1 : Int)), .ref (A 4), .ref (A 5), .int (iI (bI true)), .ref (A 6), .int (iI ((n : Int) + 1)), .ref (A 7)])) := hc12
                                    refine k_iinc 3 [(1, .int (iI ((t : Int) + 1))), (4, .int (iI 1)), (3, .int (iI 1)), (0, .ref mm), (2, .int (iI (x : Int)))] dX8_find_238 rfl (by decide) rfl ?_
                                    refine k_goto 77 dX8_find_241 (by decide) ?_
                                    refine k_perm [3, 0] [(0, .ref mm), (1, .int (iI ((t : Int) + 1)))] rfl ?_
                                    have hnx := nx_of (h := (hT σ.1)) (t := t) (e := x) (by omega) (by omega) (fun y hy1 hy2 => hrun y hy1 hy2) (Or.inr (by omega))
                                    have hwi := isW_of (h := (hT σ.1)) ht1.1 hnx (by omega)
                                    have hSW2 := hSW.yes (hwi.mpr (by omega)) (by omega)
                                    exact ih77 f12 (t + 1) (n + 1) (va_up TI9 n (t : Int)) ⟨by omega, by omega⟩ hSW2 (k_fr.trans (k_fr.trans hfr7 hr11 idf (SM_of rfl)) hr12 idf (SM_of rfl)) cmm c0 c1 c2 c3 c4 c5 c6 c7 (by omega)
                                  · omega
                        · omega
                      · refine k_iinc 2 [(2, .int (iI ((x : Int) + 1))), (0, .ref mm), (1, .int (iI (t : Int)))] dX8_find_111 rfl (by decide) rfl ?_
                        refine k_goto 88 dX8_find_114 (by decide) ?_
                        refine k_perm [1, 2, 0] [(0, .ref mm), (1, .int (iI (t : Int))), (2, .int (iI ((x : Int) + 1)))] rfl ?_
                        have hrun2 : ∀ y, t + 1 ≤ y → y < x + 1 → (hT σ.1) y = (hT σ.1) t := fun y hy1 hy2 => by
                          by_cases q : y = x
                          · subst q
                            omega
                          · exact hrun y hy1 (by omega)
                        exact ih88 (x + 1) ⟨by omega, by omega⟩ hrun2 (by omega)
                refine k_perm [1, 2, 0] [(0, .ref mm), (1, .int (iI (t : Int))), (2, .int (iI ((t + 1 : Nat) : Int)))] rfl ?_
                exact lp88 _ (t + 1) ⟨by omega, by omega⟩ (fun y hy1 hy2 => absurd hy2 (by omega)) (Nat.lt_succ_self _)
          refine k_perm [1, 0] [(0, .ref mm), (1, .int (iI 1))] rfl ?_
          exact lp77 _ f2 1 0 TI ⟨by omega, by omega⟩ ⟨rfl, fun k hk => absurd hk (Nat.not_lt_zero _)⟩ (k_fr.trans hfr9 hr2 idf (SM_of rfl)) cmm c0 c1 c2 c3 c4 c5 c6 c7 (Nat.lt_succ_self _)
        · refine k_aload_n 0 0 dX8_find_22 rfl rfl ?_
          refine k_get 12 i_X8 q_795 cmm rfl (by decide) rfl dX8_find_23 ?_
          refine k_iload_n 1 1 dX8_find_26 rfl rfl ?_
          refine k_aload_n 0 0 dX8_find_27 rfl rfl ?_
          refine k_get 5 i_X8 q_788 cmm rfl (by decide) rfl dX8_find_28 ?_
          refine k_i2l dX8_find_31 (inI_mk (by omega) (by omega)) ?_
          refine k_last i c6 rfl (by omega) (by omega) dX8_find_32 (fun f13 hf13 hc13 => ?_)
          have hr13 := k_fr.put hf13 c6
          replace cmm := cmm.fr hr13 rfl
          replace c0 := c0.fr hr13 rfl
          replace c1 := c1.fr hr13 rfl
          replace c2 := c2.fr hr13 rfl
          replace c3 := c3.fr hr13 rfl
          replace c4 := c4.fr hr13 rfl
          replace c5 := c5.fr hr13 rfl
          replace c7 := c7.fr hr13 rfl
          replace c6 : Cl L f13 (A 6) (28, .inl (κ.2.2.1 1, 4320, .inr (.inl (fun u9 => lI ((va_up HS9 i σ.1.1) u9))))) := hc13
          have hH7 : (∀ t, t < i → va_up HS9 i σ.1.1 t = (hT σ.1) t) ∧ va_up HS9 i σ.1.1 i = htw σ.1 (i : Int) 0 := ⟨fun t ht => (va_up_ne _ _ (by omega)).trans (hH9 t ht), va_up_self _ _ _⟩
          refine k_iconst dX8_find_33 ?_
          refine k_istore_n 2 [(2, .int (iI 0)), (0, .ref mm), (1, .int (iI (i : Int)))] dX8_find_34 rfl (by decide) rfl ?_
          have lp35 : ∀ (fuel : Nat) (f8 : Nat → wE) (w : Nat) (HS8 : Nat → Int), (w ≤ σ.1.2.1) → ((∀ t, t < i → HS8 t = (hT σ.1) t) ∧ HS8 i = htw σ.1 (i : Int) w) → (k_fr SM L f L f8) → (Cl L f8 mm (21, .inr (9, [.int (iI thr), .int (iI (σ.1.2.1 : Int)), .ref (A 0), .ref (A 1), .ref (A 2), .int (iI σ.1.1), .int (iI (σ.2.1 : Int)), .ref (A 3), .int (iI (σ.2.2.2.1 : Int)), .ref (A 4), .ref (A 5), .int (iI (bI true)), .ref (A 6), .int (iI wts), .ref (A 7)]))) → (Cl L f8 (A 0) (22, .inl (κ.2.2.1 0, 8, .inl (fun u9 => iI (RA u9))))) → (Cl L f8 (A 1) (23, .inl (κ.2.2.1 0, 8, .inl (fun u9 => iI (PE u9))))) → (Cl L f8 (A 2) (24, .inl (κ.2.2.1 0, 8, .inl (fun u9 => iI (OF u9))))) → (Cl L f8 (A 3) (25, .inl (κ.2.2.1 0, 30, .inl (fun u9 => iI (TA u9))))) → (Cl L f8 (A 4) (26, .inl (κ.2.2.1 0, 40, .inl (fun u9 => iI (RT u9))))) → (Cl L f8 (A 5) (27, .inl (κ.2.2.1 0, 40, .inl (fun u9 => iI (RH u9))))) → (Cl L f8 (A 6) (28, .inl (κ.2.2.1 1, 4320, .inr (.inl (fun u9 => lI (HS8 u9)))))) → (Cl L f8 (A 7) (29, .inl (κ.2.2.1 0, 4320, .inl (fun u9 => iI (TI u9))))) → σ.1.2.1 - w < fuel → k_G θ κ cX8_find 5 none RX8 (k_rm 3 0 0) (k_MQ θ κ (k_ru (fun L' f' => L' = L ∧ MSf κ L' f' mm thr σ ∧ k_fr SM L f L' f')) 0 0) L f8 0 0 35 [(0, .ref mm), (1, .int (iI (i : Int))), (2, .int (iI (w : Int)))] [] := by
            intro fuel
            induction fuel with
            | zero =>
              intro f8 w HS8 hw1 hH8 hfr8 cmm c0 c1 c2 c3 c4 c5 c6 c7 hfu
              exact absurd hfu (Nat.not_lt_zero _)
            | succ fuel ih35 =>
              intro f8 w HS8 hw1 hH8 hfr8 cmm c0 c1 c2 c3 c4 c5 c6 c7 hfu
              refine k_iload_n 2 2 dX8_find_35 rfl rfl ?_
              refine k_aload_n 0 0 dX8_find_36 rfl rfl ?_
              refine k_get 1 i_X8 q_784 cmm rfl (by decide) rfl dX8_find_37 ?_
              refine k_icmp_ge 64 dX8_find_40 (by decide) (inI_mk (by omega) (by omega)) (inI_mk (by omega) (by omega)) (fun h40 => ?_) (fun h40 => ?_)
              · refine k_iinc 1 [(1, .int (iI ((i : Int) + 1))), (0, .ref mm), (2, .int (iI (w : Int)))] dX8_find_64 rfl (by decide) rfl ?_
                refine k_goto 15 dX8_find_67 (by decide) ?_
                refine k_perm [1, 0] [(0, .ref mm), (1, .int (iI ((i : Int) + 1)))] rfl ?_
                have hH2 : ∀ t, t < i + 1 → HS8 t = (hT σ.1) t := fun t ht => by
                  by_cases q : t = i
                  · subst q
                    rw [hH8.2, show w = σ.1.2.1 by omega]
                    rfl
                  · exact hH8.1 t (by omega)
                exact ih15 f8 (i + 1) HS8 (by omega) hH2 hfr8 cmm c0 c1 c2 c3 c4 c5 c6 c7 (by omega)
              · refine k_aload_n 0 0 dX8_find_43 rfl rfl ?_
                refine k_get 12 i_X8 q_795 cmm rfl (by decide) rfl dX8_find_44 ?_
                refine k_iload_n 1 1 dX8_find_47 rfl rfl ?_
                refine k_dup2 dX8_find_48 rfl rfl ?_
                refine k_lald i c6 rfl (by omega) (by omega) dX8_find_49 ?_
                refine k_aload_n 0 0 dX8_find_50 rfl rfl ?_
                refine k_iload_n 2 2 dX8_find_51 rfl rfl ?_
                refine k_iload_n 1 1 dX8_find_52 rfl rfl ?_
                refine k_useR (k_runV (c_X8_waveAt θ.2.1 κ (r := (σ.1.2.2.1 w)) (p := (σ.1.2.2.2.1 w)) (o := (σ.1.2.2.2.2 w)) (w := w) (t := i) (mm := mm) cmm c0 c1 c2 (by omega) (hMa w (by omega)).1 (hMa w (by omega)).2.1 (hMa w (by omega)).2.2 (hs1.2.2 w (by omega)) (by omega)) w_X8_80 ⟨q_876, q_21⟩ rfl rfl cmm rfl ⟨(Nat.le_of_ble_eq_true rfl), (Nat.le_of_ble_eq_true rfl)⟩ (Nat.le_of_ble_eq_true rfl) dX8_find_53) ⟨(Nat.le_of_ble_eq_true rfl), (Nat.le_of_ble_eq_true rfl)⟩ ?_
                refine k_ladd dX8_find_56 ?_
                refine k_last i c6 rfl (by omega) (by omega) dX8_find_57 (fun f14 hf14 hc14 => ?_)
                have hr14 := k_fr.put hf14 c6
                replace cmm := cmm.fr hr14 rfl
                replace c0 := c0.fr hr14 rfl
                replace c1 := c1.fr hr14 rfl
                replace c2 := c2.fr hr14 rfl
                replace c3 := c3.fr hr14 rfl
                replace c4 := c4.fr hr14 rfl
                replace c5 := c5.fr hr14 rfl
                replace c7 := c7.fr hr14 rfl
                replace c6 : Cl L f14 (A 6) (28, .inl (κ.2.2.1 1, 4320, .inr (.inl (fun u9 => lI ((va_up HS8 i ((HS8 i) + wvH (σ.1.2.2.1 w) (σ.1.2.2.2.1 w) (σ.1.2.2.2.2 w) (i : Int))) u9))))) := hc14
                refine k_iinc 2 [(2, .int (iI ((w : Int) + 1))), (0, .ref mm), (1, .int (iI (i : Int)))] dX8_find_58 rfl (by decide) rfl ?_
                refine k_goto 35 dX8_find_61 (by decide) ?_
                refine k_perm [1, 2, 0] [(0, .ref mm), (1, .int (iI (i : Int))), (2, .int (iI ((w : Int) + 1)))] rfl ?_
                have hH3 : (∀ t, t < i → (va_up HS8 i ((HS8 i) + wvH (σ.1.2.2.1 w) (σ.1.2.2.2.1 w) (σ.1.2.2.2.2 w) (i : Int))) t = (hT σ.1) t) ∧ (va_up HS8 i ((HS8 i) + wvH (σ.1.2.2.1 w) (σ.1.2.2.2.1 w) (σ.1.2.2.2.2 w) (i : Int))) i = htw σ.1 (i : Int) (w + 1) := ⟨fun t ht => (va_up_ne _ _ (by omega)).trans (hH8.1 t ht), (va_up_self _ _ _).trans (by rw [hH8.2]; rfl)⟩
                exact ih35 f14 (w + 1) (va_up HS8 i ((HS8 i) + wvH (σ.1.2.2.1 w) (σ.1.2.2.2.1 w) (σ.1.2.2.2.2 w) (i : Int))) (by omega) hH3 (k_fr.trans hfr8 hr14 idf (SM_of rfl)) cmm c0 c1 c2 c3 c4 c5 c6 c7 (by omega)
          refine k_perm [1, 2, 0] [(0, .ref mm), (1, .int (iI (i : Int))), (2, .int (iI 0))] rfl ?_
          exact lp35 _ f13 0 (va_up HS9 i σ.1.1) (Nat.zero_le _) hH7 (k_fr.trans hfr9 hr13 idf (SM_of rfl)) cmm c0 c1 c2 c3 c4 c5 c6 c7 (Nat.lt_succ_self _)
    refine k_perm [1, 0] [(0, .ref mm), (1, .int (iI 0))] rfl ?_
    exact lp15 _ f1 0 HS (Nat.zero_le _) (fun t ht => absurd ht (Nat.not_lt_zero _)) (k_fr.mono hr1 (SM_of rfl)) cmm c0 c1 c2 c3 c4 c5 c6 c7 (Nat.lt_succ_self _)
  · exact k_vret dX8_find_7 rfl (Nat.le_of_ble_eq_true rfl) (Nat.le_of_ble_eq_true rfl) (⟨rfl, rfl, by rw [h4, (hfrs h4).1] at cmm; exact ⟨A, RA, PE, OF, TA, RT, RH, HS, TI, ⟨cmm, c0, c1, c2, c3, c4, c5, c6, c7⟩, ⟨hMa, hMb, hMc, hMd⟩, (hfrs h4).2⟩, k_fr.refl⟩)
set_option maxHeartbeats 4000000 in
set_option maxRecDepth 100000 in
theorem c_X8_find_f (la : Launch) (κ : Kx) {L : List Nat} {f : Nat → wE} {mm : Nat} {thr : Int} {σ : Sg}   (hMf : MSf κ L f mm thr σ)  : k_M la κ yX8_find cX8_find 5 none 1 0 0 [.ref mm] L f (k_ru (fun L' f' => L' = L ∧ f' = f)) := by
  refine k_head RX8 [(0, .ref mm)] rfl (by decide) (Nat.le_of_ble_eq_true rfl) rfl (fun θ hθ hin => ?_)
  obtain ⟨A, RA, PE, OF, TA, RT, RH, HS, TI, ⟨cmm, c0, c1, c2, c3, c4, c5, c6, c7⟩, ⟨hMa, hMb, hMc, hMd⟩, hHS, hTI⟩ := id hMf
  refine k_aload_n 0 0 dX8_find_0 rfl rfl ?_
  refine k_get 11 i_X8 q_794 cmm rfl (by decide) rfl dX8_find_1 ?_
  refine k_ifb_eq 8 dX8_find_4 (by decide) (fun h4 => ?_) (fun h4 => ?_)
  · exact absurd h4 (by decide)
  · exact k_vret dX8_find_7 rfl (Nat.le_of_ble_eq_true rfl) (Nat.le_of_ble_eq_true rfl) (⟨rfl, rfl, rfl⟩)
