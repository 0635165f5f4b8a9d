def mixI (h : Nat → Int) (k : Nat) (d : Int) : Nat → Int
  | 0 => d
  | n + 1 => mixI h k d n * 31 + aWater h k (n : Int)
theorem mixI_3 (h : Nat → Int) (k : Nat) (d : Int) : mixI h k d 3 = ((d * 31 + (tm h k : Int)) * 31 + h (tm h k)) * 31 + bI (hi h k) := by
  have e0 : aWater h k ((0 : Nat) : Int) = (tm h k : Int) := rfl
  have e1 : aWater h k ((1 : Nat) : Int) = h (tm h k) := rfl
  have e2 : aWater h k ((2 : Nat) : Int) = bI (hi h k) := rfl
  simp only [mixI, e0, e1, e2]
theorem aW_bd {h : Nat → Int} (hb : ∀ t, -50000 ≤ h t ∧ h t ≤ 50000) {k : Nat} (hk : k < nW h) (what : Int) : -50000 ≤ aWater h k what ∧ aWater h k what ≤ 50000 := by
  have h1 := (tm_spec hk).1
  have h2 := hb (tm h k)
  have h3 : 0 ≤ bI (hi h k) ∧ bI (hi h k) ≤ 1 := by cases hi h k <;> exact ⟨by decide, by decide⟩
  unfold aWater
  repeat' split
  all_goals omega
set_option maxHeartbeats 4000000 in
set_option maxRecDepth 100000 in
theorem c_X8_digest (la : Launch) (κ : Kx) {L : List Nat} {f : Nat → wE} {mm : Nat} {thr : Int} {σ : Sg}   (hM : MS κ L f mm thr σ) (hs : SgOk σ) : k_M la κ yX8_digest cX8_digest 5 (some .long) 8 0 0 [.ref mm] L f (k_rn (fun v9 L' f' => v9 = .long (lI (digS σ)) ∧ L' = L ∧ k_fr SM L f L' f' ∧ MS κ L' f' mm 0 σ)) := by
  refine k_head RX8 [(0, .ref mm)] rfl (by decide) (Nat.le_of_ble_eq_true rfl) rfl (fun θ hθ hin => ?_)
  obtain ⟨A, fr, wts, RA, PE, OF, TA, RT, RH, HS, TI, ⟨cmm, c0, c1, c2, c3, c4, c5, c6, c7⟩, ⟨hMa, hMb, hMc, hMd⟩, hfrs⟩ := id hM
  obtain ⟨hs1, ⟨hs2, hs3⟩, hs4⟩ := id hs
  have hs5 := hs1.2.1
  have hs6 := hs4.1
  have hs7 := nW_le (hT σ.1)
  have hs8 := hs1.1
  refine k_aload_n 0 0 dX8_digest_0 rfl rfl ?_
  refine k_iconst dX8_digest_1 ?_
  refine k_put 0 [.int (iI 0), .int (iI (σ.1.2.1 : Int)), .ref (A 0), .ref (A 1), .ref (A 2), .int (iI σ.1.1), .int (iI (σ.2.1 : Int)), .ref (A 3), .int (iI (σ.2.2.2.1 : Int)), .ref (A 4), .ref (A 5), .int (iI (bI fr)), .ref (A 6), .int (iI wts), .ref (A 7)] i_X8 tyX8_ok nmX8 q_783 cmm rfl (by decide) rfl rfl rfl rfl (Nat.le_of_ble_eq_true rfl) rfl dX8_digest_2 (fun f1 hf1 hc1 => ?_)
  have hr1 := k_fr.put hf1 cmm
  replace c0 := c0.fr hr1 rfl
  replace c1 := c1.fr hr1 rfl
  replace c2 := c2.fr hr1 rfl
  replace c3 := c3.fr hr1 rfl
  replace c4 := c4.fr hr1 rfl
  replace c5 := c5.fr hr1 rfl
  replace c6 := c6.fr hr1 rfl
  replace c7 := c7.fr hr1 rfl
  replace cmm : Cl L f1 mm (21, .inr (9, [.int (iI 0), .int (iI (σ.1.2.1 : Int)), .ref (A 0), .ref (A 1), .ref (A 2), .int (iI σ.1.1), .int (iI (σ.2.1 : Int)), .ref (A 3), .int (iI (σ.2.2.2.1 : Int)), .ref (A 4), .ref (A 5), .int (iI (bI fr)), .ref (A 6), .int (iI wts), .ref (A 7)])) := hc1
  have hM0 : MS κ L f1 mm 0 σ := ⟨A, fr, wts, RA, PE, OF, TA, RT, RH, HS, TI, ⟨cmm, c0, c1, c2, c3, c4, c5, c6, c7⟩, ⟨hMa, hMb, hMc, hMd⟩, hfrs⟩
  replace hM := hM0
  refine k_ldc2 313 q_1027 (by decide) dX8_digest_5 ?_
  refine k_lstore_n 1 [(1, .long (lI 313)), (0, .ref mm)] dX8_digest_8 rfl (by decide) rfl ?_
  refine k_iconst dX8_digest_9 ?_
  refine k_istore_n 3 [(3, .int (iI 0)), (1, .long (lI 313)), (0, .ref mm)] dX8_digest_10 rfl (by decide) rfl ?_
  have lp11 : ∀ (fuel : Nat) (fw : Nat → wE) (k : Nat), (k ≤ 4) → (0 < k → MSf κ L fw mm 0 σ) → (k_fr SM L f L fw) → (MS κ L fw mm 0 σ) → 4 - k < fuel → k_G θ κ cX8_digest 5 (some .long) RX8 (k_rm 8 0 0) (k_MQ θ κ (k_rn (fun v9 L' f' => v9 = .long (lI (digS σ)) ∧ L' = L ∧ k_fr SM L f L' f' ∧ MS κ L' f' mm 0 σ)) 0 0) L fw 0 0 11 [(0, .ref mm), (1, .long (lI (mixN σ k))), (3, .int (iI (k : Int)))] [] := by
    intro fuel
    induction fuel with
    | zero =>
      intro fw k hk hF hfr hM hfu
      exact absurd hfu (Nat.not_lt_zero _)
    | succ fuel ih11 =>
      intro fw k hk hF hfr hM hfu
      refine k_iload_n 2 3 dX8_digest_11 rfl rfl ?_
      refine k_iconst dX8_digest_12 ?_
      refine k_icmp_ge 35 dX8_digest_13 (by decide) (inI_mk (by omega) (by omega)) (inI_mk (by omega) (by omega)) (fun h13 => ?_) (fun h13 => ?_)
      · have ek4 : k = 4 := by omega
        subst ek4
        have hMf := hF (by omega)
        obtain ⟨A, RA, PE, OF, TA, RT, RH, HS, TI, ⟨cmm, c0, c1, c2, c3, c4, c5, c6, c7⟩, ⟨hMa, hMb, hMc, hMd⟩, hHS, hTI⟩ := id hMf
        refine k_lload_n 1 1 dX8_digest_35 rfl rfl ?_
        refine k_ldc2 31 q_1028 (by decide) dX8_digest_36 ?_
        refine k_lmul dX8_digest_39 ?_
        refine k_aload_n 0 0 dX8_digest_40 rfl rfl ?_
        refine k_get 5 i_X8 q_788 cmm rfl (by decide) rfl dX8_digest_41 ?_
        refine k_i2l dX8_digest_44 (inI_mk (by omega) (by omega)) ?_
        refine k_ladd dX8_digest_45 ?_
        refine k_lstore_n 1 [(1, .long (lI (((mixN σ 4) * 31) + σ.1.1))), (0, .ref mm), (3, .int (iI (4 : Int)))] dX8_digest_46 rfl (by decide) rfl ?_
        refine k_iconst dX8_digest_47 ?_
        refine k_istore_n 3 [(3, .int (iI 0)), (1, .long (lI (((mixN σ 4) * 31) + σ.1.1))), (0, .ref mm)] dX8_digest_48 rfl (by decide) rfl ?_
        have lp49 : ∀ (fuel : Nat) (k : Nat) (md : Int), (k ≤ nW (hT σ.1)) → (md = mixW (hT σ.1) (mixN σ 4 * 31 + σ.1.1) k) → nW (hT σ.1) - k < fuel → k_G θ κ cX8_digest 5 (some .long) RX8 (k_rm 8 0 0) (k_MQ θ κ (k_rn (fun v9 L' f' => v9 = .long (lI (digS σ)) ∧ L' = L ∧ k_fr SM L f L' f' ∧ MS κ L' f' mm 0 σ)) 0 0) L fw 0 0 49 [(0, .ref mm), (1, .long (lI md)), (3, .int (iI (k : Int)))] [] := by
          intro fuel
          induction fuel with
          | zero =>
            intro k md hk hmd hfu
            exact absurd hfu (Nat.not_lt_zero _)
          | succ fuel ih49 =>
            intro k md hk hmd hfu
            refine k_iload_n 2 3 dX8_digest_49 rfl rfl ?_
            refine k_aload_n 0 0 dX8_digest_50 rfl rfl ?_
            refine k_get 13 i_X8 q_796 cmm rfl (by decide) rfl dX8_digest_51 ?_
            refine k_icmp_ge 93 dX8_digest_54 (by decide) (inI_mk (by omega) (by omega)) (inI_mk (by omega) (by omega)) (fun h54 => ?_) (fun h54 => ?_)
            · refine k_iconst dX8_digest_93 ?_
              refine k_istore_n 3 [(3, .int (iI 0)), (0, .ref mm), (1, .long (lI md))] dX8_digest_94 rfl (by decide) rfl ?_
              have lp95 : ∀ (fuel : Nat) (j : Nat) (md : Int), (j ≤ σ.2.1) → (md = mixP (hT σ.1) σ.2.2.1 (mixW (hT σ.1) (mixN σ 4 * 31 + σ.1.1) (nW (hT σ.1))) j) → σ.2.1 - j < fuel → k_G θ κ cX8_digest 5 (some .long) RX8 (k_rm 8 0 0) (k_MQ θ κ (k_rn (fun v9 L' f' => v9 = .long (lI (digS σ)) ∧ L' = L ∧ k_fr SM L f L' f' ∧ MS κ L' f' mm 0 σ)) 0 0) L fw 0 0 95 [(0, .ref mm), (1, .long (lI md)), (3, .int (iI (j : Int)))] [] := by
                intro fuel
                induction fuel with
                | zero =>
                  intro j md hj hmd hfu
                  exact absurd hfu (Nat.not_lt_zero _)
                | succ fuel ih95 =>
                  intro j md hj hmd hfu
                  refine k_iload_n 2 3 dX8_digest_95 rfl rfl ?_
                  refine k_aload_n 0 0 dX8_digest_96 rfl rfl ?_
                  refine k_get 6 i_X8 q_789 cmm rfl (by decide) rfl dX8_digest_97 ?_
                  refine k_icmp_ge 174 dX8_digest_100 (by decide) (inI_mk (by omega) (by omega)) (inI_mk (by omega) (by omega)) (fun h100 => ?_) (fun h100 => ?_)
                  · have emd : md = (mixP (hT σ.1) σ.2.2.1 (mixW (hT σ.1) (mixN σ 4 * 31 + σ.1.1) (nW (hT σ.1))) σ.2.1) := by rw [hmd, show j = σ.2.1 by omega]
                    subst emd
                    refine k_iconst dX8_digest_174 ?_
                    refine k_istore_n 3 [(3, .int (iI 0)), (0, .ref mm), (1, .long (lI (mixP (hT σ.1) σ.2.2.1 (mixW (hT σ.1) (mixN σ 4 * 31 + σ.1.1) (nW (hT σ.1))) σ.2.1)))] dX8_digest_175 rfl (by decide) rfl ?_
                    have lp176 : ∀ (fuel : Nat) (i : Nat), (i ≤ 5) → 5 - i < fuel → k_G θ κ cX8_digest 5 (some .long) RX8 (k_rm 8 0 0) (k_MQ θ κ (k_rn (fun v9 L' f' => v9 = .long (lI (digS σ)) ∧ L' = L ∧ k_fr SM L f L' f' ∧ MS κ L' f' mm 0 σ)) 0 0) L fw 0 0 176 [(0, .ref mm), (1, .long (lI (mixD (hT σ.1) (mixP (hT σ.1) σ.2.2.1 (mixW (hT σ.1) (mixN σ 4 * 31 + σ.1.1) (nW (hT σ.1))) σ.2.1) i))), (3, .int (iI (i : Int)))] [] := by
                      intro fuel
                      induction fuel with
                      | zero =>
                        intro i hi hfu
                        exact absurd hfu (Nat.not_lt_zero _)
                      | succ fuel ih176 =>
                        intro i hi hfu
                        refine k_iload_n 2 3 dX8_digest_176 rfl rfl ?_
                        refine k_iconst dX8_digest_177 ?_
                        refine k_icmp_ge 200 dX8_digest_178 (by decide) (inI_mk (by omega) (by omega)) (inI_mk (by omega) (by omega)) (fun h178 => ?_) (fun h178 => ?_)
                        · refine k_lload_n 1 1 dX8_digest_200 rfl rfl ?_
                          exact k_lret dX8_digest_201 rfl (Nat.le_of_ble_eq_true rfl) (Nat.le_of_ble_eq_true rfl) (⟨_, rfl, (by rw [digS, show i = 5 by omega]), rfl, hfr, hMf.ms⟩)
                        · refine k_lload_n 1 1 dX8_digest_181 rfl rfl ?_
                          refine k_ldc2 31 q_1028 (by decide) dX8_digest_182 ?_
                          refine k_lmul dX8_digest_185 ?_
                          refine k_aload_n 0 0 dX8_digest_186 rfl rfl ?_
                          refine k_iload_n 2 3 dX8_digest_187 rfl rfl ?_
                          refine k_useR (k_runV (c_X8_datumOf_f θ.2.1 κ (mm := mm) (what := (i : Int)) hMf hs ⟨by omega, by omega⟩) w_X8_130 ⟨q_915, q_25⟩ rfl rfl cmm rfl ⟨(Nat.le_of_ble_eq_true rfl), (Nat.le_of_ble_eq_true rfl)⟩ (Nat.le_of_ble_eq_true rfl) dX8_digest_188) ⟨(Nat.le_of_ble_eq_true rfl), (Nat.le_of_ble_eq_true rfl)⟩ ?_
                          have hdb := datum_bd (hT_bd hs1) (i : Int)
                          refine k_i2l dX8_digest_191 (inI_mk (by omega) (by omega)) ?_
                          refine k_ladd dX8_digest_192 ?_
                          refine k_lstore_n 1 [(1, .long (lI (((mixD (hT σ.1) (mixP (hT σ.1) σ.2.2.1 (mixW (hT σ.1) (mixN σ 4 * 31 + σ.1.1) (nW (hT σ.1))) σ.2.1) i) * 31) + dat (hT σ.1) (i : Int)))), (0, .ref mm), (3, .int (iI (i : Int)))] dX8_digest_193 rfl (by decide) rfl ?_
                          refine k_iinc 2 [(3, .int (iI ((i : Int) + 1))), (1, .long (lI (((mixD (hT σ.1) (mixP (hT σ.1) σ.2.2.1 (mixW (hT σ.1) (mixN σ 4 * 31 + σ.1.1) (nW (hT σ.1))) σ.2.1) i) * 31) + dat (hT σ.1) (i : Int)))), (0, .ref mm)] dX8_digest_194 rfl (by decide) rfl ?_
                          refine k_goto 176 dX8_digest_197 (by decide) ?_
                          refine k_perm [2, 1, 0] [(0, .ref mm), (1, .long (lI (((mixD (hT σ.1) (mixP (hT σ.1) σ.2.2.1 (mixW (hT σ.1) (mixN σ 4 * 31 + σ.1.1) (nW (hT σ.1))) σ.2.1) i) * 31) + dat (hT σ.1) (i : Int)))), (3, .int (iI ((i : Int) + 1)))] rfl ?_
                          exact ih176 (i + 1) (by omega) (by omega)
                    refine k_perm [1, 2, 0] [(0, .ref mm), (1, .long (lI (mixP (hT σ.1) σ.2.2.1 (mixW (hT σ.1) (mixN σ 4 * 31 + σ.1.1) (nW (hT σ.1))) σ.2.1))), (3, .int (iI 0))] rfl ?_
                    exact lp176 _ 0 (by omega) (Nat.lt_succ_self _)
                  · refine k_lload_n 1 1 dX8_digest_103 rfl rfl ?_
                    refine k_ldc2 31 q_1028 (by decide) dX8_digest_104 ?_
                    refine k_lmul dX8_digest_107 ?_
                    refine k_aload_n 0 0 dX8_digest_108 rfl rfl ?_
                    refine k_iload_n 2 3 dX8_digest_109 rfl rfl ?_
                    refine k_useR (k_runV (c_X8_isOrdered_f θ.2.1 κ (p := j) (mm := mm) hMf hs (by omega)) w_X8_149 ⟨q_959, q_30⟩ rfl rfl cmm rfl ⟨(Nat.le_of_ble_eq_true rfl), (Nat.le_of_ble_eq_true rfl)⟩ (Nat.le_of_ble_eq_true rfl) dX8_digest_110) ⟨(Nat.le_of_ble_eq_true rfl), (Nat.le_of_ble_eq_true rfl)⟩ ?_
                    refine k_ifb_eq 120 dX8_digest_113 (by decide) (fun h113 => ?_) (fun h113 => ?_)
                    · refine k_lconst 0 dX8_digest_120 (by decide) ?_
                      refine k_ladd dX8_digest_121 ?_
                      refine k_lstore_n 1 [(1, .long (lI ((md * 31) + 0))), (0, .ref mm), (3, .int (iI (j : Int)))] dX8_digest_122 rfl (by decide) rfl ?_
                      refine k_iconst dX8_digest_123 ?_
                      refine k_istore [(4, .int (iI 0)), (1, .long (lI ((md * 31) + 0))), (0, .ref mm), (3, .int (iI (j : Int)))] dX8_digest_124 (by decide) rfl ?_
                      have lp126 : ∀ (fuel : Nat) (k : Nat) (mq : Int), (k ≤ nW (hT σ.1)) → (mq = mixQ (hT σ.1) (σ.2.2.1 j) md k) → nW (hT σ.1) - k < fuel → k_G θ κ cX8_digest 5 (some .long) RX8 (k_rm 8 0 0) (k_MQ θ κ (k_rn (fun v9 L' f' => v9 = .long (lI (digS σ)) ∧ L' = L ∧ k_fr SM L f L' f' ∧ MS κ L' f' mm 0 σ)) 0 0) L fw 0 0 126 [(0, .ref mm), (1, .long (lI mq)), (3, .int (iI (j : Int))), (4, .int (iI (k : Int)))] [] := by
                        intro fuel
                        induction fuel with
                        | zero =>
                          intro k mq hk hmq hfu
                          exact absurd hfu (Nat.not_lt_zero _)
                        | succ fuel ih126 =>
                          intro k mq hk hmq hfu
                          refine k_iload 3 dX8_digest_126 rfl ?_
                          refine k_aload_n 0 0 dX8_digest_128 rfl rfl ?_
                          refine k_get 13 i_X8 q_796 cmm rfl (by decide) rfl dX8_digest_129 ?_
                          refine k_icmp_ge 168 dX8_digest_132 (by decide) (inI_mk (by omega) (by omega)) (inI_mk (by omega) (by omega)) (fun h132 => ?_) (fun h132 => ?_)
                          · refine k_iinc 2 [(3, .int (iI ((j : Int) + 1))), (0, .ref mm), (1, .long (lI mq)), (4, .int (iI (k : Int)))] dX8_digest_168 rfl (by decide) rfl ?_
                            refine k_goto 95 dX8_digest_171 (by decide) ?_
                            refine k_perm [1, 2, 0] [(0, .ref mm), (1, .long (lI mq)), (3, .int (iI ((j : Int) + 1)))] rfl ?_
                            exact ih95 (j + 1) mq (by omega) (by rw [mixP, ← hmd, hmq, show k = nW (hT σ.1) by omega]) (by omega)
                          · refine k_lload_n 1 1 dX8_digest_135 rfl rfl ?_
                            refine k_ldc2 31 q_1028 (by decide) dX8_digest_136 ?_
                            refine k_lmul dX8_digest_139 ?_
                            refine k_aload_n 0 0 dX8_digest_140 rfl rfl ?_
                            refine k_iload_n 2 3 dX8_digest_141 rfl rfl ?_
                            refine k_iload 3 dX8_digest_142 rfl ?_
                            refine k_useR (k_runV (c_X8_timeAt θ.2.1 κ (p := j) (k := k) (mm := mm) hMf hs (by omega) (by omega)) w_X8_146 ⟨q_963, q_31⟩ rfl rfl cmm rfl ⟨(Nat.le_of_ble_eq_true rfl), (Nat.le_of_ble_eq_true rfl)⟩ (Nat.le_of_ble_eq_true rfl) dX8_digest_144) ⟨(Nat.le_of_ble_eq_true rfl), (Nat.le_of_ble_eq_true rfl)⟩ ?_
                            have hpb := pT_bd (h := (hT σ.1)) (hs3 j (by omega)) (k := k) (by omega)
                            refine k_i2l dX8_digest_147 (inI_mk (by omega) (by omega)) ?_
                            refine k_ladd dX8_digest_148 ?_
                            refine k_ldc2 31 q_1028 (by decide) dX8_digest_149 ?_
                            refine k_lmul dX8_digest_152 ?_
                            refine k_aload_n 0 0 dX8_digest_153 rfl rfl ?_
                            refine k_iload_n 2 3 dX8_digest_154 rfl rfl ?_
                            refine k_iload 3 dX8_digest_155 rfl ?_
                            refine k_useR (k_runV (c_X8_heightAt θ.2.1 κ (p := j) (k := k) (mm := mm) hMf hs (by omega) (by omega)) w_X8_152 ⟨q_971, q_32⟩ rfl rfl cmm rfl ⟨(Nat.le_of_ble_eq_true rfl), (Nat.le_of_ble_eq_true rfl)⟩ (Nat.le_of_ble_eq_true rfl) dX8_digest_157) ⟨(Nat.le_of_ble_eq_true rfl), (Nat.le_of_ble_eq_true rfl)⟩ ?_
                            refine k_ladd dX8_digest_160 ?_
                            refine k_lstore_n 1 [(1, .long (lI ((((mq * 31) + pT (hT σ.1) (σ.2.2.1 j) k) * 31) + pH (hT σ.1) (σ.2.2.1 j) k))), (0, .ref mm), (3, .int (iI (j : Int))), (4, .int (iI (k : Int)))] dX8_digest_161 rfl (by decide) rfl ?_
                            refine k_iinc 3 [(4, .int (iI ((k : Int) + 1))), (1, .long (lI ((((mq * 31) + pT (hT σ.1) (σ.2.2.1 j) k) * 31) + pH (hT σ.1) (σ.2.2.1 j) k))), (0, .ref mm), (3, .int (iI (j : Int)))] dX8_digest_162 rfl (by decide) rfl ?_
                            refine k_goto 126 dX8_digest_165 (by decide) ?_
                            refine k_perm [2, 1, 3, 0] [(0, .ref mm), (1, .long (lI ((((mq * 31) + pT (hT σ.1) (σ.2.2.1 j) k) * 31) + pH (hT σ.1) (σ.2.2.1 j) k))), (3, .int (iI (j : Int))), (4, .int (iI ((k : Int) + 1)))] rfl ?_
                            exact ih126 (k + 1) ((((mq * 31) + pT (hT σ.1) (σ.2.2.1 j) k) * 31) + pH (hT σ.1) (σ.2.2.1 j) k) (by omega) (by rw [mixQ, ← hmq]) (by omega)
                      refine k_perm [2, 1, 3, 0] [(0, .ref mm), (1, .long (lI ((md * 31) + 0))), (3, .int (iI (j : Int))), (4, .int (iI 0))] rfl ?_
                      exact lp126 _ 0 (md * 31 + 0) (Nat.zero_le _) (by rw [mixQ, h113]; rfl) (Nat.lt_succ_self _)
                    · refine k_lconst 1 dX8_digest_116 (by decide) ?_
                      refine k_goto 121 dX8_digest_117 (by decide) ?_
                      refine k_ladd dX8_digest_121 ?_
                      refine k_lstore_n 1 [(1, .long (lI ((md * 31) + 1))), (0, .ref mm), (3, .int (iI (j : Int)))] dX8_digest_122 rfl (by decide) rfl ?_
                      refine k_iconst dX8_digest_123 ?_
                      refine k_istore [(4, .int (iI 0)), (1, .long (lI ((md * 31) + 1))), (0, .ref mm), (3, .int (iI (j : Int)))] dX8_digest_124 (by decide) rfl ?_
                      have lp126 : ∀ (fuel : Nat) (k : Nat) (mq : Int), (k ≤ nW (hT σ.1)) → (mq = mixQ (hT σ.1) (σ.2.2.1 j) md k) → nW (hT σ.1) - k < fuel → k_G θ κ cX8_digest 5 (some .long) RX8 (k_rm 8 0 0) (k_MQ θ κ (k_rn (fun v9 L' f' => v9 = .long (lI (digS σ)) ∧ L' = L ∧ k_fr SM L f L' f' ∧ MS κ L' f' mm 0 σ)) 0 0) L fw 0 0 126 [(0, .ref mm), (1, .long (lI mq)), (3, .int (iI (j : Int))), (4, .int (iI (k : Int)))] [] := by
                        intro fuel
                        induction fuel with
                        | zero =>
                          intro k mq hk hmq hfu
                          exact absurd hfu (Nat.not_lt_zero _)
                        | succ fuel ih126 =>
                          intro k mq hk hmq hfu
                          refine k_iload 3 dX8_digest_126 rfl ?_
                          refine k_aload_n 0 0 dX8_digest_128 rfl rfl ?_
                          refine k_get 13 i_X8 q_796 cmm rfl (by decide) rfl dX8_digest_129 ?_
                          refine k_icmp_ge 168 dX8_digest_132 (by decide) (inI_mk (by omega) (by omega)) (inI_mk (by omega) (by omega)) (fun h132 => ?_) (fun h132 => ?_)
                          · refine k_iinc 2 [(3, .int (iI ((j : Int) + 1))), (0, .ref mm), (1, .long (lI mq)), (4, .int (iI (k : Int)))] dX8_digest_168 rfl (by decide) rfl ?_
                            refine k_goto 95 dX8_digest_171 (by decide) ?_
                            refine k_perm [1, 2, 0] [(0, .ref mm), (1, .long (lI mq)), (3, .int (iI ((j : Int) + 1)))] rfl ?_
                            exact ih95 (j + 1) mq (by omega) (by rw [mixP, ← hmd, hmq, show k = nW (hT σ.1) by omega]) (by omega)
                          · refine k_lload_n 1 1 dX8_digest_135 rfl rfl ?_
                            refine k_ldc2 31 q_1028 (by decide) dX8_digest_136 ?_
                            refine k_lmul dX8_digest_139 ?_
                            refine k_aload_n 0 0 dX8_digest_140 rfl rfl ?_
                            refine k_iload_n 2 3 dX8_digest_141 rfl rfl ?_
                            refine k_iload 3 dX8_digest_142 rfl ?_
                            refine k_useR (k_runV (c_X8_timeAt θ.2.1 κ (p := j) (k := k) (mm := mm) hMf hs (by omega) (by omega)) w_X8_146 ⟨q_963, q_31⟩ rfl rfl cmm rfl ⟨(Nat.le_of_ble_eq_true rfl), (Nat.le_of_ble_eq_true rfl)⟩ (Nat.le_of_ble_eq_true rfl) dX8_digest_144) ⟨(Nat.le_of_ble_eq_true rfl), (Nat.le_of_ble_eq_true rfl)⟩ ?_
                            have hpb := pT_bd (h := (hT σ.1)) (hs3 j (by omega)) (k := k) (by omega)
                            refine k_i2l dX8_digest_147 (inI_mk (by omega) (by omega)) ?_
                            refine k_ladd dX8_digest_148 ?_
                            refine k_ldc2 31 q_1028 (by decide) dX8_digest_149 ?_
                            refine k_lmul dX8_digest_152 ?_
                            refine k_aload_n 0 0 dX8_digest_153 rfl rfl ?_
                            refine k_iload_n 2 3 dX8_digest_154 rfl rfl ?_
                            refine k_iload 3 dX8_digest_155 rfl ?_
                            refine k_useR (k_runV (c_X8_heightAt θ.2.1 κ (p := j) (k := k) (mm := mm) hMf hs (by omega) (by omega)) w_X8_152 ⟨q_971, q_32⟩ rfl rfl cmm rfl ⟨(Nat.le_of_ble_eq_true rfl), (Nat.le_of_ble_eq_true rfl)⟩ (Nat.le_of_ble_eq_true rfl) dX8_digest_157) ⟨(Nat.le_of_ble_eq_true rfl), (Nat.le_of_ble_eq_true rfl)⟩ ?_
                            refine k_ladd dX8_digest_160 ?_
                            refine k_lstore_n 1 [(1, .long (lI ((((mq * 31) + pT (hT σ.1) (σ.2.2.1 j) k) * 31) + pH (hT σ.1) (σ.2.2.1 j) k))), (0, .ref mm), (3, .int (iI (j : Int))), (4, .int (iI (k : Int)))] dX8_digest_161 rfl (by decide) rfl ?_
                            refine k_iinc 3 [(4, .int (iI ((k : Int) + 1))), (1, .long (lI ((((mq * 31) + pT (hT σ.1) (σ.2.2.1 j) k) * 31) + pH (hT σ.1) (σ.2.2.1 j) k))), (0, .ref mm), (3, .int (iI (j : Int)))] dX8_digest_162 rfl (by decide) rfl ?_
                            refine k_goto 126 dX8_digest_165 (by decide) ?_
                            refine k_perm [2, 1, 3, 0] [(0, .ref mm), (1, .long (lI ((((mq * 31) + pT (hT σ.1) (σ.2.2.1 j) k) * 31) + pH (hT σ.1) (σ.2.2.1 j) k))), (3, .int (iI (j : Int))), (4, .int (iI ((k : Int) + 1)))] rfl ?_
                            exact ih126 (k + 1) ((((mq * 31) + pT (hT σ.1) (σ.2.2.1 j) k) * 31) + pH (hT σ.1) (σ.2.2.1 j) k) (by omega) (by rw [mixQ, ← hmq]) (by omega)
                      refine k_perm [2, 1, 3, 0] [(0, .ref mm), (1, .long (lI ((md * 31) + 1))), (3, .int (iI (j : Int))), (4, .int (iI 0))] rfl ?_
                      exact lp126 _ 0 (md * 31 + 1) (Nat.zero_le _) (by rw [mixQ, h113]; rfl) (Nat.lt_succ_self _)
              refine k_perm [1, 2, 0] [(0, .ref mm), (1, .long (lI md)), (3, .int (iI 0))] rfl ?_
              exact lp95 _ 0 md (Nat.zero_le _) (by rw [hmd, show k = nW (hT σ.1) by omega]; rfl) (Nat.lt_succ_self _)
            · refine k_iconst dX8_digest_57 ?_
              refine k_istore [(4, .int (iI 0)), (0, .ref mm), (1, .long (lI md)), (3, .int (iI (k : Int)))] dX8_digest_58 (by decide) rfl ?_
              have lp60 : ∀ (fuel : Nat) (n : Nat), (n ≤ 3) → 3 - n < fuel → k_G θ κ cX8_digest 5 (some .long) RX8 (k_rm 8 0 0) (k_MQ θ κ (k_rn (fun v9 L' f' => v9 = .long (lI (digS σ)) ∧ L' = L ∧ k_fr SM L f L' f' ∧ MS κ L' f' mm 0 σ)) 0 0) L fw 0 0 60 [(0, .ref mm), (1, .long (lI (mixI (hT σ.1) k md n))), (3, .int (iI (k : Int))), (4, .int (iI (n : Int)))] [] := by
                intro fuel
                induction fuel with
                | zero =>
                  intro n hn hfu
                  exact absurd hfu (Nat.not_lt_zero _)
                | succ fuel ih60 =>
                  intro n hn hfu
                  refine k_iload 3 dX8_digest_60 rfl ?_
                  refine k_iconst dX8_digest_62 ?_
                  refine k_icmp_ge 87 dX8_digest_63 (by decide) (inI_mk (by omega) (by omega)) (inI_mk (by omega) (by omega)) (fun h63 => ?_) (fun h63 => ?_)
                  · have en3 : n = 3 := by omega
                    subst en3
                    refine k_iinc 2 [(3, .int (iI ((k : Int) + 1))), (0, .ref mm), (1, .long (lI (mixI (hT σ.1) k md 3))), (4, .int (iI (3 : Int)))] dX8_digest_87 rfl (by decide) rfl ?_
                    refine k_goto 49 dX8_digest_90 (by decide) ?_
                    refine k_perm [1, 2, 0] [(0, .ref mm), (1, .long (lI (mixI (hT σ.1) k md 3))), (3, .int (iI ((k : Int) + 1)))] rfl ?_
                    exact ih49 (k + 1) (mixI (hT σ.1) k md 3) (by omega) (by rw [mixW, ← hmd]; exact mixI_3 _ _ _) (by omega)
                  · refine k_lload_n 1 1 dX8_digest_66 rfl rfl ?_
                    refine k_ldc2 31 q_1028 (by decide) dX8_digest_67 ?_
                    refine k_lmul dX8_digest_70 ?_
                    refine k_aload_n 0 0 dX8_digest_71 rfl rfl ?_
                    refine k_iload_n 2 3 dX8_digest_72 rfl rfl ?_
                    refine k_iload 3 dX8_digest_73 rfl ?_
                    refine k_useR (k_runV (c_X8_waterTold θ.2.1 κ (k := k) (mm := mm) (what := (n : Int)) hMf hs (by omega) ⟨by omega, by omega⟩) w_X8_104 ⟨q_899, q_23⟩ rfl rfl cmm rfl ⟨(Nat.le_of_ble_eq_true rfl), (Nat.le_of_ble_eq_true rfl)⟩ (Nat.le_of_ble_eq_true rfl) dX8_digest_75) ⟨(Nat.le_of_ble_eq_true rfl), (Nat.le_of_ble_eq_true rfl)⟩ ?_
                    have hwb := aW_bd (hT_bd hs1) (k := k) (by omega) (n : Int)
                    refine k_i2l dX8_digest_78 (inI_mk (by omega) (by omega)) ?_
                    refine k_ladd dX8_digest_79 ?_
                    refine k_lstore_n 1 [(1, .long (lI (((mixI (hT σ.1) k md n) * 31) + aWater (hT σ.1) k (n : Int)))), (0, .ref mm), (3, .int (iI (k : Int))), (4, .int (iI (n : Int)))] dX8_digest_80 rfl (by decide) rfl ?_
                    refine k_iinc 3 [(4, .int (iI ((n : Int) + 1))), (1, .long (lI (((mixI (hT σ.1) k md n) * 31) + aWater (hT σ.1) k (n : Int)))), (0, .ref mm), (3, .int (iI (k : Int)))] dX8_digest_81 rfl (by decide) rfl ?_
                    refine k_goto 60 dX8_digest_84 (by decide) ?_
                    refine k_perm [2, 1, 3, 0] [(0, .ref mm), (1, .long (lI (((mixI (hT σ.1) k md n) * 31) + aWater (hT σ.1) k (n : Int)))), (3, .int (iI (k : Int))), (4, .int (iI ((n : Int) + 1)))] rfl ?_
                    exact ih60 (n + 1) (by omega) (by omega)
              refine k_perm [1, 2, 3, 0] [(0, .ref mm), (1, .long (lI md)), (3, .int (iI (k : Int))), (4, .int (iI 0))] rfl ?_
              exact lp60 _ 0 (by omega) (Nat.lt_succ_self _)
        refine k_perm [2, 1, 0] [(0, .ref mm), (1, .long (lI (((mixN σ 4) * 31) + σ.1.1))), (3, .int (iI 0))] rfl ?_
        exact lp49 _ 0 (mixN σ 4 * 31 + σ.1.1) (Nat.zero_le _) rfl (Nat.lt_succ_self _)
      · refine k_lload_n 1 1 dX8_digest_16 rfl rfl ?_
        refine k_ldc2 31 q_1028 (by decide) dX8_digest_17 ?_
        refine k_lmul dX8_digest_20 ?_
        refine k_aload_n 0 0 dX8_digest_21 rfl rfl ?_
        refine k_iload_n 2 3 dX8_digest_22 rfl rfl ?_
        refine k_useV (k_runV (c_X8_counted θ.2.1 κ (mm := mm) (what := (k : Int)) hM hs ⟨by omega, by omega⟩) w_X8_98 ⟨q_891, q_22⟩ rfl rfl hM.cl.choose_spec rfl ⟨(Nat.le_of_ble_eq_true rfl), (Nat.le_of_ble_eq_true rfl)⟩ (Nat.le_of_ble_eq_true rfl) dX8_digest_23) ⟨(Nat.le_of_ble_eq_true rfl), (Nat.le_of_ble_eq_true rfl)⟩ (fun w9 Lq fq hwq => ?_)
        obtain ⟨rfl, eq9, hMf, hrF⟩ := hwq
        replace eq9 := eq9.symm
        subst eq9
        obtain ⟨A, RA, PE, OF, TA, RT, RH, HS, TI, ⟨cmm, c0, c1, c2, c3, c4, c5, c6, c7⟩, ⟨hMa, hMb, hMc, hMd⟩, hHS, hTI⟩ := id hMf
        have hnb := numS_bd hs (k : Int)
        refine k_i2l dX8_digest_26 (inI_mk (by omega) (by omega)) ?_
        refine k_ladd dX8_digest_27 ?_
        refine k_lstore_n 1 [(1, .long (lI (((mixN σ k) * 31) + (numS σ (k : Int))))), (0, .ref mm), (3, .int (iI (k : Int)))] dX8_digest_28 rfl (by decide) rfl ?_
        refine k_iinc 2 [(3, .int (iI ((k : Int) + 1))), (1, .long (lI (((mixN σ k) * 31) + (numS σ (k : Int))))), (0, .ref mm)] dX8_digest_29 rfl (by decide) rfl ?_
        refine k_goto 11 dX8_digest_32 (by decide) ?_
        refine k_perm [2, 1, 0] [(0, .ref mm), (1, .long (lI (((mixN σ k) * 31) + (numS σ (k : Int))))), (3, .int (iI ((k : Int) + 1)))] rfl ?_
        have hM := hMf.ms
        exact ih11 fq (k + 1) (by omega) (fun _ => hMf) (k_fr.trans hfr hrF idf idf) hM (by omega)
  refine k_perm [2, 1, 0] [(0, .ref mm), (1, .long (lI 313)), (3, .int (iI 0))] rfl ?_
  exact lp11 _ f1 0 (by omega) (fun h9 => absurd h9 (Nat.lt_irrefl 0)) (k_fr.mono hr1 (SM_of rfl)) hM (Nat.lt_succ_self _)
set_option maxHeartbeats 4000000 in
set_option maxRecDepth 100000 in
theorem c_X8_init (la : Launch) (κ : Kx) {L : List Nat} {f : Nat → wE} {mm : Nat} (cmm : Cl L f mm (21, .inr (9, [.int (iI 0), .int (iI 0), .null, .null, .null, .int (iI 0), .int (iI 0), .null, .int (iI 0), .null, .null, .int (iI (bI false)), .null, .int (iI 0), .null])))   : k_M la κ yX8_init cX8_init 1 none 1 8 8774 [.ref mm] L f (k_ru (fun L' f' => MS κ L' f' mm 0 sg0 ∧ k_fr SM L f L' f')) := by
  refine k_head RX8 [(0, .ref mm)] rfl (by decide) (Nat.le_of_ble_eq_true rfl) rfl (fun θ hθ hin => ?_)
  refine k_aload_n 0 0 dX8_init_0 rfl rfl ?_
  refine k_objInit q_782 q_68 q_69 (Nat.le_of_ble_eq_true rfl) (Nat.le_of_ble_eq_true rfl) dX8_init_1 ?_
  refine k_aload_n 0 0 dX8_init_4 rfl rfl ?_
  refine k_bipush dX8_init_5 (by decide) ?_
  refine k_newai 22 8 q_135 rfl (by omega) (Nat.le_of_ble_eq_true rfl) (Nat.le_of_ble_eq_true rfl) dX8_init_7 (fun ra L1 f1 hz1 hn1 hc1 => ?_)
  have hr1 := k_fr.new hz1
  replace cmm := cmm.fr hr1 rfl
  have cRa : Cl L1 f1 ra (22, .inl (κ.2.2.1 0, 8, .inl (fun u9 => iI ((fun _ => 0) u9)))) := hc1
  refine k_putF 2 [.int (iI 0), .int (iI 0), .ref ra, .null, .null, .int (iI 0), .int (iI 0), .null, .int (iI 0), .null, .null, .int (iI (bI false)), .null, .int (iI 0), .null] i_X8 tyX8_ok nmX8 q_785 cmm rfl (by decide) rfl (hin rfl) rfl rfl rfl rfl (Nat.le_of_ble_eq_true rfl) rfl dX8_init_9 (fun f2 hf2 hc2 => ?_)
  have hr2 := k_fr.put hf2 cmm
  replace cRa := cRa.fr hr2 rfl
  replace cmm : Cl L1 f2 mm (21, .inr (9, [.int (iI 0), .int (iI 0), .ref ra, .null, .null, .int (iI 0), .int (iI 0), .null, .int (iI 0), .null, .null, .int (iI (bI false)), .null, .int (iI 0), .null])) := hc2
  refine k_aload_n 0 0 dX8_init_12 rfl rfl ?_
  refine k_bipush dX8_init_13 (by decide) ?_
  refine k_newai 23 8 q_135 rfl (by omega) (Nat.le_of_ble_eq_true rfl) (Nat.le_of_ble_eq_true rfl) dX8_init_15 (fun pe L3 f3 hz3 hn3 hc3 => ?_)
  have hr3 := k_fr.new hz3
  replace cmm := cmm.fr hr3 rfl
  replace cRa := cRa.fr hr3 rfl
  have cPe : Cl L3 f3 pe (23, .inl (κ.2.2.1 0, 8, .inl (fun u9 => iI ((fun _ => 0) u9)))) := hc3
  refine k_putF 3 [.int (iI 0), .int (iI 0), .ref ra, .ref pe, .null, .int (iI 0), .int (iI 0), .null, .int (iI 0), .null, .null, .int (iI (bI false)), .null, .int (iI 0), .null] i_X8 tyX8_ok nmX8 q_786 cmm rfl (by decide) rfl (hin rfl) rfl rfl rfl rfl (Nat.le_of_ble_eq_true rfl) rfl dX8_init_17 (fun f4 hf4 hc4 => ?_)
  have hr4 := k_fr.put hf4 cmm
  replace cRa := cRa.fr hr4 rfl
  replace cPe := cPe.fr hr4 rfl
  replace cmm : Cl L3 f4 mm (21, .inr (9, [.int (iI 0), .int (iI 0), .ref ra, .ref pe, .null, .int (iI 0), .int (iI 0), .null, .int (iI 0), .null, .null, .int (iI (bI false)), .null, .int (iI 0), .null])) := hc4
  refine k_aload_n 0 0 dX8_init_20 rfl rfl ?_
  refine k_bipush dX8_init_21 (by decide) ?_
  refine k_newai 24 8 q_135 rfl (by omega) (Nat.le_of_ble_eq_true rfl) (Nat.le_of_ble_eq_true rfl) dX8_init_23 (fun oo L5 f5 hz5 hn5 hc5 => ?_)
  have hr5 := k_fr.new hz5
  replace cmm := cmm.fr hr5 rfl
  replace cRa := cRa.fr hr5 rfl
  replace cPe := cPe.fr hr5 rfl
  have cOo : Cl L5 f5 oo (24, .inl (κ.2.2.1 0, 8, .inl (fun u9 => iI ((fun _ => 0) u9)))) := hc5
  refine k_putF 4 [.int (iI 0), .int (iI 0), .ref ra, .ref pe, .ref oo, .int (iI 0), .int (iI 0), .null, .int (iI 0), .null, .null, .int (iI (bI false)), .null, .int (iI 0), .null] i_X8 tyX8_ok nmX8 q_787 cmm rfl (by decide) rfl (hin rfl) rfl rfl rfl rfl (Nat.le_of_ble_eq_true rfl) rfl dX8_init_25 (fun f6 hf6 hc6 => ?_)
  have hr6 := k_fr.put hf6 cmm
  replace cRa := cRa.fr hr6 rfl
  replace cPe := cPe.fr hr6 rfl
  replace cOo := cOo.fr hr6 rfl
  replace cmm : Cl L5 f6 mm (21, .inr (9, [.int (iI 0), .int (iI 0), .ref ra, .ref pe, .ref oo, .int (iI 0), .int (iI 0), .null, .int (iI 0), .null, .null, .int (iI (bI false)), .null, .int (iI 0), .null])) := hc6
  refine k_aload_n 0 0 dX8_init_28 rfl rfl ?_
  refine k_bipush dX8_init_29 (by decide) ?_
  refine k_newai 25 30 q_135 rfl (by omega) (Nat.le_of_ble_eq_true rfl) (Nat.le_of_ble_eq_true rfl) dX8_init_31 (fun ta L7 f7 hz7 hn7 hc7 => ?_)
  have hr7 := k_fr.new hz7
  replace cmm := cmm.fr hr7 rfl
  replace cRa := cRa.fr hr7 rfl
  replace cPe := cPe.fr hr7 rfl
  replace cOo := cOo.fr hr7 rfl
  have cTa : Cl L7 f7 ta (25, .inl (κ.2.2.1 0, 30, .inl (fun u9 => iI ((fun _ => 0) u9)))) := hc7
  refine k_putF 7 [.int (iI 0), .int (iI 0), .ref ra, .ref pe, .ref oo, .int (iI 0), .int (iI 0), .ref ta, .int (iI 0), .null, .null, .int (iI (bI false)), .null, .int (iI 0), .null] i_X8 tyX8_ok nmX8 q_790 cmm rfl (by decide) rfl (hin rfl) rfl rfl rfl rfl (Nat.le_of_ble_eq_true rfl) rfl dX8_init_33 (fun f8 hf8 hc8 => ?_)
  have hr8 := k_fr.put hf8 cmm
  replace cRa := cRa.fr hr8 rfl
  replace cPe := cPe.fr hr8 rfl
  replace cOo := cOo.fr hr8 rfl
  replace cTa := cTa.fr hr8 rfl
  replace cmm : Cl L7 f8 mm (21, .inr (9, [.int (iI 0), .int (iI 0), .ref ra, .ref pe, .ref oo, .int (iI 0), .int (iI 0), .ref ta, .int (iI 0), .null, .null, .int (iI (bI false)), .null, .int (iI 0), .null])) := hc8
  refine k_aload_n 0 0 dX8_init_36 rfl rfl ?_
  refine k_bipush dX8_init_37 (by decide) ?_
  refine k_newai 26 40 q_135 rfl (by omega) (Nat.le_of_ble_eq_true rfl) (Nat.le_of_ble_eq_true rfl) dX8_init_39 (fun rt L9 f9 hz9 hn9 hc9 => ?_)
  have hr9 := k_fr.new hz9
  replace cmm := cmm.fr hr9 rfl
  replace cRa := cRa.fr hr9 rfl
  replace cPe := cPe.fr hr9 rfl
  replace cOo := cOo.fr hr9 rfl
  replace cTa := cTa.fr hr9 rfl
  have cRt : Cl L9 f9 rt (26, .inl (κ.2.2.1 0, 40, .inl (fun u9 => iI ((fun _ => 0) u9)))) := hc9
  refine k_putF 9 [.int (iI 0), .int (iI 0), .ref ra, .ref pe, .ref oo, .int (iI 0), .int (iI 0), .ref ta, .int (iI 0), .ref rt, .null, .int (iI (bI false)), .null, .int (iI 0), .null] i_X8 tyX8_ok nmX8 q_792 cmm rfl (by decide) rfl (hin rfl) rfl rfl rfl rfl (Nat.le_of_ble_eq_true rfl) rfl dX8_init_41 (fun f10 hf10 hc10 => ?_)
  have hr10 := k_fr.put hf10 cmm
  replace cRa := cRa.fr hr10 rfl
  replace cPe := cPe.fr hr10 rfl
  replace cOo := cOo.fr hr10 rfl
  replace cTa := cTa.fr hr10 rfl
  replace cRt := cRt.fr hr10 rfl
  replace cmm : Cl L9 f10 mm (21, .inr (9, [.int (iI 0), .int (iI 0), .ref ra, .ref pe, .ref oo, .int (iI 0), .int (iI 0), .ref ta, .int (iI 0), .ref rt, .null, .int (iI (bI false)), .null, .int (iI 0), .null])) := hc10
  refine k_aload_n 0 0 dX8_init_44 rfl rfl ?_
  refine k_bipush dX8_init_45 (by decide) ?_
  refine k_newai 27 40 q_135 rfl (by omega) (Nat.le_of_ble_eq_true rfl) (Nat.le_of_ble_eq_true rfl) dX8_init_47 (fun rh L11 f11 hz11 hn11 hc11 => ?_)
  have hr11 := k_fr.new hz11
  replace cmm := cmm.fr hr11 rfl
  replace cRa := cRa.fr hr11 rfl
  replace cPe := cPe.fr hr11 rfl
  replace cOo := cOo.fr hr11 rfl
  replace cTa := cTa.fr hr11 rfl
  replace cRt := cRt.fr hr11 rfl
  have cRh : Cl L11 f11 rh (27, .inl (κ.2.2.1 0, 40, .inl (fun u9 => iI ((fun _ => 0) u9)))) := hc11
  refine k_putF 10 [.int (iI 0), .int (iI 0), .ref ra, .ref pe, .ref oo, .int (iI 0), .int (iI 0), .ref ta, .int (iI 0), .ref rt, .ref rh, .int (iI (bI false)), .null, .int (iI 0), .null] i_X8 tyX8_ok nmX8 q_793 cmm rfl (by decide) rfl (hin rfl) rfl rfl rfl rfl (Nat.le_of_ble_eq_true rfl) rfl dX8_init_49 (fun f12 hf12 hc12 => ?_)
  have hr12 := k_fr.put hf12 cmm
  replace cRa := cRa.fr hr12 rfl
  replace cPe := cPe.fr hr12 rfl
  replace cOo := cOo.fr hr12 rfl
  replace cTa := cTa.fr hr12 rfl
  replace cRt := cRt.fr hr12 rfl
  replace cRh := cRh.fr hr12 rfl
  replace cmm : Cl L11 f12 mm (21, .inr (9, [.int (iI 0), .int (iI 0), .ref ra, .ref pe, .ref oo, .int (iI 0), .int (iI 0), .ref ta, .int (iI 0), .ref rt, .ref rh, .int (iI (bI false)), .null, .int (iI 0), .null])) := hc12
  refine k_aload_n 0 0 dX8_init_52 rfl rfl ?_
  refine k_sipush dX8_init_53 (by decide) ?_
  refine k_newal 28 4320 q_829 rfl (by omega) (Nat.le_of_ble_eq_true rfl) (Nat.le_of_ble_eq_true rfl) dX8_init_56 (fun hs L13 f13 hz13 hn13 hc13 => ?_)
  have hr13 := k_fr.new hz13
  replace cmm := cmm.fr hr13 rfl
  replace cRa := cRa.fr hr13 rfl
  replace cPe := cPe.fr hr13 rfl
  replace cOo := cOo.fr hr13 rfl
  replace cTa := cTa.fr hr13 rfl
  replace cRt := cRt.fr hr13 rfl
  replace cRh := cRh.fr hr13 rfl
  have cHs : Cl L13 f13 hs (28, .inl (κ.2.2.1 1, 4320, .inr (.inl (fun u9 => lI ((fun _ => 0) u9))))) := hc13
  refine k_putF 12 [.int (iI 0), .int (iI 0), .ref ra, .ref pe, .ref oo, .int (iI 0), .int (iI 0), .ref ta, .int (iI 0), .ref rt, .ref rh, .int (iI (bI false)), .ref hs, .int (iI 0), .null] i_X8 tyX8_ok nmX8 q_795 cmm rfl (by decide) rfl (hin rfl) rfl rfl rfl rfl (Nat.le_of_ble_eq_true rfl) rfl dX8_init_58 (fun f14 hf14 hc14 => ?_)
  have hr14 := k_fr.put hf14 cmm
  replace cRa := cRa.fr hr14 rfl
  replace cPe := cPe.fr hr14 rfl
  replace cOo := cOo.fr hr14 rfl
  replace cTa := cTa.fr hr14 rfl
  replace cRt := cRt.fr hr14 rfl
  replace cRh := cRh.fr hr14 rfl
  replace cHs := cHs.fr hr14 rfl
  replace cmm : Cl L13 f14 mm (21, .inr (9, [.int (iI 0), .int (iI 0), .ref ra, .ref pe, .ref oo, .int (iI 0), .int (iI 0), .ref ta, .int (iI 0), .ref rt, .ref rh, .int (iI (bI false)), .ref hs, .int (iI 0), .null])) := hc14
  refine k_aload_n 0 0 dX8_init_61 rfl rfl ?_
  refine k_sipush dX8_init_62 (by decide) ?_
  refine k_newai 29 4320 q_135 rfl (by omega) (Nat.le_of_ble_eq_true rfl) (Nat.le_of_ble_eq_true rfl) dX8_init_65 (fun ti L15 f15 hz15 hn15 hc15 => ?_)
  have hr15 := k_fr.new hz15
  replace cmm := cmm.fr hr15 rfl
  replace cRa := cRa.fr hr15 rfl
  replace cPe := cPe.fr hr15 rfl
  replace cOo := cOo.fr hr15 rfl
  replace cTa := cTa.fr hr15 rfl
  replace cRt := cRt.fr hr15 rfl
  replace cRh := cRh.fr hr15 rfl
  replace cHs := cHs.fr hr15 rfl
  have cTi : Cl L15 f15 ti (29, .inl (κ.2.2.1 0, 4320, .inl (fun u9 => iI ((fun _ => 0) u9)))) := hc15
  refine k_putF 14 [.int (iI 0), .int (iI 0), .ref ra, .ref pe, .ref oo, .int (iI 0), .int (iI 0), .ref ta, .int (iI 0), .ref rt, .ref rh, .int (iI (bI false)), .ref hs, .int (iI 0), .ref ti] i_X8 tyX8_ok nmX8 q_797 cmm rfl (by decide) rfl (hin rfl) rfl rfl rfl rfl (Nat.le_of_ble_eq_true rfl) rfl dX8_init_67 (fun f16 hf16 hc16 => ?_)
  have hr16 := k_fr.put hf16 cmm
  replace cRa := cRa.fr hr16 rfl
  replace cPe := cPe.fr hr16 rfl
  replace cOo := cOo.fr hr16 rfl
  replace cTa := cTa.fr hr16 rfl
  replace cRt := cRt.fr hr16 rfl
  replace cRh := cRh.fr hr16 rfl
  replace cHs := cHs.fr hr16 rfl
  replace cTi := cTi.fr hr16 rfl
  replace cmm : Cl L15 f16 mm (21, .inr (9, [.int (iI 0), .int (iI 0), .ref ra, .ref pe, .ref oo, .int (iI 0), .int (iI 0), .ref ta, .int (iI 0), .ref rt, .ref rh, .int (iI (bI false)), .ref hs, .int (iI 0), .ref ti])) := hc16
  exact k_vret dX8_init_70 rfl (Nat.le_of_ble_eq_true rfl) (Nat.le_of_ble_eq_true rfl) (⟨rfl, ⟨(fun i => [ra, pe, oo, ta, rt, rh, hs, ti].getD i 0), false, 0, (fun _ => 0), (fun _ => 0), (fun _ => 0), (fun _ => 0), (fun _ => 0), (fun _ => 0), (fun _ => 0), (fun _ => 0), ⟨cmm, cRa, cPe, cOo, cTa, cRt, cRh, cHs, cTi⟩, ⟨fun i hi => absurd hi (Nat.not_lt_zero _), fun i hi => absurd hi (Nat.not_lt_zero _), fun _ _ => rfl, fun i hi => absurd hi (Nat.not_lt_zero _)⟩, fun e => Bool.noConfusion e⟩, (k_fr.trans (k_fr.trans (k_fr.trans (k_fr.trans (k_fr.trans (k_fr.trans (k_fr.trans (k_fr.trans (k_fr.trans (k_fr.trans (k_fr.trans (k_fr.trans (k_fr.trans (k_fr.trans (k_fr.trans (k_fr.mono hr1 (fun _ _ => rfl)) hr2 idf (SM_of rfl)) hr3 idf (fun _ _ => rfl)) hr4 idf (SM_of rfl)) hr5 idf (fun _ _ => rfl)) hr6 idf (SM_of rfl)) hr7 idf (fun _ _ => rfl)) hr8 idf (SM_of rfl)) hr9 idf (fun _ _ => rfl)) hr10 idf (SM_of rfl)) hr11 idf (fun _ _ => rfl)) hr12 idf (SM_of rfl)) hr13 idf (fun _ _ => rfl)) hr14 idf (SM_of rfl)) hr15 idf (fun _ _ => rfl)) hr16 idf (SM_of rfl))⟩)
