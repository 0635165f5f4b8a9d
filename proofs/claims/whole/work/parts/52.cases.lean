/-! ===== the law: a round of its loop ===== -/
/-- what the law's walk has at hand -/
def LwE (θ : Kt) (κ : Kx) (b N : Nat) (xs : Nat → Int32) : Prop := θ.2.1.stackTraces = false ∧ NC θ.2.2.2.1 ∧ va_X b N xs θ.2.2.2.1 θ.2.2.2.1.heap ∧ b < θ.2.2.2.1.heap.size ∧ b < κ.2.1 ∧ N ≤ 3072
/-- how it goes on behind a round -/
def LCont (θ : Kt) (κ : Kx) (Q : State → Prop) (b tt mm ou i k0 n0 : Nat) : Prop := ∀ (σ : Sg) (thr g : Int) (L : List Nat) (f : Nat → wE) (k n : Nat), SgOk σ → CS κ L f tt σ → MS κ L f mm thr σ → OutR κ L f ou g → k ≤ k0 + 4 → n ≤ n0 + 70 → k_G θ κ cL_law 9 (some .boolean) RL room_1 Q L f k n 1463 [(4, .int (iI (i : Int))), (3, .ref ou), (2, .ref mm), (1, .ref tt), (0, .ref b)] []
set_option maxHeartbeats 4000000 in
set_option maxRecDepth 100000 in
/-- the end of a round: thrown, the two compares -/
theorem law_tail {θ : Kt} {κ : Kx} {Q : State → Prop} {L : List Nat} {f : Nat → wE} {b tt mm ou i k0 n0 k n : Nat} {σ : Sg} {thr g v kk go : Int} (pc : Nat) (hs : SgOk σ) (hC : CS κ L f tt σ) (hM : MS κ L f mm thr σ) (hO : OutR κ L f ou g) (hkk : kk = thr) (hg : iI kk = 0 → g = (iI v).toInt) (hb1 : k ≤ k0 + 4 ∧ n ≤ n0 + 70) (hb2 : k ≤ 601024 ∧ n ≤ 7293034) (cont : LCont θ κ Q b tt mm ou i k0 n0)
    (d0 : decode cL_law pc = .ok (.istore 6, 2)) (d2 : decode cL_law (pc + 2) = .ok (.aload_n 2, 1)) (d3 : decode cL_law (pc + 3) = .ok (.invokevirtual 88, 3)) (d6 : decode cL_law (pc + 6) = .ok (.iload 5, 2)) (d8 : decode cL_law (pc + 8) = .ok (.if_icmp .eq 5, 3)) (d13 : decode cL_law (pc + 13) = .ok (.iload 5, 2)) (d15 : decode cL_law (pc + 15) = .ok (.ifCond .ne 15, 3)) (d18 : decode cL_law (pc + 18) = .ok (.aload_n 3, 1)) (d19 : decode cL_law (pc + 19) = .ok (.iconst 0, 1)) (d20 : decode cL_law (pc + 20) = .ok (.laload, 1)) (d21 : decode cL_law (pc + 21) = .ok (.iload 6, 2)) (d23 : decode cL_law (pc + 23) = .ok (.i2l, 1)) (d24 : decode cL_law (pc + 24) = .ok (.lcmp, 1)) (d25 : decode cL_law (pc + 25) = .ok (.ifCond .eq 5, 3)) (d30 : decode cL_law (pc + 30) = .ok (.goto go, 3)) (hgo : ((pc + 30 : Nat) : Int) + go = ((1463 : Nat) : Int)) : k_G θ κ cL_law 9 (some .boolean) RL room_1 Q L f k n pc [(5, .int (iI kk)), (4, .int (iI (i : Int))), (3, .ref ou), (2, .ref mm), (1, .ref tt), (0, .ref b)] [.int (iI v)] := by
  have fin : k_G θ κ cL_law 9 (some .boolean) RL room_1 Q L f k n (pc + 30) [(6, .int (iI v)), (5, .int (iI kk)), (4, .int (iI (i : Int))), (3, .ref ou), (2, .ref mm), (1, .ref tt), (0, .ref b)] [] := by
    refine k_goto 1463 d30 hgo ?_
    refine k_perm [2, 3, 4, 5, 6] [(4, .int (iI (i : Int))), (3, .ref ou), (2, .ref mm), (1, .ref tt), (0, .ref b)] rfl ?_
    exact cont σ thr g L f k n hs hC hM hO hb1.1 hb1.2
  obtain ⟨fsM, cM⟩ := hM.cl
  obtain ⟨G, co, hG⟩ := id hO
  refine k_istore [(6, .int (iI v)), (5, .int (iI kk)), (4, .int (iI (i : Int))), (3, .ref ou), (2, .ref mm), (1, .ref tt), (0, .ref b)] d0 (by decide) rfl ?_
  refine k_aload_n 4 2 d2 rfl rfl ?_
  refine k_useR (k_runV (c_X8_thrown θ.2.1 κ hM) w_L_88 ⟨q_831, q_832⟩ rfl rfl cM rfl ⟨(Nat.le_of_ble_eq_true rfl), (Nat.le_of_ble_eq_true rfl)⟩ (Nat.le_of_ble_eq_true rfl) d3) hb2 ?_
  refine k_iload 1 d6 rfl ?_
  refine k_icmp_eqR (pc + 13) d8 (by omega) (fun _ => ?_) (fun h => absurd (congrArg iI hkk.symm) h)
  refine k_iload 1 d13 rfl ?_
  refine k_if_neR (pc + 30) d15 (by omega) (fun _ => fin) (fun h0 => ?_)
  refine k_aload_n 3 3 d18 rfl rfl ?_
  refine k_iconst d19 ?_
  refine k_lald 0 co rfl (by omega) (by omega) d20 ?_
  refine k_iload 0 d21 rfl ?_
  refine k_i2lR d23 ?_
  rw [hG, hg h0]
  exact k_lcmpS (pc + 30) d24 d25 (by omega) fin
set_option maxHeartbeats 4000000 in
set_option maxRecDepth 100000 in
/-- addWave -/
theorem law_case0 {θ : Kt} {κ : Kx} {Q : State → Prop} {L : List Nat} {f : Nat → wE} {b N tt mm ou i k n : Nat} {xs : Nat → Int32} {σ : Sg} {thr g : Int} (hE : LwE θ κ b N xs) (hs : SgOk σ) (hC : CS κ L f tt σ) (hM : MS κ L f mm thr σ) (hO : OutR κ L f ou g) (hi : i + 6 ≤ N) (hkn : k + 4 ≤ 601024 ∧ n + 70 ≤ 7293034) (cont : LCont θ κ Q b tt mm ou i k n) : k_G θ κ cL_law 9 (some .boolean) RL room_1 Q L f k n 140 [(4, .int (iI (i : Int))), (3, .ref ou), (2, .ref mm), (1, .ref tt), (0, .ref b)] [] := by
  obtain ⟨hts, hnc, hX, hb, hkb, hN⟩ := hE
  refine k_aload_n 3 1 dL_law_140 rfl rfl ?_
  refine k_aload_n 4 0 dL_law_141 rfl rfl ?_
  refine k_iload 0 dL_law_142 rfl ?_
  refine k_iconst dL_law_144 ?_
  refine k_iadd dL_law_145 ?_
  refine k_sld (i + 1) hX hb hkb (by omega) (by omega) (by omega) dL_law_146 ?_
  refine k_aload_n 4 0 dL_law_147 rfl rfl ?_
  refine k_iload 0 dL_law_148 rfl ?_
  refine k_iconst dL_law_150 ?_
  refine k_iadd dL_law_151 ?_
  refine k_sld (i + 2) hX hb hkb (by omega) (by omega) (by omega) dL_law_152 ?_
  refine k_aload_n 4 0 dL_law_153 rfl rfl ?_
  refine k_iload 0 dL_law_154 rfl ?_
  refine k_iconst dL_law_156 ?_
  refine k_iadd dL_law_157 ?_
  refine k_sld (i + 3) hX hb hkb (by omega) (by omega) (by omega) dL_law_158 ?_
  refine k_aload_n 1 3 dL_law_159 rfl rfl ?_
  refine k_useV (k_runSW (nA := 5) (c_L_addWave θ.2.1 κ (tt := tt) (r := (xs (i + 1)).toInt) (p := (xs (i + 2)).toInt) (o := (xs (i + 3)).toInt) (ou := ou) hC hO hts hs (inI_of _) (inI_of _) (inI_of _)) hnc ⟨⟨q_323, q_37, q_325⟩, ⟨by decide, by decide⟩, by decide +kernel⟩ q_324 rfl rfl ⟨(Nat.le_of_ble_eq_true rfl), (Nat.le_of_ble_eq_true rfl)⟩ (Nat.le_of_ble_eq_true rfl) dL_law_160) ⟨by show _ ≤ 601024; omega, by show _ ≤ 7293034; omega⟩ (fun w9 L1 f1 hw => ?_)
  obtain ⟨k9, g9, rfl, hr1, hO1, hd1⟩ := hw
  replace hM := hM.fr hr1 rfl
  refine k_istore [(5, .int (iI k9)), (4, .int (iI (i : Int))), (3, .ref ou), (2, .ref mm), (1, .ref tt), (0, .ref b)] dL_law_163 (by decide) rfl ?_
  refine k_aload_n 3 2 dL_law_165 rfl rfl ?_
  refine k_aload_n 5 0 dL_law_166 rfl rfl ?_
  refine k_iload 1 dL_law_167 rfl ?_
  refine k_iconst dL_law_169 ?_
  refine k_iadd dL_law_170 ?_
  refine k_sld (i + 1) hX hb hkb (by omega) (by omega) (by omega) dL_law_171 ?_
  refine k_aload_n 5 0 dL_law_172 rfl rfl ?_
  refine k_iload 1 dL_law_173 rfl ?_
  refine k_iconst dL_law_175 ?_
  refine k_iadd dL_law_176 ?_
  refine k_sld (i + 2) hX hb hkb (by omega) (by omega) (by omega) dL_law_177 ?_
  refine k_aload_n 5 0 dL_law_178 rfl rfl ?_
  refine k_iload 1 dL_law_179 rfl ?_
  refine k_iconst dL_law_181 ?_
  refine k_iadd dL_law_182 ?_
  refine k_sld (i + 3) hX hb hkb (by omega) (by omega) (by omega) dL_law_183 ?_
  obtain ⟨fsM, cM⟩ := hM.cl
  refine k_useV (k_runV (c_X8_addWave θ.2.1 κ (mm := mm) (r := (xs (i + 1)).toInt) (p := (xs (i + 2)).toInt) (o := (xs (i + 3)).toInt) hM hs (inI_of _) (inI_of _) (inI_of _)) w_L_87 ⟨q_835, q_836⟩ rfl rfl cM rfl ⟨(Nat.le_of_ble_eq_true rfl), (Nat.le_of_ble_eq_true rfl)⟩ (Nat.le_of_ble_eq_true rfl) dL_law_184) ⟨by show _ ≤ 601024; omega, by show _ ≤ 7293034; omega⟩ (fun w9 L2 f2 hw => ?_)
  obtain ⟨v9, rfl, rfl, hr2, hd2⟩ := hw
  replace hO1 := hO1.fr hr2 rfl
  rcases hd1 with ⟨hx1, rfl, rfl, hC1⟩ | ⟨hx1, rfl, hC1⟩ | ⟨hx1, rfl, hC1⟩
  · replace hC1 := hC1.fr hr2 rfl
    rcases hd2 with ⟨hx2, rfl, hM2⟩ | ⟨hx2, hM2⟩ | ⟨hx2, hM2⟩
    · exact law_tail 187 (sAddWave_ok hs hx1) hC1 hM2 hO1 rfl (fun _ => rfl) ⟨by omega, by omega⟩ ⟨by omega, by omega⟩ cont dL_law_187 dL_law_189 dL_law_190 dL_law_193 dL_law_195 dL_law_200 dL_law_202 dL_law_205 dL_law_206 dL_law_207 dL_law_208 dL_law_210 dL_law_211 dL_law_212 dL_law_217 (by decide)
    · exact absurd (hx1.symm.trans hx2) (by decide)
    · exact absurd (hx1.symm.trans hx2) (by decide)
  · replace hC1 := hC1.fr hr2 rfl
    rcases hd2 with ⟨hx2, rfl, hM2⟩ | ⟨hx2, hM2⟩ | ⟨hx2, hM2⟩
    · exact absurd (hx1.symm.trans hx2) (by decide)
    · exact law_tail 187 hs hC1 hM2 hO1 rfl (fun h0 => absurd h0 (by decide)) ⟨by omega, by omega⟩ ⟨by omega, by omega⟩ cont dL_law_187 dL_law_189 dL_law_190 dL_law_193 dL_law_195 dL_law_200 dL_law_202 dL_law_205 dL_law_206 dL_law_207 dL_law_208 dL_law_210 dL_law_211 dL_law_212 dL_law_217 (by decide)
    · exact absurd (hx1.symm.trans hx2) (by decide)
  · replace hC1 := hC1.fr hr2 rfl
    rcases hd2 with ⟨hx2, rfl, hM2⟩ | ⟨hx2, hM2⟩ | ⟨hx2, hM2⟩
    · exact absurd (hx1.symm.trans hx2) (by decide)
    · exact absurd (hx1.symm.trans hx2) (by decide)
    · exact law_tail 187 hs hC1 hM2 hO1 rfl (fun h0 => absurd h0 (by decide)) ⟨by omega, by omega⟩ ⟨by omega, by omega⟩ cont dL_law_187 dL_law_189 dL_law_190 dL_law_193 dL_law_195 dL_law_200 dL_law_202 dL_law_205 dL_law_206 dL_law_207 dL_law_208 dL_law_210 dL_law_211 dL_law_212 dL_law_217 (by decide)
set_option maxHeartbeats 4000000 in
set_option maxRecDepth 100000 in
/-- setRange -/
theorem law_case1 {θ : Kt} {κ : Kx} {Q : State → Prop} {L : List Nat} {f : Nat → wE} {b N tt mm ou i k n : Nat} {xs : Nat → Int32} {σ : Sg} {thr g : Int} (hE : LwE θ κ b N xs) (hs : SgOk σ) (hC : CS κ L f tt σ) (hM : MS κ L f mm thr σ) (hO : OutR κ L f ou g) (hi : i + 6 ≤ N) (hkn : k + 4 ≤ 601024 ∧ n + 70 ≤ 7293034) (cont : LCont θ κ Q b tt mm ou i k n) : k_G θ κ cL_law 9 (some .boolean) RL room_1 Q L f k n 220 [(4, .int (iI (i : Int))), (3, .ref ou), (2, .ref mm), (1, .ref tt), (0, .ref b)] [] := by
  obtain ⟨hts, hnc, hX, hb, hkb, hN⟩ := hE
  refine k_aload_n 3 1 dL_law_220 rfl rfl ?_
  refine k_aload_n 4 0 dL_law_221 rfl rfl ?_
  refine k_iload 0 dL_law_222 rfl ?_
  refine k_iconst dL_law_224 ?_
  refine k_iadd dL_law_225 ?_
  refine k_sld (i + 1) hX hb hkb (by omega) (by omega) (by omega) dL_law_226 ?_
  refine k_aload_n 4 0 dL_law_227 rfl rfl ?_
  refine k_iload 0 dL_law_228 rfl ?_
  refine k_iconst dL_law_230 ?_
  refine k_iadd dL_law_231 ?_
  refine k_sld (i + 2) hX hb hkb (by omega) (by omega) (by omega) dL_law_232 ?_
  refine k_aload_n 1 3 dL_law_233 rfl rfl ?_
  refine k_useV (k_runSW (nA := 4) (c_L_setRange θ.2.1 κ (tt := tt) (w := (xs (i + 1)).toInt) (r := (xs (i + 2)).toInt) (ou := ou) hC hO hts hs (inI_of _) (inI_of _)) hnc ⟨⟨q_491, q_37, q_493⟩, ⟨by decide, by decide⟩, by decide +kernel⟩ q_492 rfl rfl ⟨(Nat.le_of_ble_eq_true rfl), (Nat.le_of_ble_eq_true rfl)⟩ (Nat.le_of_ble_eq_true rfl) dL_law_234) ⟨by show _ ≤ 601024; omega, by show _ ≤ 7293034; omega⟩ (fun w9 L1 f1 hw => ?_)
  obtain ⟨k9, g9, rfl, hr1, hO1, hd1⟩ := hw
  replace hM := hM.fr hr1 rfl
  refine k_istore [(5, .int (iI k9)), (4, .int (iI (i : Int))), (3, .ref ou), (2, .ref mm), (1, .ref tt), (0, .ref b)] dL_law_237 (by decide) rfl ?_
  refine k_aload_n 3 2 dL_law_239 rfl rfl ?_
  refine k_aload_n 5 0 dL_law_240 rfl rfl ?_
  refine k_iload 1 dL_law_241 rfl ?_
  refine k_iconst dL_law_243 ?_
  refine k_iadd dL_law_244 ?_
  refine k_sld (i + 1) hX hb hkb (by omega) (by omega) (by omega) dL_law_245 ?_
  refine k_aload_n 5 0 dL_law_246 rfl rfl ?_
  refine k_iload 1 dL_law_247 rfl ?_
  refine k_iconst dL_law_249 ?_
  refine k_iadd dL_law_250 ?_
  refine k_sld (i + 2) hX hb hkb (by omega) (by omega) (by omega) dL_law_251 ?_
  obtain ⟨fsM, cM⟩ := hM.cl
  refine k_useV (k_runV (c_X8_setRange θ.2.1 κ (mm := mm) (w := (xs (i + 1)).toInt) (r := (xs (i + 2)).toInt) hM hs (inI_of _) (inI_of _)) w_L_94 ⟨q_849, q_850⟩ rfl rfl cM rfl ⟨(Nat.le_of_ble_eq_true rfl), (Nat.le_of_ble_eq_true rfl)⟩ (Nat.le_of_ble_eq_true rfl) dL_law_252) ⟨by show _ ≤ 601024; omega, by show _ ≤ 7293034; omega⟩ (fun w9 L2 f2 hw => ?_)
  obtain ⟨v9, rfl, rfl, hr2, hd2⟩ := hw
  replace hO1 := hO1.fr hr2 rfl
  rcases hd1 with ⟨hx1, rfl, rfl, hC1⟩ | ⟨hx1, rfl, hC1⟩ | ⟨hx1, rfl, hC1⟩
  · replace hC1 := hC1.fr hr2 rfl
    rcases hd2 with ⟨hx2, rfl, hM2⟩ | ⟨hx2, hM2⟩ | ⟨hx2, hM2⟩
    · exact law_tail 255 (sSetRange_ok hs hx1) hC1 hM2 hO1 rfl (fun _ => rfl) ⟨by omega, by omega⟩ ⟨by omega, by omega⟩ cont dL_law_255 dL_law_257 dL_law_258 dL_law_261 dL_law_263 dL_law_268 dL_law_270 dL_law_273 dL_law_274 dL_law_275 dL_law_276 dL_law_278 dL_law_279 dL_law_280 dL_law_285 (by decide)
    · exact absurd (hx1.symm.trans hx2) (by decide)
    · exact absurd (hx1.symm.trans hx2) (by decide)
  · replace hC1 := hC1.fr hr2 rfl
    rcases hd2 with ⟨hx2, rfl, hM2⟩ | ⟨hx2, hM2⟩ | ⟨hx2, hM2⟩
    · exact absurd (hx1.symm.trans hx2) (by decide)
    · exact law_tail 255 hs hC1 hM2 hO1 rfl (fun h0 => absurd h0 (by decide)) ⟨by omega, by omega⟩ ⟨by omega, by omega⟩ cont dL_law_255 dL_law_257 dL_law_258 dL_law_261 dL_law_263 dL_law_268 dL_law_270 dL_law_273 dL_law_274 dL_law_275 dL_law_276 dL_law_278 dL_law_279 dL_law_280 dL_law_285 (by decide)
    · exact absurd (hx1.symm.trans hx2) (by decide)
  · replace hC1 := hC1.fr hr2 rfl
    rcases hd2 with ⟨hx2, rfl, hM2⟩ | ⟨hx2, hM2⟩ | ⟨hx2, hM2⟩
    · exact absurd (hx1.symm.trans hx2) (by decide)
    · exact absurd (hx1.symm.trans hx2) (by decide)
    · exact law_tail 255 hs hC1 hM2 hO1 rfl (fun h0 => absurd h0 (by decide)) ⟨by omega, by omega⟩ ⟨by omega, by omega⟩ cont dL_law_255 dL_law_257 dL_law_258 dL_law_261 dL_law_263 dL_law_268 dL_law_270 dL_law_273 dL_law_274 dL_law_275 dL_law_276 dL_law_278 dL_law_279 dL_law_280 dL_law_285 (by decide)
set_option maxHeartbeats 4000000 in
set_option maxRecDepth 100000 in
/-- setLevel -/
theorem law_case2 {θ : Kt} {κ : Kx} {Q : State → Prop} {L : List Nat} {f : Nat → wE} {b N tt mm ou i k n : Nat} {xs : Nat → Int32} {σ : Sg} {thr g : Int} (hE : LwE θ κ b N xs) (hs : SgOk σ) (hC : CS κ L f tt σ) (hM : MS κ L f mm thr σ) (hO : OutR κ L f ou g) (hi : i + 6 ≤ N) (hkn : k + 4 ≤ 601024 ∧ n + 70 ≤ 7293034) (cont : LCont θ κ Q b tt mm ou i k n) : k_G θ κ cL_law 9 (some .boolean) RL room_1 Q L f k n 288 [(4, .int (iI (i : Int))), (3, .ref ou), (2, .ref mm), (1, .ref tt), (0, .ref b)] [] := by
  obtain ⟨hts, hnc, hX, hb, hkb, hN⟩ := hE
  refine k_aload_n 3 1 dL_law_288 rfl rfl ?_
  refine k_aload_n 4 0 dL_law_289 rfl rfl ?_
  refine k_iload 0 dL_law_290 rfl ?_
  refine k_iconst dL_law_292 ?_
  refine k_iadd dL_law_293 ?_
  refine k_sld (i + 1) hX hb hkb (by omega) (by omega) (by omega) dL_law_294 ?_
  refine k_aload_n 1 3 dL_law_295 rfl rfl ?_
  refine k_useV (k_runSW (nA := 3) (c_L_setLevel θ.2.1 κ (tt := tt) (v := (xs (i + 1)).toInt) (ou := ou) hC hO hts hs (inI_of _)) hnc ⟨⟨q_519, q_37, q_521⟩, ⟨by decide, by decide⟩, by decide +kernel⟩ q_520 rfl rfl ⟨(Nat.le_of_ble_eq_true rfl), (Nat.le_of_ble_eq_true rfl)⟩ (Nat.le_of_ble_eq_true rfl) dL_law_296) ⟨by show _ ≤ 601024; omega, by show _ ≤ 7293034; omega⟩ (fun w9 L1 f1 hw => ?_)
  obtain ⟨k9, g9, rfl, hr1, hO1, hd1⟩ := hw
  replace hM := hM.fr hr1 rfl
  refine k_istore [(5, .int (iI k9)), (4, .int (iI (i : Int))), (3, .ref ou), (2, .ref mm), (1, .ref tt), (0, .ref b)] dL_law_299 (by decide) rfl ?_
  refine k_aload_n 3 2 dL_law_301 rfl rfl ?_
  refine k_aload_n 5 0 dL_law_302 rfl rfl ?_
  refine k_iload 1 dL_law_303 rfl ?_
  refine k_iconst dL_law_305 ?_
  refine k_iadd dL_law_306 ?_
  refine k_sld (i + 1) hX hb hkb (by omega) (by omega) (by omega) dL_law_307 ?_
  obtain ⟨fsM, cM⟩ := hM.cl
  refine k_useV (k_runV (c_X8_setLevel θ.2.1 κ (mm := mm) (v0 := (xs (i + 1)).toInt) hM hs (inI_of _)) w_L_98 ⟨q_857, q_858⟩ rfl rfl cM rfl ⟨(Nat.le_of_ble_eq_true rfl), (Nat.le_of_ble_eq_true rfl)⟩ (Nat.le_of_ble_eq_true rfl) dL_law_308) ⟨by show _ ≤ 601024; omega, by show _ ≤ 7293034; omega⟩ (fun w9 L2 f2 hw => ?_)
  obtain ⟨v9, rfl, rfl, hr2, hd2⟩ := hw
  replace hO1 := hO1.fr hr2 rfl
  rcases hd1 with ⟨hx1, rfl, rfl, hC1⟩ | ⟨hx1, rfl, hC1⟩
  · replace hC1 := hC1.fr hr2 rfl
    rcases hd2 with ⟨hx2, rfl, hM2⟩ | ⟨hx2, hM2⟩
    · exact law_tail 311 (sSetLevel_ok hs hx1) hC1 hM2 hO1 rfl (fun _ => rfl) ⟨by omega, by omega⟩ ⟨by omega, by omega⟩ cont dL_law_311 dL_law_313 dL_law_314 dL_law_317 dL_law_319 dL_law_324 dL_law_326 dL_law_329 dL_law_330 dL_law_331 dL_law_332 dL_law_334 dL_law_335 dL_law_336 dL_law_341 (by decide)
    · exact absurd (hx1.symm.trans hx2) (by decide)
  · replace hC1 := hC1.fr hr2 rfl
    rcases hd2 with ⟨hx2, rfl, hM2⟩ | ⟨hx2, hM2⟩
    · exact absurd (hx1.symm.trans hx2) (by decide)
    · exact law_tail 311 hs hC1 hM2 hO1 rfl (fun h0 => absurd h0 (by decide)) ⟨by omega, by omega⟩ ⟨by omega, by omega⟩ cont dL_law_311 dL_law_313 dL_law_314 dL_law_317 dL_law_319 dL_law_324 dL_law_326 dL_law_329 dL_law_330 dL_law_331 dL_law_332 dL_law_334 dL_law_335 dL_law_336 dL_law_341 (by decide)
set_option maxHeartbeats 4000000 in
set_option maxRecDepth 100000 in
/-- height -/
theorem law_case3 {θ : Kt} {κ : Kx} {Q : State → Prop} {L : List Nat} {f : Nat → wE} {b N tt mm ou i k n : Nat} {xs : Nat → Int32} {σ : Sg} {thr g : Int} (hE : LwE θ κ b N xs) (hs : SgOk σ) (hC : CS κ L f tt σ) (hM : MS κ L f mm thr σ) (hO : OutR κ L f ou g) (hi : i + 6 ≤ N) (hkn : k + 4 ≤ 601024 ∧ n + 70 ≤ 7293034) (cont : LCont θ κ Q b tt mm ou i k n) : k_G θ κ cL_law 9 (some .boolean) RL room_1 Q L f k n 344 [(4, .int (iI (i : Int))), (3, .ref ou), (2, .ref mm), (1, .ref tt), (0, .ref b)] [] := by
  obtain ⟨hts, hnc, hX, hb, hkb, hN⟩ := hE
  refine k_aload_n 3 1 dL_law_344 rfl rfl ?_
  refine k_aload_n 4 0 dL_law_345 rfl rfl ?_
  refine k_iload 0 dL_law_346 rfl ?_
  refine k_iconst dL_law_348 ?_
  refine k_iadd dL_law_349 ?_
  refine k_sld (i + 1) hX hb hkb (by omega) (by omega) (by omega) dL_law_350 ?_
  refine k_aload_n 1 3 dL_law_351 rfl rfl ?_
  refine k_useV (k_runSW (nA := 3) (c_L_height θ.2.1 κ (tt := tt) (t := (xs (i + 1)).toInt) (ou := ou) hC hO hts hs (inI_of _)) hnc ⟨⟨q_527, q_37, q_529⟩, ⟨by decide, by decide⟩, by decide +kernel⟩ q_528 rfl rfl ⟨(Nat.le_of_ble_eq_true rfl), (Nat.le_of_ble_eq_true rfl)⟩ (Nat.le_of_ble_eq_true rfl) dL_law_352) ⟨by show _ ≤ 601024; omega, by show _ ≤ 7293034; omega⟩ (fun w9 L1 f1 hw => ?_)
  obtain ⟨k9, g9, rfl, hr1, hO1, hd1⟩ := hw
  replace hM := hM.fr hr1 rfl
  refine k_istore [(5, .int (iI k9)), (4, .int (iI (i : Int))), (3, .ref ou), (2, .ref mm), (1, .ref tt), (0, .ref b)] dL_law_355 (by decide) rfl ?_
  refine k_aload_n 3 2 dL_law_357 rfl rfl ?_
  refine k_aload_n 5 0 dL_law_358 rfl rfl ?_
  refine k_iload 1 dL_law_359 rfl ?_
  refine k_iconst dL_law_361 ?_
  refine k_iadd dL_law_362 ?_
  refine k_sld (i + 1) hX hb hkb (by omega) (by omega) (by omega) dL_law_363 ?_
  obtain ⟨fsM, cM⟩ := hM.cl
  refine k_useV (k_runV (c_X8_height θ.2.1 κ (mm := mm) (t := (xs (i + 1)).toInt) hM hs (inI_of _)) w_L_101 ⟨q_863, q_864⟩ rfl rfl cM rfl ⟨(Nat.le_of_ble_eq_true rfl), (Nat.le_of_ble_eq_true rfl)⟩ (Nat.le_of_ble_eq_true rfl) dL_law_364) ⟨by show _ ≤ 601024; omega, by show _ ≤ 7293034; omega⟩ (fun w9 L2 f2 hw => ?_)
  obtain ⟨v9, rfl, rfl, hr2, hd2⟩ := hw
  replace hO1 := hO1.fr hr2 rfl
  rcases hd1 with ⟨hx1, rfl, rfl, hC1⟩ | ⟨hx1, rfl, hC1⟩
  · replace hC1 := hC1.fr hr2 rfl
    rcases hd2 with ⟨hx2, rfl, hM2⟩ | ⟨hx2, hM2⟩
    · exact law_tail 367 hs hC1 hM2 hO1 rfl (fun _ => rfl) ⟨by omega, by omega⟩ ⟨by omega, by omega⟩ cont dL_law_367 dL_law_369 dL_law_370 dL_law_373 dL_law_375 dL_law_380 dL_law_382 dL_law_385 dL_law_386 dL_law_387 dL_law_388 dL_law_390 dL_law_391 dL_law_392 dL_law_397 (by decide)
    · exact absurd (hx1.symm.trans hx2) (by decide)
  · replace hC1 := hC1.fr hr2 rfl
    rcases hd2 with ⟨hx2, rfl, hM2⟩ | ⟨hx2, hM2⟩
    · exact absurd (hx1.symm.trans hx2) (by decide)
    · exact law_tail 367 hs hC1 hM2 hO1 rfl (fun h0 => absurd h0 (by decide)) ⟨by omega, by omega⟩ ⟨by omega, by omega⟩ cont dL_law_367 dL_law_369 dL_law_370 dL_law_373 dL_law_375 dL_law_380 dL_law_382 dL_law_385 dL_law_386 dL_law_387 dL_law_388 dL_law_390 dL_law_391 dL_law_392 dL_law_397 (by decide)
set_option maxHeartbeats 4000000 in
set_option maxRecDepth 100000 in
/-- waveHeight -/
theorem law_case4 {θ : Kt} {κ : Kx} {Q : State → Prop} {L : List Nat} {f : Nat → wE} {b N tt mm ou i k n : Nat} {xs : Nat → Int32} {σ : Sg} {thr g : Int} (hE : LwE θ κ b N xs) (hs : SgOk σ) (hC : CS κ L f tt σ) (hM : MS κ L f mm thr σ) (hO : OutR κ L f ou g) (hi : i + 6 ≤ N) (hkn : k + 4 ≤ 601024 ∧ n + 70 ≤ 7293034) (cont : LCont θ κ Q b tt mm ou i k n) : k_G θ κ cL_law 9 (some .boolean) RL room_1 Q L f k n 400 [(4, .int (iI (i : Int))), (3, .ref ou), (2, .ref mm), (1, .ref tt), (0, .ref b)] [] := by
  obtain ⟨hts, hnc, hX, hb, hkb, hN⟩ := hE
  refine k_aload_n 3 1 dL_law_400 rfl rfl ?_
  refine k_aload_n 4 0 dL_law_401 rfl rfl ?_
  refine k_iload 0 dL_law_402 rfl ?_
  refine k_iconst dL_law_404 ?_
  refine k_iadd dL_law_405 ?_
  refine k_sld (i + 1) hX hb hkb (by omega) (by omega) (by omega) dL_law_406 ?_
  refine k_aload_n 4 0 dL_law_407 rfl rfl ?_
  refine k_iload 0 dL_law_408 rfl ?_
  refine k_iconst dL_law_410 ?_
  refine k_iadd dL_law_411 ?_
  refine k_sld (i + 2) hX hb hkb (by omega) (by omega) (by omega) dL_law_412 ?_
  refine k_aload_n 1 3 dL_law_413 rfl rfl ?_
  refine k_useV (k_runSW (nA := 4) (c_L_waveHeight θ.2.1 κ (tt := tt) (w := (xs (i + 1)).toInt) (t := (xs (i + 2)).toInt) (ou := ou) hC hO hts hs (inI_of _) (inI_of _)) hnc ⟨⟨q_536, q_37, q_538⟩, ⟨by decide, by decide⟩, by decide +kernel⟩ q_537 rfl rfl ⟨(Nat.le_of_ble_eq_true rfl), (Nat.le_of_ble_eq_true rfl)⟩ (Nat.le_of_ble_eq_true rfl) dL_law_414) ⟨by show _ ≤ 601024; omega, by show _ ≤ 7293034; omega⟩ (fun w9 L1 f1 hw => ?_)
  obtain ⟨k9, g9, rfl, hr1, hO1, hd1⟩ := hw
  replace hM := hM.fr hr1 rfl
  refine k_istore [(5, .int (iI k9)), (4, .int (iI (i : Int))), (3, .ref ou), (2, .ref mm), (1, .ref tt), (0, .ref b)] dL_law_417 (by decide) rfl ?_
  refine k_aload_n 3 2 dL_law_419 rfl rfl ?_
  refine k_aload_n 5 0 dL_law_420 rfl rfl ?_
  refine k_iload 1 dL_law_421 rfl ?_
  refine k_iconst dL_law_423 ?_
  refine k_iadd dL_law_424 ?_
  refine k_sld (i + 1) hX hb hkb (by omega) (by omega) (by omega) dL_law_425 ?_
  refine k_aload_n 5 0 dL_law_426 rfl rfl ?_
  refine k_iload 1 dL_law_427 rfl ?_
  refine k_iconst dL_law_429 ?_
  refine k_iadd dL_law_430 ?_
  refine k_sld (i + 2) hX hb hkb (by omega) (by omega) (by omega) dL_law_431 ?_
  obtain ⟨fsM, cM⟩ := hM.cl
  refine k_useV (k_runV (c_X8_waveHeight θ.2.1 κ (mm := mm) (w := (xs (i + 1)).toInt) (t := (xs (i + 2)).toInt) hM hs (inI_of _) (inI_of _)) w_L_104 ⟨q_881, q_882⟩ rfl rfl cM rfl ⟨(Nat.le_of_ble_eq_true rfl), (Nat.le_of_ble_eq_true rfl)⟩ (Nat.le_of_ble_eq_true rfl) dL_law_432) ⟨by show _ ≤ 601024; omega, by show _ ≤ 7293034; omega⟩ (fun w9 L2 f2 hw => ?_)
  obtain ⟨v9, rfl, rfl, hr2, hd2⟩ := hw
  replace hO1 := hO1.fr hr2 rfl
  rcases hd1 with ⟨hx1, rfl, rfl, hC1⟩ | ⟨hx1, rfl, hC1⟩ | ⟨hx1, rfl, hC1⟩
  · replace hC1 := hC1.fr hr2 rfl
    rcases hd2 with ⟨hx2, rfl, hM2⟩ | ⟨hx2, hM2⟩ | ⟨hx2, hM2⟩
    · exact law_tail 435 hs hC1 hM2 hO1 rfl (fun _ => rfl) ⟨by omega, by omega⟩ ⟨by omega, by omega⟩ cont dL_law_435 dL_law_437 dL_law_438 dL_law_441 dL_law_443 dL_law_448 dL_law_450 dL_law_453 dL_law_454 dL_law_455 dL_law_456 dL_law_458 dL_law_459 dL_law_460 dL_law_465 (by decide)
    · exact absurd (hx1.symm.trans hx2) (by decide)
    · exact absurd (hx1.symm.trans hx2) (by decide)
  · replace hC1 := hC1.fr hr2 rfl
    rcases hd2 with ⟨hx2, rfl, hM2⟩ | ⟨hx2, hM2⟩ | ⟨hx2, hM2⟩
    · exact absurd (hx1.symm.trans hx2) (by decide)
    · exact law_tail 435 hs hC1 hM2 hO1 rfl (fun h0 => absurd h0 (by decide)) ⟨by omega, by omega⟩ ⟨by omega, by omega⟩ cont dL_law_435 dL_law_437 dL_law_438 dL_law_441 dL_law_443 dL_law_448 dL_law_450 dL_law_453 dL_law_454 dL_law_455 dL_law_456 dL_law_458 dL_law_459 dL_law_460 dL_law_465 (by decide)
    · exact absurd (hx1.symm.trans hx2) (by decide)
  · replace hC1 := hC1.fr hr2 rfl
    rcases hd2 with ⟨hx2, rfl, hM2⟩ | ⟨hx2, hM2⟩ | ⟨hx2, hM2⟩
    · exact absurd (hx1.symm.trans hx2) (by decide)
    · exact absurd (hx1.symm.trans hx2) (by decide)
    · exact law_tail 435 hs hC1 hM2 hO1 rfl (fun h0 => absurd h0 (by decide)) ⟨by omega, by omega⟩ ⟨by omega, by omega⟩ cont dL_law_435 dL_law_437 dL_law_438 dL_law_441 dL_law_443 dL_law_448 dL_law_450 dL_law_453 dL_law_454 dL_law_455 dL_law_456 dL_law_458 dL_law_459 dL_law_460 dL_law_465 (by decide)
set_option maxHeartbeats 4000000 in
set_option maxRecDepth 100000 in
/-- count -/
theorem law_case5 {θ : Kt} {κ : Kx} {Q : State → Prop} {L : List Nat} {f : Nat → wE} {b N tt mm ou i k n : Nat} {xs : Nat → Int32} {σ : Sg} {thr g : Int} (hE : LwE θ κ b N xs) (hs : SgOk σ) (hC : CS κ L f tt σ) (hM : MS κ L f mm thr σ) (hO : OutR κ L f ou g) (hi : i + 6 ≤ N) (hkn : k + 4 ≤ 601024 ∧ n + 70 ≤ 7293034) (cont : LCont θ κ Q b tt mm ou i k n) : k_G θ κ cL_law 9 (some .boolean) RL room_1 Q L f k n 468 [(4, .int (iI (i : Int))), (3, .ref ou), (2, .ref mm), (1, .ref tt), (0, .ref b)] [] := by
  obtain ⟨hts, hnc, hX, hb, hkb, hN⟩ := hE
  refine k_aload_n 3 1 dL_law_468 rfl rfl ?_
  refine k_aload_n 4 0 dL_law_469 rfl rfl ?_
  refine k_iload 0 dL_law_470 rfl ?_
  refine k_iconst dL_law_472 ?_
  refine k_iadd dL_law_473 ?_
  refine k_sld (i + 1) hX hb hkb (by omega) (by omega) (by omega) dL_law_474 ?_
  refine k_aload_n 1 3 dL_law_475 rfl rfl ?_
  refine k_useV (k_runSW (nA := 3) (c_L_count θ.2.1 κ (tt := tt) (what := (xs (i + 1)).toInt) (ou := ou) hC hO hts hs (inI_of _)) hnc ⟨⟨q_544, q_37, q_546⟩, ⟨by decide, by decide⟩, by decide +kernel⟩ q_545 rfl rfl ⟨(Nat.le_of_ble_eq_true rfl), (Nat.le_of_ble_eq_true rfl)⟩ (Nat.le_of_ble_eq_true rfl) dL_law_476) ⟨by show _ ≤ 601024; omega, by show _ ≤ 7293034; omega⟩ (fun w9 L1 f1 hw => ?_)
  obtain ⟨k9, g9, rfl, hr1, hO1, hd1⟩ := hw
  replace hM := hM.fr hr1 rfl
  refine k_istore [(5, .int (iI k9)), (4, .int (iI (i : Int))), (3, .ref ou), (2, .ref mm), (1, .ref tt), (0, .ref b)] dL_law_479 (by decide) rfl ?_
  refine k_aload_n 3 2 dL_law_481 rfl rfl ?_
  refine k_aload_n 5 0 dL_law_482 rfl rfl ?_
  refine k_iload 1 dL_law_483 rfl ?_
  refine k_iconst dL_law_485 ?_
  refine k_iadd dL_law_486 ?_
  refine k_sld (i + 1) hX hb hkb (by omega) (by omega) (by omega) dL_law_487 ?_
  obtain ⟨fsM, cM⟩ := hM.cl
  refine k_useV (k_runV (c_X8_count θ.2.1 κ (mm := mm) (what := (xs (i + 1)).toInt) hM hs (inI_of _)) w_L_107 ⟨q_885, q_886⟩ rfl rfl cM rfl ⟨(Nat.le_of_ble_eq_true rfl), (Nat.le_of_ble_eq_true rfl)⟩ (Nat.le_of_ble_eq_true rfl) dL_law_488) ⟨by show _ ≤ 601024; omega, by show _ ≤ 7293034; omega⟩ (fun w9 L2 f2 hw => ?_)
  obtain ⟨v9, rfl, rfl, hr2, hd2⟩ := hw
  replace hO1 := hO1.fr hr2 rfl
  rcases hd1 with ⟨hx1, rfl, rfl, hC1⟩ | ⟨hx1, rfl, hC1⟩
  · replace hC1 := hC1.fr hr2 rfl
    rcases hd2 with ⟨hx2, rfl, hM2⟩ | ⟨hx2, hM2⟩
    · exact law_tail 491 hs hC1 hM2 hO1 rfl (fun _ => rfl) ⟨by omega, by omega⟩ ⟨by omega, by omega⟩ cont dL_law_491 dL_law_493 dL_law_494 dL_law_497 dL_law_499 dL_law_504 dL_law_506 dL_law_509 dL_law_510 dL_law_511 dL_law_512 dL_law_514 dL_law_515 dL_law_516 dL_law_521 (by decide)
    · exact absurd (hx1.symm.trans hx2) (by decide)
  · replace hC1 := hC1.fr hr2 rfl
    rcases hd2 with ⟨hx2, rfl, hM2⟩ | ⟨hx2, hM2⟩
    · exact absurd (hx1.symm.trans hx2) (by decide)
    · exact law_tail 491 hs hC1 hM2 hO1 rfl (fun h0 => absurd h0 (by decide)) ⟨by omega, by omega⟩ ⟨by omega, by omega⟩ cont dL_law_491 dL_law_493 dL_law_494 dL_law_497 dL_law_499 dL_law_504 dL_law_506 dL_law_509 dL_law_510 dL_law_511 dL_law_512 dL_law_514 dL_law_515 dL_law_516 dL_law_521 (by decide)
set_option maxHeartbeats 4000000 in
set_option maxRecDepth 100000 in
/-- water -/
theorem law_case6 {θ : Kt} {κ : Kx} {Q : State → Prop} {L : List Nat} {f : Nat → wE} {b N tt mm ou i k n : Nat} {xs : Nat → Int32} {σ : Sg} {thr g : Int} (hE : LwE θ κ b N xs) (hs : SgOk σ) (hC : CS κ L f tt σ) (hM : MS κ L f mm thr σ) (hO : OutR κ L f ou g) (hi : i + 6 ≤ N) (hkn : k + 4 ≤ 601024 ∧ n + 70 ≤ 7293034) (cont : LCont θ κ Q b tt mm ou i k n) : k_G θ κ cL_law 9 (some .boolean) RL room_1 Q L f k n 524 [(4, .int (iI (i : Int))), (3, .ref ou), (2, .ref mm), (1, .ref tt), (0, .ref b)] [] := by
  obtain ⟨hts, hnc, hX, hb, hkb, hN⟩ := hE
  refine k_aload_n 3 1 dL_law_524 rfl rfl ?_
  refine k_aload_n 4 0 dL_law_525 rfl rfl ?_
  refine k_iload 0 dL_law_526 rfl ?_
  refine k_iconst dL_law_528 ?_
  refine k_iadd dL_law_529 ?_
  refine k_sld (i + 1) hX hb hkb (by omega) (by omega) (by omega) dL_law_530 ?_
  refine k_aload_n 4 0 dL_law_531 rfl rfl ?_
  refine k_iload 0 dL_law_532 rfl ?_
  refine k_iconst dL_law_534 ?_
  refine k_iadd dL_law_535 ?_
  refine k_sld (i + 2) hX hb hkb (by omega) (by omega) (by omega) dL_law_536 ?_
  refine k_aload_n 1 3 dL_law_537 rfl rfl ?_
  refine k_useV (k_runSW (nA := 4) (c_L_water θ.2.1 κ (tt := tt) (w := (xs (i + 1)).toInt) (what := (xs (i + 2)).toInt) (ou := ou) hC hO hts hs (inI_of _) (inI_of _)) hnc ⟨⟨q_552, q_37, q_554⟩, ⟨by decide, by decide⟩, by decide +kernel⟩ q_553 rfl rfl ⟨(Nat.le_of_ble_eq_true rfl), (Nat.le_of_ble_eq_true rfl)⟩ (Nat.le_of_ble_eq_true rfl) dL_law_538) ⟨by show _ ≤ 601024; omega, by show _ ≤ 7293034; omega⟩ (fun w9 L1 f1 hw => ?_)
  obtain ⟨k9, g9, rfl, hr1, hO1, hd1⟩ := hw
  replace hM := hM.fr hr1 rfl
  refine k_istore [(5, .int (iI k9)), (4, .int (iI (i : Int))), (3, .ref ou), (2, .ref mm), (1, .ref tt), (0, .ref b)] dL_law_541 (by decide) rfl ?_
  refine k_aload_n 3 2 dL_law_543 rfl rfl ?_
  refine k_aload_n 5 0 dL_law_544 rfl rfl ?_
  refine k_iload 1 dL_law_545 rfl ?_
  refine k_iconst dL_law_547 ?_
  refine k_iadd dL_law_548 ?_
  refine k_sld (i + 1) hX hb hkb (by omega) (by omega) (by omega) dL_law_549 ?_
  refine k_aload_n 5 0 dL_law_550 rfl rfl ?_
  refine k_iload 1 dL_law_551 rfl ?_
  refine k_iconst dL_law_553 ?_
  refine k_iadd dL_law_554 ?_
  refine k_sld (i + 2) hX hb hkb (by omega) (by omega) (by omega) dL_law_555 ?_
  obtain ⟨fsM, cM⟩ := hM.cl
  refine k_useV (k_runV (c_X8_water θ.2.1 κ (mm := mm) (w := (xs (i + 1)).toInt) (what := (xs (i + 2)).toInt) hM hs (inI_of _) (inI_of _)) w_L_110 ⟨q_894, q_895⟩ rfl rfl cM rfl ⟨(Nat.le_of_ble_eq_true rfl), (Nat.le_of_ble_eq_true rfl)⟩ (Nat.le_of_ble_eq_true rfl) dL_law_556) ⟨by show _ ≤ 601024; omega, by show _ ≤ 7293034; omega⟩ (fun w9 L2 f2 hw => ?_)
  obtain ⟨v9, rfl, rfl, hr2, hd2⟩ := hw
  replace hO1 := hO1.fr hr2 rfl
  rcases hd1 with ⟨hx1, rfl, rfl, hC1⟩ | ⟨hx1, rfl, hC1⟩
  · replace hC1 := hC1.fr hr2 rfl
    rcases hd2 with ⟨hx2, rfl, hM2⟩ | ⟨hx2, hM2⟩
    · exact law_tail 559 hs hC1 hM2 hO1 rfl (fun _ => rfl) ⟨by omega, by omega⟩ ⟨by omega, by omega⟩ cont dL_law_559 dL_law_561 dL_law_562 dL_law_565 dL_law_567 dL_law_572 dL_law_574 dL_law_577 dL_law_578 dL_law_579 dL_law_580 dL_law_582 dL_law_583 dL_law_584 dL_law_589 (by decide)
    · exact absurd (hx1.symm.trans hx2) (by decide)
  · replace hC1 := hC1.fr hr2 rfl
    rcases hd2 with ⟨hx2, rfl, hM2⟩ | ⟨hx2, hM2⟩
    · exact absurd (hx1.symm.trans hx2) (by decide)
    · exact law_tail 559 hs hC1 hM2 hO1 rfl (fun h0 => absurd h0 (by decide)) ⟨by omega, by omega⟩ ⟨by omega, by omega⟩ cont dL_law_559 dL_law_561 dL_law_562 dL_law_565 dL_law_567 dL_law_572 dL_law_574 dL_law_577 dL_law_578 dL_law_579 dL_law_580 dL_law_582 dL_law_583 dL_law_584 dL_law_589 (by decide)
set_option maxHeartbeats 4000000 in
set_option maxRecDepth 100000 in
/-- next -/
theorem law_case7 {θ : Kt} {κ : Kx} {Q : State → Prop} {L : List Nat} {f : Nat → wE} {b N tt mm ou i k n : Nat} {xs : Nat → Int32} {σ : Sg} {thr g : Int} (hE : LwE θ κ b N xs) (hs : SgOk σ) (hC : CS κ L f tt σ) (hM : MS κ L f mm thr σ) (hO : OutR κ L f ou g) (hi : i + 6 ≤ N) (hkn : k + 4 ≤ 601024 ∧ n + 70 ≤ 7293034) (cont : LCont θ κ Q b tt mm ou i k n) : k_G θ κ cL_law 9 (some .boolean) RL room_1 Q L f k n 592 [(4, .int (iI (i : Int))), (3, .ref ou), (2, .ref mm), (1, .ref tt), (0, .ref b)] [] := by
  obtain ⟨hts, hnc, hX, hb, hkb, hN⟩ := hE
  by_cases hz : (xs (i + 2)).toInt = 0
  · refine k_aload_n 3 1 dL_law_592 rfl rfl ?_
    refine k_aload_n 4 0 dL_law_593 rfl rfl ?_
    refine k_iload 0 dL_law_594 rfl ?_
    refine k_iconst dL_law_596 ?_
    refine k_iadd dL_law_597 ?_
    refine k_sld (i + 1) hX hb hkb (by omega) (by omega) (by omega) dL_law_598 ?_
    refine k_aload_n 4 0 dL_law_599 rfl rfl ?_
    refine k_iload 0 dL_law_600 rfl ?_
    refine k_iconst dL_law_602 ?_
    refine k_iadd dL_law_603 ?_
    refine k_sld (i + 2) hX hb hkb (by omega) (by omega) (by omega) dL_law_604 ?_
    refine k_if_eq 612 dL_law_605 (by decide) (inI_of _) (fun _ => ?_) (fun h => absurd hz h)
    refine k_iconst dL_law_612 ?_
    refine k_aload_n 1 3 dL_law_613 rfl rfl ?_
    refine k_useV (k_runSW (nA := 4) (c_L_next θ.2.1 κ (tt := tt) (t := (xs (i + 1)).toInt) (b := false) (ou := ou) hC hO hts hs (inI_of _)) hnc ⟨⟨q_562, q_37, q_564⟩, ⟨by decide, by decide⟩, by decide +kernel⟩ q_563 rfl rfl ⟨(Nat.le_of_ble_eq_true rfl), (Nat.le_of_ble_eq_true rfl)⟩ (Nat.le_of_ble_eq_true rfl) dL_law_614) ⟨by show _ ≤ 601024; omega, by show _ ≤ 7293034; omega⟩ (fun w9 L1 f1 hw => ?_)
    obtain ⟨k9, g9, rfl, hr1, hO1, hd1⟩ := hw
    replace hM := hM.fr hr1 rfl
    refine k_istore [(5, .int (iI k9)), (4, .int (iI (i : Int))), (3, .ref ou), (2, .ref mm), (1, .ref tt), (0, .ref b)] dL_law_617 (by decide) rfl ?_
    refine k_aload_n 3 2 dL_law_619 rfl rfl ?_
    refine k_aload_n 5 0 dL_law_620 rfl rfl ?_
    refine k_iload 1 dL_law_621 rfl ?_
    refine k_iconst dL_law_623 ?_
    refine k_iadd dL_law_624 ?_
    refine k_sld (i + 1) hX hb hkb (by omega) (by omega) (by omega) dL_law_625 ?_
    refine k_aload_n 5 0 dL_law_626 rfl rfl ?_
    refine k_iload 1 dL_law_627 rfl ?_
    refine k_iconst dL_law_629 ?_
    refine k_iadd dL_law_630 ?_
    refine k_sld (i + 2) hX hb hkb (by omega) (by omega) (by omega) dL_law_631 ?_
    refine k_if_eq 639 dL_law_632 (by decide) (inI_of _) (fun _ => ?_) (fun h => absurd hz h)
    refine k_iconst dL_law_639 ?_
    obtain ⟨fsM, cM⟩ := hM.cl
    refine k_useV (k_runV (c_X8_next θ.2.1 κ (mm := mm) (t := (xs (i + 1)).toInt) (b := false) hM hs (inI_of _)) w_L_114 ⟨q_906, q_907⟩ rfl rfl cM rfl ⟨(Nat.le_of_ble_eq_true rfl), (Nat.le_of_ble_eq_true rfl)⟩ (Nat.le_of_ble_eq_true rfl) dL_law_640) ⟨by show _ ≤ 601024; omega, by show _ ≤ 7293034; omega⟩ (fun w9 L2 f2 hw => ?_)
    obtain ⟨v9, rfl, rfl, hr2, hd2⟩ := hw
    replace hO1 := hO1.fr hr2 rfl
    rcases hd1 with ⟨hx1, rfl, rfl, hC1⟩ | ⟨hx1, rfl, hC1⟩
    · replace hC1 := hC1.fr hr2 rfl
      rcases hd2 with ⟨hx2, rfl, hM2⟩ | ⟨hx2, hM2⟩
      · exact law_tail 643 hs hC1 hM2 hO1 rfl (fun _ => rfl) ⟨by omega, by omega⟩ ⟨by omega, by omega⟩ cont dL_law_643 dL_law_645 dL_law_646 dL_law_649 dL_law_651 dL_law_656 dL_law_658 dL_law_661 dL_law_662 dL_law_663 dL_law_664 dL_law_666 dL_law_667 dL_law_668 dL_law_673 (by decide)
      · exact absurd (hx1.symm.trans hx2) (by decide)
    · replace hC1 := hC1.fr hr2 rfl
      rcases hd2 with ⟨hx2, rfl, hM2⟩ | ⟨hx2, hM2⟩
      · exact absurd (hx1.symm.trans hx2) (by decide)
      · exact law_tail 643 hs hC1 hM2 hO1 rfl (fun h0 => absurd h0 (by decide)) ⟨by omega, by omega⟩ ⟨by omega, by omega⟩ cont dL_law_643 dL_law_645 dL_law_646 dL_law_649 dL_law_651 dL_law_656 dL_law_658 dL_law_661 dL_law_662 dL_law_663 dL_law_664 dL_law_666 dL_law_667 dL_law_668 dL_law_673 (by decide)
  · refine k_aload_n 3 1 dL_law_592 rfl rfl ?_
    refine k_aload_n 4 0 dL_law_593 rfl rfl ?_
    refine k_iload 0 dL_law_594 rfl ?_
    refine k_iconst dL_law_596 ?_
    refine k_iadd dL_law_597 ?_
    refine k_sld (i + 1) hX hb hkb (by omega) (by omega) (by omega) dL_law_598 ?_
    refine k_aload_n 4 0 dL_law_599 rfl rfl ?_
    refine k_iload 0 dL_law_600 rfl ?_
    refine k_iconst dL_law_602 ?_
    refine k_iadd dL_law_603 ?_
    refine k_sld (i + 2) hX hb hkb (by omega) (by omega) (by omega) dL_law_604 ?_
    refine k_if_eq 612 dL_law_605 (by decide) (inI_of _) (fun h => absurd h hz) (fun _ => ?_)
    refine k_iconst dL_law_608 ?_
    refine k_goto 613 dL_law_609 (by decide) ?_
    refine k_aload_n 1 3 dL_law_613 rfl rfl ?_
    refine k_useV (k_runSW (nA := 4) (c_L_next θ.2.1 κ (tt := tt) (t := (xs (i + 1)).toInt) (b := true) (ou := ou) hC hO hts hs (inI_of _)) hnc ⟨⟨q_562, q_37, q_564⟩, ⟨by decide, by decide⟩, by decide +kernel⟩ q_563 rfl rfl ⟨(Nat.le_of_ble_eq_true rfl), (Nat.le_of_ble_eq_true rfl)⟩ (Nat.le_of_ble_eq_true rfl) dL_law_614) ⟨by show _ ≤ 601024; omega, by show _ ≤ 7293034; omega⟩ (fun w9 L1 f1 hw => ?_)
    obtain ⟨k9, g9, rfl, hr1, hO1, hd1⟩ := hw
    replace hM := hM.fr hr1 rfl
    refine k_istore [(5, .int (iI k9)), (4, .int (iI (i : Int))), (3, .ref ou), (2, .ref mm), (1, .ref tt), (0, .ref b)] dL_law_617 (by decide) rfl ?_
    refine k_aload_n 3 2 dL_law_619 rfl rfl ?_
    refine k_aload_n 5 0 dL_law_620 rfl rfl ?_
    refine k_iload 1 dL_law_621 rfl ?_
    refine k_iconst dL_law_623 ?_
    refine k_iadd dL_law_624 ?_
    refine k_sld (i + 1) hX hb hkb (by omega) (by omega) (by omega) dL_law_625 ?_
    refine k_aload_n 5 0 dL_law_626 rfl rfl ?_
    refine k_iload 1 dL_law_627 rfl ?_
    refine k_iconst dL_law_629 ?_
    refine k_iadd dL_law_630 ?_
    refine k_sld (i + 2) hX hb hkb (by omega) (by omega) (by omega) dL_law_631 ?_
    refine k_if_eq 639 dL_law_632 (by decide) (inI_of _) (fun h => absurd h hz) (fun _ => ?_)
    refine k_iconst dL_law_635 ?_
    refine k_goto 640 dL_law_636 (by decide) ?_
    obtain ⟨fsM, cM⟩ := hM.cl
    refine k_useV (k_runV (c_X8_next θ.2.1 κ (mm := mm) (t := (xs (i + 1)).toInt) (b := true) hM hs (inI_of _)) w_L_114 ⟨q_906, q_907⟩ rfl rfl cM rfl ⟨(Nat.le_of_ble_eq_true rfl), (Nat.le_of_ble_eq_true rfl)⟩ (Nat.le_of_ble_eq_true rfl) dL_law_640) ⟨by show _ ≤ 601024; omega, by show _ ≤ 7293034; omega⟩ (fun w9 L2 f2 hw => ?_)
    obtain ⟨v9, rfl, rfl, hr2, hd2⟩ := hw
    replace hO1 := hO1.fr hr2 rfl
    rcases hd1 with ⟨hx1, rfl, rfl, hC1⟩ | ⟨hx1, rfl, hC1⟩
    · replace hC1 := hC1.fr hr2 rfl
      rcases hd2 with ⟨hx2, rfl, hM2⟩ | ⟨hx2, hM2⟩
      · exact law_tail 643 hs hC1 hM2 hO1 rfl (fun _ => rfl) ⟨by omega, by omega⟩ ⟨by omega, by omega⟩ cont dL_law_643 dL_law_645 dL_law_646 dL_law_649 dL_law_651 dL_law_656 dL_law_658 dL_law_661 dL_law_662 dL_law_663 dL_law_664 dL_law_666 dL_law_667 dL_law_668 dL_law_673 (by decide)
      · exact absurd (hx1.symm.trans hx2) (by decide)
    · replace hC1 := hC1.fr hr2 rfl
      rcases hd2 with ⟨hx2, rfl, hM2⟩ | ⟨hx2, hM2⟩
      · exact absurd (hx1.symm.trans hx2) (by decide)
      · exact law_tail 643 hs hC1 hM2 hO1 rfl (fun h0 => absurd h0 (by decide)) ⟨by omega, by omega⟩ ⟨by omega, by omega⟩ cont dL_law_643 dL_law_645 dL_law_646 dL_law_649 dL_law_651 dL_law_656 dL_law_658 dL_law_661 dL_law_662 dL_law_663 dL_law_664 dL_law_666 dL_law_667 dL_law_668 dL_law_673 (by decide)
set_option maxHeartbeats 4000000 in
set_option maxRecDepth 100000 in
/-- datum -/
theorem law_case8 {θ : Kt} {κ : Kx} {Q : State → Prop} {L : List Nat} {f : Nat → wE} {b N tt mm ou i k n : Nat} {xs : Nat → Int32} {σ : Sg} {thr g : Int} (hE : LwE θ κ b N xs) (hs : SgOk σ) (hC : CS κ L f tt σ) (hM : MS κ L f mm thr σ) (hO : OutR κ L f ou g) (hi : i + 6 ≤ N) (hkn : k + 4 ≤ 601024 ∧ n + 70 ≤ 7293034) (cont : LCont θ κ Q b tt mm ou i k n) : k_G θ κ cL_law 9 (some .boolean) RL room_1 Q L f k n 676 [(4, .int (iI (i : Int))), (3, .ref ou), (2, .ref mm), (1, .ref tt), (0, .ref b)] [] := by
  obtain ⟨hts, hnc, hX, hb, hkb, hN⟩ := hE
  refine k_aload_n 3 1 dL_law_676 rfl rfl ?_
  refine k_aload_n 4 0 dL_law_677 rfl rfl ?_
  refine k_iload 0 dL_law_678 rfl ?_
  refine k_iconst dL_law_680 ?_
  refine k_iadd dL_law_681 ?_
  refine k_sld (i + 1) hX hb hkb (by omega) (by omega) (by omega) dL_law_682 ?_
  refine k_aload_n 1 3 dL_law_683 rfl rfl ?_
  refine k_useV (k_runSW (nA := 3) (c_L_datum θ.2.1 κ (tt := tt) (what := (xs (i + 1)).toInt) (ou := ou) hC hO hts hs (inI_of _)) hnc ⟨⟨q_569, q_37, q_571⟩, ⟨by decide, by decide⟩, by decide +kernel⟩ q_570 rfl rfl ⟨(Nat.le_of_ble_eq_true rfl), (Nat.le_of_ble_eq_true rfl)⟩ (Nat.le_of_ble_eq_true rfl) dL_law_684) ⟨by show _ ≤ 601024; omega, by show _ ≤ 7293034; omega⟩ (fun w9 L1 f1 hw => ?_)
  obtain ⟨k9, g9, rfl, hr1, hO1, hd1⟩ := hw
  replace hM := hM.fr hr1 rfl
  refine k_istore [(5, .int (iI k9)), (4, .int (iI (i : Int))), (3, .ref ou), (2, .ref mm), (1, .ref tt), (0, .ref b)] dL_law_687 (by decide) rfl ?_
  refine k_aload_n 3 2 dL_law_689 rfl rfl ?_
  refine k_aload_n 5 0 dL_law_690 rfl rfl ?_
  refine k_iload 1 dL_law_691 rfl ?_
  refine k_iconst dL_law_693 ?_
  refine k_iadd dL_law_694 ?_
  refine k_sld (i + 1) hX hb hkb (by omega) (by omega) (by omega) dL_law_695 ?_
  obtain ⟨fsM, cM⟩ := hM.cl
  refine k_useV (k_runV (c_X8_datum θ.2.1 κ (mm := mm) (what := (xs (i + 1)).toInt) hM hs (inI_of _)) w_L_117 ⟨q_910, q_911⟩ rfl rfl cM rfl ⟨(Nat.le_of_ble_eq_true rfl), (Nat.le_of_ble_eq_true rfl)⟩ (Nat.le_of_ble_eq_true rfl) dL_law_696) ⟨by show _ ≤ 601024; omega, by show _ ≤ 7293034; omega⟩ (fun w9 L2 f2 hw => ?_)
  obtain ⟨v9, rfl, rfl, hr2, hd2⟩ := hw
  replace hO1 := hO1.fr hr2 rfl
  rcases hd1 with ⟨hx1, rfl, rfl, hC1⟩ | ⟨hx1, rfl, hC1⟩
  · replace hC1 := hC1.fr hr2 rfl
    rcases hd2 with ⟨hx2, rfl, hM2⟩ | ⟨hx2, hM2⟩
    · exact law_tail 699 hs hC1 hM2 hO1 rfl (fun _ => rfl) ⟨by omega, by omega⟩ ⟨by omega, by omega⟩ cont dL_law_699 dL_law_701 dL_law_702 dL_law_705 dL_law_707 dL_law_712 dL_law_714 dL_law_717 dL_law_718 dL_law_719 dL_law_720 dL_law_722 dL_law_723 dL_law_724 dL_law_729 (by decide)
    · exact absurd (hx1.symm.trans hx2) (by decide)
  · replace hC1 := hC1.fr hr2 rfl
    rcases hd2 with ⟨hx2, rfl, hM2⟩ | ⟨hx2, hM2⟩
    · exact absurd (hx1.symm.trans hx2) (by decide)
    · exact law_tail 699 hs hC1 hM2 hO1 rfl (fun h0 => absurd h0 (by decide)) ⟨by omega, by omega⟩ ⟨by omega, by omega⟩ cont dL_law_699 dL_law_701 dL_law_702 dL_law_705 dL_law_707 dL_law_712 dL_law_714 dL_law_717 dL_law_718 dL_law_719 dL_law_720 dL_law_722 dL_law_723 dL_law_724 dL_law_729 (by decide)
set_option maxHeartbeats 4000000 in
set_option maxRecDepth 100000 in
/-- addPort -/
theorem law_case9 {θ : Kt} {κ : Kx} {Q : State → Prop} {L : List Nat} {f : Nat → wE} {b N tt mm ou i k n : Nat} {xs : Nat → Int32} {σ : Sg} {thr g : Int} (hE : LwE θ κ b N xs) (hs : SgOk σ) (hC : CS κ L f tt σ) (hM : MS κ L f mm thr σ) (hO : OutR κ L f ou g) (hi : i + 6 ≤ N) (hkn : k + 4 ≤ 601024 ∧ n + 70 ≤ 7293034) (cont : LCont θ κ Q b tt mm ou i k n) : k_G θ κ cL_law 9 (some .boolean) RL room_1 Q L f k n 732 [(4, .int (iI (i : Int))), (3, .ref ou), (2, .ref mm), (1, .ref tt), (0, .ref b)] [] := by
  obtain ⟨hts, hnc, hX, hb, hkb, hN⟩ := hE
  refine k_aload_n 3 1 dL_law_732 rfl rfl ?_
  refine k_aload_n 1 3 dL_law_733 rfl rfl ?_
  refine k_useV (k_runSW (nA := 2) (c_L_addPort θ.2.1 κ (tt := tt) (ou := ou) hC hO hts hs) hnc ⟨⟨q_577, q_37, q_579⟩, ⟨by decide, by decide⟩, by decide +kernel⟩ q_578 rfl rfl ⟨(Nat.le_of_ble_eq_true rfl), (Nat.le_of_ble_eq_true rfl)⟩ (Nat.le_of_ble_eq_true rfl) dL_law_734) ⟨by show _ ≤ 601024; omega, by show _ ≤ 7293034; omega⟩ (fun w9 L1 f1 hw => ?_)
  obtain ⟨k9, g9, rfl, hr1, hO1, hd1⟩ := hw
  replace hM := hM.fr hr1 rfl
  refine k_istore [(5, .int (iI k9)), (4, .int (iI (i : Int))), (3, .ref ou), (2, .ref mm), (1, .ref tt), (0, .ref b)] dL_law_737 (by decide) rfl ?_
  refine k_aload_n 3 2 dL_law_739 rfl rfl ?_
  obtain ⟨fsM, cM⟩ := hM.cl
  refine k_useV (k_runV (c_X8_addPort θ.2.1 κ (mm := mm) hM hs) w_L_121 ⟨q_934, q_935⟩ rfl rfl cM rfl ⟨(Nat.le_of_ble_eq_true rfl), (Nat.le_of_ble_eq_true rfl)⟩ (Nat.le_of_ble_eq_true rfl) dL_law_740) ⟨by show _ ≤ 601024; omega, by show _ ≤ 7293034; omega⟩ (fun w9 L2 f2 hw => ?_)
  obtain ⟨v9, rfl, rfl, hr2, hd2⟩ := hw
  replace hO1 := hO1.fr hr2 rfl
  rcases hd1 with ⟨hx1, rfl, rfl, hC1⟩ | ⟨hx1, rfl, hC1⟩
  · replace hC1 := hC1.fr hr2 rfl
    rcases hd2 with ⟨hx2, rfl, hM2⟩ | ⟨hx2, hM2⟩
    · exact law_tail 743 (sAddPort_ok hs hx1) hC1 hM2 hO1 rfl (fun _ => rfl) ⟨by omega, by omega⟩ ⟨by omega, by omega⟩ cont dL_law_743 dL_law_745 dL_law_746 dL_law_749 dL_law_751 dL_law_756 dL_law_758 dL_law_761 dL_law_762 dL_law_763 dL_law_764 dL_law_766 dL_law_767 dL_law_768 dL_law_773 (by decide)
    · exact absurd (hx1.symm.trans hx2) (by decide)
  · replace hC1 := hC1.fr hr2 rfl
    rcases hd2 with ⟨hx2, rfl, hM2⟩ | ⟨hx2, hM2⟩
    · exact absurd (hx1.symm.trans hx2) (by decide)
    · exact law_tail 743 hs hC1 hM2 hO1 rfl (fun h0 => absurd h0 (by decide)) ⟨by omega, by omega⟩ ⟨by omega, by omega⟩ cont dL_law_743 dL_law_745 dL_law_746 dL_law_749 dL_law_751 dL_law_756 dL_law_758 dL_law_761 dL_law_762 dL_law_763 dL_law_764 dL_law_766 dL_law_767 dL_law_768 dL_law_773 (by decide)
set_option maxHeartbeats 4000000 in
set_option maxRecDepth 100000 in
/-- setPort -/
theorem law_case10 {θ : Kt} {κ : Kx} {Q : State → Prop} {L : List Nat} {f : Nat → wE} {b N tt mm ou i k n : Nat} {xs : Nat → Int32} {σ : Sg} {thr g : Int} (hE : LwE θ κ b N xs) (hs : SgOk σ) (hC : CS κ L f tt σ) (hM : MS κ L f mm thr σ) (hO : OutR κ L f ou g) (hi : i + 6 ≤ N) (hkn : k + 4 ≤ 601024 ∧ n + 70 ≤ 7293034) (cont : LCont θ κ Q b tt mm ou i k n) : k_G θ κ cL_law 9 (some .boolean) RL room_1 Q L f k n 776 [(4, .int (iI (i : Int))), (3, .ref ou), (2, .ref mm), (1, .ref tt), (0, .ref b)] [] := by
  obtain ⟨hts, hnc, hX, hb, hkb, hN⟩ := hE
  by_cases hz : (xs (i + 2)).toInt = 0
  · refine k_aload_n 3 1 dL_law_776 rfl rfl ?_
    refine k_aload_n 4 0 dL_law_777 rfl rfl ?_
    refine k_iload 0 dL_law_778 rfl ?_
    refine k_iconst dL_law_780 ?_
    refine k_iadd dL_law_781 ?_
    refine k_sld (i + 1) hX hb hkb (by omega) (by omega) (by omega) dL_law_782 ?_
    refine k_aload_n 4 0 dL_law_783 rfl rfl ?_
    refine k_iload 0 dL_law_784 rfl ?_
    refine k_iconst dL_law_786 ?_
    refine k_iadd dL_law_787 ?_
    refine k_sld (i + 2) hX hb hkb (by omega) (by omega) (by omega) dL_law_788 ?_
    refine k_if_eq 796 dL_law_789 (by decide) (inI_of _) (fun _ => ?_) (fun h => absurd hz h)
    refine k_iconst dL_law_796 ?_
    refine k_aload_n 4 0 dL_law_797 rfl rfl ?_
    refine k_iload 0 dL_law_798 rfl ?_
    refine k_iconst dL_law_800 ?_
    refine k_iadd dL_law_801 ?_
    refine k_sld (i + 3) hX hb hkb (by omega) (by omega) (by omega) dL_law_802 ?_
    refine k_aload_n 4 0 dL_law_803 rfl rfl ?_
    refine k_iload 0 dL_law_804 rfl ?_
    refine k_iconst dL_law_806 ?_
    refine k_iadd dL_law_807 ?_
    refine k_sld (i + 4) hX hb hkb (by omega) (by omega) (by omega) dL_law_808 ?_
    refine k_aload_n 1 3 dL_law_809 rfl rfl ?_
    refine k_useV (k_runSW (nA := 6) (c_L_setPort θ.2.1 κ (tt := tt) (p := (xs (i + 1)).toInt) (b := false) (sh := (xs (i + 3)).toInt) (fa := (xs (i + 4)).toInt) (ou := ou) hC hO hts hs (inI_of _) (inI_of _) (inI_of _)) hnc ⟨⟨q_617, q_37, q_619⟩, ⟨by decide, by decide⟩, by decide +kernel⟩ q_618 rfl rfl ⟨(Nat.le_of_ble_eq_true rfl), (Nat.le_of_ble_eq_true rfl)⟩ (Nat.le_of_ble_eq_true rfl) dL_law_810) ⟨by show _ ≤ 601024; omega, by show _ ≤ 7293034; omega⟩ (fun w9 L1 f1 hw => ?_)
    obtain ⟨k9, g9, rfl, hr1, hO1, hd1⟩ := hw
    replace hM := hM.fr hr1 rfl
    refine k_istore [(5, .int (iI k9)), (4, .int (iI (i : Int))), (3, .ref ou), (2, .ref mm), (1, .ref tt), (0, .ref b)] dL_law_813 (by decide) rfl ?_
    refine k_aload_n 3 2 dL_law_815 rfl rfl ?_
    refine k_aload_n 5 0 dL_law_816 rfl rfl ?_
    refine k_iload 1 dL_law_817 rfl ?_
    refine k_iconst dL_law_819 ?_
    refine k_iadd dL_law_820 ?_
    refine k_sld (i + 1) hX hb hkb (by omega) (by omega) (by omega) dL_law_821 ?_
    refine k_aload_n 5 0 dL_law_822 rfl rfl ?_
    refine k_iload 1 dL_law_823 rfl ?_
    refine k_iconst dL_law_825 ?_
    refine k_iadd dL_law_826 ?_
    refine k_sld (i + 2) hX hb hkb (by omega) (by omega) (by omega) dL_law_827 ?_
    refine k_if_eq 835 dL_law_828 (by decide) (inI_of _) (fun _ => ?_) (fun h => absurd hz h)
    refine k_iconst dL_law_835 ?_
    refine k_aload_n 5 0 dL_law_836 rfl rfl ?_
    refine k_iload 1 dL_law_837 rfl ?_
    refine k_iconst dL_law_839 ?_
    refine k_iadd dL_law_840 ?_
    refine k_sld (i + 3) hX hb hkb (by omega) (by omega) (by omega) dL_law_841 ?_
    refine k_aload_n 5 0 dL_law_842 rfl rfl ?_
    refine k_iload 1 dL_law_843 rfl ?_
    refine k_iconst dL_law_845 ?_
    refine k_iadd dL_law_846 ?_
    refine k_sld (i + 4) hX hb hkb (by omega) (by omega) (by omega) dL_law_847 ?_
    obtain ⟨fsM, cM⟩ := hM.cl
    refine k_useV (k_runV (c_X8_setPort θ.2.1 κ (mm := mm) (p := (xs (i + 1)).toInt) (b := false) (sh := (xs (i + 3)).toInt) (fa := (xs (i + 4)).toInt) hM hs (inI_of _) (inI_of _) (inI_of _)) w_L_125 ⟨q_938, q_939⟩ rfl rfl cM rfl ⟨(Nat.le_of_ble_eq_true rfl), (Nat.le_of_ble_eq_true rfl)⟩ (Nat.le_of_ble_eq_true rfl) dL_law_848) ⟨by show _ ≤ 601024; omega, by show _ ≤ 7293034; omega⟩ (fun w9 L2 f2 hw => ?_)
    obtain ⟨v9, rfl, rfl, hr2, hd2⟩ := hw
    replace hO1 := hO1.fr hr2 rfl
    rcases hd1 with ⟨hx1, rfl, rfl, hC1⟩ | ⟨hx1, rfl, hC1⟩ | ⟨hx1, rfl, hC1⟩
    · replace hC1 := hC1.fr hr2 rfl
      rcases hd2 with ⟨hx2, rfl, hM2⟩ | ⟨hx2, hM2⟩ | ⟨hx2, hM2⟩
      · exact law_tail 851 (sSetPort_ok hs hx1) hC1 hM2 hO1 rfl (fun _ => rfl) ⟨by omega, by omega⟩ ⟨by omega, by omega⟩ cont dL_law_851 dL_law_853 dL_law_854 dL_law_857 dL_law_859 dL_law_864 dL_law_866 dL_law_869 dL_law_870 dL_law_871 dL_law_872 dL_law_874 dL_law_875 dL_law_876 dL_law_881 (by decide)
      · exact absurd (hx1.symm.trans hx2) (by decide)
      · exact absurd (hx1.symm.trans hx2) (by decide)
    · replace hC1 := hC1.fr hr2 rfl
      rcases hd2 with ⟨hx2, rfl, hM2⟩ | ⟨hx2, hM2⟩ | ⟨hx2, hM2⟩
      · exact absurd (hx1.symm.trans hx2) (by decide)
      · exact law_tail 851 hs hC1 hM2 hO1 rfl (fun h0 => absurd h0 (by decide)) ⟨by omega, by omega⟩ ⟨by omega, by omega⟩ cont dL_law_851 dL_law_853 dL_law_854 dL_law_857 dL_law_859 dL_law_864 dL_law_866 dL_law_869 dL_law_870 dL_law_871 dL_law_872 dL_law_874 dL_law_875 dL_law_876 dL_law_881 (by decide)
      · exact absurd (hx1.symm.trans hx2) (by decide)
    · replace hC1 := hC1.fr hr2 rfl
      rcases hd2 with ⟨hx2, rfl, hM2⟩ | ⟨hx2, hM2⟩ | ⟨hx2, hM2⟩
      · exact absurd (hx1.symm.trans hx2) (by decide)
      · exact absurd (hx1.symm.trans hx2) (by decide)
      · exact law_tail 851 hs hC1 hM2 hO1 rfl (fun h0 => absurd h0 (by decide)) ⟨by omega, by omega⟩ ⟨by omega, by omega⟩ cont dL_law_851 dL_law_853 dL_law_854 dL_law_857 dL_law_859 dL_law_864 dL_law_866 dL_law_869 dL_law_870 dL_law_871 dL_law_872 dL_law_874 dL_law_875 dL_law_876 dL_law_881 (by decide)
  · refine k_aload_n 3 1 dL_law_776 rfl rfl ?_
    refine k_aload_n 4 0 dL_law_777 rfl rfl ?_
    refine k_iload 0 dL_law_778 rfl ?_
    refine k_iconst dL_law_780 ?_
    refine k_iadd dL_law_781 ?_
    refine k_sld (i + 1) hX hb hkb (by omega) (by omega) (by omega) dL_law_782 ?_
    refine k_aload_n 4 0 dL_law_783 rfl rfl ?_
    refine k_iload 0 dL_law_784 rfl ?_
    refine k_iconst dL_law_786 ?_
    refine k_iadd dL_law_787 ?_
    refine k_sld (i + 2) hX hb hkb (by omega) (by omega) (by omega) dL_law_788 ?_
    refine k_if_eq 796 dL_law_789 (by decide) (inI_of _) (fun h => absurd h hz) (fun _ => ?_)
    refine k_iconst dL_law_792 ?_
    refine k_goto 797 dL_law_793 (by decide) ?_
    refine k_aload_n 4 0 dL_law_797 rfl rfl ?_
    refine k_iload 0 dL_law_798 rfl ?_
    refine k_iconst dL_law_800 ?_
    refine k_iadd dL_law_801 ?_
    refine k_sld (i + 3) hX hb hkb (by omega) (by omega) (by omega) dL_law_802 ?_
    refine k_aload_n 4 0 dL_law_803 rfl rfl ?_
    refine k_iload 0 dL_law_804 rfl ?_
    refine k_iconst dL_law_806 ?_
    refine k_iadd dL_law_807 ?_
    refine k_sld (i + 4) hX hb hkb (by omega) (by omega) (by omega) dL_law_808 ?_
    refine k_aload_n 1 3 dL_law_809 rfl rfl ?_
    refine k_useV (k_runSW (nA := 6) (c_L_setPort θ.2.1 κ (tt := tt) (p := (xs (i + 1)).toInt) (b := true) (sh := (xs (i + 3)).toInt) (fa := (xs (i + 4)).toInt) (ou := ou) hC hO hts hs (inI_of _) (inI_of _) (inI_of _)) hnc ⟨⟨q_617, q_37, q_619⟩, ⟨by decide, by decide⟩, by decide +kernel⟩ q_618 rfl rfl ⟨(Nat.le_of_ble_eq_true rfl), (Nat.le_of_ble_eq_true rfl)⟩ (Nat.le_of_ble_eq_true rfl) dL_law_810) ⟨by show _ ≤ 601024; omega, by show _ ≤ 7293034; omega⟩ (fun w9 L1 f1 hw => ?_)
    obtain ⟨k9, g9, rfl, hr1, hO1, hd1⟩ := hw
    replace hM := hM.fr hr1 rfl
    refine k_istore [(5, .int (iI k9)), (4, .int (iI (i : Int))), (3, .ref ou), (2, .ref mm), (1, .ref tt), (0, .ref b)] dL_law_813 (by decide) rfl ?_
    refine k_aload_n 3 2 dL_law_815 rfl rfl ?_
    refine k_aload_n 5 0 dL_law_816 rfl rfl ?_
    refine k_iload 1 dL_law_817 rfl ?_
    refine k_iconst dL_law_819 ?_
    refine k_iadd dL_law_820 ?_
    refine k_sld (i + 1) hX hb hkb (by omega) (by omega) (by omega) dL_law_821 ?_
    refine k_aload_n 5 0 dL_law_822 rfl rfl ?_
    refine k_iload 1 dL_law_823 rfl ?_
    refine k_iconst dL_law_825 ?_
    refine k_iadd dL_law_826 ?_
    refine k_sld (i + 2) hX hb hkb (by omega) (by omega) (by omega) dL_law_827 ?_
    refine k_if_eq 835 dL_law_828 (by decide) (inI_of _) (fun h => absurd h hz) (fun _ => ?_)
    refine k_iconst dL_law_831 ?_
    refine k_goto 836 dL_law_832 (by decide) ?_
    refine k_aload_n 5 0 dL_law_836 rfl rfl ?_
    refine k_iload 1 dL_law_837 rfl ?_
    refine k_iconst dL_law_839 ?_
    refine k_iadd dL_law_840 ?_
    refine k_sld (i + 3) hX hb hkb (by omega) (by omega) (by omega) dL_law_841 ?_
    refine k_aload_n 5 0 dL_law_842 rfl rfl ?_
    refine k_iload 1 dL_law_843 rfl ?_
    refine k_iconst dL_law_845 ?_
    refine k_iadd dL_law_846 ?_
    refine k_sld (i + 4) hX hb hkb (by omega) (by omega) (by omega) dL_law_847 ?_
    obtain ⟨fsM, cM⟩ := hM.cl
    refine k_useV (k_runV (c_X8_setPort θ.2.1 κ (mm := mm) (p := (xs (i + 1)).toInt) (b := true) (sh := (xs (i + 3)).toInt) (fa := (xs (i + 4)).toInt) hM hs (inI_of _) (inI_of _) (inI_of _)) w_L_125 ⟨q_938, q_939⟩ rfl rfl cM rfl ⟨(Nat.le_of_ble_eq_true rfl), (Nat.le_of_ble_eq_true rfl)⟩ (Nat.le_of_ble_eq_true rfl) dL_law_848) ⟨by show _ ≤ 601024; omega, by show _ ≤ 7293034; omega⟩ (fun w9 L2 f2 hw => ?_)
    obtain ⟨v9, rfl, rfl, hr2, hd2⟩ := hw
    replace hO1 := hO1.fr hr2 rfl
    rcases hd1 with ⟨hx1, rfl, rfl, hC1⟩ | ⟨hx1, rfl, hC1⟩ | ⟨hx1, rfl, hC1⟩
    · replace hC1 := hC1.fr hr2 rfl
      rcases hd2 with ⟨hx2, rfl, hM2⟩ | ⟨hx2, hM2⟩ | ⟨hx2, hM2⟩
      · exact law_tail 851 (sSetPort_ok hs hx1) hC1 hM2 hO1 rfl (fun _ => rfl) ⟨by omega, by omega⟩ ⟨by omega, by omega⟩ cont dL_law_851 dL_law_853 dL_law_854 dL_law_857 dL_law_859 dL_law_864 dL_law_866 dL_law_869 dL_law_870 dL_law_871 dL_law_872 dL_law_874 dL_law_875 dL_law_876 dL_law_881 (by decide)
      · exact absurd (hx1.symm.trans hx2) (by decide)
      · exact absurd (hx1.symm.trans hx2) (by decide)
    · replace hC1 := hC1.fr hr2 rfl
      rcases hd2 with ⟨hx2, rfl, hM2⟩ | ⟨hx2, hM2⟩ | ⟨hx2, hM2⟩
      · exact absurd (hx1.symm.trans hx2) (by decide)
      · exact law_tail 851 hs hC1 hM2 hO1 rfl (fun h0 => absurd h0 (by decide)) ⟨by omega, by omega⟩ ⟨by omega, by omega⟩ cont dL_law_851 dL_law_853 dL_law_854 dL_law_857 dL_law_859 dL_law_864 dL_law_866 dL_law_869 dL_law_870 dL_law_871 dL_law_872 dL_law_874 dL_law_875 dL_law_876 dL_law_881 (by decide)
      · exact absurd (hx1.symm.trans hx2) (by decide)
    · replace hC1 := hC1.fr hr2 rfl
      rcases hd2 with ⟨hx2, rfl, hM2⟩ | ⟨hx2, hM2⟩ | ⟨hx2, hM2⟩
      · exact absurd (hx1.symm.trans hx2) (by decide)
      · exact absurd (hx1.symm.trans hx2) (by decide)
      · exact law_tail 851 hs hC1 hM2 hO1 rfl (fun h0 => absurd h0 (by decide)) ⟨by omega, by omega⟩ ⟨by omega, by omega⟩ cont dL_law_851 dL_law_853 dL_law_854 dL_law_857 dL_law_859 dL_law_864 dL_law_866 dL_law_869 dL_law_870 dL_law_871 dL_law_872 dL_law_874 dL_law_875 dL_law_876 dL_law_881 (by decide)
set_option maxHeartbeats 4000000 in
set_option maxRecDepth 100000 in
/-- setAddition -/
theorem law_case11 {θ : Kt} {κ : Kx} {Q : State → Prop} {L : List Nat} {f : Nat → wE} {b N tt mm ou i k n : Nat} {xs : Nat → Int32} {σ : Sg} {thr g : Int} (hE : LwE θ κ b N xs) (hs : SgOk σ) (hC : CS κ L f tt σ) (hM : MS κ L f mm thr σ) (hO : OutR κ L f ou g) (hi : i + 6 ≤ N) (hkn : k + 4 ≤ 601024 ∧ n + 70 ≤ 7293034) (cont : LCont θ κ Q b tt mm ou i k n) : k_G θ κ cL_law 9 (some .boolean) RL room_1 Q L f k n 884 [(4, .int (iI (i : Int))), (3, .ref ou), (2, .ref mm), (1, .ref tt), (0, .ref b)] [] := by
  obtain ⟨hts, hnc, hX, hb, hkb, hN⟩ := hE
  refine k_aload_n 3 1 dL_law_884 rfl rfl ?_
  refine k_aload_n 4 0 dL_law_885 rfl rfl ?_
  refine k_iload 0 dL_law_886 rfl ?_
  refine k_iconst dL_law_888 ?_
  refine k_iadd dL_law_889 ?_
  refine k_sld (i + 1) hX hb hkb (by omega) (by omega) (by omega) dL_law_890 ?_
  refine k_aload_n 4 0 dL_law_891 rfl rfl ?_
  refine k_iload 0 dL_law_892 rfl ?_
  refine k_iconst dL_law_894 ?_
  refine k_iadd dL_law_895 ?_
  refine k_sld (i + 2) hX hb hkb (by omega) (by omega) (by omega) dL_law_896 ?_
  refine k_aload_n 1 3 dL_law_897 rfl rfl ?_
  refine k_useV (k_runSW (nA := 4) (c_L_setAddition θ.2.1 κ (tt := tt) (p := (xs (i + 1)).toInt) (ad := (xs (i + 2)).toInt) (ou := ou) hC hO hts hs (inI_of _) (inI_of _)) hnc ⟨⟨q_632, q_37, q_634⟩, ⟨by decide, by decide⟩, by decide +kernel⟩ q_633 rfl rfl ⟨(Nat.le_of_ble_eq_true rfl), (Nat.le_of_ble_eq_true rfl)⟩ (Nat.le_of_ble_eq_true rfl) dL_law_898) ⟨by show _ ≤ 601024; omega, by show _ ≤ 7293034; omega⟩ (fun w9 L1 f1 hw => ?_)
  obtain ⟨k9, g9, rfl, hr1, hO1, hd1⟩ := hw
  replace hM := hM.fr hr1 rfl
  refine k_istore [(5, .int (iI k9)), (4, .int (iI (i : Int))), (3, .ref ou), (2, .ref mm), (1, .ref tt), (0, .ref b)] dL_law_901 (by decide) rfl ?_
  refine k_aload_n 3 2 dL_law_903 rfl rfl ?_
  refine k_aload_n 5 0 dL_law_904 rfl rfl ?_
  refine k_iload 1 dL_law_905 rfl ?_
  refine k_iconst dL_law_907 ?_
  refine k_iadd dL_law_908 ?_
  refine k_sld (i + 1) hX hb hkb (by omega) (by omega) (by omega) dL_law_909 ?_
  refine k_aload_n 5 0 dL_law_910 rfl rfl ?_
  refine k_iload 1 dL_law_911 rfl ?_
  refine k_iconst dL_law_913 ?_
  refine k_iadd dL_law_914 ?_
  refine k_sld (i + 2) hX hb hkb (by omega) (by omega) (by omega) dL_law_915 ?_
  obtain ⟨fsM, cM⟩ := hM.cl
  refine k_useV (k_runV (c_X8_setAddition θ.2.1 κ (mm := mm) (p := (xs (i + 1)).toInt) (ad := (xs (i + 2)).toInt) hM hs (inI_of _) (inI_of _)) w_L_128 ⟨q_948, q_949⟩ rfl rfl cM rfl ⟨(Nat.le_of_ble_eq_true rfl), (Nat.le_of_ble_eq_true rfl)⟩ (Nat.le_of_ble_eq_true rfl) dL_law_916) ⟨by show _ ≤ 601024; omega, by show _ ≤ 7293034; omega⟩ (fun w9 L2 f2 hw => ?_)
  obtain ⟨v9, rfl, rfl, hr2, hd2⟩ := hw
  replace hO1 := hO1.fr hr2 rfl
  rcases hd1 with ⟨hx1, rfl, rfl, hC1⟩ | ⟨hx1, rfl, hC1⟩ | ⟨hx1, rfl, hC1⟩
  · replace hC1 := hC1.fr hr2 rfl
    rcases hd2 with ⟨hx2, rfl, hM2⟩ | ⟨hx2, hM2⟩ | ⟨hx2, hM2⟩
    · exact law_tail 919 (sSetAdd_ok hs hx1) hC1 hM2 hO1 rfl (fun _ => rfl) ⟨by omega, by omega⟩ ⟨by omega, by omega⟩ cont dL_law_919 dL_law_921 dL_law_922 dL_law_925 dL_law_927 dL_law_932 dL_law_934 dL_law_937 dL_law_938 dL_law_939 dL_law_940 dL_law_942 dL_law_943 dL_law_944 dL_law_949 (by decide)
    · exact absurd (hx1.symm.trans hx2) (by decide)
    · exact absurd (hx1.symm.trans hx2) (by decide)
  · replace hC1 := hC1.fr hr2 rfl
    rcases hd2 with ⟨hx2, rfl, hM2⟩ | ⟨hx2, hM2⟩ | ⟨hx2, hM2⟩
    · exact absurd (hx1.symm.trans hx2) (by decide)
    · exact law_tail 919 hs hC1 hM2 hO1 rfl (fun h0 => absurd h0 (by decide)) ⟨by omega, by omega⟩ ⟨by omega, by omega⟩ cont dL_law_919 dL_law_921 dL_law_922 dL_law_925 dL_law_927 dL_law_932 dL_law_934 dL_law_937 dL_law_938 dL_law_939 dL_law_940 dL_law_942 dL_law_943 dL_law_944 dL_law_949 (by decide)
    · exact absurd (hx1.symm.trans hx2) (by decide)
  · replace hC1 := hC1.fr hr2 rfl
    rcases hd2 with ⟨hx2, rfl, hM2⟩ | ⟨hx2, hM2⟩ | ⟨hx2, hM2⟩
    · exact absurd (hx1.symm.trans hx2) (by decide)
    · exact absurd (hx1.symm.trans hx2) (by decide)
    · exact law_tail 919 hs hC1 hM2 hO1 rfl (fun h0 => absurd h0 (by decide)) ⟨by omega, by omega⟩ ⟨by omega, by omega⟩ cont dL_law_919 dL_law_921 dL_law_922 dL_law_925 dL_law_927 dL_law_932 dL_law_934 dL_law_937 dL_law_938 dL_law_939 dL_law_940 dL_law_942 dL_law_943 dL_law_944 dL_law_949 (by decide)
set_option maxHeartbeats 4000000 in
set_option maxRecDepth 100000 in
/-- isInOrder -/
theorem law_case12 {θ : Kt} {κ : Kx} {Q : State → Prop} {L : List Nat} {f : Nat → wE} {b N tt mm ou i k n : Nat} {xs : Nat → Int32} {σ : Sg} {thr g : Int} (hE : LwE θ κ b N xs) (hs : SgOk σ) (hC : CS κ L f tt σ) (hM : MS κ L f mm thr σ) (hO : OutR κ L f ou g) (hi : i + 6 ≤ N) (hkn : k + 4 ≤ 601024 ∧ n + 70 ≤ 7293034) (cont : LCont θ κ Q b tt mm ou i k n) : k_G θ κ cL_law 9 (some .boolean) RL room_1 Q L f k n 952 [(4, .int (iI (i : Int))), (3, .ref ou), (2, .ref mm), (1, .ref tt), (0, .ref b)] [] := by
  obtain ⟨hts, hnc, hX, hb, hkb, hN⟩ := hE
  refine k_aload_n 3 1 dL_law_952 rfl rfl ?_
  refine k_aload_n 4 0 dL_law_953 rfl rfl ?_
  refine k_iload 0 dL_law_954 rfl ?_
  refine k_iconst dL_law_956 ?_
  refine k_iadd dL_law_957 ?_
  refine k_sld (i + 1) hX hb hkb (by omega) (by omega) (by omega) dL_law_958 ?_
  refine k_aload_n 1 3 dL_law_959 rfl rfl ?_
  refine k_useV (k_runSW (nA := 3) (c_L_isInOrder θ.2.1 κ (tt := tt) (p := (xs (i + 1)).toInt) (ou := ou) hC hO hts hs (inI_of _)) hnc ⟨⟨q_640, q_37, q_642⟩, ⟨by decide, by decide⟩, by decide +kernel⟩ q_641 rfl rfl ⟨(Nat.le_of_ble_eq_true rfl), (Nat.le_of_ble_eq_true rfl)⟩ (Nat.le_of_ble_eq_true rfl) dL_law_960) ⟨by show _ ≤ 601024; omega, by show _ ≤ 7293034; omega⟩ (fun w9 L1 f1 hw => ?_)
  obtain ⟨k9, g9, rfl, hr1, hO1, hd1⟩ := hw
  replace hM := hM.fr hr1 rfl
  refine k_istore [(5, .int (iI k9)), (4, .int (iI (i : Int))), (3, .ref ou), (2, .ref mm), (1, .ref tt), (0, .ref b)] dL_law_963 (by decide) rfl ?_
  refine k_aload_n 3 2 dL_law_965 rfl rfl ?_
  refine k_aload_n 5 0 dL_law_966 rfl rfl ?_
  refine k_iload 1 dL_law_967 rfl ?_
  refine k_iconst dL_law_969 ?_
  refine k_iadd dL_law_970 ?_
  refine k_sld (i + 1) hX hb hkb (by omega) (by omega) (by omega) dL_law_971 ?_
  obtain ⟨fsM, cM⟩ := hM.cl
  refine k_useV (k_runV (c_X8_isInOrder θ.2.1 κ (mm := mm) (p := (xs (i + 1)).toInt) hM hs (inI_of _)) w_L_131 ⟨q_954, q_955⟩ rfl rfl cM rfl ⟨(Nat.le_of_ble_eq_true rfl), (Nat.le_of_ble_eq_true rfl)⟩ (Nat.le_of_ble_eq_true rfl) dL_law_972) ⟨by show _ ≤ 601024; omega, by show _ ≤ 7293034; omega⟩ (fun w9 L2 f2 hw => ?_)
  obtain ⟨v9, rfl, rfl, hr2, hd2⟩ := hw
  replace hO1 := hO1.fr hr2 rfl
  rcases hd1 with ⟨hx1, rfl, rfl, hC1⟩ | ⟨hx1, rfl, hC1⟩
  · replace hC1 := hC1.fr hr2 rfl
    rcases hd2 with ⟨hx2, rfl, hM2⟩ | ⟨hx2, hM2⟩
    · have fin : k_G θ κ cL_law 9 (some .boolean) RL room_1 Q L2 f2 (k + 1 + 0) (n + 6 + 0) 1012 [(6, .int (iI (bI (ord (hT σ.1) (σ.2.2.1 (xs (i + 1)).toInt.toNat))))), (5, .int (iI 0)), (4, .int (iI (i : Int))), (3, .ref ou), (2, .ref mm), (1, .ref tt), (0, .ref b)] [] := by
        refine k_goto 1463 dL_law_1012 (by decide) ?_
        refine k_perm [2, 3, 4, 5, 6] [(4, .int (iI (i : Int))), (3, .ref ou), (2, .ref mm), (1, .ref tt), (0, .ref b)] rfl ?_
        exact cont _ _ _ _ _ _ _ hs hC1 hM2 hO1 (by omega) (by omega)
      obtain ⟨fsM, cM⟩ := hM2.cl
      obtain ⟨G, co, hG⟩ := id hO1
      refine k_istore [(6, .int (iI (bI (ord (hT σ.1) (σ.2.2.1 (xs (i + 1)).toInt.toNat))))), (5, .int (iI 0)), (4, .int (iI (i : Int))), (3, .ref ou), (2, .ref mm), (1, .ref tt), (0, .ref b)] dL_law_975 (by decide) rfl ?_
      refine k_aload_n 4 2 dL_law_977 rfl rfl ?_
      refine k_useR (k_runV (c_X8_thrown θ.2.1 κ hM2) w_L_88 ⟨q_831, q_832⟩ rfl rfl cM rfl ⟨(Nat.le_of_ble_eq_true rfl), (Nat.le_of_ble_eq_true rfl)⟩ (Nat.le_of_ble_eq_true rfl) dL_law_978) ⟨by show _ ≤ 601024; omega, by show _ ≤ 7293034; omega⟩ ?_
      refine k_iload 1 dL_law_981 rfl ?_
      refine k_icmp_eqR 988 dL_law_983 (by decide) (fun _ => ?_) (fun h => absurd rfl h)
      refine k_iload 1 dL_law_988 rfl ?_
      refine k_if_neR 1012 dL_law_990 (by decide) (fun _ => fin) (fun _ => ?_)
      refine k_aload_n 3 3 dL_law_993 rfl rfl ?_
      refine k_iconst dL_law_994 ?_
      refine k_lald 0 co rfl (by omega) (by omega) dL_law_995 ?_
      refine k_iload 0 dL_law_996 rfl ?_
      rw [hG]
      refine k_ifb_eq 1005 dL_law_998 (by decide) (fun hv => ?_) (fun hv => ?_)
      · rw [hv] at fin ⊢
        refine k_lconst 0 dL_law_1005 (by decide) ?_
        exact k_lcmpS 1012 dL_law_1006 dL_law_1007 (by decide) fin
      · rw [hv] at fin ⊢
        refine k_lconst 1 dL_law_1001 (by decide) ?_
        refine k_goto 1006 dL_law_1002 (by decide) ?_
        exact k_lcmpS 1012 dL_law_1006 dL_law_1007 (by decide) fin
    · exact absurd (hx1.symm.trans hx2) (by decide)
  · replace hC1 := hC1.fr hr2 rfl
    rcases hd2 with ⟨hx2, rfl, hM2⟩ | ⟨hx2, hM2⟩
    · exact absurd (hx1.symm.trans hx2) (by decide)
    · have fin : k_G θ κ cL_law 9 (some .boolean) RL room_1 Q L2 f2 (k + 1 + 0) (n + 6 + 0) 1012 [(6, .int (iI (bI v9))), (5, .int (iI 1)), (4, .int (iI (i : Int))), (3, .ref ou), (2, .ref mm), (1, .ref tt), (0, .ref b)] [] := by
        refine k_goto 1463 dL_law_1012 (by decide) ?_
        refine k_perm [2, 3, 4, 5, 6] [(4, .int (iI (i : Int))), (3, .ref ou), (2, .ref mm), (1, .ref tt), (0, .ref b)] rfl ?_
        exact cont _ _ _ _ _ _ _ hs hC1 hM2 hO1 (by omega) (by omega)
      obtain ⟨fsM, cM⟩ := hM2.cl
      obtain ⟨G, co, hG⟩ := id hO1
      refine k_istore [(6, .int (iI (bI v9))), (5, .int (iI 1)), (4, .int (iI (i : Int))), (3, .ref ou), (2, .ref mm), (1, .ref tt), (0, .ref b)] dL_law_975 (by decide) rfl ?_
      refine k_aload_n 4 2 dL_law_977 rfl rfl ?_
      refine k_useR (k_runV (c_X8_thrown θ.2.1 κ hM2) w_L_88 ⟨q_831, q_832⟩ rfl rfl cM rfl ⟨(Nat.le_of_ble_eq_true rfl), (Nat.le_of_ble_eq_true rfl)⟩ (Nat.le_of_ble_eq_true rfl) dL_law_978) ⟨by show _ ≤ 601024; omega, by show _ ≤ 7293034; omega⟩ ?_
      refine k_iload 1 dL_law_981 rfl ?_
      refine k_icmp_eqR 988 dL_law_983 (by decide) (fun _ => ?_) (fun h => absurd rfl h)
      refine k_iload 1 dL_law_988 rfl ?_
      exact k_if_neR 1012 dL_law_990 (by decide) (fun _ => fin) (fun h0 => absurd h0 (by decide))
set_option maxHeartbeats 4000000 in
set_option maxRecDepth 100000 in
/-- portWater -/
theorem law_case13 {θ : Kt} {κ : Kx} {Q : State → Prop} {L : List Nat} {f : Nat → wE} {b N tt mm ou i k n : Nat} {xs : Nat → Int32} {σ : Sg} {thr g : Int} (hE : LwE θ κ b N xs) (hs : SgOk σ) (hC : CS κ L f tt σ) (hM : MS κ L f mm thr σ) (hO : OutR κ L f ou g) (hi : i + 6 ≤ N) (hkn : k + 4 ≤ 601024 ∧ n + 70 ≤ 7293034) (cont : LCont θ κ Q b tt mm ou i k n) : k_G θ κ cL_law 9 (some .boolean) RL room_1 Q L f k n 1015 [(4, .int (iI (i : Int))), (3, .ref ou), (2, .ref mm), (1, .ref tt), (0, .ref b)] [] := by
  obtain ⟨hts, hnc, hX, hb, hkb, hN⟩ := hE
  by_cases hz : (xs (i + 3)).toInt = 0
  · refine k_aload_n 3 1 dL_law_1015 rfl rfl ?_
    refine k_aload_n 4 0 dL_law_1016 rfl rfl ?_
    refine k_iload 0 dL_law_1017 rfl ?_
    refine k_iconst dL_law_1019 ?_
    refine k_iadd dL_law_1020 ?_
    refine k_sld (i + 1) hX hb hkb (by omega) (by omega) (by omega) dL_law_1021 ?_
    refine k_aload_n 4 0 dL_law_1022 rfl rfl ?_
    refine k_iload 0 dL_law_1023 rfl ?_
    refine k_iconst dL_law_1025 ?_
    refine k_iadd dL_law_1026 ?_
    refine k_sld (i + 2) hX hb hkb (by omega) (by omega) (by omega) dL_law_1027 ?_
    refine k_aload_n 4 0 dL_law_1028 rfl rfl ?_
    refine k_iload 0 dL_law_1029 rfl ?_
    refine k_iconst dL_law_1031 ?_
    refine k_iadd dL_law_1032 ?_
    refine k_sld (i + 3) hX hb hkb (by omega) (by omega) (by omega) dL_law_1033 ?_
    refine k_if_eq 1041 dL_law_1034 (by decide) (inI_of _) (fun _ => ?_) (fun h => absurd hz h)
    refine k_iconst dL_law_1041 ?_
    refine k_aload_n 1 3 dL_law_1042 rfl rfl ?_
    refine k_useV (k_runSW (nA := 5) (c_L_portWater θ.2.1 κ (tt := tt) (p := (xs (i + 1)).toInt) (w := (xs (i + 2)).toInt) (b := false) (ou := ou) hC hO hts hs (inI_of _) (inI_of _)) hnc ⟨⟨q_647, q_37, q_649⟩, ⟨by decide, by decide⟩, by decide +kernel⟩ q_648 rfl rfl ⟨(Nat.le_of_ble_eq_true rfl), (Nat.le_of_ble_eq_true rfl)⟩ (Nat.le_of_ble_eq_true rfl) dL_law_1043) ⟨by show _ ≤ 601024; omega, by show _ ≤ 7293034; omega⟩ (fun w9 L1 f1 hw => ?_)
    obtain ⟨k9, g9, rfl, hr1, hO1, hd1⟩ := hw
    replace hM := hM.fr hr1 rfl
    refine k_istore [(5, .int (iI k9)), (4, .int (iI (i : Int))), (3, .ref ou), (2, .ref mm), (1, .ref tt), (0, .ref b)] dL_law_1046 (by decide) rfl ?_
    refine k_aload_n 3 2 dL_law_1048 rfl rfl ?_
    refine k_aload_n 5 0 dL_law_1049 rfl rfl ?_
    refine k_iload 1 dL_law_1050 rfl ?_
    refine k_iconst dL_law_1052 ?_
    refine k_iadd dL_law_1053 ?_
    refine k_sld (i + 1) hX hb hkb (by omega) (by omega) (by omega) dL_law_1054 ?_
    refine k_aload_n 5 0 dL_law_1055 rfl rfl ?_
    refine k_iload 1 dL_law_1056 rfl ?_
    refine k_iconst dL_law_1058 ?_
    refine k_iadd dL_law_1059 ?_
    refine k_sld (i + 2) hX hb hkb (by omega) (by omega) (by omega) dL_law_1060 ?_
    refine k_aload_n 5 0 dL_law_1061 rfl rfl ?_
    refine k_iload 1 dL_law_1062 rfl ?_
    refine k_iconst dL_law_1064 ?_
    refine k_iadd dL_law_1065 ?_
    refine k_sld (i + 3) hX hb hkb (by omega) (by omega) (by omega) dL_law_1066 ?_
    refine k_if_eq 1074 dL_law_1067 (by decide) (inI_of _) (fun _ => ?_) (fun h => absurd hz h)
    refine k_iconst dL_law_1074 ?_
    obtain ⟨fsM, cM⟩ := hM.cl
    refine k_useV (k_runV (c_X8_portWater θ.2.1 κ (mm := mm) (p := (xs (i + 1)).toInt) (w := (xs (i + 2)).toInt) (b := false) hM hs (inI_of _) (inI_of _)) w_L_135 ⟨q_966, q_967⟩ rfl rfl cM rfl ⟨(Nat.le_of_ble_eq_true rfl), (Nat.le_of_ble_eq_true rfl)⟩ (Nat.le_of_ble_eq_true rfl) dL_law_1075) ⟨by show _ ≤ 601024; omega, by show _ ≤ 7293034; omega⟩ (fun w9 L2 f2 hw => ?_)
    obtain ⟨v9, rfl, rfl, hr2, hd2⟩ := hw
    replace hO1 := hO1.fr hr2 rfl
    rcases hd1 with ⟨hx1, rfl, rfl, hC1⟩ | ⟨hx1, rfl, hC1⟩
    · replace hC1 := hC1.fr hr2 rfl
      rcases hd2 with ⟨hx2, rfl, hM2⟩ | ⟨hx2, hM2⟩
      · exact law_tail 1078 hs hC1 hM2 hO1 rfl (fun _ => rfl) ⟨by omega, by omega⟩ ⟨by omega, by omega⟩ cont dL_law_1078 dL_law_1080 dL_law_1081 dL_law_1084 dL_law_1086 dL_law_1091 dL_law_1093 dL_law_1096 dL_law_1097 dL_law_1098 dL_law_1099 dL_law_1101 dL_law_1102 dL_law_1103 dL_law_1108 (by decide)
      · exact absurd (hx1.symm.trans hx2) (by decide)
    · replace hC1 := hC1.fr hr2 rfl
      rcases hd2 with ⟨hx2, rfl, hM2⟩ | ⟨hx2, hM2⟩
      · exact absurd (hx1.symm.trans hx2) (by decide)
      · exact law_tail 1078 hs hC1 hM2 hO1 rfl (fun h0 => absurd h0 (by decide)) ⟨by omega, by omega⟩ ⟨by omega, by omega⟩ cont dL_law_1078 dL_law_1080 dL_law_1081 dL_law_1084 dL_law_1086 dL_law_1091 dL_law_1093 dL_law_1096 dL_law_1097 dL_law_1098 dL_law_1099 dL_law_1101 dL_law_1102 dL_law_1103 dL_law_1108 (by decide)
  · refine k_aload_n 3 1 dL_law_1015 rfl rfl ?_
    refine k_aload_n 4 0 dL_law_1016 rfl rfl ?_
    refine k_iload 0 dL_law_1017 rfl ?_
    refine k_iconst dL_law_1019 ?_
    refine k_iadd dL_law_1020 ?_
    refine k_sld (i + 1) hX hb hkb (by omega) (by omega) (by omega) dL_law_1021 ?_
    refine k_aload_n 4 0 dL_law_1022 rfl rfl ?_
    refine k_iload 0 dL_law_1023 rfl ?_
    refine k_iconst dL_law_1025 ?_
    refine k_iadd dL_law_1026 ?_
    refine k_sld (i + 2) hX hb hkb (by omega) (by omega) (by omega) dL_law_1027 ?_
    refine k_aload_n 4 0 dL_law_1028 rfl rfl ?_
    refine k_iload 0 dL_law_1029 rfl ?_
    refine k_iconst dL_law_1031 ?_
    refine k_iadd dL_law_1032 ?_
    refine k_sld (i + 3) hX hb hkb (by omega) (by omega) (by omega) dL_law_1033 ?_
    refine k_if_eq 1041 dL_law_1034 (by decide) (inI_of _) (fun h => absurd h hz) (fun _ => ?_)
    refine k_iconst dL_law_1037 ?_
    refine k_goto 1042 dL_law_1038 (by decide) ?_
    refine k_aload_n 1 3 dL_law_1042 rfl rfl ?_
    refine k_useV (k_runSW (nA := 5) (c_L_portWater θ.2.1 κ (tt := tt) (p := (xs (i + 1)).toInt) (w := (xs (i + 2)).toInt) (b := true) (ou := ou) hC hO hts hs (inI_of _) (inI_of _)) hnc ⟨⟨q_647, q_37, q_649⟩, ⟨by decide, by decide⟩, by decide +kernel⟩ q_648 rfl rfl ⟨(Nat.le_of_ble_eq_true rfl), (Nat.le_of_ble_eq_true rfl)⟩ (Nat.le_of_ble_eq_true rfl) dL_law_1043) ⟨by show _ ≤ 601024; omega, by show _ ≤ 7293034; omega⟩ (fun w9 L1 f1 hw => ?_)
    obtain ⟨k9, g9, rfl, hr1, hO1, hd1⟩ := hw
    replace hM := hM.fr hr1 rfl
    refine k_istore [(5, .int (iI k9)), (4, .int (iI (i : Int))), (3, .ref ou), (2, .ref mm), (1, .ref tt), (0, .ref b)] dL_law_1046 (by decide) rfl ?_
    refine k_aload_n 3 2 dL_law_1048 rfl rfl ?_
    refine k_aload_n 5 0 dL_law_1049 rfl rfl ?_
    refine k_iload 1 dL_law_1050 rfl ?_
    refine k_iconst dL_law_1052 ?_
    refine k_iadd dL_law_1053 ?_
    refine k_sld (i + 1) hX hb hkb (by omega) (by omega) (by omega) dL_law_1054 ?_
    refine k_aload_n 5 0 dL_law_1055 rfl rfl ?_
    refine k_iload 1 dL_law_1056 rfl ?_
    refine k_iconst dL_law_1058 ?_
    refine k_iadd dL_law_1059 ?_
    refine k_sld (i + 2) hX hb hkb (by omega) (by omega) (by omega) dL_law_1060 ?_
    refine k_aload_n 5 0 dL_law_1061 rfl rfl ?_
    refine k_iload 1 dL_law_1062 rfl ?_
    refine k_iconst dL_law_1064 ?_
    refine k_iadd dL_law_1065 ?_
    refine k_sld (i + 3) hX hb hkb (by omega) (by omega) (by omega) dL_law_1066 ?_
    refine k_if_eq 1074 dL_law_1067 (by decide) (inI_of _) (fun h => absurd h hz) (fun _ => ?_)
    refine k_iconst dL_law_1070 ?_
    refine k_goto 1075 dL_law_1071 (by decide) ?_
    obtain ⟨fsM, cM⟩ := hM.cl
    refine k_useV (k_runV (c_X8_portWater θ.2.1 κ (mm := mm) (p := (xs (i + 1)).toInt) (w := (xs (i + 2)).toInt) (b := true) hM hs (inI_of _) (inI_of _)) w_L_135 ⟨q_966, q_967⟩ rfl rfl cM rfl ⟨(Nat.le_of_ble_eq_true rfl), (Nat.le_of_ble_eq_true rfl)⟩ (Nat.le_of_ble_eq_true rfl) dL_law_1075) ⟨by show _ ≤ 601024; omega, by show _ ≤ 7293034; omega⟩ (fun w9 L2 f2 hw => ?_)
    obtain ⟨v9, rfl, rfl, hr2, hd2⟩ := hw
    replace hO1 := hO1.fr hr2 rfl
    rcases hd1 with ⟨hx1, rfl, rfl, hC1⟩ | ⟨hx1, rfl, hC1⟩
    · replace hC1 := hC1.fr hr2 rfl
      rcases hd2 with ⟨hx2, rfl, hM2⟩ | ⟨hx2, hM2⟩
      · exact law_tail 1078 hs hC1 hM2 hO1 rfl (fun _ => rfl) ⟨by omega, by omega⟩ ⟨by omega, by omega⟩ cont dL_law_1078 dL_law_1080 dL_law_1081 dL_law_1084 dL_law_1086 dL_law_1091 dL_law_1093 dL_law_1096 dL_law_1097 dL_law_1098 dL_law_1099 dL_law_1101 dL_law_1102 dL_law_1103 dL_law_1108 (by decide)
      · exact absurd (hx1.symm.trans hx2) (by decide)
    · replace hC1 := hC1.fr hr2 rfl
      rcases hd2 with ⟨hx2, rfl, hM2⟩ | ⟨hx2, hM2⟩
      · exact absurd (hx1.symm.trans hx2) (by decide)
      · exact law_tail 1078 hs hC1 hM2 hO1 rfl (fun h0 => absurd h0 (by decide)) ⟨by omega, by omega⟩ ⟨by omega, by omega⟩ cont dL_law_1078 dL_law_1080 dL_law_1081 dL_law_1084 dL_law_1086 dL_law_1091 dL_law_1093 dL_law_1096 dL_law_1097 dL_law_1098 dL_law_1099 dL_law_1101 dL_law_1102 dL_law_1103 dL_law_1108 (by decide)
set_option maxHeartbeats 4000000 in
set_option maxRecDepth 100000 in
/-- portHeight -/
theorem law_case14 {θ : Kt} {κ : Kx} {Q : State → Prop} {L : List Nat} {f : Nat → wE} {b N tt mm ou i k n : Nat} {xs : Nat → Int32} {σ : Sg} {thr g : Int} (hE : LwE θ κ b N xs) (hs : SgOk σ) (hC : CS κ L f tt σ) (hM : MS κ L f mm thr σ) (hO : OutR κ L f ou g) (hi : i + 6 ≤ N) (hkn : k + 4 ≤ 601024 ∧ n + 70 ≤ 7293034) (cont : LCont θ κ Q b tt mm ou i k n) : k_G θ κ cL_law 9 (some .boolean) RL room_1 Q L f k n 1111 [(4, .int (iI (i : Int))), (3, .ref ou), (2, .ref mm), (1, .ref tt), (0, .ref b)] [] := by
  obtain ⟨hts, hnc, hX, hb, hkb, hN⟩ := hE
  refine k_aload_n 3 1 dL_law_1111 rfl rfl ?_
  refine k_aload_n 4 0 dL_law_1112 rfl rfl ?_
  refine k_iload 0 dL_law_1113 rfl ?_
  refine k_iconst dL_law_1115 ?_
  refine k_iadd dL_law_1116 ?_
  refine k_sld (i + 1) hX hb hkb (by omega) (by omega) (by omega) dL_law_1117 ?_
  refine k_aload_n 4 0 dL_law_1118 rfl rfl ?_
  refine k_iload 0 dL_law_1119 rfl ?_
  refine k_iconst dL_law_1121 ?_
  refine k_iadd dL_law_1122 ?_
  refine k_sld (i + 2) hX hb hkb (by omega) (by omega) (by omega) dL_law_1123 ?_
  refine k_aload_n 1 3 dL_law_1124 rfl rfl ?_
  refine k_useV (k_runSW (nA := 4) (c_L_portHeight θ.2.1 κ (tt := tt) (p := (xs (i + 1)).toInt) (t := (xs (i + 2)).toInt) (ou := ou) hC hO hts hs (inI_of _) (inI_of _)) hnc ⟨⟨q_654, q_37, q_656⟩, ⟨by decide, by decide⟩, by decide +kernel⟩ q_655 rfl rfl ⟨(Nat.le_of_ble_eq_true rfl), (Nat.le_of_ble_eq_true rfl)⟩ (Nat.le_of_ble_eq_true rfl) dL_law_1125) ⟨by show _ ≤ 601024; omega, by show _ ≤ 7293034; omega⟩ (fun w9 L1 f1 hw => ?_)
  obtain ⟨k9, g9, rfl, hr1, hO1, hd1⟩ := hw
  replace hM := hM.fr hr1 rfl
  refine k_istore [(5, .int (iI k9)), (4, .int (iI (i : Int))), (3, .ref ou), (2, .ref mm), (1, .ref tt), (0, .ref b)] dL_law_1128 (by decide) rfl ?_
  refine k_aload_n 3 2 dL_law_1130 rfl rfl ?_
  refine k_aload_n 5 0 dL_law_1131 rfl rfl ?_
  refine k_iload 1 dL_law_1132 rfl ?_
  refine k_iconst dL_law_1134 ?_
  refine k_iadd dL_law_1135 ?_
  refine k_sld (i + 1) hX hb hkb (by omega) (by omega) (by omega) dL_law_1136 ?_
  refine k_aload_n 5 0 dL_law_1137 rfl rfl ?_
  refine k_iload 1 dL_law_1138 rfl ?_
  refine k_iconst dL_law_1140 ?_
  refine k_iadd dL_law_1141 ?_
  refine k_sld (i + 2) hX hb hkb (by omega) (by omega) (by omega) dL_law_1142 ?_
  obtain ⟨fsM, cM⟩ := hM.cl
  refine k_useV (k_runV (c_X8_portHeight θ.2.1 κ (mm := mm) (p := (xs (i + 1)).toInt) (t := (xs (i + 2)).toInt) hM hs (inI_of _) (inI_of _)) w_L_138 ⟨q_975, q_976⟩ rfl rfl cM rfl ⟨(Nat.le_of_ble_eq_true rfl), (Nat.le_of_ble_eq_true rfl)⟩ (Nat.le_of_ble_eq_true rfl) dL_law_1143) ⟨by show _ ≤ 601024; omega, by show _ ≤ 7293034; omega⟩ (fun w9 L2 f2 hw => ?_)
  obtain ⟨v9, rfl, rfl, hr2, hd2⟩ := hw
  replace hO1 := hO1.fr hr2 rfl
  rcases hd1 with ⟨hx1, rfl, rfl, hC1⟩ | ⟨hx1, rfl, hC1⟩ | ⟨hx1, rfl, hC1⟩ | ⟨hx1, rfl, hC1⟩
  · replace hC1 := hC1.fr hr2 rfl
    rcases hd2 with ⟨hx2, rfl, hM2⟩ | ⟨hx2, hM2⟩ | ⟨hx2, hM2⟩ | ⟨hx2, hM2⟩
    · exact law_tail 1146 hs hC1 hM2 hO1 rfl (fun _ => rfl) ⟨by omega, by omega⟩ ⟨by omega, by omega⟩ cont dL_law_1146 dL_law_1148 dL_law_1149 dL_law_1152 dL_law_1154 dL_law_1159 dL_law_1161 dL_law_1164 dL_law_1165 dL_law_1166 dL_law_1167 dL_law_1169 dL_law_1170 dL_law_1171 dL_law_1176 (by decide)
    · exact absurd (hx1.symm.trans hx2) (by decide)
    · exact absurd (hx1.symm.trans hx2) (by decide)
    · exact absurd (hx1.symm.trans hx2) (by decide)
  · replace hC1 := hC1.fr hr2 rfl
    rcases hd2 with ⟨hx2, rfl, hM2⟩ | ⟨hx2, hM2⟩ | ⟨hx2, hM2⟩ | ⟨hx2, hM2⟩
    · exact absurd (hx1.symm.trans hx2) (by decide)
    · exact law_tail 1146 hs hC1 hM2 hO1 rfl (fun h0 => absurd h0 (by decide)) ⟨by omega, by omega⟩ ⟨by omega, by omega⟩ cont dL_law_1146 dL_law_1148 dL_law_1149 dL_law_1152 dL_law_1154 dL_law_1159 dL_law_1161 dL_law_1164 dL_law_1165 dL_law_1166 dL_law_1167 dL_law_1169 dL_law_1170 dL_law_1171 dL_law_1176 (by decide)
    · exact absurd (hx1.symm.trans hx2) (by decide)
    · exact absurd (hx1.symm.trans hx2) (by decide)
  · replace hC1 := hC1.fr hr2 rfl
    rcases hd2 with ⟨hx2, rfl, hM2⟩ | ⟨hx2, hM2⟩ | ⟨hx2, hM2⟩ | ⟨hx2, hM2⟩
    · exact absurd (hx1.symm.trans hx2) (by decide)
    · exact absurd (hx1.symm.trans hx2) (by decide)
    · exact law_tail 1146 hs hC1 hM2 hO1 rfl (fun h0 => absurd h0 (by decide)) ⟨by omega, by omega⟩ ⟨by omega, by omega⟩ cont dL_law_1146 dL_law_1148 dL_law_1149 dL_law_1152 dL_law_1154 dL_law_1159 dL_law_1161 dL_law_1164 dL_law_1165 dL_law_1166 dL_law_1167 dL_law_1169 dL_law_1170 dL_law_1171 dL_law_1176 (by decide)
    · exact absurd (hx1.symm.trans hx2) (by decide)
  · replace hC1 := hC1.fr hr2 rfl
    rcases hd2 with ⟨hx2, rfl, hM2⟩ | ⟨hx2, hM2⟩ | ⟨hx2, hM2⟩ | ⟨hx2, hM2⟩
    · exact absurd (hx1.symm.trans hx2) (by decide)
    · exact absurd (hx1.symm.trans hx2) (by decide)
    · exact absurd (hx1.symm.trans hx2) (by decide)
    · exact law_tail 1146 hs hC1 hM2 hO1 rfl (fun h0 => absurd h0 (by decide)) ⟨by omega, by omega⟩ ⟨by omega, by omega⟩ cont dL_law_1146 dL_law_1148 dL_law_1149 dL_law_1152 dL_law_1154 dL_law_1159 dL_law_1161 dL_law_1164 dL_law_1165 dL_law_1166 dL_law_1167 dL_law_1169 dL_law_1170 dL_law_1171 dL_law_1176 (by decide)
set_option maxHeartbeats 4000000 in
set_option maxRecDepth 100000 in
/-- windows -/
theorem law_case15 {θ : Kt} {κ : Kx} {Q : State → Prop} {L : List Nat} {f : Nat → wE} {b N tt mm ou i k n : Nat} {xs : Nat → Int32} {σ : Sg} {thr g : Int} (hE : LwE θ κ b N xs) (hs : SgOk σ) (hC : CS κ L f tt σ) (hM : MS κ L f mm thr σ) (hO : OutR κ L f ou g) (hi : i + 6 ≤ N) (hkn : k + 4 ≤ 601024 ∧ n + 70 ≤ 7293034) (cont : LCont θ κ Q b tt mm ou i k n) : k_G θ κ cL_law 9 (some .boolean) RL room_1 Q L f k n 1179 [(4, .int (iI (i : Int))), (3, .ref ou), (2, .ref mm), (1, .ref tt), (0, .ref b)] [] := by
  obtain ⟨hts, hnc, hX, hb, hkb, hN⟩ := hE
  refine k_aload_n 3 1 dL_law_1179 rfl rfl ?_
  refine k_aload_n 4 0 dL_law_1180 rfl rfl ?_
  refine k_iload 0 dL_law_1181 rfl ?_
  refine k_iconst dL_law_1183 ?_
  refine k_iadd dL_law_1184 ?_
  refine k_sld (i + 1) hX hb hkb (by omega) (by omega) (by omega) dL_law_1185 ?_
  refine k_aload_n 4 0 dL_law_1186 rfl rfl ?_
  refine k_iload 0 dL_law_1187 rfl ?_
  refine k_iconst dL_law_1189 ?_
  refine k_iadd dL_law_1190 ?_
  refine k_sld (i + 2) hX hb hkb (by omega) (by omega) (by omega) dL_law_1191 ?_
  refine k_aload_n 4 0 dL_law_1192 rfl rfl ?_
  refine k_iload 0 dL_law_1193 rfl ?_
  refine k_iconst dL_law_1195 ?_
  refine k_iadd dL_law_1196 ?_
  refine k_sld (i + 3) hX hb hkb (by omega) (by omega) (by omega) dL_law_1197 ?_
  refine k_aload_n 4 0 dL_law_1198 rfl rfl ?_
  refine k_iload 0 dL_law_1199 rfl ?_
  refine k_iconst dL_law_1201 ?_
  refine k_iadd dL_law_1202 ?_
  refine k_sld (i + 4) hX hb hkb (by omega) (by omega) (by omega) dL_law_1203 ?_
  refine k_aload_n 4 0 dL_law_1204 rfl rfl ?_
  refine k_iload 0 dL_law_1205 rfl ?_
  refine k_iconst dL_law_1207 ?_
  refine k_iadd dL_law_1208 ?_
  refine k_sld (i + 5) hX hb hkb (by omega) (by omega) (by omega) dL_law_1209 ?_
  refine k_aload_n 1 3 dL_law_1210 rfl rfl ?_
  refine k_useV (k_runSW (nA := 7) (c_L_windows θ.2.1 κ (tt := tt) (p := (xs (i + 1)).toInt) (lev := (xs (i + 2)).toInt) (a := (xs (i + 3)).toInt) (b := (xs (i + 4)).toInt) (what := (xs (i + 5)).toInt) (ou := ou) hC hO hts hs (inI_of _) (inI_of _) (inI_of _) (inI_of _) (inI_of _)) hnc ⟨⟨q_686, q_37, q_688⟩, ⟨by decide, by decide⟩, by decide +kernel⟩ q_687 rfl rfl ⟨(Nat.le_of_ble_eq_true rfl), (Nat.le_of_ble_eq_true rfl)⟩ (Nat.le_of_ble_eq_true rfl) dL_law_1211) ⟨by show _ ≤ 601024; omega, by show _ ≤ 7293034; omega⟩ (fun w9 L1 f1 hw => ?_)
  obtain ⟨k9, g9, rfl, hr1, hO1, hd1⟩ := hw
  replace hM := hM.fr hr1 rfl
  refine k_istore [(5, .int (iI k9)), (4, .int (iI (i : Int))), (3, .ref ou), (2, .ref mm), (1, .ref tt), (0, .ref b)] dL_law_1214 (by decide) rfl ?_
  refine k_aload_n 3 2 dL_law_1216 rfl rfl ?_
  refine k_aload_n 5 0 dL_law_1217 rfl rfl ?_
  refine k_iload 1 dL_law_1218 rfl ?_
  refine k_iconst dL_law_1220 ?_
  refine k_iadd dL_law_1221 ?_
  refine k_sld (i + 1) hX hb hkb (by omega) (by omega) (by omega) dL_law_1222 ?_
  refine k_aload_n 5 0 dL_law_1223 rfl rfl ?_
  refine k_iload 1 dL_law_1224 rfl ?_
  refine k_iconst dL_law_1226 ?_
  refine k_iadd dL_law_1227 ?_
  refine k_sld (i + 2) hX hb hkb (by omega) (by omega) (by omega) dL_law_1228 ?_
  refine k_aload_n 5 0 dL_law_1229 rfl rfl ?_
  refine k_iload 1 dL_law_1230 rfl ?_
  refine k_iconst dL_law_1232 ?_
  refine k_iadd dL_law_1233 ?_
  refine k_sld (i + 3) hX hb hkb (by omega) (by omega) (by omega) dL_law_1234 ?_
  refine k_aload_n 5 0 dL_law_1235 rfl rfl ?_
  refine k_iload 1 dL_law_1236 rfl ?_
  refine k_iconst dL_law_1238 ?_
  refine k_iadd dL_law_1239 ?_
  refine k_sld (i + 4) hX hb hkb (by omega) (by omega) (by omega) dL_law_1240 ?_
  refine k_aload_n 5 0 dL_law_1241 rfl rfl ?_
  refine k_iload 1 dL_law_1242 rfl ?_
  refine k_iconst dL_law_1244 ?_
  refine k_iadd dL_law_1245 ?_
  refine k_sld (i + 5) hX hb hkb (by omega) (by omega) (by omega) dL_law_1246 ?_
  obtain ⟨fsM, cM⟩ := hM.cl
  refine k_useV (k_runV (c_X8_windows θ.2.1 κ (mm := mm) (p := (xs (i + 1)).toInt) (lev := (xs (i + 2)).toInt) (fa := (xs (i + 3)).toInt) (fb := (xs (i + 4)).toInt) (what := (xs (i + 5)).toInt) hM hs (inI_of _) (inI_of _) (inI_of _) (inI_of _) (inI_of _)) w_L_142 ⟨q_993, q_994⟩ rfl rfl cM rfl ⟨(Nat.le_of_ble_eq_true rfl), (Nat.le_of_ble_eq_true rfl)⟩ (Nat.le_of_ble_eq_true rfl) dL_law_1247) ⟨by show _ ≤ 601024; omega, by show _ ≤ 7293034; omega⟩ (fun w9 L2 f2 hw => ?_)
  obtain ⟨v9, rfl, hr2, hd2⟩ := hw
  replace hO1 := hO1.fr hr2 rfl
  rcases hd1 with ⟨hx1, rfl, rfl, hC1⟩ | ⟨hx1, rfl, hC1⟩ | ⟨hx1, rfl, hC1⟩
  · replace hC1 := hC1.fr hr2 rfl
    rcases hd2 with ⟨hx2, rfl, hM2⟩ | ⟨hx2, hM2⟩ | ⟨hx2, hM2⟩
    · exact law_tail 1250 hs hC1 hM2 hO1 rfl (fun _ => rfl) ⟨by omega, by omega⟩ ⟨by omega, by omega⟩ cont dL_law_1250 dL_law_1252 dL_law_1253 dL_law_1256 dL_law_1258 dL_law_1263 dL_law_1265 dL_law_1268 dL_law_1269 dL_law_1270 dL_law_1271 dL_law_1273 dL_law_1274 dL_law_1275 dL_law_1280 (by decide)
    · exact absurd (hx1.symm.trans hx2) (by decide)
    · exact absurd (hx1.symm.trans hx2) (by decide)
  · replace hC1 := hC1.fr hr2 rfl
    rcases hd2 with ⟨hx2, rfl, hM2⟩ | ⟨hx2, hM2⟩ | ⟨hx2, hM2⟩
    · exact absurd (hx1.symm.trans hx2) (by decide)
    · exact law_tail 1250 hs hC1 hM2 hO1 rfl (fun h0 => absurd h0 (by decide)) ⟨by omega, by omega⟩ ⟨by omega, by omega⟩ cont dL_law_1250 dL_law_1252 dL_law_1253 dL_law_1256 dL_law_1258 dL_law_1263 dL_law_1265 dL_law_1268 dL_law_1269 dL_law_1270 dL_law_1271 dL_law_1273 dL_law_1274 dL_law_1275 dL_law_1280 (by decide)
    · exact absurd (hx1.symm.trans hx2) (by decide)
  · replace hC1 := hC1.fr hr2 rfl
    rcases hd2 with ⟨hx2, rfl, hM2⟩ | ⟨hx2, hM2⟩ | ⟨hx2, hM2⟩
    · exact absurd (hx1.symm.trans hx2) (by decide)
    · exact absurd (hx1.symm.trans hx2) (by decide)
    · exact law_tail 1250 hs hC1 hM2 hO1 rfl (fun h0 => absurd h0 (by decide)) ⟨by omega, by omega⟩ ⟨by omega, by omega⟩ cont dL_law_1250 dL_law_1252 dL_law_1253 dL_law_1256 dL_law_1258 dL_law_1263 dL_law_1265 dL_law_1268 dL_law_1269 dL_law_1270 dL_law_1271 dL_law_1273 dL_law_1274 dL_law_1275 dL_law_1280 (by decide)
set_option maxHeartbeats 4000000 in
set_option maxRecDepth 100000 in
/-- read -/
theorem law_case16 {θ : Kt} {κ : Kx} {Q : State → Prop} {L : List Nat} {f : Nat → wE} {b N tt mm ou i k n : Nat} {xs : Nat → Int32} {σ : Sg} {thr g : Int} (hE : LwE θ κ b N xs) (hs : SgOk σ) (hC : CS κ L f tt σ) (hM : MS κ L f mm thr σ) (hO : OutR κ L f ou g) (hi : i + 6 ≤ N) (hkn : k + 4 ≤ 601024 ∧ n + 70 ≤ 7293034) (cont : LCont θ κ Q b tt mm ou i k n) : k_G θ κ cL_law 9 (some .boolean) RL room_1 Q L f k n 1283 [(4, .int (iI (i : Int))), (3, .ref ou), (2, .ref mm), (1, .ref tt), (0, .ref b)] [] := by
  obtain ⟨hts, hnc, hX, hb, hkb, hN⟩ := hE
  refine k_aload_n 3 1 dL_law_1283 rfl rfl ?_
  refine k_aload_n 4 0 dL_law_1284 rfl rfl ?_
  refine k_iload 0 dL_law_1285 rfl ?_
  refine k_iconst dL_law_1287 ?_
  refine k_iadd dL_law_1288 ?_
  refine k_sld (i + 1) hX hb hkb (by omega) (by omega) (by omega) dL_law_1289 ?_
  refine k_aload_n 4 0 dL_law_1290 rfl rfl ?_
  refine k_iload 0 dL_law_1291 rfl ?_
  refine k_iconst dL_law_1293 ?_
  refine k_iadd dL_law_1294 ?_
  refine k_sld (i + 2) hX hb hkb (by omega) (by omega) (by omega) dL_law_1295 ?_
  refine k_aload_n 1 3 dL_law_1296 rfl rfl ?_
  refine k_useV (k_runSW (nA := 4) (c_L_read θ.2.1 κ (tt := tt) (t := (xs (i + 1)).toInt) (ht9 := (xs (i + 2)).toInt) (ou := ou) hC hO hts hs (inI_of _) (inI_of _)) hnc ⟨⟨q_734, q_37, q_736⟩, ⟨by decide, by decide⟩, by decide +kernel⟩ q_735 rfl rfl ⟨(Nat.le_of_ble_eq_true rfl), (Nat.le_of_ble_eq_true rfl)⟩ (Nat.le_of_ble_eq_true rfl) dL_law_1297) ⟨by show _ ≤ 601024; omega, by show _ ≤ 7293034; omega⟩ (fun w9 L1 f1 hw => ?_)
  obtain ⟨k9, g9, rfl, hr1, hO1, hd1⟩ := hw
  replace hM := hM.fr hr1 rfl
  refine k_istore [(5, .int (iI k9)), (4, .int (iI (i : Int))), (3, .ref ou), (2, .ref mm), (1, .ref tt), (0, .ref b)] dL_law_1300 (by decide) rfl ?_
  refine k_aload_n 3 2 dL_law_1302 rfl rfl ?_
  refine k_aload_n 5 0 dL_law_1303 rfl rfl ?_
  refine k_iload 1 dL_law_1304 rfl ?_
  refine k_iconst dL_law_1306 ?_
  refine k_iadd dL_law_1307 ?_
  refine k_sld (i + 1) hX hb hkb (by omega) (by omega) (by omega) dL_law_1308 ?_
  refine k_aload_n 5 0 dL_law_1309 rfl rfl ?_
  refine k_iload 1 dL_law_1310 rfl ?_
  refine k_iconst dL_law_1312 ?_
  refine k_iadd dL_law_1313 ?_
  refine k_sld (i + 2) hX hb hkb (by omega) (by omega) (by omega) dL_law_1314 ?_
  obtain ⟨fsM, cM⟩ := hM.cl
  refine k_useV (k_runV (c_X8_read θ.2.1 κ (mm := mm) (t := (xs (i + 1)).toInt) (ht9 := (xs (i + 2)).toInt) hM hs (inI_of _) (inI_of _)) w_L_145 ⟨q_998, q_999⟩ rfl rfl cM rfl ⟨(Nat.le_of_ble_eq_true rfl), (Nat.le_of_ble_eq_true rfl)⟩ (Nat.le_of_ble_eq_true rfl) dL_law_1315) ⟨by show _ ≤ 601024; omega, by show _ ≤ 7293034; omega⟩ (fun w9 L2 f2 hw => ?_)
  obtain ⟨v9, rfl, rfl, hr2, hd2⟩ := hw
  replace hO1 := hO1.fr hr2 rfl
  rcases hd1 with ⟨hx1, rfl, rfl, hC1⟩ | ⟨hx1, rfl, hC1⟩ | ⟨hx1, rfl, hC1⟩
  · replace hC1 := hC1.fr hr2 rfl
    rcases hd2 with ⟨hx2, rfl, hM2⟩ | ⟨hx2, hM2⟩ | ⟨hx2, hM2⟩
    · exact law_tail 1318 (sRead_ok hs hx1) hC1 hM2 hO1 rfl (fun _ => rfl) ⟨by omega, by omega⟩ ⟨by omega, by omega⟩ cont dL_law_1318 dL_law_1320 dL_law_1321 dL_law_1324 dL_law_1326 dL_law_1331 dL_law_1333 dL_law_1336 dL_law_1337 dL_law_1338 dL_law_1339 dL_law_1341 dL_law_1342 dL_law_1343 dL_law_1348 (by decide)
    · exact absurd (hx1.symm.trans hx2) (by decide)
    · exact absurd (hx1.symm.trans hx2) (by decide)
  · replace hC1 := hC1.fr hr2 rfl
    rcases hd2 with ⟨hx2, rfl, hM2⟩ | ⟨hx2, hM2⟩ | ⟨hx2, hM2⟩
    · exact absurd (hx1.symm.trans hx2) (by decide)
    · exact law_tail 1318 hs hC1 hM2 hO1 rfl (fun h0 => absurd h0 (by decide)) ⟨by omega, by omega⟩ ⟨by omega, by omega⟩ cont dL_law_1318 dL_law_1320 dL_law_1321 dL_law_1324 dL_law_1326 dL_law_1331 dL_law_1333 dL_law_1336 dL_law_1337 dL_law_1338 dL_law_1339 dL_law_1341 dL_law_1342 dL_law_1343 dL_law_1348 (by decide)
    · exact absurd (hx1.symm.trans hx2) (by decide)
  · replace hC1 := hC1.fr hr2 rfl
    rcases hd2 with ⟨hx2, rfl, hM2⟩ | ⟨hx2, hM2⟩ | ⟨hx2, hM2⟩
    · exact absurd (hx1.symm.trans hx2) (by decide)
    · exact absurd (hx1.symm.trans hx2) (by decide)
    · exact law_tail 1318 hs hC1 hM2 hO1 rfl (fun h0 => absurd h0 (by decide)) ⟨by omega, by omega⟩ ⟨by omega, by omega⟩ cont dL_law_1318 dL_law_1320 dL_law_1321 dL_law_1324 dL_law_1326 dL_law_1331 dL_law_1333 dL_law_1336 dL_law_1337 dL_law_1338 dL_law_1339 dL_law_1341 dL_law_1342 dL_law_1343 dL_law_1348 (by decide)
set_option maxHeartbeats 4000000 in
set_option maxRecDepth 100000 in
/-- residual -/
theorem law_case17 {θ : Kt} {κ : Kx} {Q : State → Prop} {L : List Nat} {f : Nat → wE} {b N tt mm ou i k n : Nat} {xs : Nat → Int32} {σ : Sg} {thr g : Int} (hE : LwE θ κ b N xs) (hs : SgOk σ) (hC : CS κ L f tt σ) (hM : MS κ L f mm thr σ) (hO : OutR κ L f ou g) (hi : i + 6 ≤ N) (hkn : k + 4 ≤ 601024 ∧ n + 70 ≤ 7293034) (cont : LCont θ κ Q b tt mm ou i k n) : k_G θ κ cL_law 9 (some .boolean) RL room_1 Q L f k n 1351 [(4, .int (iI (i : Int))), (3, .ref ou), (2, .ref mm), (1, .ref tt), (0, .ref b)] [] := by
  obtain ⟨hts, hnc, hX, hb, hkb, hN⟩ := hE
  obtain ⟨td, tb, pl, rl, old, hF⟩ := id hC
  obtain ⟨fsM, cM⟩ := hM.cl
  refine k_aload_n 3 1 dL_law_1351 rfl rfl ?_
  refine k_useR (k_runV (c_X7_residual θ.2.1 κ hF hs) w_L_146 ⟨q_156, q_157⟩ rfl rfl hF.1 rfl ⟨(Nat.le_of_ble_eq_true rfl), (Nat.le_of_ble_eq_true rfl)⟩ (Nat.le_of_ble_eq_true rfl) dL_law_1352) ⟨by show _ ≤ 601024; omega, by show _ ≤ 7293034; omega⟩ ?_
  refine k_dstore [(5, .double (rsd σ)), (4, .int (iI (i : Int))), (3, .ref ou), (2, .ref mm), (1, .ref tt), (0, .ref b)] dL_law_1355 (by decide) rfl ?_
  refine k_aload_n 3 2 dL_law_1357 rfl rfl ?_
  refine k_useV (k_runV (c_X8_residual θ.2.1 κ hM hs) w_L_150 ⟨q_1004, q_1005⟩ rfl rfl cM rfl ⟨(Nat.le_of_ble_eq_true rfl), (Nat.le_of_ble_eq_true rfl)⟩ (Nat.le_of_ble_eq_true rfl) dL_law_1358) ⟨by show _ ≤ 601024; omega, by show _ ≤ 7293034; omega⟩ (fun w9 L2 f2 hw => ?_)
  obtain ⟨rfl, rfl, hr2, hM2⟩ := hw
  replace hO := hO.fr hr2 rfl
  replace hC := hC.fr hr2 rfl
  have fin : k_G θ κ cL_law 9 (some .boolean) RL room_1 Q L2 f2 (k + 0) (n + 0) 1389 [(7, .double (rsd σ)), (5, .double (rsd σ)), (4, .int (iI (i : Int))), (3, .ref ou), (2, .ref mm), (1, .ref tt), (0, .ref b)] [] := by
    refine k_goto 1463 dL_law_1389 (by decide) ?_
    refine k_perm [2, 3, 4, 5, 6] [(4, .int (iI (i : Int))), (3, .ref ou), (2, .ref mm), (1, .ref tt), (0, .ref b)] rfl ?_
    exact cont _ _ _ _ _ _ _ hs hC hM2 hO (by omega) (by omega)
  refine k_dstore [(7, .double (rsd σ)), (5, .double (rsd σ)), (4, .int (iI (i : Int))), (3, .ref ou), (2, .ref mm), (1, .ref tt), (0, .ref b)] dL_law_1361 (by decide) rfl ?_
  refine k_dload 1 dL_law_1363 rfl ?_
  refine k_dload 0 dL_law_1365 rfl ?_
  refine k_dcmp dL_law_1367 ?_
  refine k_if_eqR 1389 dL_law_1368 (by decide) (fun _ => fin) (fun hv => ?_)
  refine k_dload 1 dL_law_1371 rfl ?_
  refine k_dload 1 dL_law_1373 rfl ?_
  refine k_dcmp dL_law_1375 ?_
  refine k_if_eqR 1387 dL_law_1376 (by decide) (fun h => absurd h hv) (fun _ => ?_)
  refine k_dload 0 dL_law_1379 rfl ?_
  refine k_dload 0 dL_law_1381 rfl ?_
  refine k_dcmp dL_law_1383 ?_
  exact k_if_neR 1389 dL_law_1384 (by decide) (fun _ => fin) (fun h => absurd h hv)
set_option maxHeartbeats 4000000 in
set_option maxRecDepth 100000 in
/-- worst -/
theorem law_case18 {θ : Kt} {κ : Kx} {Q : State → Prop} {L : List Nat} {f : Nat → wE} {b N tt mm ou i k n : Nat} {xs : Nat → Int32} {σ : Sg} {thr g : Int} (hE : LwE θ κ b N xs) (hs : SgOk σ) (hC : CS κ L f tt σ) (hM : MS κ L f mm thr σ) (hO : OutR κ L f ou g) (hi : i + 6 ≤ N) (hkn : k + 4 ≤ 601024 ∧ n + 70 ≤ 7293034) (cont : LCont θ κ Q b tt mm ou i k n) : k_G θ κ cL_law 9 (some .boolean) RL room_1 Q L f k n 1392 [(4, .int (iI (i : Int))), (3, .ref ou), (2, .ref mm), (1, .ref tt), (0, .ref b)] [] := by
  obtain ⟨hts, hnc, hX, hb, hkb, hN⟩ := hE
  obtain ⟨td, tb, pl, rl, old, hF⟩ := id hC
  obtain ⟨fsM, cM⟩ := hM.cl
  refine k_aload_n 3 1 dL_law_1392 rfl rfl ?_
  refine k_useR (k_runV (c_X7_worst θ.2.1 κ hF hs) w_L_151 ⟨q_199, q_200⟩ rfl rfl hF.1 rfl ⟨(Nat.le_of_ble_eq_true rfl), (Nat.le_of_ble_eq_true rfl)⟩ (Nat.le_of_ble_eq_true rfl) dL_law_1393) ⟨by show _ ≤ 601024; omega, by show _ ≤ 7293034; omega⟩ ?_
  refine k_aload_n 2 2 dL_law_1396 rfl rfl ?_
  refine k_useV (k_runV (c_X8_worst θ.2.1 κ hM hs) w_L_154 ⟨q_1016, q_1017⟩ rfl rfl cM rfl ⟨(Nat.le_of_ble_eq_true rfl), (Nat.le_of_ble_eq_true rfl)⟩ (Nat.le_of_ble_eq_true rfl) dL_law_1397) ⟨by show _ ≤ 601024; omega, by show _ ≤ 7293034; omega⟩ (fun w9 L2 f2 hw => ?_)
  obtain ⟨rfl, rfl, hr2, hM2⟩ := hw
  replace hO := hO.fr hr2 rfl
  replace hC := hC.fr hr2 rfl
  exact k_icmp_eqR 1463 dL_law_1400 (by decide) (fun _ => cont _ _ _ _ _ _ _ hs hC hM2 hO (by omega) (by omega)) (fun h => absurd rfl h)
set_option maxHeartbeats 4000000 in
set_option maxRecDepth 100000 in
/-- adjust -/
theorem law_case19 {θ : Kt} {κ : Kx} {Q : State → Prop} {L : List Nat} {f : Nat → wE} {b N tt mm ou i k n : Nat} {xs : Nat → Int32} {σ : Sg} {thr g : Int} (hE : LwE θ κ b N xs) (hs : SgOk σ) (hC : CS κ L f tt σ) (hM : MS κ L f mm thr σ) (hO : OutR κ L f ou g) (hi : i + 6 ≤ N) (hkn : k + 4 ≤ 601024 ∧ n + 70 ≤ 7293034) (cont : LCont θ κ Q b tt mm ou i k n) : k_G θ κ cL_law 9 (some .boolean) RL room_1 Q L f k n 1405 [(4, .int (iI (i : Int))), (3, .ref ou), (2, .ref mm), (1, .ref tt), (0, .ref b)] [] := by
  obtain ⟨hts, hnc, hX, hb, hkb, hN⟩ := hE
  refine k_aload_n 3 1 dL_law_1405 rfl rfl ?_
  refine k_aload_n 1 3 dL_law_1406 rfl rfl ?_
  refine k_useV (k_runSW (nA := 2) (c_L_adjust θ.2.1 κ (tt := tt) (ou := ou) hC hO hts hs) hnc ⟨⟨q_759, q_37, q_761⟩, ⟨by decide, by decide⟩, by decide +kernel⟩ q_760 rfl rfl ⟨(Nat.le_of_ble_eq_true rfl), (Nat.le_of_ble_eq_true rfl)⟩ (Nat.le_of_ble_eq_true rfl) dL_law_1407) ⟨by show _ ≤ 601024; omega, by show _ ≤ 7293034; omega⟩ (fun w9 L1 f1 hw => ?_)
  obtain ⟨k9, g9, rfl, hr1, hO1, hd1⟩ := hw
  replace hM := hM.fr hr1 rfl
  refine k_istore [(5, .int (iI k9)), (4, .int (iI (i : Int))), (3, .ref ou), (2, .ref mm), (1, .ref tt), (0, .ref b)] dL_law_1410 (by decide) rfl ?_
  refine k_aload_n 3 2 dL_law_1412 rfl rfl ?_
  obtain ⟨fsM, cM⟩ := hM.cl
  refine k_useV (k_runV (c_X8_adjust θ.2.1 κ (mm := mm) hM hs) w_L_157 ⟨q_1020, q_1021⟩ rfl rfl cM rfl ⟨(Nat.le_of_ble_eq_true rfl), (Nat.le_of_ble_eq_true rfl)⟩ (Nat.le_of_ble_eq_true rfl) dL_law_1413) ⟨by show _ ≤ 601024; omega, by show _ ≤ 7293034; omega⟩ (fun w9 L2 f2 hw => ?_)
  obtain ⟨v9, rfl, rfl, hr2, hd2⟩ := hw
  replace hO1 := hO1.fr hr2 rfl
  rcases hd1 with ⟨hx1, rfl, rfl, hC1⟩ | ⟨hx1, rfl, hC1⟩
  · replace hC1 := hC1.fr hr2 rfl
    rcases hd2 with ⟨hx2, rfl, hM2⟩ | ⟨hx2, hM2⟩
    · exact law_tail 1416 (sAdjust_ok hs hx1) hC1 hM2 hO1 rfl (fun _ => rfl) ⟨by omega, by omega⟩ ⟨by omega, by omega⟩ cont dL_law_1416 dL_law_1418 dL_law_1419 dL_law_1422 dL_law_1424 dL_law_1429 dL_law_1431 dL_law_1434 dL_law_1435 dL_law_1436 dL_law_1437 dL_law_1439 dL_law_1440 dL_law_1441 dL_law_1446 (by decide)
    · exact absurd (hx1.symm.trans hx2) (by decide)
  · replace hC1 := hC1.fr hr2 rfl
    rcases hd2 with ⟨hx2, rfl, hM2⟩ | ⟨hx2, hM2⟩
    · exact absurd (hx1.symm.trans hx2) (by decide)
    · exact law_tail 1416 hs hC1 hM2 hO1 rfl (fun h0 => absurd h0 (by decide)) ⟨by omega, by omega⟩ ⟨by omega, by omega⟩ cont dL_law_1416 dL_law_1418 dL_law_1419 dL_law_1422 dL_law_1424 dL_law_1429 dL_law_1431 dL_law_1434 dL_law_1435 dL_law_1436 dL_law_1437 dL_law_1439 dL_law_1440 dL_law_1441 dL_law_1446 (by decide)
set_option maxHeartbeats 4000000 in
set_option maxRecDepth 100000 in
/-- digest -/
theorem law_case20 {θ : Kt} {κ : Kx} {Q : State → Prop} {L : List Nat} {f : Nat → wE} {b N tt mm ou i k n : Nat} {xs : Nat → Int32} {σ : Sg} {thr g : Int} (hE : LwE θ κ b N xs) (hs : SgOk σ) (hC : CS κ L f tt σ) (hM : MS κ L f mm thr σ) (hO : OutR κ L f ou g) (hi : i + 6 ≤ N) (hkn : k + 4 ≤ 601024 ∧ n + 70 ≤ 7293034) (cont : LCont θ κ Q b tt mm ou i k n) : k_G θ κ cL_law 9 (some .boolean) RL room_1 Q L f k n 1449 [(4, .int (iI (i : Int))), (3, .ref ou), (2, .ref mm), (1, .ref tt), (0, .ref b)] [] := by
  obtain ⟨hts, hnc, hX, hb, hkb, hN⟩ := hE
  obtain ⟨td, tb, pl, rl, old, hF⟩ := id hC
  obtain ⟨fsM, cM⟩ := hM.cl
  refine k_aload_n 3 1 dL_law_1449 rfl rfl ?_
  refine k_useV (k_runV (c_X7_digest θ.2.1 κ hF hs) w_L_158 ⟨q_207, q_208⟩ rfl rfl hF.1 rfl ⟨(Nat.le_of_ble_eq_true rfl), (Nat.le_of_ble_eq_true rfl)⟩ (Nat.le_of_ble_eq_true rfl) dL_law_1450) ⟨by show _ ≤ 601024; omega, by show _ ≤ 7293034; omega⟩ (fun w9 L1 f1 hw => ?_)
  obtain ⟨rfl, hC1, hr1⟩ := hw
  replace hM := hM.fr hr1 rfl
  replace hO := hO.fr hr1 rfl
  obtain ⟨fsM, cM⟩ := hM.cl
  refine k_aload_n 2 2 dL_law_1453 rfl rfl ?_
  refine k_useV (k_runV (c_X8_digest θ.2.1 κ hM hs) w_L_162 ⟨q_1024, q_1025⟩ rfl rfl cM rfl ⟨(Nat.le_of_ble_eq_true rfl), (Nat.le_of_ble_eq_true rfl)⟩ (Nat.le_of_ble_eq_true rfl) dL_law_1454) ⟨by show _ ≤ 601024; omega, by show _ ≤ 7293034; omega⟩ (fun w9 L2 f2 hw => ?_)
  obtain ⟨rfl, rfl, hr2, hM2⟩ := hw
  replace hO := hO.fr hr2 rfl
  replace hC1 := hC1.fr hr2 rfl
  exact k_lcmpS 1463 dL_law_1457 dL_law_1458 (by decide) (cont _ _ _ _ _ _ _ hs hC1 hM2 hO (by omega) (by omega))
