/-! ===== the law: its calls, with what they catch ===== -/
theorem e_AddWave {σ : Sg} {r p o : Int} {E : String} (h : xAddWave σ r p o = some E) : E = cIA ∨ E = cIS := by
  unfold xAddWave at h
  repeat' (split at h)
  all_goals (cases h <;> first | exact rfl | exact Or.inl rfl | exact Or.inr rfl | exact Or.inr (Or.inl rfl) | exact Or.inr (Or.inr rfl))
theorem e_SetRange {σ : Sg} {w r : Int} {E : String} (h : xSetRange σ w r = some E) : E = cIO ∨ E = cIA := by
  unfold xSetRange at h
  repeat' (split at h)
  all_goals (cases h <;> first | exact rfl | exact Or.inl rfl | exact Or.inr rfl | exact Or.inr (Or.inl rfl) | exact Or.inr (Or.inr rfl))
theorem e_SetLevel {v : Int} {E : String} (h : xSetLevel v = some E) : E = cIA := by
  unfold xSetLevel at h
  repeat' (split at h)
  all_goals (cases h <;> first | exact rfl | exact Or.inl rfl | exact Or.inr rfl | exact Or.inr (Or.inl rfl) | exact Or.inr (Or.inr rfl))
theorem e_Height {t : Int} {E : String} (h : xHeight t = some E) : E = cIA := by
  unfold xHeight at h
  repeat' (split at h)
  all_goals (cases h <;> first | exact rfl | exact Or.inl rfl | exact Or.inr rfl | exact Or.inr (Or.inl rfl) | exact Or.inr (Or.inr rfl))
theorem e_WaveHeight {σ : Sg} {w t : Int} {E : String} (h : xWaveHeight σ w t = some E) : E = cIO ∨ E = cIA := by
  unfold xWaveHeight at h
  repeat' (split at h)
  all_goals (cases h <;> first | exact rfl | exact Or.inl rfl | exact Or.inr rfl | exact Or.inr (Or.inl rfl) | exact Or.inr (Or.inr rfl))
theorem e_Count {what : Int} {E : String} (h : xCount what = some E) : E = cIO := by
  unfold xCount at h
  repeat' (split at h)
  all_goals (cases h <;> first | exact rfl | exact Or.inl rfl | exact Or.inr rfl | exact Or.inr (Or.inl rfl) | exact Or.inr (Or.inr rfl))
theorem e_Water {σ : Sg} {w what : Int} {E : String} (h : xWater σ w what = some E) : E = cIO := by
  unfold xWater at h
  repeat' (split at h)
  all_goals (cases h <;> first | exact rfl | exact Or.inl rfl | exact Or.inr rfl | exact Or.inr (Or.inl rfl) | exact Or.inr (Or.inr rfl))
theorem e_Datum {what : Int} {E : String} (h : xDatum what = some E) : E = cIO := by
  unfold xDatum at h
  repeat' (split at h)
  all_goals (cases h <;> first | exact rfl | exact Or.inl rfl | exact Or.inr rfl | exact Or.inr (Or.inl rfl) | exact Or.inr (Or.inr rfl))
theorem e_AddPort {σ : Sg} {E : String} (h : xAddPort σ = some E) : E = cIS := by
  unfold xAddPort at h
  repeat' (split at h)
  all_goals (cases h <;> first | exact rfl | exact Or.inl rfl | exact Or.inr rfl | exact Or.inr (Or.inl rfl) | exact Or.inr (Or.inr rfl))
theorem e_SetPort {σ : Sg} {p s f : Int} {E : String} (h : xSetPort σ p s f = some E) : E = cIO ∨ E = cIA := by
  unfold xSetPort at h
  repeat' (split at h)
  all_goals (cases h <;> first | exact rfl | exact Or.inl rfl | exact Or.inr rfl | exact Or.inr (Or.inl rfl) | exact Or.inr (Or.inr rfl))
theorem e_SetAdd {σ : Sg} {p v : Int} {E : String} (h : xSetAdd σ p v = some E) : E = cIO ∨ E = cIA := by
  unfold xSetAdd at h
  repeat' (split at h)
  all_goals (cases h <;> first | exact rfl | exact Or.inl rfl | exact Or.inr rfl | exact Or.inr (Or.inl rfl) | exact Or.inr (Or.inr rfl))
theorem e_Port {σ : Sg} {p : Int} {E : String} (h : xPort σ p = some E) : E = cIO := by
  unfold xPort at h
  repeat' (split at h)
  all_goals (cases h <;> first | exact rfl | exact Or.inl rfl | exact Or.inr rfl | exact Or.inr (Or.inl rfl) | exact Or.inr (Or.inr rfl))
theorem e_PortWater {σ : Sg} {p w : Int} {E : String} (h : xPortWater σ p w = some E) : E = cIO := by
  unfold xPortWater at h
  repeat' (split at h)
  all_goals (cases h <;> first | exact rfl | exact Or.inl rfl | exact Or.inr rfl | exact Or.inr (Or.inl rfl) | exact Or.inr (Or.inr rfl))
theorem e_PortHeight {σ : Sg} {p t : Int} {E : String} (h : xPortHeight σ p t = some E) : E = cIO ∨ E = cIA ∨ E = cIS := by
  unfold xPortHeight at h
  repeat' (split at h)
  all_goals (cases h <;> first | exact rfl | exact Or.inl rfl | exact Or.inr rfl | exact Or.inr (Or.inl rfl) | exact Or.inr (Or.inr rfl))
theorem e_Windows {σ : Sg} {p a b what : Int} {E : String} (h : xWindows σ p a b what = some E) : E = cIO ∨ E = cIA := by
  unfold xWindows at h
  repeat' (split at h)
  all_goals (cases h <;> first | exact rfl | exact Or.inl rfl | exact Or.inr rfl | exact Or.inr (Or.inl rfl) | exact Or.inr (Or.inr rfl))
theorem e_Read {σ : Sg} {t v : Int} {E : String} (h : xRead σ t v = some E) : E = cIA ∨ E = cIS := by
  unfold xRead at h
  repeat' (split at h)
  all_goals (cases h <;> first | exact rfl | exact Or.inl rfl | exact Or.inr rfl | exact Or.inr (Or.inl rfl) | exact Or.inr (Or.inr rfl))
theorem e_Adjust {σ : Sg} {E : String} (h : xAdjust σ = some E) : E = cIS := by
  unfold xAdjust at h
  repeat' (split at h)
  all_goals (cases h <;> first | exact rfl | exact Or.inl rfl | exact Or.inr rfl | exact Or.inr (Or.inl rfl) | exact Or.inr (Or.inr rfl))
set_option maxHeartbeats 4000000 in
set_option maxRecDepth 100000 in
theorem c_L_addWave (la : Launch) (κ : Kx) {L : List Nat} {f : Nat → wE} {tt ou : Nat} {σ : Sg} {g0 : Int} {r p o : Int}   (hC : CS κ L f tt σ) (hO : OutR κ L f ou g0) (hts : la.stackTraces = false) (hs : SgOk σ) (hr : inI r) (hp : inI p) (ho : inI o) : k_MW la κ yL_addWave cL_addWave 6 (some .int) [(0, 12, 15, 13), (0, 12, 19, 15)] 9 2 63 [.ref tt, .int (iI r), .int (iI p), .int (iI o), .ref ou] L f (k_rn (fun v9 L' f' => ∃ k9 g9 : Int, v9 = .int (iI k9) ∧ k_fr SO L f L' f' ∧ OutR κ L' f' ou g9 ∧ ((xAddWave σ r p o = none ∧ k9 = 0 ∧ g9 = (iI ((σ.1.2.1 : Int))).toInt ∧ CS κ L' f' tt (sAddWave σ r p o)) ∨ (xAddWave σ r p o = some cIA ∧ k9 = 1 ∧ CS κ L' f' tt σ) ∨ (xAddWave σ r p o = some cIS ∧ k9 = 2 ∧ CS κ L' f' tt σ)))) := by
  refine k_headW RL [(0, .ref tt), (1, .int (iI r)), (2, .int (iI p)), (3, .int (iI o)), (4, .ref ou)] rfl (by decide) (Nat.le_of_ble_eq_true rfl) rfl (fun θ hθ hth hnc => ?_)
  have hts2 : θ.2.1.stackTraces = false := by rw [hθ]; exact hts
  obtain ⟨td, tb, pl, rl, old, hF⟩ := hC
  obtain ⟨G0, co, hg0⟩ := hO
  refine k_aload 4 dL_addWave_0 rfl ?_
  refine k_iconst dL_addWave_2 ?_
  refine k_aload_n 0 0 dL_addWave_3 rfl rfl ?_
  refine k_iload_n 1 1 dL_addWave_4 rfl rfl ?_
  refine k_iload_n 2 2 dL_addWave_5 rfl rfl ?_
  refine k_iload_n 3 3 dL_addWave_6 rfl rfl ?_
  refine k_useX (c_X7_addWave θ.2.1 κ (tt := tt) (r := r) (p := p) (o := o) hF hts2 hs hr hp ho) w_L_7 ⟨q_329, q_330⟩ rfl rfl hF.1 rfl ⟨(Nat.le_of_ble_eq_true rfl), (Nat.le_of_ble_eq_true rfl)⟩ (Nat.le_of_ble_eq_true rfl) dL_addWave_7 ⟨(Nat.le_of_ble_eq_true rfl), (Nat.le_of_ble_eq_true rfl)⟩ (fun v L9 f9 hp => ?_) (fun E9 L9 f9 hp => ?_)
  · obtain ⟨w9, rfl, hx9, rfl, hC9, hr9⟩ := hp
    replace co := co.fr hr9 rfl
    refine k_i2lR dL_addWave_10 ?_
    refine k_last 0 co rfl (by omega) (by omega) dL_addWave_11 (fun f1 hf1 hc1 => ?_)
    have hr1 := k_fr.put hf1 co
    replace hC9 := hC9.fr hr1 rfl
    replace co : Cl L9 f1 ou (31, .inl (κ.2.2.1 1, 1, .inr (.inl (fun u9 => lI ((va_up G0 0 ((iI ((σ.1.2.1 : Int))).toInt)) u9))))) := hc1
    refine k_goto 23 dL_addWave_12 (by decide) ?_
    refine k_iconst dL_addWave_23 ?_
    exact k_iret dL_addWave_24 rfl (Nat.le_of_ble_eq_true rfl) (Nat.le_of_ble_eq_true rfl) (⟨_, rfl, 0, (iI ((σ.1.2.1 : Int))).toInt, rfl, k_fr.trans hr9 hr1 SO_SC SO_31, ⟨_, co, by rw [va_up_self]⟩, Or.inl ⟨hx9, rfl, rfl, hC9⟩⟩)
  · obtain ⟨hx9, hC9, hr9⟩ := hp
    replace co := co.fr hr9 rfl
    rcases e_AddWave hx9 with rfl | rfl
    · refine k_catch (nm := cIA) [] ⟨0, 12, 15, 13⟩ [⟨0, 12, 19, 15⟩] hth (fun z hz => nomatch hz) rfl (by decide) q_326 q_334 (fun q9 => ?_)
      refine k_astore [(5, .ref q9), (0, .ref tt), (1, .int (iI r)), (2, .int (iI p)), (3, .int (iI o)), (4, .ref ou)] dL_addWave_15 (by decide) rfl ?_
      refine k_iconst dL_addWave_17 ?_
      exact k_iret dL_addWave_18 rfl (Nat.le_of_ble_eq_true rfl) (Nat.le_of_ble_eq_true rfl) (⟨_, rfl, 1, g0, rfl, k_fr.mono hr9 SO_SC, ⟨G0, co, hg0⟩, Or.inr (Or.inl ⟨hx9, rfl, hC9⟩)⟩)
    · refine k_catch (nm := cIS) [⟨0, 12, 15, 13⟩] ⟨0, 12, 19, 15⟩ [] hth (fun z hz => by rw [List.mem_singleton.mp hz]; exact Or.inr ⟨by decide, cIA, q_326, hnc.2.2.1⟩) rfl (by decide) q_327 q_404 (fun q9 => ?_)
      refine k_astore [(5, .ref q9), (0, .ref tt), (1, .int (iI r)), (2, .int (iI p)), (3, .int (iI o)), (4, .ref ou)] dL_addWave_19 (by decide) rfl ?_
      refine k_iconst dL_addWave_21 ?_
      exact k_iret dL_addWave_22 rfl (Nat.le_of_ble_eq_true rfl) (Nat.le_of_ble_eq_true rfl) (⟨_, rfl, 2, g0, rfl, k_fr.mono hr9 SO_SC, ⟨G0, co, hg0⟩, Or.inr (Or.inr (⟨hx9, rfl, hC9⟩))⟩)
set_option maxHeartbeats 4000000 in
set_option maxRecDepth 100000 in
theorem c_L_setRange (la : Launch) (κ : Kx) {L : List Nat} {f : Nat → wE} {tt ou : Nat} {σ : Sg} {g0 : Int} {w r : Int}   (hC : CS κ L f tt σ) (hO : OutR κ L f ou g0) (hts : la.stackTraces = false) (hs : SgOk σ) (hw : inI w) (hr : inI r) : k_MW la κ yL_setRange cL_setRange 5 (some .int) [(0, 10, 13, 21), (0, 10, 17, 13)] 9 1 6 [.ref tt, .int (iI w), .int (iI r), .ref ou] L f (k_rn (fun v9 L' f' => ∃ k9 g9 : Int, v9 = .int (iI k9) ∧ k_fr SO L f L' f' ∧ OutR κ L' f' ou g9 ∧ ((xSetRange σ w r = none ∧ k9 = 0 ∧ g9 = (iI (σ.1.2.2.1 w.toNat)).toInt ∧ CS κ L' f' tt (sSetRange σ w r)) ∨ (xSetRange σ w r = some cIO ∧ k9 = 1 ∧ CS κ L' f' tt σ) ∨ (xSetRange σ w r = some cIA ∧ k9 = 2 ∧ CS κ L' f' tt σ)))) := by
  refine k_headW RL [(0, .ref tt), (1, .int (iI w)), (2, .int (iI r)), (3, .ref ou)] rfl (by decide) (Nat.le_of_ble_eq_true rfl) rfl (fun θ hθ hth hnc => ?_)
  have hts2 : θ.2.1.stackTraces = false := by rw [hθ]; exact hts
  obtain ⟨td, tb, pl, rl, old, hF⟩ := hC
  obtain ⟨G0, co, hg0⟩ := hO
  refine k_aload_n 3 3 dL_setRange_0 rfl rfl ?_
  refine k_iconst dL_setRange_1 ?_
  refine k_aload_n 0 0 dL_setRange_2 rfl rfl ?_
  refine k_iload_n 1 1 dL_setRange_3 rfl rfl ?_
  refine k_iload_n 2 2 dL_setRange_4 rfl rfl ?_
  refine k_useX (c_X7_setRange θ.2.1 κ (tt := tt) (w := w) (r := r) hF hts2 hs hw hr) w_L_17 ⟨q_496, q_497⟩ rfl rfl hF.1 rfl ⟨(Nat.le_of_ble_eq_true rfl), (Nat.le_of_ble_eq_true rfl)⟩ (Nat.le_of_ble_eq_true rfl) dL_setRange_5 ⟨(Nat.le_of_ble_eq_true rfl), (Nat.le_of_ble_eq_true rfl)⟩ (fun v L9 f9 hp => ?_) (fun E9 L9 f9 hp => ?_)
  · obtain ⟨w9, rfl, hx9, rfl, hC9, hr9⟩ := hp
    replace co := co.fr hr9 rfl
    refine k_i2lR dL_setRange_8 ?_
    refine k_last 0 co rfl (by omega) (by omega) dL_setRange_9 (fun f1 hf1 hc1 => ?_)
    have hr1 := k_fr.put hf1 co
    replace hC9 := hC9.fr hr1 rfl
    replace co : Cl L9 f1 ou (31, .inl (κ.2.2.1 1, 1, .inr (.inl (fun u9 => lI ((va_up G0 0 ((iI (σ.1.2.2.1 w.toNat)).toInt)) u9))))) := hc1
    refine k_goto 21 dL_setRange_10 (by decide) ?_
    refine k_iconst dL_setRange_21 ?_
    exact k_iret dL_setRange_22 rfl (Nat.le_of_ble_eq_true rfl) (Nat.le_of_ble_eq_true rfl) (⟨_, rfl, 0, (iI (σ.1.2.2.1 w.toNat)).toInt, rfl, k_fr.trans hr9 hr1 SO_SC SO_31, ⟨_, co, by rw [va_up_self]⟩, Or.inl ⟨hx9, rfl, rfl, hC9⟩⟩)
  · obtain ⟨hx9, hC9, hr9⟩ := hp
    replace co := co.fr hr9 rfl
    rcases e_SetRange hx9 with rfl | rfl
    · refine k_catch (nm := cIO) [] ⟨0, 10, 13, 21⟩ [⟨0, 10, 17, 13⟩] hth (fun z hz => nomatch hz) rfl (by decide) q_494 q_505 (fun q9 => ?_)
      refine k_astore [(4, .ref q9), (0, .ref tt), (1, .int (iI w)), (2, .int (iI r)), (3, .ref ou)] dL_setRange_13 (by decide) rfl ?_
      refine k_iconst dL_setRange_15 ?_
      exact k_iret dL_setRange_16 rfl (Nat.le_of_ble_eq_true rfl) (Nat.le_of_ble_eq_true rfl) (⟨_, rfl, 1, g0, rfl, k_fr.mono hr9 SO_SC, ⟨G0, co, hg0⟩, Or.inr (Or.inl ⟨hx9, rfl, hC9⟩)⟩)
    · refine k_catch (nm := cIA) [⟨0, 10, 13, 21⟩] ⟨0, 10, 17, 13⟩ [] hth (fun z hz => by rw [List.mem_singleton.mp hz]; exact Or.inr ⟨by decide, cIO, q_494, hnc.2.1⟩) rfl (by decide) q_326 q_334 (fun q9 => ?_)
      refine k_astore [(4, .ref q9), (0, .ref tt), (1, .int (iI w)), (2, .int (iI r)), (3, .ref ou)] dL_setRange_17 (by decide) rfl ?_
      refine k_iconst dL_setRange_19 ?_
      exact k_iret dL_setRange_20 rfl (Nat.le_of_ble_eq_true rfl) (Nat.le_of_ble_eq_true rfl) (⟨_, rfl, 2, g0, rfl, k_fr.mono hr9 SO_SC, ⟨G0, co, hg0⟩, Or.inr (Or.inr (⟨hx9, rfl, hC9⟩))⟩)
set_option maxHeartbeats 4000000 in
set_option maxRecDepth 100000 in
theorem c_L_setLevel (la : Launch) (κ : Kx) {L : List Nat} {f : Nat → wE} {tt ou : Nat} {σ : Sg} {g0 : Int} {v : Int}   (hC : CS κ L f tt σ) (hO : OutR κ L f ou g0) (hts : la.stackTraces = false) (hs : SgOk σ) (hv : inI v) : k_MW la κ yL_setLevel cL_setLevel 4 (some .int) [(0, 9, 12, 13)] 9 1 6 [.ref tt, .int (iI v), .ref ou] L f (k_rn (fun v9 L' f' => ∃ k9 g9 : Int, v9 = .int (iI k9) ∧ k_fr SO L f L' f' ∧ OutR κ L' f' ou g9 ∧ ((xSetLevel v = none ∧ k9 = 0 ∧ g9 = (iI (σ.1.1)).toInt ∧ CS κ L' f' tt (sSetLevel σ v)) ∨ (xSetLevel v = some cIA ∧ k9 = 1 ∧ CS κ L' f' tt σ)))) := by
  refine k_headW RL [(0, .ref tt), (1, .int (iI v)), (2, .ref ou)] rfl (by decide) (Nat.le_of_ble_eq_true rfl) rfl (fun θ hθ hth hnc => ?_)
  have hts2 : θ.2.1.stackTraces = false := by rw [hθ]; exact hts
  obtain ⟨td, tb, pl, rl, old, hF⟩ := hC
  obtain ⟨G0, co, hg0⟩ := hO
  refine k_aload_n 2 2 dL_setLevel_0 rfl rfl ?_
  refine k_iconst dL_setLevel_1 ?_
  refine k_aload_n 0 0 dL_setLevel_2 rfl rfl ?_
  refine k_iload_n 1 1 dL_setLevel_3 rfl rfl ?_
  refine k_useX (c_X7_setLevel θ.2.1 κ (tt := tt) (v := v) hF hts2 hs hv) w_L_23 ⟨q_523, q_524⟩ rfl rfl hF.1 rfl ⟨(Nat.le_of_ble_eq_true rfl), (Nat.le_of_ble_eq_true rfl)⟩ (Nat.le_of_ble_eq_true rfl) dL_setLevel_4 ⟨(Nat.le_of_ble_eq_true rfl), (Nat.le_of_ble_eq_true rfl)⟩ (fun v L9 f9 hp => ?_) (fun E9 L9 f9 hp => ?_)
  · obtain ⟨w9, rfl, hx9, rfl, hC9, hr9⟩ := hp
    replace co := co.fr hr9 rfl
    refine k_i2lR dL_setLevel_7 ?_
    refine k_last 0 co rfl (by omega) (by omega) dL_setLevel_8 (fun f1 hf1 hc1 => ?_)
    have hr1 := k_fr.put hf1 co
    replace hC9 := hC9.fr hr1 rfl
    replace co : Cl L9 f1 ou (31, .inl (κ.2.2.1 1, 1, .inr (.inl (fun u9 => lI ((va_up G0 0 ((iI (σ.1.1)).toInt)) u9))))) := hc1
    refine k_goto 15 dL_setLevel_9 (by decide) ?_
    refine k_iconst dL_setLevel_15 ?_
    exact k_iret dL_setLevel_16 rfl (Nat.le_of_ble_eq_true rfl) (Nat.le_of_ble_eq_true rfl) (⟨_, rfl, 0, (iI (σ.1.1)).toInt, rfl, k_fr.trans hr9 hr1 SO_SC SO_31, ⟨_, co, by rw [va_up_self]⟩, Or.inl ⟨hx9, rfl, rfl, hC9⟩⟩)
  · obtain ⟨hx9, hC9, hr9⟩ := hp
    replace co := co.fr hr9 rfl
    obtain rfl := e_SetLevel hx9
    refine k_catch (nm := cIA) [] ⟨0, 9, 12, 13⟩ [] hth (fun z hz => nomatch hz) rfl (by decide) q_326 q_334 (fun q9 => ?_)
    refine k_astore_n 3 [(3, .ref q9), (0, .ref tt), (1, .int (iI v)), (2, .ref ou)] dL_setLevel_12 rfl (by decide) rfl ?_
    refine k_iconst dL_setLevel_13 ?_
    exact k_iret dL_setLevel_14 rfl (Nat.le_of_ble_eq_true rfl) (Nat.le_of_ble_eq_true rfl) (⟨_, rfl, 1, g0, rfl, k_fr.mono hr9 SO_SC, ⟨G0, co, hg0⟩, Or.inr (⟨hx9, rfl, hC9⟩)⟩)
set_option maxHeartbeats 4000000 in
set_option maxRecDepth 100000 in
theorem c_L_height (la : Launch) (κ : Kx) {L : List Nat} {f : Nat → wE} {tt ou : Nat} {σ : Sg} {g0 : Int} {t : Int}   (hC : CS κ L f tt σ) (hO : OutR κ L f ou g0) (hts : la.stackTraces = false) (hs : SgOk σ) (ht : inI t) : k_MW la κ yL_height cL_height 4 (some .int) [(0, 9, 12, 13)] 9 1 6 [.ref tt, .int (iI t), .ref ou] L f (k_rn (fun v9 L' f' => ∃ k9 g9 : Int, v9 = .int (iI k9) ∧ k_fr SO L f L' f' ∧ OutR κ L' f' ou g9 ∧ ((xHeight t = none ∧ k9 = 0 ∧ g9 = (iI (hT σ.1 t.toNat)).toInt ∧ CS κ L' f' tt (σ)) ∨ (xHeight t = some cIA ∧ k9 = 1 ∧ CS κ L' f' tt σ)))) := by
  refine k_headW RL [(0, .ref tt), (1, .int (iI t)), (2, .ref ou)] rfl (by decide) (Nat.le_of_ble_eq_true rfl) rfl (fun θ hθ hth hnc => ?_)
  have hts2 : θ.2.1.stackTraces = false := by rw [hθ]; exact hts
  obtain ⟨td, tb, pl, rl, old, hF⟩ := hC
  obtain ⟨G0, co, hg0⟩ := hO
  refine k_aload_n 2 2 dL_height_0 rfl rfl ?_
  refine k_iconst dL_height_1 ?_
  refine k_aload_n 0 0 dL_height_2 rfl rfl ?_
  refine k_iload_n 1 1 dL_height_3 rfl rfl ?_
  refine k_useX (c_X7_height θ.2.1 κ (tt := tt) (t := t) hF hts2 hs ht) w_L_27 ⟨q_531, q_532⟩ rfl rfl hF.1 rfl ⟨(Nat.le_of_ble_eq_true rfl), (Nat.le_of_ble_eq_true rfl)⟩ (Nat.le_of_ble_eq_true rfl) dL_height_4 ⟨(Nat.le_of_ble_eq_true rfl), (Nat.le_of_ble_eq_true rfl)⟩ (fun v L9 f9 hp => ?_) (fun E9 L9 f9 hp => ?_)
  · obtain ⟨w9, rfl, hx9, rfl, hC9, hr9⟩ := hp
    replace co := co.fr hr9 rfl
    refine k_i2lR dL_height_7 ?_
    refine k_last 0 co rfl (by omega) (by omega) dL_height_8 (fun f1 hf1 hc1 => ?_)
    have hr1 := k_fr.put hf1 co
    replace hC9 := hC9.fr hr1 rfl
    replace co : Cl L9 f1 ou (31, .inl (κ.2.2.1 1, 1, .inr (.inl (fun u9 => lI ((va_up G0 0 ((iI (hT σ.1 t.toNat)).toInt)) u9))))) := hc1
    refine k_goto 15 dL_height_9 (by decide) ?_
    refine k_iconst dL_height_15 ?_
    exact k_iret dL_height_16 rfl (Nat.le_of_ble_eq_true rfl) (Nat.le_of_ble_eq_true rfl) (⟨_, rfl, 0, (iI (hT σ.1 t.toNat)).toInt, rfl, k_fr.trans hr9 hr1 SO_SC SO_31, ⟨_, co, by rw [va_up_self]⟩, Or.inl ⟨hx9, rfl, rfl, hC9⟩⟩)
  · obtain ⟨hx9, hC9, hr9⟩ := hp
    replace co := co.fr hr9 rfl
    obtain rfl := e_Height hx9
    refine k_catch (nm := cIA) [] ⟨0, 9, 12, 13⟩ [] hth (fun z hz => nomatch hz) rfl (by decide) q_326 q_334 (fun q9 => ?_)
    refine k_astore_n 3 [(3, .ref q9), (0, .ref tt), (1, .int (iI t)), (2, .ref ou)] dL_height_12 rfl (by decide) rfl ?_
    refine k_iconst dL_height_13 ?_
    exact k_iret dL_height_14 rfl (Nat.le_of_ble_eq_true rfl) (Nat.le_of_ble_eq_true rfl) (⟨_, rfl, 1, g0, rfl, k_fr.mono hr9 SO_SC, ⟨G0, co, hg0⟩, Or.inr (⟨hx9, rfl, hC9⟩)⟩)
set_option maxHeartbeats 4000000 in
set_option maxRecDepth 100000 in
theorem c_L_waveHeight (la : Launch) (κ : Kx) {L : List Nat} {f : Nat → wE} {tt ou : Nat} {σ : Sg} {g0 : Int} {w t : Int}   (hC : CS κ L f tt σ) (hO : OutR κ L f ou g0) (hts : la.stackTraces = false) (hs : SgOk σ) (hw : inI w) (ht : inI t) : k_MW la κ yL_waveHeight cL_waveHeight 5 (some .int) [(0, 10, 13, 21), (0, 10, 17, 13)] 9 1 6 [.ref tt, .int (iI w), .int (iI t), .ref ou] L f (k_rn (fun v9 L' f' => ∃ k9 g9 : Int, v9 = .int (iI k9) ∧ k_fr SO L f L' f' ∧ OutR κ L' f' ou g9 ∧ ((xWaveHeight σ w t = none ∧ k9 = 0 ∧ g9 = (iI (wvH (σ.1.2.2.1 w.toNat) (σ.1.2.2.2.1 w.toNat) (σ.1.2.2.2.2 w.toNat) t)).toInt ∧ CS κ L' f' tt (σ)) ∨ (xWaveHeight σ w t = some cIO ∧ k9 = 1 ∧ CS κ L' f' tt σ) ∨ (xWaveHeight σ w t = some cIA ∧ k9 = 2 ∧ CS κ L' f' tt σ)))) := by
  refine k_headW RL [(0, .ref tt), (1, .int (iI w)), (2, .int (iI t)), (3, .ref ou)] rfl (by decide) (Nat.le_of_ble_eq_true rfl) rfl (fun θ hθ hth hnc => ?_)
  have hts2 : θ.2.1.stackTraces = false := by rw [hθ]; exact hts
  obtain ⟨td, tb, pl, rl, old, hF⟩ := hC
  obtain ⟨G0, co, hg0⟩ := hO
  refine k_aload_n 3 3 dL_waveHeight_0 rfl rfl ?_
  refine k_iconst dL_waveHeight_1 ?_
  refine k_aload_n 0 0 dL_waveHeight_2 rfl rfl ?_
  refine k_iload_n 1 1 dL_waveHeight_3 rfl rfl ?_
  refine k_iload_n 2 2 dL_waveHeight_4 rfl rfl ?_
  refine k_useX (c_X7_waveHeight θ.2.1 κ (tt := tt) (w := w) (t := t) hF hts2 hs hw ht) w_L_30 ⟨q_540, q_541⟩ rfl rfl hF.1 rfl ⟨(Nat.le_of_ble_eq_true rfl), (Nat.le_of_ble_eq_true rfl)⟩ (Nat.le_of_ble_eq_true rfl) dL_waveHeight_5 ⟨(Nat.le_of_ble_eq_true rfl), (Nat.le_of_ble_eq_true rfl)⟩ (fun v L9 f9 hp => ?_) (fun E9 L9 f9 hp => ?_)
  · obtain ⟨w9, rfl, hx9, rfl, hC9, hr9⟩ := hp
    replace co := co.fr hr9 rfl
    refine k_i2lR dL_waveHeight_8 ?_
    refine k_last 0 co rfl (by omega) (by omega) dL_waveHeight_9 (fun f1 hf1 hc1 => ?_)
    have hr1 := k_fr.put hf1 co
    replace hC9 := hC9.fr hr1 rfl
    replace co : Cl L9 f1 ou (31, .inl (κ.2.2.1 1, 1, .inr (.inl (fun u9 => lI ((va_up G0 0 ((iI (wvH (σ.1.2.2.1 w.toNat) (σ.1.2.2.2.1 w.toNat) (σ.1.2.2.2.2 w.toNat) t)).toInt)) u9))))) := hc1
    refine k_goto 21 dL_waveHeight_10 (by decide) ?_
    refine k_iconst dL_waveHeight_21 ?_
    exact k_iret dL_waveHeight_22 rfl (Nat.le_of_ble_eq_true rfl) (Nat.le_of_ble_eq_true rfl) (⟨_, rfl, 0, (iI (wvH (σ.1.2.2.1 w.toNat) (σ.1.2.2.2.1 w.toNat) (σ.1.2.2.2.2 w.toNat) t)).toInt, rfl, k_fr.trans hr9 hr1 SO_SC SO_31, ⟨_, co, by rw [va_up_self]⟩, Or.inl ⟨hx9, rfl, rfl, hC9⟩⟩)
  · obtain ⟨hx9, hC9, hr9⟩ := hp
    replace co := co.fr hr9 rfl
    rcases e_WaveHeight hx9 with rfl | rfl
    · refine k_catch (nm := cIO) [] ⟨0, 10, 13, 21⟩ [⟨0, 10, 17, 13⟩] hth (fun z hz => nomatch hz) rfl (by decide) q_494 q_505 (fun q9 => ?_)
      refine k_astore [(4, .ref q9), (0, .ref tt), (1, .int (iI w)), (2, .int (iI t)), (3, .ref ou)] dL_waveHeight_13 (by decide) rfl ?_
      refine k_iconst dL_waveHeight_15 ?_
      exact k_iret dL_waveHeight_16 rfl (Nat.le_of_ble_eq_true rfl) (Nat.le_of_ble_eq_true rfl) (⟨_, rfl, 1, g0, rfl, k_fr.mono hr9 SO_SC, ⟨G0, co, hg0⟩, Or.inr (Or.inl ⟨hx9, rfl, hC9⟩)⟩)
    · refine k_catch (nm := cIA) [⟨0, 10, 13, 21⟩] ⟨0, 10, 17, 13⟩ [] hth (fun z hz => by rw [List.mem_singleton.mp hz]; exact Or.inr ⟨by decide, cIO, q_494, hnc.2.1⟩) rfl (by decide) q_326 q_334 (fun q9 => ?_)
      refine k_astore [(4, .ref q9), (0, .ref tt), (1, .int (iI w)), (2, .int (iI t)), (3, .ref ou)] dL_waveHeight_17 (by decide) rfl ?_
      refine k_iconst dL_waveHeight_19 ?_
      exact k_iret dL_waveHeight_20 rfl (Nat.le_of_ble_eq_true rfl) (Nat.le_of_ble_eq_true rfl) (⟨_, rfl, 2, g0, rfl, k_fr.mono hr9 SO_SC, ⟨G0, co, hg0⟩, Or.inr (Or.inr (⟨hx9, rfl, hC9⟩))⟩)
set_option maxHeartbeats 4000000 in
set_option maxRecDepth 100000 in
theorem c_L_count (la : Launch) (κ : Kx) {L : List Nat} {f : Nat → wE} {tt ou : Nat} {σ : Sg} {g0 : Int} {what : Int}   (hC : CS κ L f tt σ) (hO : OutR κ L f ou g0) (hts : la.stackTraces = false) (hs : SgOk σ) (hwhat : inI what) : k_MW la κ yL_count cL_count 4 (some .int) [(0, 9, 12, 21)] 9 1 6 [.ref tt, .int (iI what), .ref ou] L f (k_rn (fun v9 L' f' => ∃ k9 g9 : Int, v9 = .int (iI k9) ∧ k_fr SO L f L' f' ∧ OutR κ L' f' ou g9 ∧ ((xCount what = none ∧ k9 = 0 ∧ g9 = (iI (numS σ what)).toInt ∧ CS κ L' f' tt (σ)) ∨ (xCount what = some cIO ∧ k9 = 1 ∧ CS κ L' f' tt σ)))) := by
  refine k_headW RL [(0, .ref tt), (1, .int (iI what)), (2, .ref ou)] rfl (by decide) (Nat.le_of_ble_eq_true rfl) rfl (fun θ hθ hth hnc => ?_)
  have hts2 : θ.2.1.stackTraces = false := by rw [hθ]; exact hts
  obtain ⟨td, tb, pl, rl, old, hF⟩ := hC
  obtain ⟨G0, co, hg0⟩ := hO
  refine k_aload_n 2 2 dL_count_0 rfl rfl ?_
  refine k_iconst dL_count_1 ?_
  refine k_aload_n 0 0 dL_count_2 rfl rfl ?_
  refine k_iload_n 1 1 dL_count_3 rfl rfl ?_
  refine k_useX (c_X7_count θ.2.1 κ (tt := tt) (what := what) hF hts2 hs hwhat) w_L_33 ⟨q_548, q_549⟩ rfl rfl hF.1 rfl ⟨(Nat.le_of_ble_eq_true rfl), (Nat.le_of_ble_eq_true rfl)⟩ (Nat.le_of_ble_eq_true rfl) dL_count_4 ⟨(Nat.le_of_ble_eq_true rfl), (Nat.le_of_ble_eq_true rfl)⟩ (fun v L9 f9 hp => ?_) (fun E9 L9 f9 hp => ?_)
  · obtain ⟨w9, rfl, hx9, rfl, hC9, hr9⟩ := hp
    replace co := co.fr hr9 rfl
    refine k_i2lR dL_count_7 ?_
    refine k_last 0 co rfl (by omega) (by omega) dL_count_8 (fun f1 hf1 hc1 => ?_)
    have hr1 := k_fr.put hf1 co
    replace hC9 := hC9.fr hr1 rfl
    replace co : Cl L9 f1 ou (31, .inl (κ.2.2.1 1, 1, .inr (.inl (fun u9 => lI ((va_up G0 0 ((iI (numS σ what)).toInt)) u9))))) := hc1
    refine k_goto 15 dL_count_9 (by decide) ?_
    refine k_iconst dL_count_15 ?_
    exact k_iret dL_count_16 rfl (Nat.le_of_ble_eq_true rfl) (Nat.le_of_ble_eq_true rfl) (⟨_, rfl, 0, (iI (numS σ what)).toInt, rfl, k_fr.trans hr9 hr1 SO_SC SO_31, ⟨_, co, by rw [va_up_self]⟩, Or.inl ⟨hx9, rfl, rfl, hC9⟩⟩)
  · obtain ⟨hx9, hC9, hr9⟩ := hp
    replace co := co.fr hr9 rfl
    obtain rfl := e_Count hx9
    refine k_catch (nm := cIO) [] ⟨0, 9, 12, 21⟩ [] hth (fun z hz => nomatch hz) rfl (by decide) q_494 q_505 (fun q9 => ?_)
    refine k_astore_n 3 [(3, .ref q9), (0, .ref tt), (1, .int (iI what)), (2, .ref ou)] dL_count_12 rfl (by decide) rfl ?_
    refine k_iconst dL_count_13 ?_
    exact k_iret dL_count_14 rfl (Nat.le_of_ble_eq_true rfl) (Nat.le_of_ble_eq_true rfl) (⟨_, rfl, 1, g0, rfl, k_fr.mono hr9 SO_SC, ⟨G0, co, hg0⟩, Or.inr (⟨hx9, rfl, hC9⟩)⟩)
set_option maxHeartbeats 4000000 in
set_option maxRecDepth 100000 in
theorem c_L_water (la : Launch) (κ : Kx) {L : List Nat} {f : Nat → wE} {tt ou : Nat} {σ : Sg} {g0 : Int} {w what : Int}   (hC : CS κ L f tt σ) (hO : OutR κ L f ou g0) (hts : la.stackTraces = false) (hs : SgOk σ) (hw : inI w) (hwhat : inI what) : k_MW la κ yL_water cL_water 5 (some .int) [(0, 10, 13, 21)] 9 1 6 [.ref tt, .int (iI w), .int (iI what), .ref ou] L f (k_rn (fun v9 L' f' => ∃ k9 g9 : Int, v9 = .int (iI k9) ∧ k_fr SO L f L' f' ∧ OutR κ L' f' ou g9 ∧ ((xWater σ w what = none ∧ k9 = 0 ∧ g9 = (iI (aWater (hT σ.1) w.toNat what)).toInt ∧ CS κ L' f' tt (σ)) ∨ (xWater σ w what = some cIO ∧ k9 = 1 ∧ CS κ L' f' tt σ)))) := by
  refine k_headW RL [(0, .ref tt), (1, .int (iI w)), (2, .int (iI what)), (3, .ref ou)] rfl (by decide) (Nat.le_of_ble_eq_true rfl) rfl (fun θ hθ hth hnc => ?_)
  have hts2 : θ.2.1.stackTraces = false := by rw [hθ]; exact hts
  obtain ⟨td, tb, pl, rl, old, hF⟩ := hC
  obtain ⟨G0, co, hg0⟩ := hO
  refine k_aload_n 3 3 dL_water_0 rfl rfl ?_
  refine k_iconst dL_water_1 ?_
  refine k_aload_n 0 0 dL_water_2 rfl rfl ?_
  refine k_iload_n 1 1 dL_water_3 rfl rfl ?_
  refine k_iload_n 2 2 dL_water_4 rfl rfl ?_
  refine k_useX (c_X7_water θ.2.1 κ (tt := tt) (w := w) (what := what) hF hts2 hs hw hwhat) w_L_36 ⟨q_556, q_557⟩ rfl rfl hF.1 rfl ⟨(Nat.le_of_ble_eq_true rfl), (Nat.le_of_ble_eq_true rfl)⟩ (Nat.le_of_ble_eq_true rfl) dL_water_5 ⟨(Nat.le_of_ble_eq_true rfl), (Nat.le_of_ble_eq_true rfl)⟩ (fun v L9 f9 hp => ?_) (fun E9 L9 f9 hp => ?_)
  · obtain ⟨w9, rfl, hx9, rfl, hC9, hr9⟩ := hp
    replace co := co.fr hr9 rfl
    refine k_i2lR dL_water_8 ?_
    refine k_last 0 co rfl (by omega) (by omega) dL_water_9 (fun f1 hf1 hc1 => ?_)
    have hr1 := k_fr.put hf1 co
    replace hC9 := hC9.fr hr1 rfl
    replace co : Cl L9 f1 ou (31, .inl (κ.2.2.1 1, 1, .inr (.inl (fun u9 => lI ((va_up G0 0 ((iI (aWater (hT σ.1) w.toNat what)).toInt)) u9))))) := hc1
    refine k_goto 17 dL_water_10 (by decide) ?_
    refine k_iconst dL_water_17 ?_
    exact k_iret dL_water_18 rfl (Nat.le_of_ble_eq_true rfl) (Nat.le_of_ble_eq_true rfl) (⟨_, rfl, 0, (iI (aWater (hT σ.1) w.toNat what)).toInt, rfl, k_fr.trans hr9 hr1 SO_SC SO_31, ⟨_, co, by rw [va_up_self]⟩, Or.inl ⟨hx9, rfl, rfl, hC9⟩⟩)
  · obtain ⟨hx9, hC9, hr9⟩ := hp
    replace co := co.fr hr9 rfl
    obtain rfl := e_Water hx9
    refine k_catch (nm := cIO) [] ⟨0, 10, 13, 21⟩ [] hth (fun z hz => nomatch hz) rfl (by decide) q_494 q_505 (fun q9 => ?_)
    refine k_astore [(4, .ref q9), (0, .ref tt), (1, .int (iI w)), (2, .int (iI what)), (3, .ref ou)] dL_water_13 (by decide) rfl ?_
    refine k_iconst dL_water_15 ?_
    exact k_iret dL_water_16 rfl (Nat.le_of_ble_eq_true rfl) (Nat.le_of_ble_eq_true rfl) (⟨_, rfl, 1, g0, rfl, k_fr.mono hr9 SO_SC, ⟨G0, co, hg0⟩, Or.inr (⟨hx9, rfl, hC9⟩)⟩)
set_option maxHeartbeats 4000000 in
set_option maxRecDepth 100000 in
theorem c_L_next (la : Launch) (κ : Kx) {L : List Nat} {f : Nat → wE} {tt ou : Nat} {σ : Sg} {g0 : Int} {t : Int} {b : Bool}   (hC : CS κ L f tt σ) (hO : OutR κ L f ou g0) (hts : la.stackTraces = false) (hs : SgOk σ) (ht : inI t) : k_MW la κ yL_next cL_next 5 (some .int) [(0, 10, 13, 13)] 9 1 6 [.ref tt, .int (iI t), .int (iI (bI b)), .ref ou] L f (k_rn (fun v9 L' f' => ∃ k9 g9 : Int, v9 = .int (iI k9) ∧ k_fr SO L f L' f' ∧ OutR κ L' f' ou g9 ∧ ((xHeight t = none ∧ k9 = 0 ∧ g9 = (iI (nextW (hT σ.1) t b 4320 0)).toInt ∧ CS κ L' f' tt (σ)) ∨ (xHeight t = some cIA ∧ k9 = 1 ∧ CS κ L' f' tt σ)))) := by
  refine k_headW RL [(0, .ref tt), (1, .int (iI t)), (2, .int (iI (bI b))), (3, .ref ou)] rfl (by decide) (Nat.le_of_ble_eq_true rfl) rfl (fun θ hθ hth hnc => ?_)
  have hts2 : θ.2.1.stackTraces = false := by rw [hθ]; exact hts
  obtain ⟨td, tb, pl, rl, old, hF⟩ := hC
  obtain ⟨G0, co, hg0⟩ := hO
  refine k_aload_n 3 3 dL_next_0 rfl rfl ?_
  refine k_iconst dL_next_1 ?_
  refine k_aload_n 0 0 dL_next_2 rfl rfl ?_
  refine k_iload_n 1 1 dL_next_3 rfl rfl ?_
  refine k_iload_n 2 2 dL_next_4 rfl rfl ?_
  refine k_useX (c_X7_next θ.2.1 κ (tt := tt) (t := t) (b := b) hF hts2 hs ht) w_L_39 ⟨q_566, q_567⟩ rfl rfl hF.1 rfl ⟨(Nat.le_of_ble_eq_true rfl), (Nat.le_of_ble_eq_true rfl)⟩ (Nat.le_of_ble_eq_true rfl) dL_next_5 ⟨(Nat.le_of_ble_eq_true rfl), (Nat.le_of_ble_eq_true rfl)⟩ (fun v L9 f9 hp => ?_) (fun E9 L9 f9 hp => ?_)
  · obtain ⟨w9, rfl, hx9, rfl, hC9, hr9⟩ := hp
    replace co := co.fr hr9 rfl
    refine k_i2lR dL_next_8 ?_
    refine k_last 0 co rfl (by omega) (by omega) dL_next_9 (fun f1 hf1 hc1 => ?_)
    have hr1 := k_fr.put hf1 co
    replace hC9 := hC9.fr hr1 rfl
    replace co : Cl L9 f1 ou (31, .inl (κ.2.2.1 1, 1, .inr (.inl (fun u9 => lI ((va_up G0 0 ((iI (nextW (hT σ.1) t b 4320 0)).toInt)) u9))))) := hc1
    refine k_goto 17 dL_next_10 (by decide) ?_
    refine k_iconst dL_next_17 ?_
    exact k_iret dL_next_18 rfl (Nat.le_of_ble_eq_true rfl) (Nat.le_of_ble_eq_true rfl) (⟨_, rfl, 0, (iI (nextW (hT σ.1) t b 4320 0)).toInt, rfl, k_fr.trans hr9 hr1 SO_SC SO_31, ⟨_, co, by rw [va_up_self]⟩, Or.inl ⟨hx9, rfl, rfl, hC9⟩⟩)
  · obtain ⟨hx9, hC9, hr9⟩ := hp
    replace co := co.fr hr9 rfl
    obtain rfl := e_Height hx9
    refine k_catch (nm := cIA) [] ⟨0, 10, 13, 13⟩ [] hth (fun z hz => nomatch hz) rfl (by decide) q_326 q_334 (fun q9 => ?_)
    refine k_astore [(4, .ref q9), (0, .ref tt), (1, .int (iI t)), (2, .int (iI (bI b))), (3, .ref ou)] dL_next_13 (by decide) rfl ?_
    refine k_iconst dL_next_15 ?_
    exact k_iret dL_next_16 rfl (Nat.le_of_ble_eq_true rfl) (Nat.le_of_ble_eq_true rfl) (⟨_, rfl, 1, g0, rfl, k_fr.mono hr9 SO_SC, ⟨G0, co, hg0⟩, Or.inr (⟨hx9, rfl, hC9⟩)⟩)
set_option maxHeartbeats 4000000 in
set_option maxRecDepth 100000 in
theorem c_L_datum (la : Launch) (κ : Kx) {L : List Nat} {f : Nat → wE} {tt ou : Nat} {σ : Sg} {g0 : Int} {what : Int}   (hC : CS κ L f tt σ) (hO : OutR κ L f ou g0) (hts : la.stackTraces = false) (hs : SgOk σ) (hwhat : inI what) : k_MW la κ yL_datum cL_datum 4 (some .int) [(0, 9, 12, 21)] 9 1 6 [.ref tt, .int (iI what), .ref ou] L f (k_rn (fun v9 L' f' => ∃ k9 g9 : Int, v9 = .int (iI k9) ∧ k_fr SO L f L' f' ∧ OutR κ L' f' ou g9 ∧ ((xDatum what = none ∧ k9 = 0 ∧ g9 = (iI (dat (hT σ.1) what)).toInt ∧ CS κ L' f' tt (σ)) ∨ (xDatum what = some cIO ∧ k9 = 1 ∧ CS κ L' f' tt σ)))) := by
  refine k_headW RL [(0, .ref tt), (1, .int (iI what)), (2, .ref ou)] rfl (by decide) (Nat.le_of_ble_eq_true rfl) rfl (fun θ hθ hth hnc => ?_)
  have hts2 : θ.2.1.stackTraces = false := by rw [hθ]; exact hts
  obtain ⟨td, tb, pl, rl, old, hF⟩ := hC
  obtain ⟨G0, co, hg0⟩ := hO
  refine k_aload_n 2 2 dL_datum_0 rfl rfl ?_
  refine k_iconst dL_datum_1 ?_
  refine k_aload_n 0 0 dL_datum_2 rfl rfl ?_
  refine k_iload_n 1 1 dL_datum_3 rfl rfl ?_
  refine k_useX (c_X7_datum θ.2.1 κ (tt := tt) (what := what) hF hts2 hs hwhat) w_L_43 ⟨q_573, q_574⟩ rfl rfl hF.1 rfl ⟨(Nat.le_of_ble_eq_true rfl), (Nat.le_of_ble_eq_true rfl)⟩ (Nat.le_of_ble_eq_true rfl) dL_datum_4 ⟨(Nat.le_of_ble_eq_true rfl), (Nat.le_of_ble_eq_true rfl)⟩ (fun v L9 f9 hp => ?_) (fun E9 L9 f9 hp => ?_)
  · obtain ⟨w9, rfl, hx9, rfl, hC9, hr9⟩ := hp
    replace co := co.fr hr9 rfl
    refine k_i2lR dL_datum_7 ?_
    refine k_last 0 co rfl (by omega) (by omega) dL_datum_8 (fun f1 hf1 hc1 => ?_)
    have hr1 := k_fr.put hf1 co
    replace hC9 := hC9.fr hr1 rfl
    replace co : Cl L9 f1 ou (31, .inl (κ.2.2.1 1, 1, .inr (.inl (fun u9 => lI ((va_up G0 0 ((iI (dat (hT σ.1) what)).toInt)) u9))))) := hc1
    refine k_goto 15 dL_datum_9 (by decide) ?_
    refine k_iconst dL_datum_15 ?_
    exact k_iret dL_datum_16 rfl (Nat.le_of_ble_eq_true rfl) (Nat.le_of_ble_eq_true rfl) (⟨_, rfl, 0, (iI (dat (hT σ.1) what)).toInt, rfl, k_fr.trans hr9 hr1 SO_SC SO_31, ⟨_, co, by rw [va_up_self]⟩, Or.inl ⟨hx9, rfl, rfl, hC9⟩⟩)
  · obtain ⟨hx9, hC9, hr9⟩ := hp
    replace co := co.fr hr9 rfl
    obtain rfl := e_Datum hx9
    refine k_catch (nm := cIO) [] ⟨0, 9, 12, 21⟩ [] hth (fun z hz => nomatch hz) rfl (by decide) q_494 q_505 (fun q9 => ?_)
    refine k_astore_n 3 [(3, .ref q9), (0, .ref tt), (1, .int (iI what)), (2, .ref ou)] dL_datum_12 rfl (by decide) rfl ?_
    refine k_iconst dL_datum_13 ?_
    exact k_iret dL_datum_14 rfl (Nat.le_of_ble_eq_true rfl) (Nat.le_of_ble_eq_true rfl) (⟨_, rfl, 1, g0, rfl, k_fr.mono hr9 SO_SC, ⟨G0, co, hg0⟩, Or.inr (⟨hx9, rfl, hC9⟩)⟩)
set_option maxHeartbeats 4000000 in
set_option maxRecDepth 100000 in
theorem c_L_addPort (la : Launch) (κ : Kx) {L : List Nat} {f : Nat → wE} {tt ou : Nat} {σ : Sg} {g0 : Int}    (hC : CS κ L f tt σ) (hO : OutR κ L f ou g0) (hts : la.stackTraces = false) (hs : SgOk σ) : k_MW la κ yL_addPort cL_addPort 3 (some .int) [(0, 8, 11, 15)] 9 4 67 [.ref tt, .ref ou] L f (k_rn (fun v9 L' f' => ∃ k9 g9 : Int, v9 = .int (iI k9) ∧ k_fr SO L f L' f' ∧ OutR κ L' f' ou g9 ∧ ((xAddPort σ = none ∧ k9 = 0 ∧ g9 = (iI ((σ.2.1 : Int))).toInt ∧ CS κ L' f' tt (sAddPort σ)) ∨ (xAddPort σ = some cIS ∧ k9 = 1 ∧ CS κ L' f' tt σ)))) := by
  refine k_headW RL [(0, .ref tt), (1, .ref ou)] rfl (by decide) (Nat.le_of_ble_eq_true rfl) rfl (fun θ hθ hth hnc => ?_)
  have hts2 : θ.2.1.stackTraces = false := by rw [hθ]; exact hts
  obtain ⟨td, tb, pl, rl, old, hF⟩ := hC
  obtain ⟨G0, co, hg0⟩ := hO
  refine k_aload_n 1 1 dL_addPort_0 rfl rfl ?_
  refine k_iconst dL_addPort_1 ?_
  refine k_aload_n 0 0 dL_addPort_2 rfl rfl ?_
  refine k_useX (c_X7_addPort θ.2.1 κ (tt := tt) hF hts2 hs) w_L_46 ⟨q_581, q_582⟩ rfl rfl hF.1 rfl ⟨(Nat.le_of_ble_eq_true rfl), (Nat.le_of_ble_eq_true rfl)⟩ (Nat.le_of_ble_eq_true rfl) dL_addPort_3 ⟨(Nat.le_of_ble_eq_true rfl), (Nat.le_of_ble_eq_true rfl)⟩ (fun v L9 f9 hp => ?_) (fun E9 L9 f9 hp => ?_)
  · obtain ⟨w9, rfl, hx9, rfl, hC9, hr9⟩ := hp
    replace co := co.fr hr9 rfl
    refine k_i2lR dL_addPort_6 ?_
    refine k_last 0 co rfl (by omega) (by omega) dL_addPort_7 (fun f1 hf1 hc1 => ?_)
    have hr1 := k_fr.put hf1 co
    replace hC9 := hC9.fr hr1 rfl
    replace co : Cl L9 f1 ou (31, .inl (κ.2.2.1 1, 1, .inr (.inl (fun u9 => lI ((va_up G0 0 ((iI ((σ.2.1 : Int))).toInt)) u9))))) := hc1
    refine k_goto 14 dL_addPort_8 (by decide) ?_
    refine k_iconst dL_addPort_14 ?_
    exact k_iret dL_addPort_15 rfl (Nat.le_of_ble_eq_true rfl) (Nat.le_of_ble_eq_true rfl) (⟨_, rfl, 0, (iI ((σ.2.1 : Int))).toInt, rfl, k_fr.trans hr9 hr1 SO_SC SO_31, ⟨_, co, by rw [va_up_self]⟩, Or.inl ⟨hx9, rfl, rfl, hC9⟩⟩)
  · obtain ⟨hx9, hC9, hr9⟩ := hp
    replace co := co.fr hr9 rfl
    obtain rfl := e_AddPort hx9
    refine k_catch (nm := cIS) [] ⟨0, 8, 11, 15⟩ [] hth (fun z hz => nomatch hz) rfl (by decide) q_327 q_404 (fun q9 => ?_)
    refine k_astore_n 2 [(2, .ref q9), (0, .ref tt), (1, .ref ou)] dL_addPort_11 rfl (by decide) rfl ?_
    refine k_iconst dL_addPort_12 ?_
    exact k_iret dL_addPort_13 rfl (Nat.le_of_ble_eq_true rfl) (Nat.le_of_ble_eq_true rfl) (⟨_, rfl, 1, g0, rfl, k_fr.mono hr9 SO_SC, ⟨G0, co, hg0⟩, Or.inr (⟨hx9, rfl, hC9⟩)⟩)
set_option maxHeartbeats 4000000 in
set_option maxRecDepth 100000 in
theorem c_L_setPort (la : Launch) (κ : Kx) {L : List Nat} {f : Nat → wE} {tt ou : Nat} {σ : Sg} {g0 : Int} {p sh fa : Int} {b : Bool}   (hC : CS κ L f tt σ) (hO : OutR κ L f ou g0) (hts : la.stackTraces = false) (hs : SgOk σ) (hp : inI p) (hsh : inI sh) (hfa : inI fa) : k_MW la κ yL_setPort cL_setPort 7 (some .int) [(0, 14, 17, 21), (0, 14, 21, 13)] 9 1 6 [.ref tt, .int (iI p), .int (iI (bI b)), .int (iI sh), .int (iI fa), .ref ou] L f (k_rn (fun v9 L' f' => ∃ k9 g9 : Int, v9 = .int (iI k9) ∧ k_fr SO L f L' f' ∧ OutR κ L' f' ou g9 ∧ ((xSetPort σ p sh fa = none ∧ k9 = 0 ∧ g9 = (iI (aSetPort (σ.2.2.1 p.toNat) b)).toInt ∧ CS κ L' f' tt (sSetPort σ p b sh fa)) ∨ (xSetPort σ p sh fa = some cIO ∧ k9 = 1 ∧ CS κ L' f' tt σ) ∨ (xSetPort σ p sh fa = some cIA ∧ k9 = 2 ∧ CS κ L' f' tt σ)))) := by
  refine k_headW RL [(0, .ref tt), (1, .int (iI p)), (2, .int (iI (bI b))), (3, .int (iI sh)), (4, .int (iI fa)), (5, .ref ou)] rfl (by decide) (Nat.le_of_ble_eq_true rfl) rfl (fun θ hθ hth hnc => ?_)
  have hts2 : θ.2.1.stackTraces = false := by rw [hθ]; exact hts
  obtain ⟨td, tb, pl, rl, old, hF⟩ := hC
  obtain ⟨G0, co, hg0⟩ := hO
  refine k_aload 5 dL_setPort_0 rfl ?_
  refine k_iconst dL_setPort_2 ?_
  refine k_aload_n 0 0 dL_setPort_3 rfl rfl ?_
  refine k_iload_n 1 1 dL_setPort_4 rfl rfl ?_
  refine k_iload_n 2 2 dL_setPort_5 rfl rfl ?_
  refine k_iload_n 3 3 dL_setPort_6 rfl rfl ?_
  refine k_iload 4 dL_setPort_7 rfl ?_
  refine k_useX (c_X7_setPort θ.2.1 κ (tt := tt) (p := p) (b := b) (sh := sh) (fa := fa) hF hts2 hs hp hsh hfa) w_L_50 ⟨q_621, q_622⟩ rfl rfl hF.1 rfl ⟨(Nat.le_of_ble_eq_true rfl), (Nat.le_of_ble_eq_true rfl)⟩ (Nat.le_of_ble_eq_true rfl) dL_setPort_9 ⟨(Nat.le_of_ble_eq_true rfl), (Nat.le_of_ble_eq_true rfl)⟩ (fun v L9 f9 hp => ?_) (fun E9 L9 f9 hp => ?_)
  · obtain ⟨w9, rfl, hx9, rfl, hC9, hr9⟩ := hp
    replace co := co.fr hr9 rfl
    refine k_i2lR dL_setPort_12 ?_
    refine k_last 0 co rfl (by omega) (by omega) dL_setPort_13 (fun f1 hf1 hc1 => ?_)
    have hr1 := k_fr.put hf1 co
    replace hC9 := hC9.fr hr1 rfl
    replace co : Cl L9 f1 ou (31, .inl (κ.2.2.1 1, 1, .inr (.inl (fun u9 => lI ((va_up G0 0 ((iI (aSetPort (σ.2.2.1 p.toNat) b)).toInt)) u9))))) := hc1
    refine k_goto 25 dL_setPort_14 (by decide) ?_
    refine k_iconst dL_setPort_25 ?_
    exact k_iret dL_setPort_26 rfl (Nat.le_of_ble_eq_true rfl) (Nat.le_of_ble_eq_true rfl) (⟨_, rfl, 0, (iI (aSetPort (σ.2.2.1 p.toNat) b)).toInt, rfl, k_fr.trans hr9 hr1 SO_SC SO_31, ⟨_, co, by rw [va_up_self]⟩, Or.inl ⟨hx9, rfl, rfl, hC9⟩⟩)
  · obtain ⟨hx9, hC9, hr9⟩ := hp
    replace co := co.fr hr9 rfl
    rcases e_SetPort hx9 with rfl | rfl
    · refine k_catch (nm := cIO) [] ⟨0, 14, 17, 21⟩ [⟨0, 14, 21, 13⟩] hth (fun z hz => nomatch hz) rfl (by decide) q_494 q_505 (fun q9 => ?_)
      refine k_astore [(6, .ref q9), (0, .ref tt), (1, .int (iI p)), (2, .int (iI (bI b))), (3, .int (iI sh)), (4, .int (iI fa)), (5, .ref ou)] dL_setPort_17 (by decide) rfl ?_
      refine k_iconst dL_setPort_19 ?_
      exact k_iret dL_setPort_20 rfl (Nat.le_of_ble_eq_true rfl) (Nat.le_of_ble_eq_true rfl) (⟨_, rfl, 1, g0, rfl, k_fr.mono hr9 SO_SC, ⟨G0, co, hg0⟩, Or.inr (Or.inl ⟨hx9, rfl, hC9⟩)⟩)
    · refine k_catch (nm := cIA) [⟨0, 14, 17, 21⟩] ⟨0, 14, 21, 13⟩ [] hth (fun z hz => by rw [List.mem_singleton.mp hz]; exact Or.inr ⟨by decide, cIO, q_494, hnc.2.1⟩) rfl (by decide) q_326 q_334 (fun q9 => ?_)
      refine k_astore [(6, .ref q9), (0, .ref tt), (1, .int (iI p)), (2, .int (iI (bI b))), (3, .int (iI sh)), (4, .int (iI fa)), (5, .ref ou)] dL_setPort_21 (by decide) rfl ?_
      refine k_iconst dL_setPort_23 ?_
      exact k_iret dL_setPort_24 rfl (Nat.le_of_ble_eq_true rfl) (Nat.le_of_ble_eq_true rfl) (⟨_, rfl, 2, g0, rfl, k_fr.mono hr9 SO_SC, ⟨G0, co, hg0⟩, Or.inr (Or.inr (⟨hx9, rfl, hC9⟩))⟩)
set_option maxHeartbeats 4000000 in
set_option maxRecDepth 100000 in
theorem c_L_setAddition (la : Launch) (κ : Kx) {L : List Nat} {f : Nat → wE} {tt ou : Nat} {σ : Sg} {g0 : Int} {p ad : Int}   (hC : CS κ L f tt σ) (hO : OutR κ L f ou g0) (hts : la.stackTraces = false) (hs : SgOk σ) (hp : inI p) (had : inI ad) : k_MW la κ yL_setAddition cL_setAddition 5 (some .int) [(0, 10, 13, 21), (0, 10, 17, 13)] 9 1 6 [.ref tt, .int (iI p), .int (iI ad), .ref ou] L f (k_rn (fun v9 L' f' => ∃ k9 g9 : Int, v9 = .int (iI k9) ∧ k_fr SO L f L' f' ∧ OutR κ L' f' ou g9 ∧ ((xSetAdd σ p ad = none ∧ k9 = 0 ∧ g9 = (iI ((σ.2.2.1 p.toNat).2.2.2.2)).toInt ∧ CS κ L' f' tt (sSetAdd σ p ad)) ∨ (xSetAdd σ p ad = some cIO ∧ k9 = 1 ∧ CS κ L' f' tt σ) ∨ (xSetAdd σ p ad = some cIA ∧ k9 = 2 ∧ CS κ L' f' tt σ)))) := by
  refine k_headW RL [(0, .ref tt), (1, .int (iI p)), (2, .int (iI ad)), (3, .ref ou)] rfl (by decide) (Nat.le_of_ble_eq_true rfl) rfl (fun θ hθ hth hnc => ?_)
  have hts2 : θ.2.1.stackTraces = false := by rw [hθ]; exact hts
  obtain ⟨td, tb, pl, rl, old, hF⟩ := hC
  obtain ⟨G0, co, hg0⟩ := hO
  refine k_aload_n 3 3 dL_setAddition_0 rfl rfl ?_
  refine k_iconst dL_setAddition_1 ?_
  refine k_aload_n 0 0 dL_setAddition_2 rfl rfl ?_
  refine k_iload_n 1 1 dL_setAddition_3 rfl rfl ?_
  refine k_iload_n 2 2 dL_setAddition_4 rfl rfl ?_
  refine k_useX (c_X7_setAddition θ.2.1 κ (tt := tt) (p := p) (ad := ad) hF hts2 hs hp had) w_L_54 ⟨q_636, q_637⟩ rfl rfl hF.1 rfl ⟨(Nat.le_of_ble_eq_true rfl), (Nat.le_of_ble_eq_true rfl)⟩ (Nat.le_of_ble_eq_true rfl) dL_setAddition_5 ⟨(Nat.le_of_ble_eq_true rfl), (Nat.le_of_ble_eq_true rfl)⟩ (fun v L9 f9 hp => ?_) (fun E9 L9 f9 hp => ?_)
  · obtain ⟨w9, rfl, hx9, rfl, hC9, hr9⟩ := hp
    replace co := co.fr hr9 rfl
    refine k_i2lR dL_setAddition_8 ?_
    refine k_last 0 co rfl (by omega) (by omega) dL_setAddition_9 (fun f1 hf1 hc1 => ?_)
    have hr1 := k_fr.put hf1 co
    replace hC9 := hC9.fr hr1 rfl
    replace co : Cl L9 f1 ou (31, .inl (κ.2.2.1 1, 1, .inr (.inl (fun u9 => lI ((va_up G0 0 ((iI ((σ.2.2.1 p.toNat).2.2.2.2)).toInt)) u9))))) := hc1
    refine k_goto 21 dL_setAddition_10 (by decide) ?_
    refine k_iconst dL_setAddition_21 ?_
    exact k_iret dL_setAddition_22 rfl (Nat.le_of_ble_eq_true rfl) (Nat.le_of_ble_eq_true rfl) (⟨_, rfl, 0, (iI ((σ.2.2.1 p.toNat).2.2.2.2)).toInt, rfl, k_fr.trans hr9 hr1 SO_SC SO_31, ⟨_, co, by rw [va_up_self]⟩, Or.inl ⟨hx9, rfl, rfl, hC9⟩⟩)
  · obtain ⟨hx9, hC9, hr9⟩ := hp
    replace co := co.fr hr9 rfl
    rcases e_SetAdd hx9 with rfl | rfl
    · refine k_catch (nm := cIO) [] ⟨0, 10, 13, 21⟩ [⟨0, 10, 17, 13⟩] hth (fun z hz => nomatch hz) rfl (by decide) q_494 q_505 (fun q9 => ?_)
      refine k_astore [(4, .ref q9), (0, .ref tt), (1, .int (iI p)), (2, .int (iI ad)), (3, .ref ou)] dL_setAddition_13 (by decide) rfl ?_
      refine k_iconst dL_setAddition_15 ?_
      exact k_iret dL_setAddition_16 rfl (Nat.le_of_ble_eq_true rfl) (Nat.le_of_ble_eq_true rfl) (⟨_, rfl, 1, g0, rfl, k_fr.mono hr9 SO_SC, ⟨G0, co, hg0⟩, Or.inr (Or.inl ⟨hx9, rfl, hC9⟩)⟩)
    · refine k_catch (nm := cIA) [⟨0, 10, 13, 21⟩] ⟨0, 10, 17, 13⟩ [] hth (fun z hz => by rw [List.mem_singleton.mp hz]; exact Or.inr ⟨by decide, cIO, q_494, hnc.2.1⟩) rfl (by decide) q_326 q_334 (fun q9 => ?_)
      refine k_astore [(4, .ref q9), (0, .ref tt), (1, .int (iI p)), (2, .int (iI ad)), (3, .ref ou)] dL_setAddition_17 (by decide) rfl ?_
      refine k_iconst dL_setAddition_19 ?_
      exact k_iret dL_setAddition_20 rfl (Nat.le_of_ble_eq_true rfl) (Nat.le_of_ble_eq_true rfl) (⟨_, rfl, 2, g0, rfl, k_fr.mono hr9 SO_SC, ⟨G0, co, hg0⟩, Or.inr (Or.inr (⟨hx9, rfl, hC9⟩))⟩)
set_option maxHeartbeats 4000000 in
set_option maxRecDepth 100000 in
theorem c_L_isInOrder (la : Launch) (κ : Kx) {L : List Nat} {f : Nat → wE} {tt ou : Nat} {σ : Sg} {g0 : Int} {p : Int}   (hC : CS κ L f tt σ) (hO : OutR κ L f ou g0) (hts : la.stackTraces = false) (hs : SgOk σ) (hp : inI p) : k_MW la κ yL_isInOrder cL_isInOrder 4 (some .int) [(0, 16, 19, 21)] 9 1 6 [.ref tt, .int (iI p), .ref ou] L f (k_rn (fun v9 L' f' => ∃ k9 g9 : Int, v9 = .int (iI k9) ∧ k_fr SO L f L' f' ∧ OutR κ L' f' ou g9 ∧ ((xPort σ p = none ∧ k9 = 0 ∧ g9 = bI (ord (hT σ.1) (σ.2.2.1 p.toNat)) ∧ CS κ L' f' tt (σ)) ∨ (xPort σ p = some cIO ∧ k9 = 1 ∧ CS κ L' f' tt σ)))) := by
  refine k_headW RL [(0, .ref tt), (1, .int (iI p)), (2, .ref ou)] rfl (by decide) (Nat.le_of_ble_eq_true rfl) rfl (fun θ hθ hth hnc => ?_)
  have hts2 : θ.2.1.stackTraces = false := by rw [hθ]; exact hts
  obtain ⟨td, tb, pl, rl, old, hF⟩ := hC
  obtain ⟨G0, co, hg0⟩ := hO
  refine k_aload_n 2 2 dL_isInOrder_0 rfl rfl ?_
  refine k_iconst dL_isInOrder_1 ?_
  refine k_aload_n 0 0 dL_isInOrder_2 rfl rfl ?_
  refine k_iload_n 1 1 dL_isInOrder_3 rfl rfl ?_
  refine k_useX (c_X7_isInOrder θ.2.1 κ (tt := tt) (p := p) hF hts2 hs hp) w_L_57 ⟨q_644, q_645⟩ rfl rfl hF.1 rfl ⟨(Nat.le_of_ble_eq_true rfl), (Nat.le_of_ble_eq_true rfl)⟩ (Nat.le_of_ble_eq_true rfl) dL_isInOrder_4 ⟨(Nat.le_of_ble_eq_true rfl), (Nat.le_of_ble_eq_true rfl)⟩ (fun v L9 f9 hp => ?_) (fun E9 L9 f9 hp => ?_)
  · obtain ⟨w9, rfl, hx9, rfl, hC9, hr9⟩ := hp
    replace co := co.fr hr9 rfl
    refine k_ifb_eq 14 dL_isInOrder_7 (by decide) (fun h7 => ?_) (fun h7 => ?_)
    · refine k_lconst 0 dL_isInOrder_14 (by decide) ?_
      refine k_last 0 co rfl (by omega) (by omega) dL_isInOrder_15 (fun f1 hf1 hc1 => ?_)
      have hr1 := k_fr.put hf1 co
      replace hC9 := hC9.fr hr1 rfl
      replace co : Cl L9 f1 ou (31, .inl (κ.2.2.1 1, 1, .inr (.inl (fun u9 => lI ((va_up G0 0 0) u9))))) := hc1
      refine k_goto 22 dL_isInOrder_16 (by decide) ?_
      refine k_iconst dL_isInOrder_22 ?_
      exact k_iret dL_isInOrder_23 rfl (Nat.le_of_ble_eq_true rfl) (Nat.le_of_ble_eq_true rfl) (⟨_, rfl, 0, bI (ord (hT σ.1) (σ.2.2.1 p.toNat)), rfl, k_fr.trans hr9 hr1 SO_SC SO_31, ⟨_, co, by rw [va_up_self, h7]; rfl⟩, Or.inl ⟨hx9, rfl, rfl, hC9⟩⟩)
    · refine k_lconst 1 dL_isInOrder_10 (by decide) ?_
      refine k_goto 15 dL_isInOrder_11 (by decide) ?_
      refine k_last 0 co rfl (by omega) (by omega) dL_isInOrder_15 (fun f2 hf2 hc2 => ?_)
      have hr2 := k_fr.put hf2 co
      replace hC9 := hC9.fr hr2 rfl
      replace co : Cl L9 f2 ou (31, .inl (κ.2.2.1 1, 1, .inr (.inl (fun u9 => lI ((va_up G0 0 1) u9))))) := hc2
      refine k_goto 22 dL_isInOrder_16 (by decide) ?_
      refine k_iconst dL_isInOrder_22 ?_
      exact k_iret dL_isInOrder_23 rfl (Nat.le_of_ble_eq_true rfl) (Nat.le_of_ble_eq_true rfl) (⟨_, rfl, 0, bI (ord (hT σ.1) (σ.2.2.1 p.toNat)), rfl, k_fr.trans hr9 hr2 SO_SC SO_31, ⟨_, co, by rw [va_up_self, h7]; rfl⟩, Or.inl ⟨hx9, rfl, rfl, hC9⟩⟩)
  · obtain ⟨hx9, hC9, hr9⟩ := hp
    replace co := co.fr hr9 rfl
    obtain rfl := e_Port hx9
    refine k_catch (nm := cIO) [] ⟨0, 16, 19, 21⟩ [] hth (fun z hz => nomatch hz) rfl (by decide) q_494 q_505 (fun q9 => ?_)
    refine k_astore_n 3 [(3, .ref q9), (0, .ref tt), (1, .int (iI p)), (2, .ref ou)] dL_isInOrder_19 rfl (by decide) rfl ?_
    refine k_iconst dL_isInOrder_20 ?_
    exact k_iret dL_isInOrder_21 rfl (Nat.le_of_ble_eq_true rfl) (Nat.le_of_ble_eq_true rfl) (⟨_, rfl, 1, g0, rfl, k_fr.mono hr9 SO_SC, ⟨G0, co, hg0⟩, Or.inr (⟨hx9, rfl, hC9⟩)⟩)
set_option maxHeartbeats 4000000 in
set_option maxRecDepth 100000 in
theorem c_L_portWater (la : Launch) (κ : Kx) {L : List Nat} {f : Nat → wE} {tt ou : Nat} {σ : Sg} {g0 : Int} {p w : Int} {b : Bool}   (hC : CS κ L f tt σ) (hO : OutR κ L f ou g0) (hts : la.stackTraces = false) (hs : SgOk σ) (hp : inI p) (hw : inI w) : k_MW la κ yL_portWater cL_portWater 6 (some .int) [(0, 12, 15, 21)] 9 1 6 [.ref tt, .int (iI p), .int (iI w), .int (iI (bI b)), .ref ou] L f (k_rn (fun v9 L' f' => ∃ k9 g9 : Int, v9 = .int (iI k9) ∧ k_fr SO L f L' f' ∧ OutR κ L' f' ou g9 ∧ ((xPortWater σ p w = none ∧ k9 = 0 ∧ g9 = (iI (aPortWater (hT σ.1) (σ.2.2.1 p.toNat) w.toNat b)).toInt ∧ CS κ L' f' tt (σ)) ∨ (xPortWater σ p w = some cIO ∧ k9 = 1 ∧ CS κ L' f' tt σ)))) := by
  refine k_headW RL [(0, .ref tt), (1, .int (iI p)), (2, .int (iI w)), (3, .int (iI (bI b))), (4, .ref ou)] rfl (by decide) (Nat.le_of_ble_eq_true rfl) rfl (fun θ hθ hth hnc => ?_)
  have hts2 : θ.2.1.stackTraces = false := by rw [hθ]; exact hts
  obtain ⟨td, tb, pl, rl, old, hF⟩ := hC
  obtain ⟨G0, co, hg0⟩ := hO
  refine k_aload 4 dL_portWater_0 rfl ?_
  refine k_iconst dL_portWater_2 ?_
  refine k_aload_n 0 0 dL_portWater_3 rfl rfl ?_
  refine k_iload_n 1 1 dL_portWater_4 rfl rfl ?_
  refine k_iload_n 2 2 dL_portWater_5 rfl rfl ?_
  refine k_iload_n 3 3 dL_portWater_6 rfl rfl ?_
  refine k_useX (c_X7_portWater θ.2.1 κ (tt := tt) (p := p) (w := w) (b := b) hF hts2 hs hp hw) w_L_61 ⟨q_651, q_652⟩ rfl rfl hF.1 rfl ⟨(Nat.le_of_ble_eq_true rfl), (Nat.le_of_ble_eq_true rfl)⟩ (Nat.le_of_ble_eq_true rfl) dL_portWater_7 ⟨(Nat.le_of_ble_eq_true rfl), (Nat.le_of_ble_eq_true rfl)⟩ (fun v L9 f9 hp => ?_) (fun E9 L9 f9 hp => ?_)
  · obtain ⟨w9, rfl, hx9, rfl, hC9, hr9⟩ := hp
    replace co := co.fr hr9 rfl
    refine k_i2lR dL_portWater_10 ?_
    refine k_last 0 co rfl (by omega) (by omega) dL_portWater_11 (fun f1 hf1 hc1 => ?_)
    have hr1 := k_fr.put hf1 co
    replace hC9 := hC9.fr hr1 rfl
    replace co : Cl L9 f1 ou (31, .inl (κ.2.2.1 1, 1, .inr (.inl (fun u9 => lI ((va_up G0 0 ((iI (aPortWater (hT σ.1) (σ.2.2.1 p.toNat) w.toNat b)).toInt)) u9))))) := hc1
    refine k_goto 19 dL_portWater_12 (by decide) ?_
    refine k_iconst dL_portWater_19 ?_
    exact k_iret dL_portWater_20 rfl (Nat.le_of_ble_eq_true rfl) (Nat.le_of_ble_eq_true rfl) (⟨_, rfl, 0, (iI (aPortWater (hT σ.1) (σ.2.2.1 p.toNat) w.toNat b)).toInt, rfl, k_fr.trans hr9 hr1 SO_SC SO_31, ⟨_, co, by rw [va_up_self]⟩, Or.inl ⟨hx9, rfl, rfl, hC9⟩⟩)
  · obtain ⟨hx9, hC9, hr9⟩ := hp
    replace co := co.fr hr9 rfl
    obtain rfl := e_PortWater hx9
    refine k_catch (nm := cIO) [] ⟨0, 12, 15, 21⟩ [] hth (fun z hz => nomatch hz) rfl (by decide) q_494 q_505 (fun q9 => ?_)
    refine k_astore [(5, .ref q9), (0, .ref tt), (1, .int (iI p)), (2, .int (iI w)), (3, .int (iI (bI b))), (4, .ref ou)] dL_portWater_15 (by decide) rfl ?_
    refine k_iconst dL_portWater_17 ?_
    exact k_iret dL_portWater_18 rfl (Nat.le_of_ble_eq_true rfl) (Nat.le_of_ble_eq_true rfl) (⟨_, rfl, 1, g0, rfl, k_fr.mono hr9 SO_SC, ⟨G0, co, hg0⟩, Or.inr (⟨hx9, rfl, hC9⟩)⟩)
set_option maxHeartbeats 4000000 in
set_option maxRecDepth 100000 in
theorem c_L_portHeight (la : Launch) (κ : Kx) {L : List Nat} {f : Nat → wE} {tt ou : Nat} {σ : Sg} {g0 : Int} {p t : Int}   (hC : CS κ L f tt σ) (hO : OutR κ L f ou g0) (hts : la.stackTraces = false) (hs : SgOk σ) (hp : inI p) (ht : inI t) : k_MW la κ yL_portHeight cL_portHeight 5 (some .int) [(0, 10, 13, 21), (0, 10, 17, 13), (0, 10, 21, 15)] 9 1 6 [.ref tt, .int (iI p), .int (iI t), .ref ou] L f (k_rn (fun v9 L' f' => ∃ k9 g9 : Int, v9 = .int (iI k9) ∧ k_fr SO L f L' f' ∧ OutR κ L' f' ou g9 ∧ ((xPortHeight σ p t = none ∧ k9 = 0 ∧ g9 = (iI (aPortHeight σ p t)).toInt ∧ CS κ L' f' tt (σ)) ∨ (xPortHeight σ p t = some cIO ∧ k9 = 1 ∧ CS κ L' f' tt σ) ∨ (xPortHeight σ p t = some cIA ∧ k9 = 2 ∧ CS κ L' f' tt σ) ∨ (xPortHeight σ p t = some cIS ∧ k9 = 3 ∧ CS κ L' f' tt σ)))) := by
  refine k_headW RL [(0, .ref tt), (1, .int (iI p)), (2, .int (iI t)), (3, .ref ou)] rfl (by decide) (Nat.le_of_ble_eq_true rfl) rfl (fun θ hθ hth hnc => ?_)
  have hts2 : θ.2.1.stackTraces = false := by rw [hθ]; exact hts
  obtain ⟨td, tb, pl, rl, old, hF⟩ := hC
  obtain ⟨G0, co, hg0⟩ := hO
  refine k_aload_n 3 3 dL_portHeight_0 rfl rfl ?_
  refine k_iconst dL_portHeight_1 ?_
  refine k_aload_n 0 0 dL_portHeight_2 rfl rfl ?_
  refine k_iload_n 1 1 dL_portHeight_3 rfl rfl ?_
  refine k_iload_n 2 2 dL_portHeight_4 rfl rfl ?_
  refine k_useX (c_X7_portHeight θ.2.1 κ (tt := tt) (p := p) (t := t) hF hts2 hs hp ht) w_L_65 ⟨q_658, q_659⟩ rfl rfl hF.1 rfl ⟨(Nat.le_of_ble_eq_true rfl), (Nat.le_of_ble_eq_true rfl)⟩ (Nat.le_of_ble_eq_true rfl) dL_portHeight_5 ⟨(Nat.le_of_ble_eq_true rfl), (Nat.le_of_ble_eq_true rfl)⟩ (fun v L9 f9 hp => ?_) (fun E9 L9 f9 hp => ?_)
  · obtain ⟨w9, rfl, hx9, rfl, hC9, hr9⟩ := hp
    replace co := co.fr hr9 rfl
    refine k_i2lR dL_portHeight_8 ?_
    refine k_last 0 co rfl (by omega) (by omega) dL_portHeight_9 (fun f1 hf1 hc1 => ?_)
    have hr1 := k_fr.put hf1 co
    replace hC9 := hC9.fr hr1 rfl
    replace co : Cl L9 f1 ou (31, .inl (κ.2.2.1 1, 1, .inr (.inl (fun u9 => lI ((va_up G0 0 ((iI (aPortHeight σ p t)).toInt)) u9))))) := hc1
    refine k_goto 25 dL_portHeight_10 (by decide) ?_
    refine k_iconst dL_portHeight_25 ?_
    exact k_iret dL_portHeight_26 rfl (Nat.le_of_ble_eq_true rfl) (Nat.le_of_ble_eq_true rfl) (⟨_, rfl, 0, (iI (aPortHeight σ p t)).toInt, rfl, k_fr.trans hr9 hr1 SO_SC SO_31, ⟨_, co, by rw [va_up_self]⟩, Or.inl ⟨hx9, rfl, rfl, hC9⟩⟩)
  · obtain ⟨hx9, hC9, hr9⟩ := hp
    replace co := co.fr hr9 rfl
    rcases e_PortHeight hx9 with rfl | rfl | rfl
    · refine k_catch (nm := cIO) [] ⟨0, 10, 13, 21⟩ [⟨0, 10, 17, 13⟩, ⟨0, 10, 21, 15⟩] hth (fun z hz => nomatch hz) rfl (by decide) q_494 q_505 (fun q9 => ?_)
      refine k_astore [(4, .ref q9), (0, .ref tt), (1, .int (iI p)), (2, .int (iI t)), (3, .ref ou)] dL_portHeight_13 (by decide) rfl ?_
      refine k_iconst dL_portHeight_15 ?_
      exact k_iret dL_portHeight_16 rfl (Nat.le_of_ble_eq_true rfl) (Nat.le_of_ble_eq_true rfl) (⟨_, rfl, 1, g0, rfl, k_fr.mono hr9 SO_SC, ⟨G0, co, hg0⟩, Or.inr (Or.inl ⟨hx9, rfl, hC9⟩)⟩)
    · refine k_catch (nm := cIA) [⟨0, 10, 13, 21⟩] ⟨0, 10, 17, 13⟩ [⟨0, 10, 21, 15⟩] hth (fun z hz => by rw [List.mem_singleton.mp hz]; exact Or.inr ⟨by decide, cIO, q_494, hnc.2.1⟩) rfl (by decide) q_326 q_334 (fun q9 => ?_)
      refine k_astore [(4, .ref q9), (0, .ref tt), (1, .int (iI p)), (2, .int (iI t)), (3, .ref ou)] dL_portHeight_17 (by decide) rfl ?_
      refine k_iconst dL_portHeight_19 ?_
      exact k_iret dL_portHeight_20 rfl (Nat.le_of_ble_eq_true rfl) (Nat.le_of_ble_eq_true rfl) (⟨_, rfl, 2, g0, rfl, k_fr.mono hr9 SO_SC, ⟨G0, co, hg0⟩, Or.inr (Or.inr (Or.inl ⟨hx9, rfl, hC9⟩))⟩)
    · refine k_catch (nm := cIS) [⟨0, 10, 13, 21⟩, ⟨0, 10, 17, 13⟩] ⟨0, 10, 21, 15⟩ [] hth (fun z hz => by
          rcases List.mem_cons.mp hz with rfl | hz
          · exact Or.inr ⟨by decide, cIO, q_494, hnc.2.2.2.1⟩
          · rw [List.mem_singleton.mp hz]; exact Or.inr ⟨by decide, cIA, q_326, hnc.2.2.1⟩) rfl (by decide) q_327 q_404 (fun q9 => ?_)
      refine k_astore [(4, .ref q9), (0, .ref tt), (1, .int (iI p)), (2, .int (iI t)), (3, .ref ou)] dL_portHeight_21 (by decide) rfl ?_
      refine k_iconst dL_portHeight_23 ?_
      exact k_iret dL_portHeight_24 rfl (Nat.le_of_ble_eq_true rfl) (Nat.le_of_ble_eq_true rfl) (⟨_, rfl, 3, g0, rfl, k_fr.mono hr9 SO_SC, ⟨G0, co, hg0⟩, Or.inr (Or.inr (Or.inr (⟨hx9, rfl, hC9⟩)))⟩)
set_option maxHeartbeats 4000000 in
set_option maxRecDepth 100000 in
theorem c_L_windows (la : Launch) (κ : Kx) {L : List Nat} {f : Nat → wE} {tt ou : Nat} {σ : Sg} {g0 : Int} {p lev a b what : Int}   (hC : CS κ L f tt σ) (hO : OutR κ L f ou g0) (hts : la.stackTraces = false) (hs : SgOk σ) (hp : inI p) (hlev : inI lev) (ha : inI a) (hb : inI b) (hwhat : inI what) : k_MW la κ yL_windows cL_windows 8 (some .int) [(0, 16, 19, 21), (0, 16, 23, 13)] 9 1 6 [.ref tt, .int (iI p), .int (iI lev), .int (iI a), .int (iI b), .int (iI what), .ref ou] L f (k_rn (fun v9 L' f' => ∃ k9 g9 : Int, v9 = .int (iI k9) ∧ k_fr SO L f L' f' ∧ OutR κ L' f' ou g9 ∧ ((xWindows σ p a b what = none ∧ k9 = 0 ∧ g9 = (iI (aWindows σ p lev a b what)).toInt ∧ CS κ L' f' tt (σ)) ∨ (xWindows σ p a b what = some cIO ∧ k9 = 1 ∧ CS κ L' f' tt σ) ∨ (xWindows σ p a b what = some cIA ∧ k9 = 2 ∧ CS κ L' f' tt σ)))) := by
  refine k_headW RL [(0, .ref tt), (1, .int (iI p)), (2, .int (iI lev)), (3, .int (iI a)), (4, .int (iI b)), (5, .int (iI what)), (6, .ref ou)] rfl (by decide) (Nat.le_of_ble_eq_true rfl) rfl (fun θ hθ hth hnc => ?_)
  have hts2 : θ.2.1.stackTraces = false := by rw [hθ]; exact hts
  obtain ⟨td, tb, pl, rl, old, hF⟩ := hC
  obtain ⟨G0, co, hg0⟩ := hO
  refine k_aload 6 dL_windows_0 rfl ?_
  refine k_iconst dL_windows_2 ?_
  refine k_aload_n 0 0 dL_windows_3 rfl rfl ?_
  refine k_iload_n 1 1 dL_windows_4 rfl rfl ?_
  refine k_iload_n 2 2 dL_windows_5 rfl rfl ?_
  refine k_iload_n 3 3 dL_windows_6 rfl rfl ?_
  refine k_iload 4 dL_windows_7 rfl ?_
  refine k_iload 5 dL_windows_9 rfl ?_
  refine k_useX (c_X7_windows θ.2.1 κ (tt := tt) (p := p) (lev := lev) (a := a) (b := b) (what := what) hF hts2 hs hp hlev ha hb hwhat) w_L_68 ⟨q_690, q_691⟩ rfl rfl hF.1 rfl ⟨(Nat.le_of_ble_eq_true rfl), (Nat.le_of_ble_eq_true rfl)⟩ (Nat.le_of_ble_eq_true rfl) dL_windows_11 ⟨(Nat.le_of_ble_eq_true rfl), (Nat.le_of_ble_eq_true rfl)⟩ (fun v L9 f9 hp => ?_) (fun E9 L9 f9 hp => ?_)
  · obtain ⟨w9, rfl, hx9, rfl, hC9, hr9⟩ := hp
    replace co := co.fr hr9 rfl
    refine k_i2lR dL_windows_14 ?_
    refine k_last 0 co rfl (by omega) (by omega) dL_windows_15 (fun f1 hf1 hc1 => ?_)
    have hr1 := k_fr.put hf1 co
    replace hC9 := hC9.fr hr1 rfl
    replace co : Cl L9 f1 ou (31, .inl (κ.2.2.1 1, 1, .inr (.inl (fun u9 => lI ((va_up G0 0 ((iI (aWindows σ p lev a b what)).toInt)) u9))))) := hc1
    refine k_goto 27 dL_windows_16 (by decide) ?_
    refine k_iconst dL_windows_27 ?_
    exact k_iret dL_windows_28 rfl (Nat.le_of_ble_eq_true rfl) (Nat.le_of_ble_eq_true rfl) (⟨_, rfl, 0, (iI (aWindows σ p lev a b what)).toInt, rfl, k_fr.trans hr9 hr1 SO_SC SO_31, ⟨_, co, by rw [va_up_self]⟩, Or.inl ⟨hx9, rfl, rfl, hC9⟩⟩)
  · obtain ⟨hx9, hC9, hr9⟩ := hp
    replace co := co.fr hr9 rfl
    rcases e_Windows hx9 with rfl | rfl
    · refine k_catch (nm := cIO) [] ⟨0, 16, 19, 21⟩ [⟨0, 16, 23, 13⟩] hth (fun z hz => nomatch hz) rfl (by decide) q_494 q_505 (fun q9 => ?_)
      refine k_astore [(7, .ref q9), (0, .ref tt), (1, .int (iI p)), (2, .int (iI lev)), (3, .int (iI a)), (4, .int (iI b)), (5, .int (iI what)), (6, .ref ou)] dL_windows_19 (by decide) rfl ?_
      refine k_iconst dL_windows_21 ?_
      exact k_iret dL_windows_22 rfl (Nat.le_of_ble_eq_true rfl) (Nat.le_of_ble_eq_true rfl) (⟨_, rfl, 1, g0, rfl, k_fr.mono hr9 SO_SC, ⟨G0, co, hg0⟩, Or.inr (Or.inl ⟨hx9, rfl, hC9⟩)⟩)
    · refine k_catch (nm := cIA) [⟨0, 16, 19, 21⟩] ⟨0, 16, 23, 13⟩ [] hth (fun z hz => by rw [List.mem_singleton.mp hz]; exact Or.inr ⟨by decide, cIO, q_494, hnc.2.1⟩) rfl (by decide) q_326 q_334 (fun q9 => ?_)
      refine k_astore [(7, .ref q9), (0, .ref tt), (1, .int (iI p)), (2, .int (iI lev)), (3, .int (iI a)), (4, .int (iI b)), (5, .int (iI what)), (6, .ref ou)] dL_windows_23 (by decide) rfl ?_
      refine k_iconst dL_windows_25 ?_
      exact k_iret dL_windows_26 rfl (Nat.le_of_ble_eq_true rfl) (Nat.le_of_ble_eq_true rfl) (⟨_, rfl, 2, g0, rfl, k_fr.mono hr9 SO_SC, ⟨G0, co, hg0⟩, Or.inr (Or.inr (⟨hx9, rfl, hC9⟩))⟩)
set_option maxHeartbeats 4000000 in
set_option maxRecDepth 100000 in
theorem c_L_read (la : Launch) (κ : Kx) {L : List Nat} {f : Nat → wE} {tt ou : Nat} {σ : Sg} {g0 : Int} {t ht9 : Int}   (hC : CS κ L f tt σ) (hO : OutR κ L f ou g0) (hts : la.stackTraces = false) (hs : SgOk σ) (hti : inI t) (hhi : inI ht9) : k_MW la κ yL_read cL_read 5 (some .int) [(0, 10, 13, 13), (0, 10, 17, 15)] 9 2 62 [.ref tt, .int (iI t), .int (iI ht9), .ref ou] L f (k_rn (fun v9 L' f' => ∃ k9 g9 : Int, v9 = .int (iI k9) ∧ k_fr SO L f L' f' ∧ OutR κ L' f' ou g9 ∧ ((xRead σ t ht9 = none ∧ k9 = 0 ∧ g9 = (iI ((σ.2.2.2.1 : Int) + 1)).toInt ∧ CS κ L' f' tt (sRead σ t ht9)) ∨ (xRead σ t ht9 = some cIA ∧ k9 = 1 ∧ CS κ L' f' tt σ) ∨ (xRead σ t ht9 = some cIS ∧ k9 = 2 ∧ CS κ L' f' tt σ)))) := by
  refine k_headW RL [(0, .ref tt), (1, .int (iI t)), (2, .int (iI ht9)), (3, .ref ou)] rfl (by decide) (Nat.le_of_ble_eq_true rfl) rfl (fun θ hθ hth hnc => ?_)
  have hts2 : θ.2.1.stackTraces = false := by rw [hθ]; exact hts
  obtain ⟨td, tb, pl, rl, old, hF⟩ := hC
  obtain ⟨G0, co, hg0⟩ := hO
  refine k_aload_n 3 3 dL_read_0 rfl rfl ?_
  refine k_iconst dL_read_1 ?_
  refine k_aload_n 0 0 dL_read_2 rfl rfl ?_
  refine k_iload_n 1 1 dL_read_3 rfl rfl ?_
  refine k_iload_n 2 2 dL_read_4 rfl rfl ?_
  refine k_useX (c_X7_read θ.2.1 κ (tt := tt) (t := t) (ht9 := ht9) hF hts2 hs hti hhi) w_L_72 ⟨q_738, q_739⟩ rfl rfl hF.1 rfl ⟨(Nat.le_of_ble_eq_true rfl), (Nat.le_of_ble_eq_true rfl)⟩ (Nat.le_of_ble_eq_true rfl) dL_read_5 ⟨(Nat.le_of_ble_eq_true rfl), (Nat.le_of_ble_eq_true rfl)⟩ (fun v L9 f9 hp => ?_) (fun E9 L9 f9 hp => ?_)
  · obtain ⟨w9, rfl, hx9, rfl, hC9, hr9⟩ := hp
    replace co := co.fr hr9 rfl
    refine k_i2lR dL_read_8 ?_
    refine k_last 0 co rfl (by omega) (by omega) dL_read_9 (fun f1 hf1 hc1 => ?_)
    have hr1 := k_fr.put hf1 co
    replace hC9 := hC9.fr hr1 rfl
    replace co : Cl L9 f1 ou (31, .inl (κ.2.2.1 1, 1, .inr (.inl (fun u9 => lI ((va_up G0 0 ((iI ((σ.2.2.2.1 : Int) + 1)).toInt)) u9))))) := hc1
    refine k_goto 21 dL_read_10 (by decide) ?_
    refine k_iconst dL_read_21 ?_
    exact k_iret dL_read_22 rfl (Nat.le_of_ble_eq_true rfl) (Nat.le_of_ble_eq_true rfl) (⟨_, rfl, 0, (iI ((σ.2.2.2.1 : Int) + 1)).toInt, rfl, k_fr.trans hr9 hr1 SO_SC SO_31, ⟨_, co, by rw [va_up_self]⟩, Or.inl ⟨hx9, rfl, rfl, hC9⟩⟩)
  · obtain ⟨hx9, hC9, hr9⟩ := hp
    replace co := co.fr hr9 rfl
    rcases e_Read hx9 with rfl | rfl
    · refine k_catch (nm := cIA) [] ⟨0, 10, 13, 13⟩ [⟨0, 10, 17, 15⟩] hth (fun z hz => nomatch hz) rfl (by decide) q_326 q_334 (fun q9 => ?_)
      refine k_astore [(4, .ref q9), (0, .ref tt), (1, .int (iI t)), (2, .int (iI ht9)), (3, .ref ou)] dL_read_13 (by decide) rfl ?_
      refine k_iconst dL_read_15 ?_
      exact k_iret dL_read_16 rfl (Nat.le_of_ble_eq_true rfl) (Nat.le_of_ble_eq_true rfl) (⟨_, rfl, 1, g0, rfl, k_fr.mono hr9 SO_SC, ⟨G0, co, hg0⟩, Or.inr (Or.inl ⟨hx9, rfl, hC9⟩)⟩)
    · refine k_catch (nm := cIS) [⟨0, 10, 13, 13⟩] ⟨0, 10, 17, 15⟩ [] hth (fun z hz => by rw [List.mem_singleton.mp hz]; exact Or.inr ⟨by decide, cIA, q_326, hnc.2.2.1⟩) rfl (by decide) q_327 q_404 (fun q9 => ?_)
      refine k_astore [(4, .ref q9), (0, .ref tt), (1, .int (iI t)), (2, .int (iI ht9)), (3, .ref ou)] dL_read_17 (by decide) rfl ?_
      refine k_iconst dL_read_19 ?_
      exact k_iret dL_read_20 rfl (Nat.le_of_ble_eq_true rfl) (Nat.le_of_ble_eq_true rfl) (⟨_, rfl, 2, g0, rfl, k_fr.mono hr9 SO_SC, ⟨G0, co, hg0⟩, Or.inr (Or.inr (⟨hx9, rfl, hC9⟩))⟩)
set_option maxHeartbeats 4000000 in
set_option maxRecDepth 100000 in
theorem c_L_adjust (la : Launch) (κ : Kx) {L : List Nat} {f : Nat → wE} {tt ou : Nat} {σ : Sg} {g0 : Int}    (hC : CS κ L f tt σ) (hO : OutR κ L f ou g0) (hts : la.stackTraces = false) (hs : SgOk σ) : k_MW la κ yL_adjust cL_adjust 3 (some .int) [(0, 8, 11, 15)] 9 1 6 [.ref tt, .ref ou] L f (k_rn (fun v9 L' f' => ∃ k9 g9 : Int, v9 = .int (iI k9) ∧ k_fr SO L f L' f' ∧ OutR κ L' f' ou g9 ∧ ((xAdjust σ = none ∧ k9 = 0 ∧ g9 = (iI (raised σ)).toInt ∧ CS κ L' f' tt (sAdjust σ)) ∨ (xAdjust σ = some cIS ∧ k9 = 1 ∧ CS κ L' f' tt σ)))) := by
  refine k_headW RL [(0, .ref tt), (1, .ref ou)] rfl (by decide) (Nat.le_of_ble_eq_true rfl) rfl (fun θ hθ hth hnc => ?_)
  have hts2 : θ.2.1.stackTraces = false := by rw [hθ]; exact hts
  obtain ⟨td, tb, pl, rl, old, hF⟩ := hC
  obtain ⟨G0, co, hg0⟩ := hO
  refine k_aload_n 1 1 dL_adjust_0 rfl rfl ?_
  refine k_iconst dL_adjust_1 ?_
  refine k_aload_n 0 0 dL_adjust_2 rfl rfl ?_
  refine k_useX (c_X7_adjust θ.2.1 κ (tt := tt) hF hts2 hs) w_L_75 ⟨q_763, q_764⟩ rfl rfl hF.1 rfl ⟨(Nat.le_of_ble_eq_true rfl), (Nat.le_of_ble_eq_true rfl)⟩ (Nat.le_of_ble_eq_true rfl) dL_adjust_3 ⟨(Nat.le_of_ble_eq_true rfl), (Nat.le_of_ble_eq_true rfl)⟩ (fun v L9 f9 hp => ?_) (fun E9 L9 f9 hp => ?_)
  · obtain ⟨w9, rfl, hx9, rfl, hC9, hr9⟩ := hp
    replace co := co.fr hr9 rfl
    refine k_i2lR dL_adjust_6 ?_
    refine k_last 0 co rfl (by omega) (by omega) dL_adjust_7 (fun f1 hf1 hc1 => ?_)
    have hr1 := k_fr.put hf1 co
    replace hC9 := hC9.fr hr1 rfl
    replace co : Cl L9 f1 ou (31, .inl (κ.2.2.1 1, 1, .inr (.inl (fun u9 => lI ((va_up G0 0 ((iI (raised σ)).toInt)) u9))))) := hc1
    refine k_goto 14 dL_adjust_8 (by decide) ?_
    refine k_iconst dL_adjust_14 ?_
    exact k_iret dL_adjust_15 rfl (Nat.le_of_ble_eq_true rfl) (Nat.le_of_ble_eq_true rfl) (⟨_, rfl, 0, (iI (raised σ)).toInt, rfl, k_fr.trans hr9 hr1 SO_SC SO_31, ⟨_, co, by rw [va_up_self]⟩, Or.inl ⟨hx9, rfl, rfl, hC9⟩⟩)
  · obtain ⟨hx9, hC9, hr9⟩ := hp
    replace co := co.fr hr9 rfl
    obtain rfl := e_Adjust hx9
    refine k_catch (nm := cIS) [] ⟨0, 8, 11, 15⟩ [] hth (fun z hz => nomatch hz) rfl (by decide) q_327 q_404 (fun q9 => ?_)
    refine k_astore_n 2 [(2, .ref q9), (0, .ref tt), (1, .ref ou)] dL_adjust_11 rfl (by decide) rfl ?_
    refine k_iconst dL_adjust_12 ?_
    exact k_iret dL_adjust_13 rfl (Nat.le_of_ble_eq_true rfl) (Nat.le_of_ble_eq_true rfl) (⟨_, rfl, 1, g0, rfl, k_fr.mono hr9 SO_SC, ⟨G0, co, hg0⟩, Or.inr (⟨hx9, rfl, hC9⟩)⟩)
