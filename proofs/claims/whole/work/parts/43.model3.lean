set_option maxHeartbeats 4000000 in
set_option maxRecDepth 100000 in
theorem c_X8_timeAt (la : Launch) (κ : Kx) {L : List Nat} {f : Nat → wE} {mm : Nat} {thr : Int} {σ : Sg} {p k : Nat}   (hMf : MSf κ L f mm thr σ) (hs : SgOk σ) (hp : p < σ.2.1) (hk : k < nW (hT σ.1)) : k_M la κ yX8_timeAt cX8_timeAt 3 (some .int) 2 0 0 [.ref mm, .int (iI (p : Int)), .int (iI (k : Int))] L f (k_ro L f (.int (iI (pT (hT σ.1) (σ.2.2.1 p) k)))) := by
  refine k_head RX8 [(0, .ref mm), (1, .int (iI (p : Int))), (2, .int (iI (k : Int)))] rfl (by decide) (Nat.le_of_ble_eq_true rfl) rfl (fun θ hθ hin => ?_)
  obtain ⟨A, RA, PE, OF, TA, RT, RH, HS, TI, ⟨cmm, c0, c1, c2, c3, c4, c5, c6, c7⟩, ⟨hMa, hMb, hMc, hMd⟩, hHS, hTI⟩ := id hMf
  obtain ⟨hs1, ⟨hs2, hs3⟩, hs4⟩ := id hs
  have hs5 := hs1.2.1
  have hs6 := hs4.1
  have hs7 := nW_le (hT σ.1)
  have hs8 := hs1.1
  have tm1 := (tm_spec (h := (hT σ.1)) (k := k) hk).1
  have hx1 := hT_bd hs1 (tm (hT σ.1) k)
  obtain ⟨ok1, ok2, ok3, ok4, ok5⟩ := hs3 p hp
  obtain ⟨q1, q2, q3, q4, q5⟩ := hMb p hp
  refine k_aload_n 0 0 dX8_timeAt_0 rfl rfl ?_
  refine k_get 14 i_X8 q_797 cmm rfl (by decide) rfl dX8_timeAt_1 ?_
  refine k_iload_n 2 2 dX8_timeAt_4 rfl rfl ?_
  refine k_iald k c7 rfl (by omega) (by omega) dX8_timeAt_5 ?_
  refine k_topi ((tm (hT σ.1) k) : Int) (hTI k hk) ?_
  refine k_aload_n 0 0 dX8_timeAt_6 rfl rfl ?_
  refine k_get 7 i_X8 q_790 cmm rfl (by decide) rfl dX8_timeAt_7 ?_
  refine k_iconst dX8_timeAt_10 ?_
  refine k_iload_n 1 1 dX8_timeAt_11 rfl rfl ?_
  refine k_imul dX8_timeAt_12 ?_
  refine k_aload_n 0 0 dX8_timeAt_13 rfl rfl ?_
  refine k_iload_n 2 2 dX8_timeAt_14 rfl rfl ?_
  refine k_useR (k_runV (c_X8_isHigh θ.2.1 κ (mm := mm) (k := k) hMf hs (by omega)) w_X8_101 ⟨q_903, q_24⟩ rfl rfl cmm rfl ⟨(Nat.le_of_ble_eq_true rfl), (Nat.le_of_ble_eq_true rfl)⟩ (Nat.le_of_ble_eq_true rfl) dX8_timeAt_15) ⟨(Nat.le_of_ble_eq_true rfl), (Nat.le_of_ble_eq_true rfl)⟩ ?_
  refine k_ifb_eq 25 dX8_timeAt_18 (by decide) (fun h18 => ?_) (fun h18 => ?_)
  · refine k_iconst dX8_timeAt_25 ?_
    refine k_iadd dX8_timeAt_26 ?_
    refine k_iald (5 * p) c3 (by omega) (by omega) (by omega) dX8_timeAt_27 ?_
    refine k_topi ((σ.2.2.1 p).2.2.1) q1 ?_
    refine k_iadd dX8_timeAt_28 ?_
    exact k_iret dX8_timeAt_29 rfl (Nat.le_of_ble_eq_true rfl) (Nat.le_of_ble_eq_true rfl) (k_oki (by rw [pT, if_neg (by rw [h18]; decide)]))
  · refine k_iconst dX8_timeAt_21 ?_
    refine k_goto 26 dX8_timeAt_22 (by decide) ?_
    refine k_iadd dX8_timeAt_26 ?_
    refine k_iald (5 * p + 2) c3 (by omega) (by omega) (by omega) dX8_timeAt_27 ?_
    refine k_topi ((σ.2.2.1 p).1) q3 ?_
    refine k_iadd dX8_timeAt_28 ?_
    exact k_iret dX8_timeAt_29 rfl (Nat.le_of_ble_eq_true rfl) (Nat.le_of_ble_eq_true rfl) (k_oki (by rw [pT, if_pos h18]))
set_option maxHeartbeats 4000000 in
set_option maxRecDepth 100000 in
theorem c_X8_heightAt (la : Launch) (κ : Kx) {L : List Nat} {f : Nat → wE} {mm : Nat} {thr : Int} {σ : Sg} {p k : Nat}   (hMf : MSf κ L f mm thr σ) (hs : SgOk σ) (hp : p < σ.2.1) (hk : k < nW (hT σ.1)) : k_M la κ yX8_heightAt cX8_heightAt 3 (some .long) 2 0 0 [.ref mm, .int (iI (p : Int)), .int (iI (k : Int))] L f (k_ro L f (.long (lI (pH (hT σ.1) (σ.2.2.1 p) k)))) := by
  refine k_head RX8 [(0, .ref mm), (1, .int (iI (p : Int))), (2, .int (iI (k : Int)))] rfl (by decide) (Nat.le_of_ble_eq_true rfl) rfl (fun θ hθ hin => ?_)
  obtain ⟨A, RA, PE, OF, TA, RT, RH, HS, TI, ⟨cmm, c0, c1, c2, c3, c4, c5, c6, c7⟩, ⟨hMa, hMb, hMc, hMd⟩, hHS, hTI⟩ := id hMf
  obtain ⟨hs1, ⟨hs2, hs3⟩, hs4⟩ := id hs
  have hs5 := hs1.2.1
  have hs6 := hs4.1
  have hs7 := nW_le (hT σ.1)
  have hs8 := hs1.1
  have tm1 := (tm_spec (h := (hT σ.1)) (k := k) hk).1
  have hx1 := hT_bd hs1 (tm (hT σ.1) k)
  obtain ⟨ok1, ok2, ok3, ok4, ok5⟩ := hs3 p hp
  obtain ⟨q1, q2, q3, q4, q5⟩ := hMb p hp
  refine k_aload_n 0 0 dX8_heightAt_0 rfl rfl ?_
  refine k_get 12 i_X8 q_795 cmm rfl (by decide) rfl dX8_heightAt_1 ?_
  refine k_aload_n 0 0 dX8_heightAt_4 rfl rfl ?_
  refine k_get 14 i_X8 q_797 cmm rfl (by decide) rfl dX8_heightAt_5 ?_
  refine k_iload_n 2 2 dX8_heightAt_8 rfl rfl ?_
  refine k_iald k c7 rfl (by omega) (by omega) dX8_heightAt_9 ?_
  refine k_topi ((tm (hT σ.1) k) : Int) (hTI k hk) ?_
  refine k_lald (tm (hT σ.1) k) c6 rfl (by omega) (by omega) dX8_heightAt_10 ?_
  refine k_topl ((hT σ.1) (tm (hT σ.1) k)) (hHS _ (by omega)) ?_
  refine k_aload_n 0 0 dX8_heightAt_11 rfl rfl ?_
  refine k_get 7 i_X8 q_790 cmm rfl (by decide) rfl dX8_heightAt_12 ?_
  refine k_iconst dX8_heightAt_15 ?_
  refine k_iload_n 1 1 dX8_heightAt_16 rfl rfl ?_
  refine k_imul dX8_heightAt_17 ?_
  refine k_aload_n 0 0 dX8_heightAt_18 rfl rfl ?_
  refine k_iload_n 2 2 dX8_heightAt_19 rfl rfl ?_
  refine k_useR (k_runV (c_X8_isHigh θ.2.1 κ (mm := mm) (k := k) hMf hs (by omega)) w_X8_101 ⟨q_903, q_24⟩ rfl rfl cmm rfl ⟨(Nat.le_of_ble_eq_true rfl), (Nat.le_of_ble_eq_true rfl)⟩ (Nat.le_of_ble_eq_true rfl) dX8_heightAt_20) ⟨(Nat.le_of_ble_eq_true rfl), (Nat.le_of_ble_eq_true rfl)⟩ ?_
  refine k_ifb_eq 30 dX8_heightAt_23 (by decide) (fun h23 => ?_) (fun h23 => ?_)
  · refine k_iconst dX8_heightAt_30 ?_
    refine k_iadd dX8_heightAt_31 ?_
    refine k_iald (5 * p + 1) c3 (by omega) (by omega) (by omega) dX8_heightAt_32 ?_
    refine k_topi ((σ.2.2.1 p).2.2.2.1) q2 ?_
    have hpr := mul_bd (a := (hT σ.1) (tm (hT σ.1) k)) (b := (σ.2.2.1 p).2.2.2.1) (A := 50000) (B := 300) hx1.1 hx1.2 (by omega) (by omega)
    refine k_i2l dX8_heightAt_33 (inI_mk (by omega) (by omega)) ?_
    refine k_lmul dX8_heightAt_34 ?_
    refine k_ldc2 100 q_973 (by decide) dX8_heightAt_35 ?_
    refine k_ldiv dX8_heightAt_38 (inL_mk (by omega) (by omega)) (inL_mk (by omega) (by omega)) (by omega) ?_
    refine k_aload_n 0 0 dX8_heightAt_39 rfl rfl ?_
    refine k_get 7 i_X8 q_790 cmm rfl (by decide) rfl dX8_heightAt_40 ?_
    refine k_iconst dX8_heightAt_43 ?_
    refine k_iload_n 1 1 dX8_heightAt_44 rfl rfl ?_
    refine k_imul dX8_heightAt_45 ?_
    refine k_iconst dX8_heightAt_46 ?_
    refine k_iadd dX8_heightAt_47 ?_
    refine k_iald (5 * p + 4) c3 (by omega) (by omega) (by omega) dX8_heightAt_48 ?_
    refine k_topi ((σ.2.2.1 p).2.2.2.2) q5 ?_
    refine k_i2l dX8_heightAt_49 (inI_mk (by omega) (by omega)) ?_
    refine k_ladd dX8_heightAt_50 ?_
    exact k_lret dX8_heightAt_51 rfl (Nat.le_of_ble_eq_true rfl) (Nat.le_of_ble_eq_true rfl) (k_okl (by rw [pH, if_neg (by rw [h23]; decide)]))
  · refine k_iconst dX8_heightAt_26 ?_
    refine k_goto 31 dX8_heightAt_27 (by decide) ?_
    refine k_iadd dX8_heightAt_31 ?_
    refine k_iald (5 * p + 3) c3 (by omega) (by omega) (by omega) dX8_heightAt_32 ?_
    refine k_topi ((σ.2.2.1 p).2.1) q4 ?_
    have hpr := mul_bd (a := (hT σ.1) (tm (hT σ.1) k)) (b := (σ.2.2.1 p).2.1) (A := 50000) (B := 300) hx1.1 hx1.2 (by omega) (by omega)
    refine k_i2l dX8_heightAt_33 (inI_mk (by omega) (by omega)) ?_
    refine k_lmul dX8_heightAt_34 ?_
    refine k_ldc2 100 q_973 (by decide) dX8_heightAt_35 ?_
    refine k_ldiv dX8_heightAt_38 (inL_mk (by omega) (by omega)) (inL_mk (by omega) (by omega)) (by omega) ?_
    refine k_aload_n 0 0 dX8_heightAt_39 rfl rfl ?_
    refine k_get 7 i_X8 q_790 cmm rfl (by decide) rfl dX8_heightAt_40 ?_
    refine k_iconst dX8_heightAt_43 ?_
    refine k_iload_n 1 1 dX8_heightAt_44 rfl rfl ?_
    refine k_imul dX8_heightAt_45 ?_
    refine k_iconst dX8_heightAt_46 ?_
    refine k_iadd dX8_heightAt_47 ?_
    refine k_iald (5 * p + 4) c3 (by omega) (by omega) (by omega) dX8_heightAt_48 ?_
    refine k_topi ((σ.2.2.1 p).2.2.2.2) q5 ?_
    refine k_i2l dX8_heightAt_49 (inI_mk (by omega) (by omega)) ?_
    refine k_ladd dX8_heightAt_50 ?_
    exact k_lret dX8_heightAt_51 rfl (Nat.le_of_ble_eq_true rfl) (Nat.le_of_ble_eq_true rfl) (k_okl (by rw [pH, if_pos h23]))
set_option maxHeartbeats 4000000 in
set_option maxRecDepth 100000 in
theorem c_X8_isOrdered_f (la : Launch) (κ : Kx) {L : List Nat} {f : Nat → wE} {mm : Nat} {thr : Int} {σ : Sg} {p : Nat}   (hMf : MSf κ L f mm thr σ) (hs : SgOk σ) (hp : p < σ.2.1) : k_M la κ yX8_isOrdered cX8_isOrdered 4 (some .boolean) 3 0 0 [.ref mm, .int (iI (p : Int))] L f (k_ro L f (.int (iI (bI (ord (hT σ.1) (σ.2.2.1 p)))))) := by
  refine k_head RX8 [(0, .ref mm), (1, .int (iI (p : Int)))] rfl (by decide) (Nat.le_of_ble_eq_true rfl) rfl (fun θ hθ hin => ?_)
  obtain ⟨A, RA, PE, OF, TA, RT, RH, HS, TI, ⟨cmm, c0, c1, c2, c3, c4, c5, c6, c7⟩, ⟨hMa, hMb, hMc, hMd⟩, hHS, hTI⟩ := id hMf
  obtain ⟨hs1, ⟨hs2, hs3⟩, hs4⟩ := id hs
  have hs5 := hs1.2.1
  have hs6 := hs4.1
  have hs7 := nW_le (hT σ.1)
  have hs8 := hs1.1
  refine k_aload_n 0 0 dX8_isOrdered_0 rfl rfl ?_
  refine k_useU (k_runV (c_X8_find_f θ.2.1 κ (σ := σ) (thr := thr) (mm := mm) hMf) w_X8_90 ⟨q_872, q_20⟩ rfl rfl cmm rfl ⟨(Nat.le_of_ble_eq_true rfl), (Nat.le_of_ble_eq_true rfl)⟩ (Nat.le_of_ble_eq_true rfl) dX8_isOrdered_1) ⟨(Nat.le_of_ble_eq_true rfl), (Nat.le_of_ble_eq_true rfl)⟩ (fun L9 f9 hw => ?_)
  obtain ⟨e9, e8⟩ := hw
  replace e9 := e9.symm
  replace e8 := e8.symm
  subst e9
  subst e8
  refine k_iconst dX8_isOrdered_4 ?_
  refine k_istore_n 2 [(2, .int (iI 1)), (0, .ref mm), (1, .int (iI (p : Int)))] dX8_isOrdered_5 rfl (by decide) rfl ?_
  refine k_iconst dX8_isOrdered_6 ?_
  refine k_istore_n 3 [(3, .int (iI 1)), (2, .int (iI 1)), (0, .ref mm), (1, .int (iI (p : Int)))] dX8_isOrdered_7 rfl (by decide) rfl ?_
  have lp8 : ∀ (fuel : Nat) (j : Nat) (b9 : Bool), (j + 1 ≤ nW (hT σ.1) ∨ j = 0) → (b9 = ordF (hT σ.1) (σ.2.2.1 p) j) → nW (hT σ.1) - j < fuel → k_G θ κ cX8_isOrdered 4 (some .boolean) RX8 (k_rm 3 0 0) (k_MQ θ κ (k_ro L f (.int (iI (bI (ord (hT σ.1) (σ.2.2.1 p)))))) 0 0) L f 0 0 8 [(0, .ref mm), (1, .int (iI (p : Int))), (2, .int (iI (bI b9))), (3, .int (iI ((j + 1 : Nat) : Int)))] [] := by
    intro fuel
    induction fuel with
    | zero =>
      intro j b9 hj hb9 hfu
      exact absurd hfu (Nat.not_lt_zero _)
    | succ fuel ih8 =>
      intro j b9 hj hb9 hfu
      refine k_iload_n 3 3 dX8_isOrdered_8 rfl rfl ?_
      refine k_aload_n 0 0 dX8_isOrdered_9 rfl rfl ?_
      refine k_get 13 i_X8 q_796 cmm rfl (by decide) rfl dX8_isOrdered_10 ?_
      refine k_icmp_ge 49 dX8_isOrdered_13 (by decide) (inI_mk (by omega) (by omega)) (inI_mk (by omega) (by omega)) (fun h13 => ?_) (fun h13 => ?_)
      · refine k_iload_n 2 2 dX8_isOrdered_49 rfl rfl ?_
        exact k_zret (b := b9) dX8_isOrdered_50 rfl (Nat.le_of_ble_eq_true rfl) (Nat.le_of_ble_eq_true rfl) (k_okb (by rw [hb9, ord, show nW (hT σ.1) - 1 = j by omega]))
      · refine k_iload_n 2 2 dX8_isOrdered_16 rfl rfl ?_
        refine k_ifb_eq 41 dX8_isOrdered_17 (by decide) (fun h17 => ?_) (fun h17 => ?_)
        · refine k_iconst dX8_isOrdered_41 ?_
          refine k_istore_n 2 [(2, .int (iI 0)), (0, .ref mm), (1, .int (iI (p : Int))), (3, .int (iI ((j + 1 : Nat) : Int)))] dX8_isOrdered_42 rfl (by decide) rfl ?_
          refine k_iinc 3 [(3, .int (iI (((j + 1 : Nat) : Int) + 1))), (2, .int (iI 0)), (0, .ref mm), (1, .int (iI (p : Int)))] dX8_isOrdered_43 rfl (by decide) rfl ?_
          refine k_goto 8 dX8_isOrdered_46 (by decide) ?_
          refine k_perm [2, 3, 1, 0] [(0, .ref mm), (1, .int (iI (p : Int))), (2, .int (iI 0)), (3, .int (iI (((j + 1 : Nat) : Int) + 1)))] rfl ?_
          exact ih8 (j + 1) false (Or.inl (by omega)) (by rw [ordF, ← hb9, h17]; rfl) (by omega)
        · refine k_aload_n 0 0 dX8_isOrdered_20 rfl rfl ?_
          refine k_iload_n 1 1 dX8_isOrdered_21 rfl rfl ?_
          refine k_iload_n 3 3 dX8_isOrdered_22 rfl rfl ?_
          refine k_useR (k_runV (c_X8_timeAt θ.2.1 κ (k := (j + 1)) (mm := mm) (p := p) hMf hs hp (by omega)) w_X8_146 ⟨q_963, q_31⟩ rfl rfl cmm rfl ⟨(Nat.le_of_ble_eq_true rfl), (Nat.le_of_ble_eq_true rfl)⟩ (Nat.le_of_ble_eq_true rfl) dX8_isOrdered_23) ⟨(Nat.le_of_ble_eq_true rfl), (Nat.le_of_ble_eq_true rfl)⟩ ?_
          refine k_aload_n 0 0 dX8_isOrdered_26 rfl rfl ?_
          refine k_iload_n 1 1 dX8_isOrdered_27 rfl rfl ?_
          refine k_iload_n 3 3 dX8_isOrdered_28 rfl rfl ?_
          refine k_iconst dX8_isOrdered_29 ?_
          refine k_isub dX8_isOrdered_30 ?_
          refine k_topi (j : Int) (by omega) ?_
          refine k_useR (k_runV (c_X8_timeAt θ.2.1 κ (k := j) (mm := mm) (p := p) hMf hs hp (by omega)) w_X8_146 ⟨q_963, q_31⟩ rfl rfl cmm rfl ⟨(Nat.le_of_ble_eq_true rfl), (Nat.le_of_ble_eq_true rfl)⟩ (Nat.le_of_ble_eq_true rfl) dX8_isOrdered_31) ⟨(Nat.le_of_ble_eq_true rfl), (Nat.le_of_ble_eq_true rfl)⟩ ?_
          have hb1 := pT_bd (h := (hT σ.1)) (hs3 p hp) (k := j) (by omega)
          have hb2 := pT_bd (h := (hT σ.1)) (hs3 p hp) (k := j + 1) (by omega)
          refine k_icmp_le 41 dX8_isOrdered_34 (by decide) (inI_mk (by omega) (by omega)) (inI_mk (by omega) (by omega)) (fun h34 => ?_) (fun h34 => ?_)
          · refine k_iconst dX8_isOrdered_41 ?_
            refine k_istore_n 2 [(2, .int (iI 0)), (0, .ref mm), (1, .int (iI (p : Int))), (3, .int (iI ((j + 1 : Nat) : Int)))] dX8_isOrdered_42 rfl (by decide) rfl ?_
            refine k_iinc 3 [(3, .int (iI (((j + 1 : Nat) : Int) + 1))), (2, .int (iI 0)), (0, .ref mm), (1, .int (iI (p : Int)))] dX8_isOrdered_43 rfl (by decide) rfl ?_
            refine k_goto 8 dX8_isOrdered_46 (by decide) ?_
            refine k_perm [2, 3, 1, 0] [(0, .ref mm), (1, .int (iI (p : Int))), (2, .int (iI 0)), (3, .int (iI (((j + 1 : Nat) : Int) + 1)))] rfl ?_
            exact ih8 (j + 1) false (Or.inl (by omega)) (by rw [ordF, ← hb9, h17, decide_eq_false (by omega)]; rfl) (by omega)
          · refine k_iconst dX8_isOrdered_37 ?_
            refine k_goto 42 dX8_isOrdered_38 (by decide) ?_
            refine k_istore_n 2 [(2, .int (iI 1)), (0, .ref mm), (1, .int (iI (p : Int))), (3, .int (iI ((j + 1 : Nat) : Int)))] dX8_isOrdered_42 rfl (by decide) rfl ?_
            refine k_iinc 3 [(3, .int (iI (((j + 1 : Nat) : Int) + 1))), (2, .int (iI 1)), (0, .ref mm), (1, .int (iI (p : Int)))] dX8_isOrdered_43 rfl (by decide) rfl ?_
            refine k_goto 8 dX8_isOrdered_46 (by decide) ?_
            refine k_perm [2, 3, 1, 0] [(0, .ref mm), (1, .int (iI (p : Int))), (2, .int (iI 1)), (3, .int (iI (((j + 1 : Nat) : Int) + 1)))] rfl ?_
            exact ih8 (j + 1) true (Or.inl (by omega)) (by rw [ordF, ← hb9, h17, decide_eq_true (show pT (hT σ.1) (σ.2.2.1 p) j < pT (hT σ.1) (σ.2.2.1 p) (j + 1) by omega)]; rfl) (by omega)
  refine k_perm [2, 3, 1, 0] [(0, .ref mm), (1, .int (iI (p : Int))), (2, .int (iI 1)), (3, .int (iI 1))] rfl ?_
  exact lp8 _ 0 true (Or.inr rfl) rfl (Nat.lt_succ_self _)
set_option maxHeartbeats 4000000 in
set_option maxRecDepth 100000 in
theorem c_X8_waterTold (la : Launch) (κ : Kx) {L : List Nat} {f : Nat → wE} {mm : Nat} {thr : Int} {σ : Sg} {k : Nat} {what : Int}   (hMf : MSf κ L f mm thr σ) (hs : SgOk σ) (hk : k < nW (hT σ.1)) (hwh : 0 ≤ what ∧ what ≤ 2) : k_M la κ yX8_waterTold cX8_waterTold 3 (some .int) 2 0 0 [.ref mm, .int (iI (k : Int)), .int (iI what)] L f (k_ro L f (.int (iI (aWater (hT σ.1) k what)))) := by
  refine k_head RX8 [(0, .ref mm), (1, .int (iI (k : Int))), (2, .int (iI what))] rfl (by decide) (Nat.le_of_ble_eq_true rfl) rfl (fun θ hθ hin => ?_)
  obtain ⟨A, RA, PE, OF, TA, RT, RH, HS, TI, ⟨cmm, c0, c1, c2, c3, c4, c5, c6, c7⟩, ⟨hMa, hMb, hMc, hMd⟩, hHS, hTI⟩ := id hMf
  obtain ⟨hs1, ⟨hs2, hs3⟩, hs4⟩ := id hs
  have hs5 := hs1.2.1
  have hs6 := hs4.1
  have hs7 := nW_le (hT σ.1)
  have hs8 := hs1.1
  have tm1 := (tm_spec (h := (hT σ.1)) (k := k) hk).1
  have hx1 := hT_bd hs1 (tm (hT σ.1) k)
  refine k_iload_n 2 2 dX8_waterTold_0 rfl rfl ?_
  refine k_if_ne 13 dX8_waterTold_1 (by decide) (inI_mk (by omega) (by omega)) (fun h1 => ?_) (fun h1 => ?_)
  · refine k_iload_n 2 2 dX8_waterTold_13 rfl rfl ?_
    refine k_iconst dX8_waterTold_14 ?_
    refine k_icmp_ne 33 dX8_waterTold_15 (by decide) (inI_mk (by omega) (by omega)) (inI_mk (by omega) (by omega)) (fun h15 => ?_) (fun h15 => ?_)
    · refine k_aload_n 0 0 dX8_waterTold_33 rfl rfl ?_
      refine k_iload_n 1 1 dX8_waterTold_34 rfl rfl ?_
      refine k_useR (k_runV (c_X8_isHigh θ.2.1 κ (mm := mm) (k := k) hMf hs (by omega)) w_X8_101 ⟨q_903, q_24⟩ rfl rfl cmm rfl ⟨(Nat.le_of_ble_eq_true rfl), (Nat.le_of_ble_eq_true rfl)⟩ (Nat.le_of_ble_eq_true rfl) dX8_waterTold_35) ⟨(Nat.le_of_ble_eq_true rfl), (Nat.le_of_ble_eq_true rfl)⟩ ?_
      refine k_ifb_eq 45 dX8_waterTold_38 (by decide) (fun h38 => ?_) (fun h38 => ?_)
      · refine k_iconst dX8_waterTold_45 ?_
        exact k_iret dX8_waterTold_46 rfl (Nat.le_of_ble_eq_true rfl) (Nat.le_of_ble_eq_true rfl) (k_oki (by rw [aWater, if_neg (by omega), if_neg (by omega), h38]; rfl))
      · refine k_iconst dX8_waterTold_41 ?_
        refine k_goto 46 dX8_waterTold_42 (by decide) ?_
        exact k_iret dX8_waterTold_46 rfl (Nat.le_of_ble_eq_true rfl) (Nat.le_of_ble_eq_true rfl) (k_oki (by rw [aWater, if_neg (by omega), if_neg (by omega), h38]; rfl))
    · refine k_aload_n 0 0 dX8_waterTold_18 rfl rfl ?_
      refine k_get 12 i_X8 q_795 cmm rfl (by decide) rfl dX8_waterTold_19 ?_
      refine k_aload_n 0 0 dX8_waterTold_22 rfl rfl ?_
      refine k_get 14 i_X8 q_797 cmm rfl (by decide) rfl dX8_waterTold_23 ?_
      refine k_iload_n 1 1 dX8_waterTold_26 rfl rfl ?_
      refine k_iald k c7 rfl (by omega) (by omega) dX8_waterTold_27 ?_
      refine k_topi ((tm (hT σ.1) k) : Int) (hTI k hk) ?_
      refine k_lald (tm (hT σ.1) k) c6 rfl (by omega) (by omega) dX8_waterTold_28 ?_
      refine k_topl ((hT σ.1) (tm (hT σ.1) k)) (hHS _ (by omega)) ?_
      refine k_l2i dX8_waterTold_29 ?_
      refine k_goto 46 dX8_waterTold_30 (by decide) ?_
      exact k_iret dX8_waterTold_46 rfl (Nat.le_of_ble_eq_true rfl) (Nat.le_of_ble_eq_true rfl) (k_oki (by rw [aWater, if_neg (by omega), if_pos (by omega)]))
  · refine k_aload_n 0 0 dX8_waterTold_4 rfl rfl ?_
    refine k_get 14 i_X8 q_797 cmm rfl (by decide) rfl dX8_waterTold_5 ?_
    refine k_iload_n 1 1 dX8_waterTold_8 rfl rfl ?_
    refine k_iald k c7 rfl (by omega) (by omega) dX8_waterTold_9 ?_
    refine k_topi ((tm (hT σ.1) k) : Int) (hTI k hk) ?_
    refine k_goto 46 dX8_waterTold_10 (by decide) ?_
    exact k_iret dX8_waterTold_46 rfl (Nat.le_of_ble_eq_true rfl) (Nat.le_of_ble_eq_true rfl) (k_oki (by rw [aWater, if_pos (by omega)]))
set_option maxHeartbeats 4000000 in
set_option maxRecDepth 100000 in
theorem c_X8_extreme_a (la : Launch) (κ : Kx) {L : List Nat} {f : Nat → wE} {mm : Nat} {thr : Int} {σ : Sg}   (hMf : MSf κ L f mm thr σ) (hs : SgOk σ) : k_M la κ yX8_extreme cX8_extreme 5 (some .long) 1 0 0 [.ref mm, .int (iI 1)] L f (k_ro L f (.long (lI (mxh (hT σ.1) 4320)))) := by
  refine k_head RX8 [(0, .ref mm), (1, .int (iI 1))] rfl (by decide) (Nat.le_of_ble_eq_true rfl) rfl (fun θ hθ hin => ?_)
  obtain ⟨A, RA, PE, OF, TA, RT, RH, HS, TI, ⟨cmm, c0, c1, c2, c3, c4, c5, c6, c7⟩, ⟨hMa, hMb, hMc, hMd⟩, hHS, hTI⟩ := id hMf
  obtain ⟨hs1, ⟨hs2, hs3⟩, hs4⟩ := id hs
  have hs5 := hs1.2.1
  have hs6 := hs4.1
  have hs7 := nW_le (hT σ.1)
  have hs8 := hs1.1
  refine k_iload_n 1 1 dX8_extreme_0 rfl rfl ?_
  refine k_i2l dX8_extreme_1 (inI_mk (by omega) (by omega)) ?_
  refine k_aload_n 0 0 dX8_extreme_2 rfl rfl ?_
  refine k_get 12 i_X8 q_795 cmm rfl (by decide) rfl dX8_extreme_3 ?_
  refine k_iconst dX8_extreme_6 ?_
  refine k_lald 0 c6 rfl (by omega) (by omega) dX8_extreme_7 ?_
  refine k_topl ((hT σ.1) 0) (hHS 0 (by omega)) ?_
  refine k_lmul dX8_extreme_8 ?_
  refine k_lstore_n 2 [(2, .long (lI (1 * ((hT σ.1) 0)))), (0, .ref mm), (1, .int (iI 1))] dX8_extreme_9 rfl (by decide) rfl ?_
  refine k_iconst dX8_extreme_10 ?_
  refine k_istore [(4, .int (iI 1)), (2, .long (lI (1 * ((hT σ.1) 0)))), (0, .ref mm), (1, .int (iI 1))] dX8_extreme_11 (by decide) rfl ?_
  have lp13 : ∀ (fuel : Nat) (t : Nat) (mo : Int), (1 ≤ t ∧ t ≤ 4320) → (mo = mxh (hT σ.1) t) → 4320 - t < fuel → k_G θ κ cX8_extreme 5 (some .long) RX8 (k_rm 1 0 0) (k_MQ θ κ (k_ro L f (.long (lI (mxh (hT σ.1) 4320)))) 0 0) L f 0 0 13 [(0, .ref mm), (1, .int (iI 1)), (2, .long (lI mo)), (4, .int (iI (t : Int)))] [] := by
    intro fuel
    induction fuel with
    | zero =>
      intro t mo ht hmo hfu
      exact absurd hfu (Nat.not_lt_zero _)
    | succ fuel ih13 =>
      intro t mo ht hmo hfu
      have bm := mxh_bd (hT_bd hs1) t
      have bh := hT_bd hs1 t
      refine k_iload 3 dX8_extreme_13 rfl ?_
      refine k_sipush dX8_extreme_15 (by decide) ?_
      refine k_icmp_ge 42 dX8_extreme_18 (by decide) (inI_mk (by omega) (by omega)) (inI_mk (by omega) (by omega)) (fun h18 => ?_) (fun h18 => ?_)
      · refine k_iload_n 1 1 dX8_extreme_42 rfl rfl ?_
        refine k_i2l dX8_extreme_43 (inI_mk (by omega) (by omega)) ?_
        refine k_lload_n 2 2 dX8_extreme_44 rfl rfl ?_
        refine k_lmul dX8_extreme_45 ?_
        exact k_lret dX8_extreme_46 rfl (Nat.le_of_ble_eq_true rfl) (Nat.le_of_ble_eq_true rfl) (k_okl (by rw [hmo, show t = 4320 by omega]; omega))
      · refine k_lload_n 2 2 dX8_extreme_21 rfl rfl ?_
        refine k_iload_n 1 1 dX8_extreme_22 rfl rfl ?_
        refine k_i2l dX8_extreme_23 (inI_mk (by omega) (by omega)) ?_
        refine k_aload_n 0 0 dX8_extreme_24 rfl rfl ?_
        refine k_get 12 i_X8 q_795 cmm rfl (by decide) rfl dX8_extreme_25 ?_
        refine k_iload 3 dX8_extreme_28 rfl ?_
        refine k_lald t c6 rfl (by omega) (by omega) dX8_extreme_30 ?_
        refine k_topl ((hT σ.1) t) (hHS t (by omega)) ?_
        refine k_lmul dX8_extreme_31 ?_
        refine k_maxl q_921 q_922 q_52 q_923 (inL_mk (by omega) (by omega)) (inL_mk (by omega) (by omega)) (Nat.le_of_ble_eq_true rfl) (Nat.le_of_ble_eq_true rfl) ⟨(Nat.le_of_ble_eq_true rfl), (Nat.le_of_ble_eq_true rfl)⟩ dX8_extreme_32 ?_
        refine k_lstore_n 2 [(2, .long (lI (max mo (1 * ((hT σ.1) t))))), (0, .ref mm), (1, .int (iI 1)), (4, .int (iI (t : Int)))] dX8_extreme_35 rfl (by decide) rfl ?_
        refine k_iinc 3 [(4, .int (iI ((t : Int) + 1))), (2, .long (lI (max mo (1 * ((hT σ.1) t))))), (0, .ref mm), (1, .int (iI 1))] dX8_extreme_36 rfl (by decide) rfl ?_
        refine k_goto 13 dX8_extreme_39 (by decide) ?_
        refine k_perm [2, 3, 1, 0] [(0, .ref mm), (1, .int (iI 1)), (2, .long (lI (max mo (1 * ((hT σ.1) t))))), (4, .int (iI ((t : Int) + 1)))] rfl ?_
        exact ih13 (t + 1) (max mo (1 * ((hT σ.1) t))) ⟨by omega, by omega⟩ (by simp only [mxh]; omega) (by omega)
  refine k_perm [2, 3, 1, 0] [(0, .ref mm), (1, .int (iI 1)), (2, .long (lI (1 * ((hT σ.1) 0)))), (4, .int (iI 1))] rfl ?_
  exact lp13 _ 1 (1 * ((hT σ.1) 0)) ⟨by omega, by omega⟩ (by simp only [mxh]; omega) (Nat.lt_succ_self _)
set_option maxHeartbeats 4000000 in
set_option maxRecDepth 100000 in
theorem c_X8_extreme_b (la : Launch) (κ : Kx) {L : List Nat} {f : Nat → wE} {mm : Nat} {thr : Int} {σ : Sg}   (hMf : MSf κ L f mm thr σ) (hs : SgOk σ) : k_M la κ yX8_extreme cX8_extreme 5 (some .long) 1 0 0 [.ref mm, .int (iI (-1))] L f (k_ro L f (.long (lI (mnh (hT σ.1) 4320)))) := by
  refine k_head RX8 [(0, .ref mm), (1, .int (iI (-1)))] rfl (by decide) (Nat.le_of_ble_eq_true rfl) rfl (fun θ hθ hin => ?_)
  obtain ⟨A, RA, PE, OF, TA, RT, RH, HS, TI, ⟨cmm, c0, c1, c2, c3, c4, c5, c6, c7⟩, ⟨hMa, hMb, hMc, hMd⟩, hHS, hTI⟩ := id hMf
  obtain ⟨hs1, ⟨hs2, hs3⟩, hs4⟩ := id hs
  have hs5 := hs1.2.1
  have hs6 := hs4.1
  have hs7 := nW_le (hT σ.1)
  have hs8 := hs1.1
  refine k_iload_n 1 1 dX8_extreme_0 rfl rfl ?_
  refine k_i2l dX8_extreme_1 (inI_mk (by omega) (by omega)) ?_
  refine k_aload_n 0 0 dX8_extreme_2 rfl rfl ?_
  refine k_get 12 i_X8 q_795 cmm rfl (by decide) rfl dX8_extreme_3 ?_
  refine k_iconst dX8_extreme_6 ?_
  refine k_lald 0 c6 rfl (by omega) (by omega) dX8_extreme_7 ?_
  refine k_topl ((hT σ.1) 0) (hHS 0 (by omega)) ?_
  refine k_lmul dX8_extreme_8 ?_
  refine k_lstore_n 2 [(2, .long (lI ((-1) * ((hT σ.1) 0)))), (0, .ref mm), (1, .int (iI (-1)))] dX8_extreme_9 rfl (by decide) rfl ?_
  refine k_iconst dX8_extreme_10 ?_
  refine k_istore [(4, .int (iI 1)), (2, .long (lI ((-1) * ((hT σ.1) 0)))), (0, .ref mm), (1, .int (iI (-1)))] dX8_extreme_11 (by decide) rfl ?_
  have lp13 : ∀ (fuel : Nat) (t : Nat) (mo : Int), (1 ≤ t ∧ t ≤ 4320) → (mo = -(mnh (hT σ.1) t)) → 4320 - t < fuel → k_G θ κ cX8_extreme 5 (some .long) RX8 (k_rm 1 0 0) (k_MQ θ κ (k_ro L f (.long (lI (mnh (hT σ.1) 4320)))) 0 0) L f 0 0 13 [(0, .ref mm), (1, .int (iI (-1))), (2, .long (lI mo)), (4, .int (iI (t : Int)))] [] := by
    intro fuel
    induction fuel with
    | zero =>
      intro t mo ht hmo hfu
      exact absurd hfu (Nat.not_lt_zero _)
    | succ fuel ih13 =>
      intro t mo ht hmo hfu
      have bm := mnh_bd (hT_bd hs1) t
      have bh := hT_bd hs1 t
      refine k_iload 3 dX8_extreme_13 rfl ?_
      refine k_sipush dX8_extreme_15 (by decide) ?_
      refine k_icmp_ge 42 dX8_extreme_18 (by decide) (inI_mk (by omega) (by omega)) (inI_mk (by omega) (by omega)) (fun h18 => ?_) (fun h18 => ?_)
      · refine k_iload_n 1 1 dX8_extreme_42 rfl rfl ?_
        refine k_i2l dX8_extreme_43 (inI_mk (by omega) (by omega)) ?_
        refine k_lload_n 2 2 dX8_extreme_44 rfl rfl ?_
        refine k_lmul dX8_extreme_45 ?_
        exact k_lret dX8_extreme_46 rfl (Nat.le_of_ble_eq_true rfl) (Nat.le_of_ble_eq_true rfl) (k_okl (by rw [hmo, show t = 4320 by omega]; omega))
      · refine k_lload_n 2 2 dX8_extreme_21 rfl rfl ?_
        refine k_iload_n 1 1 dX8_extreme_22 rfl rfl ?_
        refine k_i2l dX8_extreme_23 (inI_mk (by omega) (by omega)) ?_
        refine k_aload_n 0 0 dX8_extreme_24 rfl rfl ?_
        refine k_get 12 i_X8 q_795 cmm rfl (by decide) rfl dX8_extreme_25 ?_
        refine k_iload 3 dX8_extreme_28 rfl ?_
        refine k_lald t c6 rfl (by omega) (by omega) dX8_extreme_30 ?_
        refine k_topl ((hT σ.1) t) (hHS t (by omega)) ?_
        refine k_lmul dX8_extreme_31 ?_
        refine k_maxl q_921 q_922 q_52 q_923 (inL_mk (by omega) (by omega)) (inL_mk (by omega) (by omega)) (Nat.le_of_ble_eq_true rfl) (Nat.le_of_ble_eq_true rfl) ⟨(Nat.le_of_ble_eq_true rfl), (Nat.le_of_ble_eq_true rfl)⟩ dX8_extreme_32 ?_
        refine k_lstore_n 2 [(2, .long (lI (max mo ((-1) * ((hT σ.1) t))))), (0, .ref mm), (1, .int (iI (-1))), (4, .int (iI (t : Int)))] dX8_extreme_35 rfl (by decide) rfl ?_
        refine k_iinc 3 [(4, .int (iI ((t : Int) + 1))), (2, .long (lI (max mo ((-1) * ((hT σ.1) t))))), (0, .ref mm), (1, .int (iI (-1)))] dX8_extreme_36 rfl (by decide) rfl ?_
        refine k_goto 13 dX8_extreme_39 (by decide) ?_
        refine k_perm [2, 3, 1, 0] [(0, .ref mm), (1, .int (iI (-1))), (2, .long (lI (max mo ((-1) * ((hT σ.1) t))))), (4, .int (iI ((t : Int) + 1)))] rfl ?_
        exact ih13 (t + 1) (max mo ((-1) * ((hT σ.1) t))) ⟨by omega, by omega⟩ (by simp only [mnh]; omega) (by omega)
  refine k_perm [2, 3, 1, 0] [(0, .ref mm), (1, .int (iI (-1))), (2, .long (lI ((-1) * ((hT σ.1) 0)))), (4, .int (iI 1))] rfl ?_
  exact lp13 _ 1 ((-1) * ((hT σ.1) 0)) ⟨by omega, by omega⟩ (by simp only [mnh]; omega) (Nat.lt_succ_self _)
set_option maxHeartbeats 4000000 in
set_option maxRecDepth 100000 in
theorem c_X8_mean (la : Launch) (κ : Kx) {L : List Nat} {f : Nat → wE} {mm : Nat} {thr : Int} {σ : Sg} {b : Bool}   (hMf : MSf κ L f mm thr σ) (hs : SgOk σ) : k_M la κ yX8_mean cX8_mean 6 (some .long) 2 0 0 [.ref mm, .int (iI (bI b))] L f (k_ro L f (.long (lI (meanW (hT σ.1) b)))) := by
  refine k_head RX8 [(0, .ref mm), (1, .int (iI (bI b)))] rfl (by decide) (Nat.le_of_ble_eq_true rfl) rfl (fun θ hθ hin => ?_)
  obtain ⟨A, RA, PE, OF, TA, RT, RH, HS, TI, ⟨cmm, c0, c1, c2, c3, c4, c5, c6, c7⟩, ⟨hMa, hMb, hMc, hMd⟩, hHS, hTI⟩ := id hMf
  obtain ⟨hs1, ⟨hs2, hs3⟩, hs4⟩ := id hs
  have hs5 := hs1.2.1
  have hs6 := hs4.1
  have hs7 := nW_le (hT σ.1)
  have hs8 := hs1.1
  refine k_lconst 0 dX8_mean_0 (by decide) ?_
  refine k_lstore_n 2 [(2, .long (lI 0)), (0, .ref mm), (1, .int (iI (bI b)))] dX8_mean_1 rfl (by decide) rfl ?_
  refine k_iconst dX8_mean_2 ?_
  refine k_istore [(4, .int (iI 0)), (2, .long (lI 0)), (0, .ref mm), (1, .int (iI (bI b)))] dX8_mean_3 (by decide) rfl ?_
  refine k_iconst dX8_mean_5 ?_
  refine k_istore [(5, .int (iI 0)), (4, .int (iI 0)), (2, .long (lI 0)), (0, .ref mm), (1, .int (iI (bI b)))] dX8_mean_6 (by decide) rfl ?_
  have lp8 : ∀ (fuel : Nat) (k : Nat) (sm cn : Int), (k ≤ nW (hT σ.1)) → (sm = sumW (hT σ.1) b k) → (cn = cntW (hT σ.1) b k) → nW (hT σ.1) - k < fuel → k_G θ κ cX8_mean 6 (some .long) RX8 (k_rm 2 0 0) (k_MQ θ κ (k_ro L f (.long (lI (meanW (hT σ.1) b)))) 0 0) L f 0 0 8 [(0, .ref mm), (1, .int (iI (bI b))), (2, .long (lI sm)), (4, .int (iI cn)), (5, .int (iI (k : Int)))] [] := by
    intro fuel
    induction fuel with
    | zero =>
      intro k sm cn hk hsm hcn hfu
      exact absurd hfu (Nat.not_lt_zero _)
    | succ fuel ih8 =>
      intro k sm cn hk hsm hcn hfu
      refine k_iload 4 dX8_mean_8 rfl ?_
      refine k_aload_n 0 0 dX8_mean_10 rfl rfl ?_
      refine k_get 13 i_X8 q_796 cmm rfl (by decide) rfl dX8_mean_11 ?_
      refine k_icmp_ge 54 dX8_mean_14 (by decide) (inI_mk (by omega) (by omega)) (inI_mk (by omega) (by omega)) (fun h14 => ?_) (fun h14 => ?_)
      · have e54 : k = nW (hT σ.1) := by omega
        have hb8 := sumW_bd (hT_bd hs1) b k
        have hb7 := cntW_bd (h := (hT σ.1)) b k
        refine k_iload 3 dX8_mean_54 rfl ?_
        refine k_if_ne 63 dX8_mean_56 (by decide) (inI_mk (by omega) (by omega)) (fun h56 => ?_) (fun h56 => ?_)
        · refine k_lload_n 2 2 dX8_mean_63 rfl rfl ?_
          refine k_iload 3 dX8_mean_64 rfl ?_
          refine k_i2l dX8_mean_66 (inI_mk (by omega) (by omega)) ?_
          refine k_ldiv dX8_mean_67 (inL_mk (by omega) (by omega)) (inL_mk (by omega) (by omega)) (by omega) ?_
          exact k_lret dX8_mean_68 rfl (Nat.le_of_ble_eq_true rfl) (Nat.le_of_ble_eq_true rfl) (k_okl (by rw [meanW, ← e54, ← hsm, ← hcn, if_neg (by omega)]))
        · refine k_lconst 0 dX8_mean_59 (by decide) ?_
          refine k_goto 68 dX8_mean_60 (by decide) ?_
          exact k_lret dX8_mean_68 rfl (Nat.le_of_ble_eq_true rfl) (Nat.le_of_ble_eq_true rfl) (k_okl (by rw [meanW, ← e54, ← hsm, ← hcn, if_pos (by omega)]))
      · have tm1 := (tm_spec (h := (hT σ.1)) (k := k) (by omega)).1
        have hx1 := hT_bd hs1 (tm (hT σ.1) k)
        refine k_aload_n 0 0 dX8_mean_17 rfl rfl ?_
        refine k_iload 4 dX8_mean_18 rfl ?_
        refine k_useR (k_runV (c_X8_isHigh θ.2.1 κ (mm := mm) (k := k) hMf hs (by omega)) w_X8_101 ⟨q_903, q_24⟩ rfl rfl cmm rfl ⟨(Nat.le_of_ble_eq_true rfl), (Nat.le_of_ble_eq_true rfl)⟩ (Nat.le_of_ble_eq_true rfl) dX8_mean_20) ⟨(Nat.le_of_ble_eq_true rfl), (Nat.le_of_ble_eq_true rfl)⟩ ?_
        refine k_iload_n 1 1 dX8_mean_23 rfl rfl ?_
        refine k_icmp_eq 30 dX8_mean_24 (by decide) (bI_in _) (bI_in _) (fun h24 => ?_) (fun h24 => ?_)
        · refine k_lload_n 2 2 dX8_mean_30 rfl rfl ?_
          refine k_aload_n 0 0 dX8_mean_31 rfl rfl ?_
          refine k_get 12 i_X8 q_795 cmm rfl (by decide) rfl dX8_mean_32 ?_
          refine k_aload_n 0 0 dX8_mean_35 rfl rfl ?_
          refine k_get 14 i_X8 q_797 cmm rfl (by decide) rfl dX8_mean_36 ?_
          refine k_iload 4 dX8_mean_39 rfl ?_
          refine k_iald k c7 rfl (by omega) (by omega) dX8_mean_41 ?_
          refine k_topi ((tm (hT σ.1) k) : Int) (hTI k (by omega)) ?_
          refine k_lald (tm (hT σ.1) k) c6 rfl (by omega) (by omega) dX8_mean_42 ?_
          refine k_topl ((hT σ.1) (tm (hT σ.1) k)) (hHS _ (by omega)) ?_
          refine k_ladd dX8_mean_43 ?_
          refine k_lstore_n 2 [(2, .long (lI (sm + ((hT σ.1) (tm (hT σ.1) k))))), (0, .ref mm), (1, .int (iI (bI b))), (4, .int (iI cn)), (5, .int (iI (k : Int)))] dX8_mean_44 rfl (by decide) rfl ?_
          refine k_iinc 3 [(4, .int (iI (cn + 1))), (2, .long (lI (sm + ((hT σ.1) (tm (hT σ.1) k))))), (0, .ref mm), (1, .int (iI (bI b))), (5, .int (iI (k : Int)))] dX8_mean_45 rfl (by decide) rfl ?_
          refine k_iinc 4 [(5, .int (iI ((k : Int) + 1))), (4, .int (iI (cn + 1))), (2, .long (lI (sm + ((hT σ.1) (tm (hT σ.1) k))))), (0, .ref mm), (1, .int (iI (bI b)))] dX8_mean_48 rfl (by decide) rfl ?_
          refine k_goto 8 dX8_mean_51 (by decide) ?_
          refine k_perm [3, 4, 2, 1, 0] [(0, .ref mm), (1, .int (iI (bI b))), (2, .long (lI (sm + ((hT σ.1) (tm (hT σ.1) k))))), (4, .int (iI (cn + 1))), (5, .int (iI ((k : Int) + 1)))] rfl ?_
          exact ih8 (k + 1) (sm + ((hT σ.1) (tm (hT σ.1) k))) (cn + 1) (by omega) (by rw [sumW, if_pos (bI_inj h24), hsm]) (by rw [cntW, if_pos (bI_inj h24), hcn]) (by omega)
        · refine k_goto 48 dX8_mean_27 (by decide) ?_
          refine k_iinc 4 [(5, .int (iI ((k : Int) + 1))), (0, .ref mm), (1, .int (iI (bI b))), (2, .long (lI sm)), (4, .int (iI cn))] dX8_mean_48 rfl (by decide) rfl ?_
          refine k_goto 8 dX8_mean_51 (by decide) ?_
          refine k_perm [1, 2, 3, 4, 0] [(0, .ref mm), (1, .int (iI (bI b))), (2, .long (lI sm)), (4, .int (iI cn)), (5, .int (iI ((k : Int) + 1)))] rfl ?_
          exact ih8 (k + 1) sm cn (by omega) (by rw [sumW, if_neg (fun q => h24 (congrArg bI q)), hsm]) (by rw [cntW, if_neg (fun q => h24 (congrArg bI q)), hcn]) (by omega)
  refine k_perm [3, 4, 2, 1, 0] [(0, .ref mm), (1, .int (iI (bI b))), (2, .long (lI 0)), (4, .int (iI 0)), (5, .int (iI 0))] rfl ?_
  exact lp8 _ 0 0 0 (Nat.zero_le _) rfl rfl (Nat.lt_succ_self _)
set_option maxHeartbeats 4000000 in
set_option maxRecDepth 100000 in
theorem c_X8_greatestRange (la : Launch) (κ : Kx) {L : List Nat} {f : Nat → wE} {mm : Nat} {thr : Int} {σ : Sg}   (hMf : MSf κ L f mm thr σ) (hs : SgOk σ) : k_M la κ yX8_greatestRange cX8_greatestRange 4 (some .long) 1 0 0 [.ref mm] L f (k_ro L f (.long (lI (difW (hT σ.1) (nW (hT σ.1) - 1))))) := by
  refine k_head RX8 [(0, .ref mm)] rfl (by decide) (Nat.le_of_ble_eq_true rfl) rfl (fun θ hθ hin => ?_)
  obtain ⟨A, RA, PE, OF, TA, RT, RH, HS, TI, ⟨cmm, c0, c1, c2, c3, c4, c5, c6, c7⟩, ⟨hMa, hMb, hMc, hMd⟩, hHS, hTI⟩ := id hMf
  obtain ⟨hs1, ⟨hs2, hs3⟩, hs4⟩ := id hs
  have hs5 := hs1.2.1
  have hs6 := hs4.1
  have hs7 := nW_le (hT σ.1)
  have hs8 := hs1.1
  refine k_lconst 0 dX8_greatestRange_0 (by decide) ?_
  refine k_lstore_n 1 [(1, .long (lI 0)), (0, .ref mm)] dX8_greatestRange_1 rfl (by decide) rfl ?_
  refine k_iconst dX8_greatestRange_2 ?_
  refine k_istore_n 3 [(3, .int (iI 1)), (1, .long (lI 0)), (0, .ref mm)] dX8_greatestRange_3 rfl (by decide) rfl ?_
  have lp4 : ∀ (fuel : Nat) (j : Nat) (gd : Int), (j + 1 ≤ nW (hT σ.1) ∨ j = 0) → (gd = difW (hT σ.1) j) → nW (hT σ.1) - j < fuel → k_G θ κ cX8_greatestRange 4 (some .long) RX8 (k_rm 1 0 0) (k_MQ θ κ (k_ro L f (.long (lI (difW (hT σ.1) (nW (hT σ.1) - 1))))) 0 0) L f 0 0 4 [(0, .ref mm), (1, .long (lI gd)), (3, .int (iI ((j + 1 : Nat) : Int)))] [] := by
    intro fuel
    induction fuel with
    | zero =>
      intro j gd hj hgd hfu
      exact absurd hfu (Nat.not_lt_zero _)
    | succ fuel ih4 =>
      intro j gd hj hgd hfu
      have hd1 := difW_bd (hT_bd hs1) j
      refine k_iload_n 2 3 dX8_greatestRange_4 rfl rfl ?_
      refine k_aload_n 0 0 dX8_greatestRange_5 rfl rfl ?_
      refine k_get 13 i_X8 q_796 cmm rfl (by decide) rfl dX8_greatestRange_6 ?_
      refine k_icmp_ge 51 dX8_greatestRange_9 (by decide) (inI_mk (by omega) (by omega)) (inI_mk (by omega) (by omega)) (fun h9 => ?_) (fun h9 => ?_)
      · refine k_lload_n 1 1 dX8_greatestRange_51 rfl rfl ?_
        exact k_lret dX8_greatestRange_52 rfl (Nat.le_of_ble_eq_true rfl) (Nat.le_of_ble_eq_true rfl) (k_okl (by rw [hgd, show nW (hT σ.1) - 1 = j by omega]))
      · have tm1 := (tm_spec (h := (hT σ.1)) (k := (j + 1)) (by omega)).1
        have hx1 := hT_bd hs1 (tm (hT σ.1) (j + 1))
        have tm2 := (tm_spec (h := (hT σ.1)) (k := j) (by omega)).1
        have hx2 := hT_bd hs1 (tm (hT σ.1) j)
        refine k_lload_n 1 1 dX8_greatestRange_12 rfl rfl ?_
        refine k_aload_n 0 0 dX8_greatestRange_13 rfl rfl ?_
        refine k_get 12 i_X8 q_795 cmm rfl (by decide) rfl dX8_greatestRange_14 ?_
        refine k_aload_n 0 0 dX8_greatestRange_17 rfl rfl ?_
        refine k_get 14 i_X8 q_797 cmm rfl (by decide) rfl dX8_greatestRange_18 ?_
        refine k_iload_n 2 3 dX8_greatestRange_21 rfl rfl ?_
        refine k_iald (j + 1) c7 rfl (by omega) (by omega) dX8_greatestRange_22 ?_
        refine k_topi ((tm (hT σ.1) (j + 1)) : Int) (hTI (j + 1) (by omega)) ?_
        refine k_lald (tm (hT σ.1) (j + 1)) c6 rfl (by omega) (by omega) dX8_greatestRange_23 ?_
        refine k_topl ((hT σ.1) (tm (hT σ.1) (j + 1))) (hHS _ (by omega)) ?_
        refine k_aload_n 0 0 dX8_greatestRange_24 rfl rfl ?_
        refine k_get 12 i_X8 q_795 cmm rfl (by decide) rfl dX8_greatestRange_25 ?_
        refine k_aload_n 0 0 dX8_greatestRange_28 rfl rfl ?_
        refine k_get 14 i_X8 q_797 cmm rfl (by decide) rfl dX8_greatestRange_29 ?_
        refine k_iload_n 2 3 dX8_greatestRange_32 rfl rfl ?_
        refine k_iconst dX8_greatestRange_33 ?_
        refine k_isub dX8_greatestRange_34 ?_
        refine k_topi (j : Int) (by omega) ?_
        refine k_iald j c7 rfl (by omega) (by omega) dX8_greatestRange_35 ?_
        refine k_topi ((tm (hT σ.1) j) : Int) (hTI j (by omega)) ?_
        refine k_lald (tm (hT σ.1) j) c6 rfl (by omega) (by omega) dX8_greatestRange_36 ?_
        refine k_topl ((hT σ.1) (tm (hT σ.1) j)) (hHS _ (by omega)) ?_
        refine k_lsub dX8_greatestRange_37 ?_
        refine k_absl q_932 q_204 q_52 q_205 (inL_mk (by omega) (by omega)) (Nat.le_of_ble_eq_true rfl) (Nat.le_of_ble_eq_true rfl) ⟨(Nat.le_of_ble_eq_true rfl), (Nat.le_of_ble_eq_true rfl)⟩ dX8_greatestRange_38 ?_
        refine k_maxl q_921 q_922 q_52 q_923 (inL_mk (by omega) (by omega)) (inL_mk (by omega) (by omega)) (Nat.le_of_ble_eq_true rfl) (Nat.le_of_ble_eq_true rfl) ⟨(Nat.le_of_ble_eq_true rfl), (Nat.le_of_ble_eq_true rfl)⟩ dX8_greatestRange_41 ?_
        refine k_lstore_n 1 [(1, .long (lI (max gd ((Int.natAbs (((hT σ.1) (tm (hT σ.1) (j + 1))) - ((hT σ.1) (tm (hT σ.1) j))) : Nat) : Int)))), (0, .ref mm), (3, .int (iI ((j + 1 : Nat) : Int)))] dX8_greatestRange_44 rfl (by decide) rfl ?_
        refine k_iinc 2 [(3, .int (iI (((j + 1 : Nat) : Int) + 1))), (1, .long (lI (max gd ((Int.natAbs (((hT σ.1) (tm (hT σ.1) (j + 1))) - ((hT σ.1) (tm (hT σ.1) j))) : Nat) : Int)))), (0, .ref mm)] dX8_greatestRange_45 rfl (by decide) rfl ?_
        refine k_goto 4 dX8_greatestRange_48 (by decide) ?_
        refine k_perm [2, 1, 0] [(0, .ref mm), (1, .long (lI (max gd ((Int.natAbs (((hT σ.1) (tm (hT σ.1) (j + 1))) - ((hT σ.1) (tm (hT σ.1) j))) : Nat) : Int)))), (3, .int (iI (((j + 1 : Nat) : Int) + 1)))] rfl ?_
        exact ih4 (j + 1) (max gd ((Int.natAbs (((hT σ.1) (tm (hT σ.1) (j + 1))) - ((hT σ.1) (tm (hT σ.1) j))) : Nat) : Int)) (Or.inl (by omega)) (by rw [difW, hgd]) (by omega)
  refine k_perm [2, 1, 0] [(0, .ref mm), (1, .long (lI 0)), (3, .int (iI 1))] rfl ?_
  exact lp4 _ 0 0 (Or.inr rfl) rfl (Nat.lt_succ_self _)
set_option maxHeartbeats 4000000 in
set_option maxRecDepth 100000 in
theorem c_X8_datumOf_f (la : Launch) (κ : Kx) {L : List Nat} {f : Nat → wE} {mm : Nat} {thr : Int} {σ : Sg} {what : Int}   (hMf : MSf κ L f mm thr σ) (hs : SgOk σ) (hwh : 0 ≤ what ∧ what ≤ 4) : k_M la κ yX8_datumOf cX8_datumOf 2 (some .int) 3 0 0 [.ref mm, .int (iI what)] L f (k_ro L f (.int (iI (dat (hT σ.1) what)))) := by
  refine k_head RX8 [(0, .ref mm), (1, .int (iI what))] rfl (by decide) (Nat.le_of_ble_eq_true rfl) rfl (fun θ hθ hin => ?_)
  obtain ⟨A, RA, PE, OF, TA, RT, RH, HS, TI, ⟨cmm, c0, c1, c2, c3, c4, c5, c6, c7⟩, ⟨hMa, hMb, hMc, hMd⟩, hHS, hTI⟩ := id hMf
  obtain ⟨hs1, ⟨hs2, hs3⟩, hs4⟩ := id hs
  have hs5 := hs1.2.1
  have hs6 := hs4.1
  have hs7 := nW_le (hT σ.1)
  have hs8 := hs1.1
  refine k_aload_n 0 0 dX8_datumOf_0 rfl rfl ?_
  refine k_useU (k_runV (c_X8_find_f θ.2.1 κ (σ := σ) (thr := thr) (mm := mm) hMf) w_X8_90 ⟨q_872, q_20⟩ rfl rfl cmm rfl ⟨(Nat.le_of_ble_eq_true rfl), (Nat.le_of_ble_eq_true rfl)⟩ (Nat.le_of_ble_eq_true rfl) dX8_datumOf_1) ⟨(Nat.le_of_ble_eq_true rfl), (Nat.le_of_ble_eq_true rfl)⟩ (fun L9 f9 hw => ?_)
  obtain ⟨e9, e8⟩ := hw
  replace e9 := e9.symm
  replace e8 := e8.symm
  subst e9
  subst e8
  refine k_iload_n 1 1 dX8_datumOf_4 rfl rfl ?_
  rcases (by omega : what = 0 ∨ what = 1 ∨ what = 2 ∨ what = 3 ∨ (what < 0 ∨ 3 < what)) with h5 | h5 | h5 | h5 | h5
  · refine k_swIn 0 36 dX8_datumOf_5 (inI_mk (by omega) (by omega)) h5 (by decide) (by decide) rfl (by decide) ?_
    refine k_aload_n 0 0 dX8_datumOf_36 rfl rfl ?_
    refine k_iconst dX8_datumOf_37 ?_
    refine k_useR (k_runV (c_X8_extreme_a θ.2.1 κ (mm := mm) hMf hs) w_X8_118 ⟨q_919, q_26⟩ rfl rfl cmm rfl ⟨(Nat.le_of_ble_eq_true rfl), (Nat.le_of_ble_eq_true rfl)⟩ (Nat.le_of_ble_eq_true rfl) dX8_datumOf_38) ⟨(Nat.le_of_ble_eq_true rfl), (Nat.le_of_ble_eq_true rfl)⟩ ?_
    refine k_l2i dX8_datumOf_41 ?_
    exact k_iret dX8_datumOf_42 rfl (Nat.le_of_ble_eq_true rfl) (Nat.le_of_ble_eq_true rfl) (k_oki (by rw [h5, dat, if_pos rfl]))
  · refine k_swIn 1 43 dX8_datumOf_5 (inI_mk (by omega) (by omega)) h5 (by decide) (by decide) rfl (by decide) ?_
    refine k_aload_n 0 0 dX8_datumOf_43 rfl rfl ?_
    refine k_iconst dX8_datumOf_44 ?_
    refine k_useR (k_runV (c_X8_extreme_b θ.2.1 κ (mm := mm) hMf hs) w_X8_118 ⟨q_919, q_26⟩ rfl rfl cmm rfl ⟨(Nat.le_of_ble_eq_true rfl), (Nat.le_of_ble_eq_true rfl)⟩ (Nat.le_of_ble_eq_true rfl) dX8_datumOf_45) ⟨(Nat.le_of_ble_eq_true rfl), (Nat.le_of_ble_eq_true rfl)⟩ ?_
    refine k_l2i dX8_datumOf_48 ?_
    exact k_iret dX8_datumOf_49 rfl (Nat.le_of_ble_eq_true rfl) (Nat.le_of_ble_eq_true rfl) (k_oki (by rw [h5, dat, if_neg (by decide), if_pos rfl]))
  · refine k_swIn 2 50 dX8_datumOf_5 (inI_mk (by omega) (by omega)) h5 (by decide) (by decide) rfl (by decide) ?_
    refine k_aload_n 0 0 dX8_datumOf_50 rfl rfl ?_
    refine k_iconst dX8_datumOf_51 ?_
    refine k_useR (k_runV (c_X8_mean θ.2.1 κ (b := true) (mm := mm) hMf hs) w_X8_122 ⟨q_926, q_27⟩ rfl rfl cmm rfl ⟨(Nat.le_of_ble_eq_true rfl), (Nat.le_of_ble_eq_true rfl)⟩ (Nat.le_of_ble_eq_true rfl) dX8_datumOf_52) ⟨(Nat.le_of_ble_eq_true rfl), (Nat.le_of_ble_eq_true rfl)⟩ ?_
    refine k_l2i dX8_datumOf_55 ?_
    exact k_iret dX8_datumOf_56 rfl (Nat.le_of_ble_eq_true rfl) (Nat.le_of_ble_eq_true rfl) (k_oki (by rw [h5, dat, if_neg (by decide), if_neg (by decide), if_pos rfl]))
  · refine k_swIn 3 57 dX8_datumOf_5 (inI_mk (by omega) (by omega)) h5 (by decide) (by decide) rfl (by decide) ?_
    refine k_aload_n 0 0 dX8_datumOf_57 rfl rfl ?_
    refine k_iconst dX8_datumOf_58 ?_
    refine k_useR (k_runV (c_X8_mean θ.2.1 κ (b := false) (mm := mm) hMf hs) w_X8_122 ⟨q_926, q_27⟩ rfl rfl cmm rfl ⟨(Nat.le_of_ble_eq_true rfl), (Nat.le_of_ble_eq_true rfl)⟩ (Nat.le_of_ble_eq_true rfl) dX8_datumOf_59) ⟨(Nat.le_of_ble_eq_true rfl), (Nat.le_of_ble_eq_true rfl)⟩ ?_
    refine k_l2i dX8_datumOf_62 ?_
    exact k_iret dX8_datumOf_63 rfl (Nat.le_of_ble_eq_true rfl) (Nat.le_of_ble_eq_true rfl) (k_oki (by rw [h5, dat, if_neg (by decide), if_neg (by decide), if_neg (by decide), if_pos rfl]))
  · refine k_swOut 64 dX8_datumOf_5 (inI_mk (by omega) (by omega)) h5 (by decide) ?_
    refine k_aload_n 0 0 dX8_datumOf_64 rfl rfl ?_
    refine k_useR (k_runV (c_X8_greatestRange θ.2.1 κ (mm := mm) hMf hs) w_X8_126 ⟨q_930, q_28⟩ rfl rfl cmm rfl ⟨(Nat.le_of_ble_eq_true rfl), (Nat.le_of_ble_eq_true rfl)⟩ (Nat.le_of_ble_eq_true rfl) dX8_datumOf_65) ⟨(Nat.le_of_ble_eq_true rfl), (Nat.le_of_ble_eq_true rfl)⟩ ?_
    refine k_l2i dX8_datumOf_68 ?_
    exact k_iret dX8_datumOf_69 rfl (Nat.le_of_ble_eq_true rfl) (Nat.le_of_ble_eq_true rfl) (k_oki (by rw [dat, if_neg (by omega), if_neg (by omega), if_neg (by omega), if_neg (by omega)]))
set_option maxHeartbeats 4000000 in
set_option maxRecDepth 100000 in
theorem c_X8_off (la : Launch) (κ : Kx) {L : List Nat} {f : Nat → wE} {mm : Nat} {thr : Int} {σ : Sg} {i : Nat}   (hMf : MSf κ L f mm thr σ) (hs : SgOk σ) (hi : i < σ.2.2.2.1) : k_M la κ yX8_off cX8_off 2 (some .long) 1 0 0 [.ref mm, .int (iI (i : Int))] L f (k_ro L f (.long (lI (dif (hT σ.1) σ.2.2.2 i)))) := by
  refine k_head RX8 [(0, .ref mm), (1, .int (iI (i : Int)))] rfl (by decide) (Nat.le_of_ble_eq_true rfl) rfl (fun θ hθ hin => ?_)
  obtain ⟨A, RA, PE, OF, TA, RT, RH, HS, TI, ⟨cmm, c0, c1, c2, c3, c4, c5, c6, c7⟩, ⟨hMa, hMb, hMc, hMd⟩, hHS, hTI⟩ := id hMf
  obtain ⟨hs1, ⟨hs2, hs3⟩, hs4⟩ := id hs
  have hs5 := hs1.2.1
  have hs6 := hs4.1
  have hs7 := nW_le (hT σ.1)
  have hs8 := hs1.1
  obtain ⟨hr1, hr2⟩ := hMd i hi
  have hr3 := hs4.2 i hi
  have hr4 := hT_bd hs1 (σ.2.2.2.2.1 i)
  refine k_aload_n 0 0 dX8_off_0 rfl rfl ?_
  refine k_get 10 i_X8 q_793 cmm rfl (by decide) rfl dX8_off_1 ?_
  refine k_iload_n 1 1 dX8_off_4 rfl rfl ?_
  refine k_iald i c5 rfl (by omega) (by omega) dX8_off_5 ?_
  refine k_topi (σ.2.2.2.2.2 i) hr2 ?_
  refine k_i2l dX8_off_6 (inI_mk (by omega) (by omega)) ?_
  refine k_aload_n 0 0 dX8_off_7 rfl rfl ?_
  refine k_get 12 i_X8 q_795 cmm rfl (by decide) rfl dX8_off_8 ?_
  refine k_aload_n 0 0 dX8_off_11 rfl rfl ?_
  refine k_get 9 i_X8 q_792 cmm rfl (by decide) rfl dX8_off_12 ?_
  refine k_iload_n 1 1 dX8_off_15 rfl rfl ?_
  refine k_iald i c4 rfl (by omega) (by omega) dX8_off_16 ?_
  refine k_topi (σ.2.2.2.2.1 i : Int) hr1 ?_
  refine k_lald (σ.2.2.2.2.1 i) c6 rfl (by omega) (by omega) dX8_off_17 ?_
  refine k_topl ((hT σ.1) (σ.2.2.2.2.1 i)) (hHS _ hr3.1) ?_
  refine k_lsub dX8_off_18 ?_
  exact k_lret dX8_off_19 rfl (Nat.le_of_ble_eq_true rfl) (Nat.le_of_ble_eq_true rfl) (k_okl rfl)
