set_option maxHeartbeats 4000000 in
set_option maxRecDepth 100000 in
theorem c_X7_isWithin (la : Launch) (κ : Kx) {L : List Nat} {f : Nat → wE} {z a b : Int}   (hz : inI z) (ha : inI a) (hb : inI b) : k_M la κ yX7_isWithin cX7_isWithin 3 (some .boolean) 1 0 0 [.int (iI z), .int (iI a), .int (iI b)] L f (k_ro L f (.int (iI (bI (decide (a ≤ z ∧ z ≤ b)))))) := by
  refine k_head RX7 [(0, .int (iI z)), (1, .int (iI a)), (2, .int (iI b))] rfl (by decide) (Nat.le_of_ble_eq_true rfl) rfl (fun θ hθ hin => ?_)
  refine k_iload_n 0 0 dX7_isWithin_0 rfl rfl ?_
  refine k_iload_n 1 1 dX7_isWithin_1 rfl rfl ?_
  refine k_icmp_lt 14 dX7_isWithin_2 (by decide) hz ha (fun h2 => ?_) (fun h2 => ?_)
  · refine k_iconst dX7_isWithin_14 ?_
    exact k_zret (b := false) dX7_isWithin_15 rfl (Nat.le_of_ble_eq_true rfl) (Nat.le_of_ble_eq_true rfl) (k_okb ((decide_eq_false (by omega)).symm))
  · refine k_iload_n 0 0 dX7_isWithin_5 rfl rfl ?_
    refine k_iload_n 2 2 dX7_isWithin_6 rfl rfl ?_
    refine k_icmp_gt 14 dX7_isWithin_7 (by decide) hz hb (fun h7 => ?_) (fun h7 => ?_)
    · refine k_iconst dX7_isWithin_14 ?_
      exact k_zret (b := false) dX7_isWithin_15 rfl (Nat.le_of_ble_eq_true rfl) (Nat.le_of_ble_eq_true rfl) (k_okb ((decide_eq_false (by omega)).symm))
    · refine k_iconst dX7_isWithin_10 ?_
      refine k_goto 15 dX7_isWithin_11 (by decide) ?_
      exact k_zret (b := true) dX7_isWithin_15 rfl (Nat.le_of_ble_eq_true rfl) (Nat.le_of_ble_eq_true rfl) (k_okb ((decide_eq_true (by omega)).symm))
set_option maxHeartbeats 4000000 in
set_option maxRecDepth 100000 in
theorem c_X7_isMinute (la : Launch) (κ : Kx) {L : List Nat} {f : Nat → wE} {z : Int}   (hz : inI z) : k_M la κ yX7_isMinute cX7_isMinute 1 (some .boolean) 2 0 0 [.int (iI z)] L f (k_ro L f (.int (iI (bI (decide (0 ≤ z ∧ z ≤ 4319)))))) := by
  refine k_head RX7 [(0, .int (iI z))] rfl (by decide) (Nat.le_of_ble_eq_true rfl) rfl (fun θ hθ hin => ?_)
  refine k_iload_n 0 0 dX7_isMinute_0 rfl rfl ?_
  refine k_iconst dX7_isMinute_1 ?_
  refine k_sipush dX7_isMinute_2 (by decide) ?_
  refine k_useR (k_runS (c_X7_isWithin θ.2.1 κ (z := z) (a := 0) (b := 4319) hz (inI_mk (by omega) (by omega)) (inI_mk (by omega) (by omega))) w_X7_37 q_136 rfl rfl ⟨(Nat.le_of_ble_eq_true rfl), (Nat.le_of_ble_eq_true rfl)⟩ (Nat.le_of_ble_eq_true rfl) dX7_isMinute_5) ⟨(Nat.le_of_ble_eq_true rfl), (Nat.le_of_ble_eq_true rfl)⟩ ?_
  exact k_zret (b := decide (0 ≤ z ∧ z ≤ 4319)) dX7_isMinute_8 rfl (Nat.le_of_ble_eq_true rfl) (Nat.le_of_ble_eq_true rfl) (k_okb rfl)
set_option maxHeartbeats 4000000 in
set_option maxRecDepth 100000 in
theorem c_X7_quotient (la : Launch) (κ : Kx) {L : List Nat} {f : Nat → wE} {a b : Int}   (ha : inL a) (hb : inL b) : k_M la κ yX7_quotient cX7_quotient 4 (some .long) 1 0 0 [.long (lI a), .long (lI b)] L f (k_ro L f (.long (lI (if b = 0 then 0 else a.tdiv b)))) := by
  refine k_head RX7 [(0, .long (lI a)), (2, .long (lI b))] rfl (by decide) (Nat.le_of_ble_eq_true rfl) rfl (fun θ hθ hin => ?_)
  refine k_lload_n 1 2 dX7_quotient_0 rfl rfl ?_
  refine k_lconst 0 dX7_quotient_1 (by decide) ?_
  refine k_lcmp_ne 10 dX7_quotient_2 dX7_quotient_3 (by decide) hb inL_0 (fun h2 => ?_) (fun h2 => ?_)
  · refine k_lload_n 0 0 dX7_quotient_10 rfl rfl ?_
    refine k_lload_n 1 2 dX7_quotient_11 rfl rfl ?_
    refine k_ldiv dX7_quotient_12 ha hb h2 ?_
    exact k_lret dX7_quotient_13 rfl (Nat.le_of_ble_eq_true rfl) (Nat.le_of_ble_eq_true rfl) (k_okl ((if_neg h2).symm))
  · refine k_lconst 0 dX7_quotient_6 (by decide) ?_
    refine k_goto 13 dX7_quotient_7 (by decide) ?_
    exact k_lret dX7_quotient_13 rfl (Nat.le_of_ble_eq_true rfl) (Nat.le_of_ble_eq_true rfl) (k_okl ((if_pos h2).symm))
set_option maxHeartbeats 4000000 in
set_option maxRecDepth 100000 in
theorem c_X6_init (la : Launch) (κ : Kx) {L : List Nat} {f : Nat → wE} {w : Nat} {r p o : Int} (cw : Cl L f w (14, .inr (7, [.int (iI 0), .int (iI 0), .int (iI 0)])))   : k_M la κ yX6_init cX6_init 4 none 2 0 0 [.ref w, .int (iI r), .int (iI p), .int (iI o)] L f (k_ru (fun L' f' => L' = L ∧ (∀ z, z ≠ w → f' z = f z) ∧ Cl L f' w (14, .inr (7, [.int (iI r), .int (iI p), .int (iI o)])))) := by
  refine k_head RX6 [(0, .ref w), (1, .int (iI r)), (2, .int (iI p)), (3, .int (iI o))] rfl (by decide) (Nat.le_of_ble_eq_true rfl) rfl (fun θ hθ hin => ?_)
  refine k_aload_n 0 0 dX6_init_0 rfl rfl ?_
  refine k_objInit q_552 q_42 q_43 (Nat.le_of_ble_eq_true rfl) (Nat.le_of_ble_eq_true rfl) dX6_init_1 ?_
  refine k_aload_n 0 0 dX6_init_4 rfl rfl ?_
  refine k_iload_n 1 1 dX6_init_5 rfl rfl ?_
  refine k_put 0 [.int (iI r), .int (iI 0), .int (iI 0)] i_X6 tyX6_ok nmX6 q_553 cw rfl (by decide) rfl rfl rfl rfl (Nat.le_of_ble_eq_true rfl) rfl dX6_init_6 (fun f1 hf1 hc1 => ?_)
  have hr1 := k_fr.put hf1 cw
  replace cw : Cl L f1 w (14, .inr (7, [.int (iI r), .int (iI 0), .int (iI 0)])) := hc1
  refine k_aload_n 0 0 dX6_init_9 rfl rfl ?_
  refine k_iload_n 2 2 dX6_init_10 rfl rfl ?_
  refine k_putF 1 [.int (iI r), .int (iI p), .int (iI 0)] i_X6 tyX6_ok nmX6 q_554 cw rfl (by decide) rfl (hin rfl) rfl rfl rfl rfl (Nat.le_of_ble_eq_true rfl) rfl dX6_init_11 (fun f2 hf2 hc2 => ?_)
  have hr2 := k_fr.put hf2 cw
  replace cw : Cl L f2 w (14, .inr (7, [.int (iI r), .int (iI p), .int (iI 0)])) := hc2
  refine k_aload_n 0 0 dX6_init_14 rfl rfl ?_
  refine k_iload_n 3 3 dX6_init_15 rfl rfl ?_
  refine k_putF 2 [.int (iI r), .int (iI p), .int (iI o)] i_X6 tyX6_ok nmX6 q_555 cw rfl (by decide) rfl (hin rfl) rfl rfl rfl rfl (Nat.le_of_ble_eq_true rfl) rfl dX6_init_16 (fun f3 hf3 hc3 => ?_)
  have hr3 := k_fr.put hf3 cw
  replace cw : Cl L f3 w (14, .inr (7, [.int (iI r), .int (iI p), .int (iI o)])) := hc3
  exact k_vret dX6_init_19 rfl (Nat.le_of_ble_eq_true rfl) (Nat.le_of_ble_eq_true rfl) (⟨rfl, rfl, fun z hz => ((hf3 z hz).trans (hf2 z hz)).trans (hf1 z hz), cw⟩)
set_option maxHeartbeats 4000000 in
set_option maxRecDepth 100000 in
theorem c_X6_heightAt (la : Launch) (κ : Kx) {L : List Nat} {f : Nat → wE} {w t : Nat} {r p o : Int} (cw : Cl L f w (14, .inr (7, [.int (iI r), .int (iI p), .int (iI o)])))  (hok : wvOk r p o) (ht : t < 4320) : k_M la κ yX6_heightAt cX6_heightAt 8 (some .int) 1 0 0 [.ref w, .int (iI (t : Int))] L f (k_ro L f (.int (iI (wvH r p o (t : Int))))) := by
  refine k_head RX6 [(0, .ref w), (1, .int (iI (t : Int)))] rfl (by decide) (Nat.le_of_ble_eq_true rfl) rfl (fun θ hθ hin => ?_)
  obtain ⟨⟨hr0, hr1⟩, ⟨hp0, hp1⟩, ⟨ho0, ho1⟩⟩ := id hok
  obtain ⟨hm0, hm1⟩ := tm_bd (a := (t : Int) + o) (p := p) (by omega) (by omega)
  have hpp : 3600 ≤ p * p ∧ p * p ≤ 400000000 := ⟨Int.mul_le_mul hp0 hp0 (by omega) (by omega), Int.mul_le_mul hp1 hp1 (by omega) (by omega)⟩
  refine k_aload_n 0 0 dX6_heightAt_0 rfl rfl ?_
  refine k_get 1 i_X6 q_554 cw rfl (by decide) rfl dX6_heightAt_1 ?_
  refine k_if_gt 9 dX6_heightAt_4 (by decide) (inI_mk (by omega) (by omega)) (fun h4 => ?_) (fun h4 => ?_)
  · refine k_iconst dX6_heightAt_9 ?_
    refine k_iload_n 1 1 dX6_heightAt_10 rfl rfl ?_
    refine k_aload_n 0 0 dX6_heightAt_11 rfl rfl ?_
    refine k_get 2 i_X6 q_555 cw rfl (by decide) rfl dX6_heightAt_12 ?_
    refine k_iadd dX6_heightAt_15 ?_
    refine k_aload_n 0 0 dX6_heightAt_16 rfl rfl ?_
    refine k_get 1 i_X6 q_554 cw rfl (by decide) rfl dX6_heightAt_17 ?_
    refine k_irem dX6_heightAt_20 (inI_mk (by omega) (by omega)) (inI_mk (by omega) (by omega)) (by omega) ?_
    refine k_imul dX6_heightAt_21 ?_
    refine k_istore_n 2 [(2, .int (iI (2 * (((t : Int) + o).tmod p)))), (0, .ref w), (1, .int (iI (t : Int)))] dX6_heightAt_22 rfl (by decide) rfl ?_
    refine k_iload_n 0 2 dX6_heightAt_23 rfl rfl ?_
    refine k_aload_n 1 0 dX6_heightAt_24 rfl rfl ?_
    refine k_get 1 i_X6 q_554 cw rfl (by decide) rfl dX6_heightAt_25 ?_
    refine k_icmp_ge 35 dX6_heightAt_28 (by decide) (inI_mk (by omega) (by omega)) (inI_mk (by omega) (by omega)) (fun h28 => ?_) (fun h28 => ?_)
    · refine k_iconst dX6_heightAt_35 ?_
      refine k_istore_n 3 [(3, .int (iI 0)), (2, .int (iI (2 * (((t : Int) + o).tmod p)))), (0, .ref w), (1, .int (iI (t : Int)))] dX6_heightAt_36 rfl (by decide) rfl ?_
      refine k_iload_n 0 3 dX6_heightAt_37 rfl rfl ?_
      refine k_if_eq 46 dX6_heightAt_38 (by decide) (inI_mk (by omega) (by omega)) (fun h38 => ?_) (fun h38 => ?_)
      · refine k_iload_n 1 2 dX6_heightAt_46 rfl rfl ?_
        refine k_aload_n 2 0 dX6_heightAt_47 rfl rfl ?_
        refine k_get 1 i_X6 q_554 cw rfl (by decide) rfl dX6_heightAt_48 ?_
        refine k_isub dX6_heightAt_51 ?_
        refine k_i2l dX6_heightAt_52 (inI_mk (by omega) (by omega)) ?_
        refine k_lstore [(4, .long (lI ((2 * (((t : Int) + o).tmod p)) - p))), (3, .int (iI 0)), (2, .int (iI (2 * (((t : Int) + o).tmod p)))), (0, .ref w), (1, .int (iI (t : Int)))] dX6_heightAt_53 (by decide) rfl ?_
        refine k_ldc2 4 q_233 (by decide) dX6_heightAt_55 ?_
        refine k_aload_n 3 0 dX6_heightAt_58 rfl rfl ?_
        refine k_get 0 i_X6 q_553 cw rfl (by decide) rfl dX6_heightAt_59 ?_
        refine k_i2l dX6_heightAt_62 (inI_mk (by omega) (by omega)) ?_
        refine k_lmul dX6_heightAt_63 ?_
        refine k_lload 0 dX6_heightAt_64 rfl ?_
        refine k_lmul dX6_heightAt_66 ?_
        refine k_aload_n 3 0 dX6_heightAt_67 rfl rfl ?_
        refine k_get 1 i_X6 q_554 cw rfl (by decide) rfl dX6_heightAt_68 ?_
        refine k_i2l dX6_heightAt_71 (inI_mk (by omega) (by omega)) ?_
        refine k_lload 0 dX6_heightAt_72 rfl ?_
        refine k_lsub dX6_heightAt_74 ?_
        refine k_lmul dX6_heightAt_75 ?_
        refine k_aload_n 3 0 dX6_heightAt_76 rfl rfl ?_
        refine k_get 1 i_X6 q_554 cw rfl (by decide) rfl dX6_heightAt_77 ?_
        refine k_i2l dX6_heightAt_80 (inI_mk (by omega) (by omega)) ?_
        refine k_aload_n 3 0 dX6_heightAt_81 rfl rfl ?_
        refine k_get 1 i_X6 q_554 cw rfl (by decide) rfl dX6_heightAt_82 ?_
        refine k_i2l dX6_heightAt_85 (inI_mk (by omega) (by omega)) ?_
        refine k_lmul dX6_heightAt_86 ?_
        have hav := arch_pos (r := r) (p := p) (v := ((2 * (((t : Int) + o).tmod p)) - p)) hr0 (by omega) (by omega) (by omega)
        have hrp : r * (p * p) ≤ 5000 * 400000000 := Int.mul_le_mul hr1 hpp.2 (by omega) (by omega)
        refine k_ldiv dX6_heightAt_87 (inL_mk (by omega) (by omega)) (inL_mk (by omega) (by omega)) (by omega) ?_
        refine k_lstore [(6, .long (lI ((((4 * r) * ((2 * (((t : Int) + o).tmod p)) - p)) * (p - ((2 * (((t : Int) + o).tmod p)) - p))).tdiv (p * p)))), (4, .long (lI ((2 * (((t : Int) + o).tmod p)) - p))), (3, .int (iI 0)), (2, .int (iI (2 * (((t : Int) + o).tmod p)))), (0, .ref w), (1, .int (iI (t : Int)))] dX6_heightAt_88 (by decide) rfl ?_
        refine k_iload_n 2 3 dX6_heightAt_90 rfl rfl ?_
        refine k_if_eq 99 dX6_heightAt_91 (by decide) (inI_mk (by omega) (by omega)) (fun h91 => ?_) (fun h91 => ?_)
        · refine k_lload 0 dX6_heightAt_99 rfl ?_
          refine k_lneg dX6_heightAt_101 ?_
          refine k_l2i dX6_heightAt_102 ?_
          exact k_iret dX6_heightAt_103 rfl (Nat.le_of_ble_eq_true rfl) (Nat.le_of_ble_eq_true rfl) (k_oki (by unfold wvH; rw [if_neg (by omega)]))
        · omega
      · omega
    · refine k_iconst dX6_heightAt_31 ?_
      refine k_goto 36 dX6_heightAt_32 (by decide) ?_
      refine k_istore_n 3 [(3, .int (iI 1)), (2, .int (iI (2 * (((t : Int) + o).tmod p)))), (0, .ref w), (1, .int (iI (t : Int)))] dX6_heightAt_36 rfl (by decide) rfl ?_
      refine k_iload_n 0 3 dX6_heightAt_37 rfl rfl ?_
      refine k_if_eq 46 dX6_heightAt_38 (by decide) (inI_mk (by omega) (by omega)) (fun h38 => ?_) (fun h38 => ?_)
      · omega
      · refine k_iload_n 1 2 dX6_heightAt_41 rfl rfl ?_
        refine k_i2l dX6_heightAt_42 (inI_mk (by omega) (by omega)) ?_
        refine k_goto 53 dX6_heightAt_43 (by decide) ?_
        refine k_lstore [(4, .long (lI (2 * (((t : Int) + o).tmod p)))), (3, .int (iI 1)), (2, .int (iI (2 * (((t : Int) + o).tmod p)))), (0, .ref w), (1, .int (iI (t : Int)))] dX6_heightAt_53 (by decide) rfl ?_
        refine k_ldc2 4 q_233 (by decide) dX6_heightAt_55 ?_
        refine k_aload_n 3 0 dX6_heightAt_58 rfl rfl ?_
        refine k_get 0 i_X6 q_553 cw rfl (by decide) rfl dX6_heightAt_59 ?_
        refine k_i2l dX6_heightAt_62 (inI_mk (by omega) (by omega)) ?_
        refine k_lmul dX6_heightAt_63 ?_
        refine k_lload 0 dX6_heightAt_64 rfl ?_
        refine k_lmul dX6_heightAt_66 ?_
        refine k_aload_n 3 0 dX6_heightAt_67 rfl rfl ?_
        refine k_get 1 i_X6 q_554 cw rfl (by decide) rfl dX6_heightAt_68 ?_
        refine k_i2l dX6_heightAt_71 (inI_mk (by omega) (by omega)) ?_
        refine k_lload 0 dX6_heightAt_72 rfl ?_
        refine k_lsub dX6_heightAt_74 ?_
        refine k_lmul dX6_heightAt_75 ?_
        refine k_aload_n 3 0 dX6_heightAt_76 rfl rfl ?_
        refine k_get 1 i_X6 q_554 cw rfl (by decide) rfl dX6_heightAt_77 ?_
        refine k_i2l dX6_heightAt_80 (inI_mk (by omega) (by omega)) ?_
        refine k_aload_n 3 0 dX6_heightAt_81 rfl rfl ?_
        refine k_get 1 i_X6 q_554 cw rfl (by decide) rfl dX6_heightAt_82 ?_
        refine k_i2l dX6_heightAt_85 (inI_mk (by omega) (by omega)) ?_
        refine k_lmul dX6_heightAt_86 ?_
        have hav := arch_pos (r := r) (p := p) (v := (2 * (((t : Int) + o).tmod p))) hr0 (by omega) (by omega) (by omega)
        have hrp : r * (p * p) ≤ 5000 * 400000000 := Int.mul_le_mul hr1 hpp.2 (by omega) (by omega)
        refine k_ldiv dX6_heightAt_87 (inL_mk (by omega) (by omega)) (inL_mk (by omega) (by omega)) (by omega) ?_
        refine k_lstore [(6, .long (lI ((((4 * r) * (2 * (((t : Int) + o).tmod p))) * (p - (2 * (((t : Int) + o).tmod p)))).tdiv (p * p)))), (4, .long (lI (2 * (((t : Int) + o).tmod p)))), (3, .int (iI 1)), (2, .int (iI (2 * (((t : Int) + o).tmod p)))), (0, .ref w), (1, .int (iI (t : Int)))] dX6_heightAt_88 (by decide) rfl ?_
        refine k_iload_n 2 3 dX6_heightAt_90 rfl rfl ?_
        refine k_if_eq 99 dX6_heightAt_91 (by decide) (inI_mk (by omega) (by omega)) (fun h91 => ?_) (fun h91 => ?_)
        · omega
        · refine k_lload 0 dX6_heightAt_94 rfl ?_
          refine k_goto 102 dX6_heightAt_96 (by decide) ?_
          refine k_l2i dX6_heightAt_102 ?_
          exact k_iret dX6_heightAt_103 rfl (Nat.le_of_ble_eq_true rfl) (Nat.le_of_ble_eq_true rfl) (k_oki (by unfold wvH; rw [if_pos (by omega)]))
  · omega
set_option maxHeartbeats 4000000 in
set_option maxRecDepth 100000 in
theorem c_X5_heightAt (la : Launch) (κ : Kx) {L : List Nat} {f : Nat → wE} {td t : Nat} {τ : Td}  (hTd : TideR κ L f td τ) (hok : TdOk τ) (ht : t < 4320) : k_M la κ yX5_heightAt cX5_heightAt 4 (some .int) 4 0 0 [.ref td, .int (iI (t : Int))] L f (k_ro L f (.int (iI (hT τ t)))) := by
  refine k_head RX5 [(0, .ref td), (1, .int (iI (t : Int)))] rfl (by decide) (Nat.le_of_ble_eq_true rfl) rfl (fun θ hθ hin => ?_)
  obtain ⟨wl, wv, ctd, hL, hW, hinj⟩ := hTd
  obtain ⟨md1, E1, cwl⟩ := hL.cl
  have hn8 := hok.2.1
  refine k_aload_n 0 0 dX5_heightAt_0 rfl rfl ?_
  refine k_get 1 i_X5 q_78 ctd rfl (by decide) rfl dX5_heightAt_1 ?_
  refine k_istore_n 2 [(2, .int (iI τ.1)), (0, .ref td), (1, .int (iI (t : Int)))] dX5_heightAt_4 rfl (by decide) rfl ?_
  refine k_iconst dX5_heightAt_5 ?_
  refine k_istore_n 3 [(3, .int (iI 0)), (2, .int (iI τ.1)), (0, .ref td), (1, .int (iI (t : Int)))] dX5_heightAt_6 rfl (by decide) rfl ?_
  have lp7 : ∀ (fuel : Nat) (i : Nat), (i ≤ τ.2.1) → τ.2.1 - i < fuel → k_G θ κ cX5_heightAt 4 (some .int) RX5 (k_rm 4 0 0) (k_MQ θ κ (k_ro L f (.int (iI (hT τ t)))) 0 0) L f 0 0 7 [(0, .ref td), (1, .int (iI (t : Int))), (2, .int (iI (htw τ (t : Int) i))), (3, .int (iI (i : Int)))] [] := by
    intro fuel
    induction fuel with
    | zero =>
      intro i hi hfu
      exact absurd hfu (Nat.not_lt_zero _)
    | succ fuel ih7 =>
      intro i hi hfu
      refine k_iload_n 3 3 dX5_heightAt_7 rfl rfl ?_
      refine k_aload_n 0 0 dX5_heightAt_8 rfl rfl ?_
      refine k_get 0 i_X5 q_76 ctd rfl (by decide) rfl dX5_heightAt_9 ?_
      refine k_useR (k_runV (c_Jx4a65c_size_8abf5 θ.2.1 κ (n := τ.2.1) (l := wl) hL) w_X5_20 ⟨q_211, q_212⟩ rfl rfl cwl rfl ⟨(Nat.le_of_ble_eq_true rfl), (Nat.le_of_ble_eq_true rfl)⟩ (Nat.le_of_ble_eq_true rfl) dX5_heightAt_12) ⟨(Nat.le_of_ble_eq_true rfl), (Nat.le_of_ble_eq_true rfl)⟩ ?_
      refine k_icmp_ge 42 dX5_heightAt_15 (by decide) (inI_mk (by omega) (by omega)) (inI_mk (by omega) (by omega)) (fun h15 => ?_) (fun h15 => ?_)
      · refine k_iload_n 2 2 dX5_heightAt_42 rfl rfl ?_
        exact k_iret dX5_heightAt_43 rfl (Nat.le_of_ble_eq_true rfl) (Nat.le_of_ble_eq_true rfl) (k_oki (by rw [show i = τ.2.1 by omega, hT]))
      · have cw := hW i (by omega)
        refine k_iload_n 2 2 dX5_heightAt_18 rfl rfl ?_
        refine k_aload_n 0 0 dX5_heightAt_19 rfl rfl ?_
        refine k_get 0 i_X5 q_76 ctd rfl (by decide) rfl dX5_heightAt_20 ?_
        refine k_iload_n 3 3 dX5_heightAt_23 rfl rfl ?_
        refine k_useR (k_runV (c_Jx4a65c_get_915e3 θ.2.1 κ (n := τ.2.1) (g := wv) (l := wl) (i := i) hL (by omega)) w_X5_24 ⟨q_215, q_216⟩ rfl rfl cwl rfl ⟨(Nat.le_of_ble_eq_true rfl), (Nat.le_of_ble_eq_true rfl)⟩ (Nat.le_of_ble_eq_true rfl) dX5_heightAt_24) ⟨(Nat.le_of_ble_eq_true rfl), (Nat.le_of_ble_eq_true rfl)⟩ ?_
        refine k_castS q_228 cw rfl dX5_heightAt_27 ?_
        refine k_iload_n 1 1 dX5_heightAt_30 rfl rfl ?_
        refine k_useR (k_runV (c_X6_heightAt θ.2.1 κ (r := (τ.2.2.1 i)) (p := (τ.2.2.2.1 i)) (o := (τ.2.2.2.2 i)) (w := (wv i)) (t := t) cw (hok.2.2 i (by omega)) ht) w_X5_30 ⟨q_230, q_231⟩ rfl rfl cw rfl ⟨(Nat.le_of_ble_eq_true rfl), (Nat.le_of_ble_eq_true rfl)⟩ (Nat.le_of_ble_eq_true rfl) dX5_heightAt_31) ⟨(Nat.le_of_ble_eq_true rfl), (Nat.le_of_ble_eq_true rfl)⟩ ?_
        refine k_iadd dX5_heightAt_34 ?_
        refine k_istore_n 2 [(2, .int (iI ((htw τ (t : Int) i) + wvH (τ.2.2.1 i) (τ.2.2.2.1 i) (τ.2.2.2.2 i) (t : Int)))), (0, .ref td), (1, .int (iI (t : Int))), (3, .int (iI (i : Int)))] dX5_heightAt_35 rfl (by decide) rfl ?_
        refine k_iinc 3 [(3, .int (iI ((i : Int) + 1))), (2, .int (iI ((htw τ (t : Int) i) + wvH (τ.2.2.1 i) (τ.2.2.2.1 i) (τ.2.2.2.2 i) (t : Int)))), (0, .ref td), (1, .int (iI (t : Int)))] dX5_heightAt_36 rfl (by decide) rfl ?_
        refine k_goto 7 dX5_heightAt_39 (by decide) ?_
        refine k_perm [2, 3, 1, 0] [(0, .ref td), (1, .int (iI (t : Int))), (2, .int (iI ((htw τ (t : Int) i) + wvH (τ.2.2.1 i) (τ.2.2.2.1 i) (τ.2.2.2.2 i) (t : Int)))), (3, .int (iI ((i : Int) + 1)))] rfl ?_
        exact ih7 (i + 1) (by omega) (by omega)
  refine k_perm [2, 3, 1, 0] [(0, .ref td), (1, .int (iI (t : Int))), (2, .int (iI τ.1)), (3, .int (iI 0))] rfl ?_
  exact lp7 _ 0 (Nat.zero_le _) (Nat.lt_succ_self _)
