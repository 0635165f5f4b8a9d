set_option maxHeartbeats 4000000 in
set_option maxRecDepth 100000 in
theorem c_X7_isWithin (l : Launch) (κ : Kx) {L : List Nat} {f : Nat → wE} {z a b : Int}   (hz : inI z) (ha : inI a) (hb : inI b) : k_M l κ yX7_isWithin cX7_isWithin 3 (some .boolean) 1 0 0 [.int (iI z), .int (iI a), .int (iI b)] L f (k_ro L f (.int (iI (bI (decide (a ≤ z ∧ z ≤ b)))))) := by
  refine k_head RX7 [(0, .int (iI z)), (1, .int (iI a)), (2, .int (iI b))] rfl (by decide) (Nat.le_of_ble_eq_true rfl) rfl (fun θ hθ hin => ?_)
  refine k_iload_n 0 0 dX7_isWithin_0 rfl rfl ?_
  refine k_iload_n 1 1 dX7_isWithin_1 rfl rfl ?_
  refine k_icmp_lt 14 dX7_isWithin_2 (by decide) hz ha (fun h2 => ?_) (fun h2 => ?_)
  · refine k_iconst dX7_isWithin_14 ?_
    exact k_zret (b := false) dX7_isWithin_15 rfl (Nat.le_of_ble_eq_true rfl) (Nat.le_of_ble_eq_true rfl) (k_okb ((decide_eq_false (by omega)).symm))
  · refine k_iload_n 0 0 dX7_isWithin_5 rfl rfl ?_
    refine k_iload_n 2 2 dX7_isWithin_6 rfl rfl ?_
    refine k_icmp_gt 14 dX7_isWithin_7 (by decide) hz hb (fun h7 => ?_) (fun h7 => ?_)
    · refine k_iconst dX7_isWithin_14 ?_
      exact k_zret (b := false) dX7_isWithin_15 rfl (Nat.le_of_ble_eq_true rfl) (Nat.le_of_ble_eq_true rfl) (k_okb ((decide_eq_false (by omega)).symm))
    · refine k_iconst dX7_isWithin_10 ?_
      refine k_goto 15 dX7_isWithin_11 (by decide) ?_
      exact k_zret (b := true) dX7_isWithin_15 rfl (Nat.le_of_ble_eq_true rfl) (Nat.le_of_ble_eq_true rfl) (k_okb ((decide_eq_true (by omega)).symm))
