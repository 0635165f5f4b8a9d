/-! ===== the law's own method: its end ===== -/
/-- how the law ends: with true -/
def LEnd (θ : Kt) (κ : Kx) (Q : State → Prop) : Prop := ∀ (L : List Nat) (f : Nat → wE) (k n : Nat) (lv : List (Nat × Value)), k ≤ 600086 → n ≤ 7301442 → k_G θ κ cL_law 16 (some .boolean) RL room_1 Q L f k n 641 lv []
theorem cmpI_mulin (a b c d : Int) : inI (cmpI a b * cmpI c d) := by
  have := cmpI_mul a b c d
  exact inI_mk (by omega) (by omega)
set_option maxHeartbeats 4000000 in
set_option maxRecDepth 100000 in
theorem law_609 {θ : Kt} {κ : Kx} {Q : State → Prop} {tt : Nat} {σ : Sg} (hts : θ.2.1.stackTraces = false) (hs : SgOk σ) (hend : LEnd θ κ Q) {L : List Nat} {f : Nat → wE} {k n : Nat} (hk : k ≤ 400000) (hn : n ≤ 6 * k + 30000) (hC : CS κ L f tt σ) : k_G θ κ cL_law 16 (some .boolean) RL room_1 Q L f k n 609 [(1, .ref tt)] [] := by
  have hd0 := datum_bd (fun t => hT_bd hs.1 t) 0
  have hd1 := datum_bd (fun t => hT_bd hs.1 t) 1
  have hd4 := datum_bd (fun t => hT_bd hs.1 t) 4
  have hd01 := dat_01 (hT σ.1)
  have hd40 := dat_4 (hT σ.1)
  refine k_aload_n 0 1 dL_law_609 rfl rfl ?_
  refine k_iconst dL_law_610 ?_
  refine a_datum 0 hts hs hC (by omega) (by omega) (by omega) (Nat.le_of_ble_eq_true rfl) dL_law_611 (fun L1 f1 hC => ?_)
  refine k_aload_n 0 1 dL_law_614 rfl rfl ?_
  refine k_iconst dL_law_615 ?_
  refine a_datum 1 hts hs hC (by omega) (by omega) (by omega) (Nat.le_of_ble_eq_true rfl) dL_law_616 (fun L2 f2 hC => ?_)
  refine k_icmp_lt 645 dL_law_619 (by decide) (inI_mk (by omega) (by omega)) (inI_mk (by omega) (by omega)) (fun h619 => ?_) (fun h619 => ?_)
  · omega
  · refine k_aload_n 0 1 dL_law_622 rfl rfl ?_
    refine k_iconst dL_law_623 ?_
    refine a_datum 4 hts hs hC (by omega) (by omega) (by omega) (Nat.le_of_ble_eq_true rfl) dL_law_624 (fun L3 f3 hC => ?_)
    refine k_aload_n 0 1 dL_law_627 rfl rfl ?_
    refine k_iconst dL_law_628 ?_
    refine a_datum 0 hts hs hC (by omega) (by omega) (by omega) (Nat.le_of_ble_eq_true rfl) dL_law_629 (fun L4 f4 hC => ?_)
    refine k_aload_n 0 1 dL_law_632 rfl rfl ?_
    refine k_iconst dL_law_633 ?_
    refine a_datum 1 hts hs hC (by omega) (by omega) (by omega) (Nat.le_of_ble_eq_true rfl) dL_law_634 (fun L5 f5 hC => ?_)
    refine k_isub dL_law_637 ?_
    refine k_icmp_gt 645 dL_law_638 (by decide) (inI_mk (by omega) (by omega)) (inI_mk (by omega) (by omega)) (fun h638 => ?_) (fun h638 => ?_)
    · omega
    · exact hend _ _ _ _ _ (by omega) (by omega)
set_option maxHeartbeats 4000000 in
set_option maxRecDepth 100000 in
theorem law_571 {θ : Kt} {κ : Kx} {Q : State → Prop} {tt : Nat} {σ : Sg} (hts : θ.2.1.stackTraces = false) (hs : SgOk σ) (hend : LEnd θ κ Q) : ∀ (j m : Nat) (L : List Nat) (f : Nat → wE) (k n : Nat), fstW (hT σ.1) + 1 ≤ m + j → 1 ≤ m → m ≤ fstW (hT σ.1) + 1 → k + 2 * j ≤ 400000 → n ≤ 6 * k + 30000 → CS κ L f tt σ → k_G θ κ cL_law 16 (some .boolean) RL room_1 Q L f k n 571 [(8, .int (iI (m : Int))), (7, .int (iI (cmpI (hT σ.1 (fstW (hT σ.1))) (hT σ.1 0)))), (6, .int (iI (fstW (hT σ.1) : Int))), (1, .ref tt)] [] := by
  intro j
  have hfl := fstW_lt (hT σ.1)
  induction j with
  | zero =>
    intro m L f k n h1 h2 h3 hk hn hC
    have hbm := hT_bd hs.1 m
    have hbm1 := hT_bd hs.1 (m - 1)
    refine k_iload 0 dL_law_571 rfl ?_
    refine k_iload 2 dL_law_573 rfl ?_
    refine k_icmp_gt 609 dL_law_575 (by decide) (inI_mk (by omega) (by omega)) (inI_mk (by omega) (by omega)) (fun h575 => ?_) (fun h575 => ?_)
    · refine k_perm [3] [(1, .ref tt)] rfl ?_
      exact law_609 hts hs hend (by omega) (by omega) hC
    · omega
  | succ j ih =>
    intro m L f k n h1 h2 h3 hk hn hC
    have hbm := hT_bd hs.1 m
    have hbm1 := hT_bd hs.1 (m - 1)
    refine k_iload 0 dL_law_571 rfl ?_
    refine k_iload 2 dL_law_573 rfl ?_
    refine k_icmp_gt 609 dL_law_575 (by decide) (inI_mk (by omega) (by omega)) (inI_mk (by omega) (by omega)) (fun h575 => ?_) (fun h575 => ?_)
    · refine k_perm [3] [(1, .ref tt)] rfl ?_
      exact law_609 hts hs hend (by omega) (by omega) hC
    · refine k_aload_n 3 1 dL_law_578 rfl rfl ?_
      refine k_iload 0 dL_law_579 rfl ?_
      refine a_height m hts hs hC (by omega) (by omega) (by omega) (by omega) (Nat.le_of_ble_eq_true rfl) dL_law_581 (fun L6 f6 hC => ?_)
      refine k_aload_n 3 1 dL_law_584 rfl rfl ?_
      refine k_iload 0 dL_law_585 rfl ?_
      refine k_iconst dL_law_587 ?_
      refine k_isub dL_law_588 ?_
      refine a_height (m - 1) hts hs hC (by omega) (by omega) (by omega) (by omega) (Nat.le_of_ble_eq_true rfl) dL_law_589 (fun L7 f7 hC => ?_)
      refine k_useR (k_runS (c_J6_compare_7cf53 θ.2.1 κ (x := (hT σ.1 m)) (y := (hT σ.1 (m - 1))) (inI_mk (by omega) (by omega)) (inI_mk (by omega) (by omega))) w_L_90 q_564 rfl rfl ⟨(Nat.le_of_ble_eq_true rfl), (Nat.le_of_ble_eq_true rfl)⟩ (Nat.le_of_ble_eq_true rfl) dL_law_592) ⟨(by show _ ≤ 600086; omega), (by show _ ≤ 7301442; omega)⟩ ?_
      refine k_iload 1 dL_law_595 rfl ?_
      refine k_imul dL_law_597 ?_
      refine k_if_ge 603 dL_law_598 (by decide) (cmpI_mulin _ _ _ _) (fun h598 => ?_) (fun h598 => ?_)
      · refine k_iinc 0 [(8, .int (iI ((m : Int) + 1))), (7, .int (iI (cmpI (hT σ.1 (fstW (hT σ.1))) (hT σ.1 0)))), (6, .int (iI (fstW (hT σ.1) : Int))), (1, .ref tt)] dL_law_603 rfl (by decide) rfl ?_
        refine k_goto 571 dL_law_606 (by decide) ?_
        exact ih (m + 1) _ _ _ _ (by omega) (by omega) (by omega) (by omega) (by omega) hC
      · exact absurd (head_sgn (h := hT σ.1) h2 (by omega)) (Int.not_le.mpr h598)
set_option maxHeartbeats 4000000 in
set_option maxRecDepth 100000 in
theorem law_550 {θ : Kt} {κ : Kx} {Q : State → Prop} {tt : Nat} {σ : Sg} (hts : θ.2.1.stackTraces = false) (hs : SgOk σ) (hend : LEnd θ κ Q) {L : List Nat} {f : Nat → wE} {k n : Nat} (hk : k ≤ 300000) (hn : n ≤ 6 * k + 30000) (hC : CS κ L f tt σ) : k_G θ κ cL_law 16 (some .boolean) RL room_1 Q L f k n 550 [(1, .ref tt)] [.int (iI (fstW (hT σ.1) : Int))] := by
  have hfl := fstW_lt (hT σ.1)
  have hb0 := hT_bd hs.1 0
  have hbf := hT_bd hs.1 (fstW (hT σ.1))
  refine k_istore [(6, .int (iI (fstW (hT σ.1) : Int))), (1, .ref tt)] dL_law_550 (by decide) rfl ?_
  refine k_aload_n 1 1 dL_law_552 rfl rfl ?_
  refine k_iload 0 dL_law_553 rfl ?_
  refine a_height (fstW (hT σ.1)) hts hs hC (by omega) (by omega) (by omega) (by omega) (Nat.le_of_ble_eq_true rfl) dL_law_555 (fun L8 f8 hC => ?_)
  refine k_aload_n 1 1 dL_law_558 rfl rfl ?_
  refine k_iconst dL_law_559 ?_
  refine a_height 0 hts hs hC (by omega) (by omega) (by omega) (by omega) (Nat.le_of_ble_eq_true rfl) dL_law_560 (fun L9 f9 hC => ?_)
  refine k_useR (k_runS (c_J6_compare_7cf53 θ.2.1 κ (x := (hT σ.1 (fstW (hT σ.1)))) (y := (hT σ.1 0)) (inI_mk (by omega) (by omega)) (inI_mk (by omega) (by omega))) w_L_90 q_564 rfl rfl ⟨(Nat.le_of_ble_eq_true rfl), (Nat.le_of_ble_eq_true rfl)⟩ (Nat.le_of_ble_eq_true rfl) dL_law_563) ⟨(by show _ ≤ 600086; omega), (by show _ ≤ 7301442; omega)⟩ ?_
  refine k_istore [(7, .int (iI (cmpI (hT σ.1 (fstW (hT σ.1))) (hT σ.1 0)))), (6, .int (iI (fstW (hT σ.1) : Int))), (1, .ref tt)] dL_law_566 (by decide) rfl ?_
  refine k_iconst dL_law_568 ?_
  refine k_istore [(8, .int (iI 1)), (7, .int (iI (cmpI (hT σ.1 (fstW (hT σ.1))) (hT σ.1 0)))), (6, .int (iI (fstW (hT σ.1) : Int))), (1, .ref tt)] dL_law_569 (by decide) rfl ?_
  exact law_571 hts hs hend (fstW (hT σ.1)) 1 _ _ _ _ (by omega) (by omega) (by omega) (by omega) (by omega) hC
set_option maxHeartbeats 4000000 in
set_option maxRecDepth 100000 in
theorem law_533 {θ : Kt} {κ : Kx} {Q : State → Prop} {tt : Nat} {σ : Sg} (hts : θ.2.1.stackTraces = false) (hs : SgOk σ) (hend : LEnd θ κ Q) {L : List Nat} {f : Nat → wE} {k n : Nat} {w : Nat} (hk : k ≤ 290000) (hn : n ≤ 6 * k + 30000) (hC : CS κ L f tt σ) : k_G θ κ cL_law 16 (some .boolean) RL room_1 Q L f k n 533 [(6, .int (iI (w : Int))), (5, .int (iI (nW (hT σ.1) : Int))), (3, .int (iI 0)), (1, .ref tt)] [] := by
  have hnn := nW_le (hT σ.1)
  refine k_iload 1 dL_law_533 rfl ?_
  refine k_if_ne 544 dL_law_535 (by decide) (inI_mk (by omega) (by omega)) (fun h535 => ?_) (fun h535 => ?_)
  · refine k_aload_n 3 1 dL_law_544 rfl rfl ?_
    refine k_iconst dL_law_545 ?_
    refine k_iconst dL_law_546 ?_
    refine a_water0 0 hts hs hC (by omega) (by omega) (by omega) (by omega) (Nat.le_of_ble_eq_true rfl) dL_law_547 (fun L10 f10 hC => ?_)
    refine k_topi (fstW (hT σ.1) : Int) (by unfold fstW; rw [if_neg (by omega)]) ?_
    refine k_perm [3] [(1, .ref tt)] rfl ?_
    exact law_550 hts hs hend (by omega) (by omega) hC
  · refine k_sipush dL_law_538 (by decide) ?_
    refine k_goto 550 dL_law_541 (by decide) ?_
    refine k_topi (fstW (hT σ.1) : Int) (by unfold fstW; rw [if_pos (by omega)]; rfl) ?_
    refine k_perm [3] [(1, .ref tt)] rfl ?_
    exact law_550 hts hs hend (by omega) (by omega) hC
