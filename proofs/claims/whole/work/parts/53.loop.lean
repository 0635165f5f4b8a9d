/-! ===== the law: its loop ===== -/
set_option maxHeartbeats 4000000 in
set_option maxRecDepth 100000 in
/-- the law's loop: at most j rounds more -/
theorem law_loop {θ : Kt} {κ : Kx} {Q : State → Prop} {b N tt mm ou : Nat} {xs : Nat → Int32} (hE : LwE θ κ b N xs) (hend : ∀ (L : List Nat) (f : Nat → wE) (k n : Nat) (lv : List (Nat × Value)), k ≤ 601024 → n ≤ 7293034 → k_G θ κ cL_law 9 (some .boolean) RL room_1 Q L f k n 1469 lv []) :
    ∀ (j i : Nat) (L : List Nat) (f : Nat → wE) (k n : Nat) (σ : Sg) (thr g : Int), N ≤ i + 6 * j + 5 → i ≤ 4000 → k + 4 * j ≤ 601024 → n + 70 * j ≤ 7293034 → SgOk σ → CS κ L f tt σ → MS κ L f mm thr σ → OutR κ L f ou g → k_G θ κ cL_law 9 (some .boolean) RL room_1 Q L f k n 23 [(4, .int (iI (i : Int))), (3, .ref ou), (2, .ref mm), (1, .ref tt), (0, .ref b)] [] := by
  intro j
  have hE2 := hE
  obtain ⟨hts, hnc, hX, hb, hkb, hN⟩ := hE2
  induction j with
  | zero =>
    intro i L f k n σ thr g hi hi2 hk hn hs hC hM hO
    refine k_iload 0 dL_law_23 rfl ?_
    refine k_aload_n 4 0 dL_law_25 rfl rfl ?_
    refine k_slen hX hb hkb dL_law_26 ?_
    refine k_bipush dL_law_27 (by decide) ?_
    refine k_isub dL_law_29 ?_
    refine k_icmp_gt 1469 dL_law_30 (by decide) (inI_mk (by omega) (by omega)) (inI_mk (by omega) (by omega)) (fun _ => hend _ _ _ _ _ (by omega) (by omega)) (fun h => absurd h (by omega))
  | succ j ih =>
    intro i L f k n σ thr g hi hi2 hk hn hs hC hM hO
    refine k_iload 0 dL_law_23 rfl ?_
    refine k_aload_n 4 0 dL_law_25 rfl rfl ?_
    refine k_slen hX hb hkb dL_law_26 ?_
    refine k_bipush dL_law_27 (by decide) ?_
    refine k_isub dL_law_29 ?_
    refine k_icmp_gt 1469 dL_law_30 (by decide) (inI_mk (by omega) (by omega)) (inI_mk (by omega) (by omega)) (fun _ => hend _ _ _ _ _ (by omega) (by omega)) (fun h => ?_)
    have hi6 : i + 6 ≤ N := by omega
    have cont : LCont θ κ Q b tt mm ou i k n := by
      intro σ1 thr1 g1 L1 f1 k1 n1 hs1 hC1 hM1 hO1 hk1 hn1
      refine k_iinc 0 [(4, .int (iI ((i : Int) + 6))), (3, .ref ou), (2, .ref mm), (1, .ref tt), (0, .ref b)] dL_law_1463 rfl (by decide) rfl ?_
      refine k_goto 23 dL_law_1466 (by decide) ?_
      have h9 := ih (i + 6) L1 f1 k1 n1 σ1 thr1 g1 (by omega) (by omega) (by omega) (by omega) hs1 hC1 hM1 hO1
      rw [show (((i + 6 : Nat)) : Int) = (i : Int) + 6 by omega] at h9
      exact h9
    refine k_aload_n 4 0 dL_law_33 rfl rfl ?_
    refine k_iload 0 dL_law_34 rfl ?_
    refine k_sld i hX hb hkb rfl (by omega) (by omega) dL_law_36 ?_
    refine k_bipush dL_law_37 (by decide) ?_
    refine k_iandR dL_law_39 ?_
    generalize (iI (xs i).toInt &&& iI 31) = w
    have hkn : k + 4 ≤ 601024 ∧ n + 70 ≤ 7293034 := ⟨by omega, by omega⟩
    rcases (by omega : w.toInt = 0 ∨ w.toInt = 1 ∨ w.toInt = 2 ∨ w.toInt = 3 ∨ w.toInt = 4 ∨ w.toInt = 5 ∨ w.toInt = 6 ∨ w.toInt = 7 ∨ w.toInt = 8 ∨ w.toInt = 9 ∨ w.toInt = 10 ∨ w.toInt = 11 ∨ w.toInt = 12 ∨ w.toInt = 13 ∨ w.toInt = 14 ∨ w.toInt = 15 ∨ w.toInt = 16 ∨ w.toInt = 17 ∨ w.toInt = 18 ∨ w.toInt = 19 ∨ w.toInt = 20 ∨ (w.toInt < 0 ∨ 20 < w.toInt)) with h40 | h40 | h40 | h40 | h40 | h40 | h40 | h40 | h40 | h40 | h40 | h40 | h40 | h40 | h40 | h40 | h40 | h40 | h40 | h40 | h40 | h40
    · refine k_swIn 0 140 dL_law_40 (inI_of w) h40 (by decide) (by decide) rfl (by decide) ?_
      exact law_case0 hE hs hC hM hO hi6 hkn cont
    · refine k_swIn 1 220 dL_law_40 (inI_of w) h40 (by decide) (by decide) rfl (by decide) ?_
      exact law_case1 hE hs hC hM hO hi6 hkn cont
    · refine k_swIn 2 288 dL_law_40 (inI_of w) h40 (by decide) (by decide) rfl (by decide) ?_
      exact law_case2 hE hs hC hM hO hi6 hkn cont
    · refine k_swIn 3 344 dL_law_40 (inI_of w) h40 (by decide) (by decide) rfl (by decide) ?_
      exact law_case3 hE hs hC hM hO hi6 hkn cont
    · refine k_swIn 4 400 dL_law_40 (inI_of w) h40 (by decide) (by decide) rfl (by decide) ?_
      exact law_case4 hE hs hC hM hO hi6 hkn cont
    · refine k_swIn 5 468 dL_law_40 (inI_of w) h40 (by decide) (by decide) rfl (by decide) ?_
      exact law_case5 hE hs hC hM hO hi6 hkn cont
    · refine k_swIn 6 524 dL_law_40 (inI_of w) h40 (by decide) (by decide) rfl (by decide) ?_
      exact law_case6 hE hs hC hM hO hi6 hkn cont
    · refine k_swIn 7 592 dL_law_40 (inI_of w) h40 (by decide) (by decide) rfl (by decide) ?_
      exact law_case7 hE hs hC hM hO hi6 hkn cont
    · refine k_swIn 8 676 dL_law_40 (inI_of w) h40 (by decide) (by decide) rfl (by decide) ?_
      exact law_case8 hE hs hC hM hO hi6 hkn cont
    · refine k_swIn 9 732 dL_law_40 (inI_of w) h40 (by decide) (by decide) rfl (by decide) ?_
      exact law_case9 hE hs hC hM hO hi6 hkn cont
    · refine k_swIn 10 776 dL_law_40 (inI_of w) h40 (by decide) (by decide) rfl (by decide) ?_
      exact law_case10 hE hs hC hM hO hi6 hkn cont
    · refine k_swIn 11 884 dL_law_40 (inI_of w) h40 (by decide) (by decide) rfl (by decide) ?_
      exact law_case11 hE hs hC hM hO hi6 hkn cont
    · refine k_swIn 12 952 dL_law_40 (inI_of w) h40 (by decide) (by decide) rfl (by decide) ?_
      exact law_case12 hE hs hC hM hO hi6 hkn cont
    · refine k_swIn 13 1015 dL_law_40 (inI_of w) h40 (by decide) (by decide) rfl (by decide) ?_
      exact law_case13 hE hs hC hM hO hi6 hkn cont
    · refine k_swIn 14 1111 dL_law_40 (inI_of w) h40 (by decide) (by decide) rfl (by decide) ?_
      exact law_case14 hE hs hC hM hO hi6 hkn cont
    · refine k_swIn 15 1179 dL_law_40 (inI_of w) h40 (by decide) (by decide) rfl (by decide) ?_
      exact law_case15 hE hs hC hM hO hi6 hkn cont
    · refine k_swIn 16 1283 dL_law_40 (inI_of w) h40 (by decide) (by decide) rfl (by decide) ?_
      exact law_case16 hE hs hC hM hO hi6 hkn cont
    · refine k_swIn 17 1351 dL_law_40 (inI_of w) h40 (by decide) (by decide) rfl (by decide) ?_
      exact law_case17 hE hs hC hM hO hi6 hkn cont
    · refine k_swIn 18 1392 dL_law_40 (inI_of w) h40 (by decide) (by decide) rfl (by decide) ?_
      exact law_case18 hE hs hC hM hO hi6 hkn cont
    · refine k_swIn 19 1405 dL_law_40 (inI_of w) h40 (by decide) (by decide) rfl (by decide) ?_
      exact law_case19 hE hs hC hM hO hi6 hkn cont
    · refine k_swIn 20 1449 dL_law_40 (inI_of w) h40 (by decide) (by decide) rfl (by decide) ?_
      exact law_case20 hE hs hC hM hO hi6 hkn cont
    · refine k_swOut 1463 dL_law_40 (inI_of w) h40 (by decide) ?_
      exact cont σ thr g L f k n hs hC hM hO (by omega) (by omega)
