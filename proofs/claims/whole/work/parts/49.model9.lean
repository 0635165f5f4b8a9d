def TW (T : Nat → Int) (run : Int) (x : Tl) : Prop := T 0 = x.1 ∧ T 1 = x.2.1 ∧ T 2 = x.2.2.1 ∧ T 3 = x.2.2.2.1 ∧ run = x.2.2.2.2
theorem TW.yes {T G : Nat → Int} {run m : Int} {x : Tl} (h : TW T run x) (hf : -1 ≤ x.2.2.1) (e0 : G 0 = if run = 0 then T 0 + 1 else T 0) (e1 : G 1 = T 1 + 1) (e2 : G 2 = if T 2 = -1 then m else T 2) (e3 : G 3 = max (T 3) (run + 1)) : TW G (run + 1) (tlS x m true) := by
  obtain ⟨h0, h1, h2, h3, h4⟩ := h
  unfold tlS
  rw [if_pos rfl]
  refine ⟨?_, ?_, ?_, ?_, ?_⟩
  · show G 0 = if x.2.2.2.2 = 0 then x.1 + 1 else x.1
    rw [e0, h0, h4]
  · show G 1 = x.2.1 + 1
    rw [e1, h1]
  · show G 2 = if x.2.2.1 < 0 then m else x.2.2.1
    rw [e2, h2]
    split
    · rw [if_pos (by omega)]
    · rw [if_neg (by omega)]
  · show G 3 = max x.2.2.2.1 (x.2.2.2.2 + 1)
    rw [e3, h3, h4]
  · show run + 1 = x.2.2.2.2 + 1
    rw [h4]
theorem TW.no {T : Nat → Int} {run m : Int} {x : Tl} (h : TW T run x) : TW T 0 (tlS x m false) := by
  obtain ⟨h0, h1, h2, h3, h4⟩ := h
  unfold tlS
  rw [if_neg (by decide)]
  exact ⟨h0, h1, h2, h3, rfl⟩
theorem TW.ans {T : Nat → Int} {run : Int} {x : Tl} {k : Nat} (h : TW T run x) (hk : k < 4) : T k = tlA x (k : Int) := by
  obtain ⟨h0, h1, h2, h3, h4⟩ := h
  rcases (by omega : k = 0 ∨ k = 1 ∨ k = 2 ∨ k = 3) with e | e | e | e <;> subst e
  · exact h0
  · exact h1
  · exact h2
  · exact h3
set_option maxHeartbeats 4000000 in
set_option maxRecDepth 100000 in
theorem c_X8_windows (la : Launch) (κ : Kx) {L : List Nat} {f : Nat → wE} {mm : Nat} {thr : Int} {σ : Sg} {p lev fa fb what : Int}   (hM : MS κ L f mm thr σ) (hs : SgOk σ) (hp : inI p) (hlev : inI lev) (hfa : inI fa) (hfb : inI fb) (hwhat : inI what) : k_M la κ yX8_windows cX8_windows 12 (some .int) 7 1 4 [.ref mm, .int (iI p), .int (iI lev), .int (iI fa), .int (iI fb), .int (iI what)] L f (k_rn (fun v9 L' f' => ∃ v : Int, v9 = .int (iI v) ∧ k_fr SM L f L' f' ∧ ((xWindows σ p fa fb what = none ∧ v = aWindows σ p lev fa fb what ∧ MS κ L' f' mm 0 σ) ∨ (xWindows σ p fa fb what = some cIO ∧ MS κ L' f' mm 1 σ) ∨ (xWindows σ p fa fb what = some cIA ∧ MS κ L' f' mm 2 σ)))) := by
  refine k_head RX8 [(0, .ref mm), (1, .int (iI p)), (2, .int (iI lev)), (3, .int (iI fa)), (4, .int (iI fb)), (5, .int (iI what))] rfl (by decide) (Nat.le_of_ble_eq_true rfl) rfl (fun θ hθ hin => ?_)
  obtain ⟨A, fr, wts, RA, PE, OF, TA, RT, RH, HS, TI, ⟨cmm, c0, c1, c2, c3, c4, c5, c6, c7⟩, ⟨hMa, hMb, hMc, hMd⟩, hfrs⟩ := id hM
  obtain ⟨hs1, ⟨hs2, hs3⟩, hs4⟩ := id hs
  have hs5 := hs1.2.1
  have hs6 := hs4.1
  have hs7 := nW_le (hT σ.1)
  have hs8 := hs1.1
  obtain ⟨hpl, hpu⟩ := id hp
  obtain ⟨hlevl, hlevu⟩ := id hlev
  obtain ⟨hfal, hfau⟩ := id hfa
  obtain ⟨hfbl, hfbu⟩ := id hfb
  obtain ⟨hwhatl, hwhatu⟩ := id hwhat
  refine k_aload_n 0 0 dX8_windows_0 rfl rfl ?_
  refine k_iconst dX8_windows_1 ?_
  refine k_put 0 [.int (iI 0), .int (iI (σ.1.2.1 : Int)), .ref (A 0), .ref (A 1), .ref (A 2), .int (iI σ.1.1), .int (iI (σ.2.1 : Int)), .ref (A 3), .int (iI (σ.2.2.2.1 : Int)), .ref (A 4), .ref (A 5), .int (iI (bI fr)), .ref (A 6), .int (iI wts), .ref (A 7)] i_X8 tyX8_ok nmX8 q_783 cmm rfl (by decide) rfl rfl rfl rfl (Nat.le_of_ble_eq_true rfl) rfl dX8_windows_2 (fun f1 hf1 hc1 => ?_)
  have hr1 := k_fr.put hf1 cmm
  replace c0 := c0.fr hr1 rfl
  replace c1 := c1.fr hr1 rfl
  replace c2 := c2.fr hr1 rfl
  replace c3 := c3.fr hr1 rfl
  replace c4 := c4.fr hr1 rfl
  replace c5 := c5.fr hr1 rfl
  replace c6 := c6.fr hr1 rfl
  replace c7 := c7.fr hr1 rfl
  replace cmm : Cl L f1 mm (21, .inr (9, [.int (iI 0), .int (iI (σ.1.2.1 : Int)), .ref (A 0), .ref (A 1), .ref (A 2), .int (iI σ.1.1), .int (iI (σ.2.1 : Int)), .ref (A 3), .int (iI (σ.2.2.2.1 : Int)), .ref (A 4), .ref (A 5), .int (iI (bI fr)), .ref (A 6), .int (iI wts), .ref (A 7)])) := hc1
  have hM0 : MS κ L f1 mm 0 σ := ⟨A, fr, wts, RA, PE, OF, TA, RT, RH, HS, TI, ⟨cmm, c0, c1, c2, c3, c4, c5, c6, c7⟩, ⟨hMa, hMb, hMc, hMd⟩, hfrs⟩
  replace hM := hM0
  refine k_iload_n 1 1 dX8_windows_5 rfl rfl ?_
  refine k_iconst dX8_windows_6 ?_
  refine k_icmp_eq 18 dX8_windows_7 (by decide) (inI_mk (by omega) (by omega)) (inI_mk (by omega) (by omega)) (fun h7 => ?_) (fun h7 => ?_)
  · refine k_iload 5 dX8_windows_18 rfl ?_
    refine k_i2l dX8_windows_20 (inI_mk (by omega) (by omega)) ?_
    refine k_lconst 0 dX8_windows_21 (by decide) ?_
    refine k_ldc2 3 q_888 (by decide) dX8_windows_22 ?_
    refine k_useR (k_runS (c_X8_isIn θ.2.1 κ (v := what) (a := 0) (b := 3) (inL_mk (by omega) (by omega)) (inL_mk (by omega) (by omega)) (inL_mk (by omega) (by omega))) w_X8_41 q_840 rfl rfl ⟨(Nat.le_of_ble_eq_true rfl), (Nat.le_of_ble_eq_true rfl)⟩ (Nat.le_of_ble_eq_true rfl) dX8_windows_25) ⟨(Nat.le_of_ble_eq_true rfl), (Nat.le_of_ble_eq_true rfl)⟩ ?_
    refine k_ifb_ne 37 dX8_windows_28 (by decide) (fun h28 => ?_) (fun h28 => ?_)
    · have hd28 := of_decide_eq_true h28
      refine k_iload_n 3 3 dX8_windows_37 rfl rfl ?_
      refine k_if_lt 55 dX8_windows_38 (by decide) (inI_mk (by omega) (by omega)) (fun h38 => ?_) (fun h38 => ?_)
      · refine k_aload_n 0 0 dX8_windows_55 rfl rfl ?_
        refine k_iconst dX8_windows_56 ?_
        refine k_useV (k_runV (c_X8_fail θ.2.1 κ (mm := mm) (k := 2) hM) w_X8_57 ⟨q_846, q_18⟩ rfl rfl cmm rfl ⟨(Nat.le_of_ble_eq_true rfl), (Nat.le_of_ble_eq_true rfl)⟩ (Nat.le_of_ble_eq_true rfl) dX8_windows_57) ⟨(Nat.le_of_ble_eq_true rfl), (Nat.le_of_ble_eq_true rfl)⟩ (fun w9 Lx fx hw9 => ?_)
        obtain ⟨rfl, ex9, hMx, hrx⟩ := hw9
        replace ex9 := ex9.symm
        subst ex9
        exact k_iret dX8_windows_60 rfl (Nat.le_of_ble_eq_true rfl) (Nat.le_of_ble_eq_true rfl) (⟨_, rfl, _, rfl, (k_fr.trans (k_fr.mono hr1 (SM_of rfl)) hrx idf idf), Or.inr (Or.inr (⟨(by rw [xWindows, if_pos (by omega), if_pos (by omega), if_neg (by omega)]), hMx⟩))⟩)
      · refine k_iload_n 3 3 dX8_windows_41 rfl rfl ?_
        refine k_iload 4 dX8_windows_42 rfl ?_
        refine k_icmp_gt 55 dX8_windows_44 (by decide) (inI_mk (by omega) (by omega)) (inI_mk (by omega) (by omega)) (fun h44 => ?_) (fun h44 => ?_)
        · refine k_aload_n 0 0 dX8_windows_55 rfl rfl ?_
          refine k_iconst dX8_windows_56 ?_
          refine k_useV (k_runV (c_X8_fail θ.2.1 κ (mm := mm) (k := 2) hM) w_X8_57 ⟨q_846, q_18⟩ rfl rfl cmm rfl ⟨(Nat.le_of_ble_eq_true rfl), (Nat.le_of_ble_eq_true rfl)⟩ (Nat.le_of_ble_eq_true rfl) dX8_windows_57) ⟨(Nat.le_of_ble_eq_true rfl), (Nat.le_of_ble_eq_true rfl)⟩ (fun w9 Lx fx hw9 => ?_)
          obtain ⟨rfl, ex9, hMx, hrx⟩ := hw9
          replace ex9 := ex9.symm
          subst ex9
          exact k_iret dX8_windows_60 rfl (Nat.le_of_ble_eq_true rfl) (Nat.le_of_ble_eq_true rfl) (⟨_, rfl, _, rfl, (k_fr.trans (k_fr.mono hr1 (SM_of rfl)) hrx idf idf), Or.inr (Or.inr (⟨(by rw [xWindows, if_pos (by omega), if_pos (by omega), if_neg (by omega)]), hMx⟩))⟩)
        · refine k_iload 4 dX8_windows_47 rfl ?_
          refine k_sipush dX8_windows_49 (by decide) ?_
          refine k_icmp_lt 61 dX8_windows_52 (by decide) (inI_mk (by omega) (by omega)) (inI_mk (by omega) (by omega)) (fun h52 => ?_) (fun h52 => ?_)
          · obtain ⟨fan, rfl⟩ : ∃ fan : Nat, fa = (fan : Int) := ⟨fa.toNat, by omega⟩
            obtain ⟨fbn, rfl⟩ : ∃ fbn : Nat, fb = (fbn : Int) := ⟨fb.toNat, by omega⟩
            obtain ⟨wn, rfl⟩ : ∃ wn : Nat, what = (wn : Int) := ⟨what.toNat, by omega⟩
            refine k_aload_n 0 0 dX8_windows_61 rfl rfl ?_
            refine k_useU (k_runV (c_X8_find θ.2.1 κ (σ := σ) (mm := mm) hM hs) w_X8_90 ⟨q_872, q_20⟩ rfl rfl cmm rfl ⟨(Nat.le_of_ble_eq_true rfl), (Nat.le_of_ble_eq_true rfl)⟩ (Nat.le_of_ble_eq_true rfl) dX8_windows_62) ⟨(Nat.le_of_ble_eq_true rfl), (Nat.le_of_ble_eq_true rfl)⟩ (fun Lq fq hwq => ?_)
            obtain ⟨eq9, hMf, hrF⟩ := hwq
            replace eq9 := eq9.symm
            subst eq9
            obtain ⟨A, RA, PE, OF, TA, RT, RH, HS, TI, ⟨cmm, c0, c1, c2, c3, c4, c5, c6, c7⟩, ⟨hMa, hMb, hMc, hMd⟩, hHS, hTI⟩ := id hMf
            refine k_iload_n 1 1 dX8_windows_65 rfl rfl ?_
            refine k_iconst dX8_windows_66 ?_
            refine k_icmp_eq 78 dX8_windows_67 (by decide) (inI_mk (by omega) (by omega)) (inI_mk (by omega) (by omega)) (fun h67 => ?_) (fun h67 => ?_)
            · refine k_iconst dX8_windows_78 ?_
              refine k_goto 83 dX8_windows_79 (by decide) ?_
              refine k_istore [(6, .int (iI 1)), (0, .ref mm), (1, .int (iI p)), (2, .int (iI lev)), (3, .int (iI (fan : Int))), (4, .int (iI (fbn : Int))), (5, .int (iI (wn : Int)))] dX8_windows_83 (by decide) rfl ?_
              refine k_iconst dX8_windows_85 ?_
              refine k_newai 30 4 q_135 rfl (by omega) (Nat.le_of_ble_eq_true rfl) (Nat.le_of_ble_eq_true rfl) dX8_windows_86 (fun told L2 f2 hz2 hn2 hc2 => ?_)
              have hr2 := k_fr.new hz2
              replace cmm := cmm.fr hr2 rfl
              replace c0 := c0.fr hr2 rfl
              replace c1 := c1.fr hr2 rfl
              replace c2 := c2.fr hr2 rfl
              replace c3 := c3.fr hr2 rfl
              replace c4 := c4.fr hr2 rfl
              replace c5 := c5.fr hr2 rfl
              replace c6 := c6.fr hr2 rfl
              replace c7 := c7.fr hr2 rfl
              replace hMf := hMf.fr hr2 rfl
              have cTold : Cl L2 f2 told (30, .inl (κ.2.2.1 0, 4, .inl (fun u9 => iI ((fun _ => 0) u9)))) := hc2
              refine k_dup dX8_windows_88 rfl ?_
              refine k_iconst dX8_windows_89 ?_
              refine k_iconst dX8_windows_90 ?_
              refine k_iast 0 cTold rfl (by omega) (by omega) dX8_windows_91 (fun f3 hf3 hc3 => ?_)
              have hr3 := k_fr.put hf3 cTold
              replace cmm := cmm.fr hr3 rfl
              replace c0 := c0.fr hr3 rfl
              replace c1 := c1.fr hr3 rfl
              replace c2 := c2.fr hr3 rfl
              replace c3 := c3.fr hr3 rfl
              replace c4 := c4.fr hr3 rfl
              replace c5 := c5.fr hr3 rfl
              replace c6 := c6.fr hr3 rfl
              replace c7 := c7.fr hr3 rfl
              replace hMf := hMf.fr hr3 rfl
              replace cTold : Cl L2 f3 told (30, .inl (κ.2.2.1 0, 4, .inl (fun u9 => iI ((va_up (fun _ => 0) 0 0) u9)))) := hc3
              refine k_dup dX8_windows_92 rfl ?_
              refine k_iconst dX8_windows_93 ?_
              refine k_iconst dX8_windows_94 ?_
              refine k_iast 1 cTold rfl (by omega) (by omega) dX8_windows_95 (fun f4 hf4 hc4 => ?_)
              have hr4 := k_fr.put hf4 cTold
              replace cmm := cmm.fr hr4 rfl
              replace c0 := c0.fr hr4 rfl
              replace c1 := c1.fr hr4 rfl
              replace c2 := c2.fr hr4 rfl
              replace c3 := c3.fr hr4 rfl
              replace c4 := c4.fr hr4 rfl
              replace c5 := c5.fr hr4 rfl
              replace c6 := c6.fr hr4 rfl
              replace c7 := c7.fr hr4 rfl
              replace hMf := hMf.fr hr4 rfl
              replace cTold : Cl L2 f4 told (30, .inl (κ.2.2.1 0, 4, .inl (fun u9 => iI ((va_up (va_up (fun _ => 0) 0 0) 1 0) u9)))) := hc4
              refine k_dup dX8_windows_96 rfl ?_
              refine k_iconst dX8_windows_97 ?_
              refine k_iconst dX8_windows_98 ?_
              refine k_iast 2 cTold rfl (by omega) (by omega) dX8_windows_99 (fun f5 hf5 hc5 => ?_)
              have hr5 := k_fr.put hf5 cTold
              replace cmm := cmm.fr hr5 rfl
              replace c0 := c0.fr hr5 rfl
              replace c1 := c1.fr hr5 rfl
              replace c2 := c2.fr hr5 rfl
              replace c3 := c3.fr hr5 rfl
              replace c4 := c4.fr hr5 rfl
              replace c5 := c5.fr hr5 rfl
              replace c6 := c6.fr hr5 rfl
              replace c7 := c7.fr hr5 rfl
              replace hMf := hMf.fr hr5 rfl
              replace cTold : Cl L2 f5 told (30, .inl (κ.2.2.1 0, 4, .inl (fun u9 => iI ((va_up (va_up (va_up (fun _ => 0) 0 0) 1 0) 2 (-1)) u9)))) := hc5
              refine k_dup dX8_windows_100 rfl ?_
              refine k_iconst dX8_windows_101 ?_
              refine k_iconst dX8_windows_102 ?_
              refine k_iast 3 cTold rfl (by omega) (by omega) dX8_windows_103 (fun f6 hf6 hc6 => ?_)
              have hr6 := k_fr.put hf6 cTold
              replace cmm := cmm.fr hr6 rfl
              replace c0 := c0.fr hr6 rfl
              replace c1 := c1.fr hr6 rfl
              replace c2 := c2.fr hr6 rfl
              replace c3 := c3.fr hr6 rfl
              replace c4 := c4.fr hr6 rfl
              replace c5 := c5.fr hr6 rfl
              replace c6 := c6.fr hr6 rfl
              replace c7 := c7.fr hr6 rfl
              replace hMf := hMf.fr hr6 rfl
              replace cTold : Cl L2 f6 told (30, .inl (κ.2.2.1 0, 4, .inl (fun u9 => iI ((va_up (va_up (va_up (va_up (fun _ => 0) 0 0) 1 0) 2 (-1)) 3 0) u9)))) := hc6
              refine k_astore [(7, .ref told), (6, .int (iI 1)), (0, .ref mm), (1, .int (iI p)), (2, .int (iI lev)), (3, .int (iI (fan : Int))), (4, .int (iI (fbn : Int))), (5, .int (iI (wn : Int)))] dX8_windows_104 (by decide) rfl ?_
              refine k_iconst dX8_windows_106 ?_
              refine k_istore [(8, .int (iI 0)), (7, .ref told), (6, .int (iI 1)), (0, .ref mm), (1, .int (iI p)), (2, .int (iI lev)), (3, .int (iI (fan : Int))), (4, .int (iI (fbn : Int))), (5, .int (iI (wn : Int)))] dX8_windows_107 (by decide) rfl ?_
              refine k_iconst dX8_windows_109 ?_
              refine k_istore [(9, .int (iI (-1))), (8, .int (iI 0)), (7, .ref told), (6, .int (iI 1)), (0, .ref mm), (1, .int (iI p)), (2, .int (iI lev)), (3, .int (iI (fan : Int))), (4, .int (iI (fbn : Int))), (5, .int (iI (wn : Int)))] dX8_windows_110 (by decide) rfl ?_
              refine k_iload_n 7 3 dX8_windows_112 rfl rfl ?_
              refine k_istore [(10, .int (iI (fan : Int))), (9, .int (iI (-1))), (8, .int (iI 0)), (7, .ref told), (6, .int (iI 1)), (0, .ref mm), (1, .int (iI p)), (2, .int (iI lev)), (3, .int (iI (fan : Int))), (4, .int (iI (fbn : Int))), (5, .int (iI (wn : Int)))] dX8_windows_113 (by decide) rfl ?_
              have lp115 : ∀ (fuel : Nat) (fw : Nat → wE) (m : Nat) (T9 : Nat → Int) (run : Int), (fan + m ≤ fbn + 1) → (TW T9 run (tlC (hT σ.1) lev fan m)) → (k_fr SM L f L2 fw) → (Cl L2 fw mm (21, .inr (9, [.int (iI 0), .int (iI (σ.1.2.1 : Int)), .ref (A 0), .ref (A 1), .ref (A 2), .int (iI σ.1.1), .int (iI (σ.2.1 : Int)), .ref (A 3), .int (iI (σ.2.2.2.1 : Int)), .ref (A 4), .ref (A 5), .int (iI (bI true)), .ref (A 6), .int (iI (nW (hT σ.1) : Int)), .ref (A 7)]))) → (Cl L2 fw (A 0) (22, .inl (κ.2.2.1 0, 8, .inl (fun u9 => iI (RA u9))))) → (Cl L2 fw (A 1) (23, .inl (κ.2.2.1 0, 8, .inl (fun u9 => iI (PE u9))))) → (Cl L2 fw (A 2) (24, .inl (κ.2.2.1 0, 8, .inl (fun u9 => iI (OF u9))))) → (Cl L2 fw (A 3) (25, .inl (κ.2.2.1 0, 30, .inl (fun u9 => iI (TA u9))))) → (Cl L2 fw (A 4) (26, .inl (κ.2.2.1 0, 40, .inl (fun u9 => iI (RT u9))))) → (Cl L2 fw (A 5) (27, .inl (κ.2.2.1 0, 40, .inl (fun u9 => iI (RH u9))))) → (Cl L2 fw (A 6) (28, .inl (κ.2.2.1 1, 4320, .inr (.inl (fun u9 => lI (HS u9)))))) → (Cl L2 fw (A 7) (29, .inl (κ.2.2.1 0, 4320, .inl (fun u9 => iI (TI u9))))) → (Cl L2 fw told (30, .inl (κ.2.2.1 0, 4, .inl (fun u9 => iI (T9 u9))))) → (MSf κ L2 fw mm 0 σ) → fbn + 1 - (fan + m) < fuel → k_G θ κ cX8_windows 12 (some .int) RX8 (k_rm 7 1 4) (k_MQ θ κ (k_rn (fun v9 L' f' => ∃ v : Int, v9 = .int (iI v) ∧ k_fr SM L f L' f' ∧ ((xWindows σ p (fan : Int) (fbn : Int) (wn : Int) = none ∧ v = aWindows σ p lev (fan : Int) (fbn : Int) (wn : Int) ∧ MS κ L' f' mm 0 σ) ∨ (xWindows σ p (fan : Int) (fbn : Int) (wn : Int) = some cIO ∧ MS κ L' f' mm 1 σ) ∨ (xWindows σ p (fan : Int) (fbn : Int) (wn : Int) = some cIA ∧ MS κ L' f' mm 2 σ)))) 1 4) L2 fw (0 + 1) (0 + 4) 115 [(0, .ref mm), (1, .int (iI p)), (2, .int (iI lev)), (3, .int (iI (fan : Int))), (4, .int (iI (fbn : Int))), (5, .int (iI (wn : Int))), (6, .int (iI 1)), (7, .ref told), (8, .int (iI run)), (9, .int (iI (-1))), (10, .int (iI ((fan + m : Nat) : Int)))] [] := by
                intro fuel
                induction fuel with
                | zero =>
                  intro fw m T9 run hm hTW hfr cmm c0 c1 c2 c3 c4 c5 c6 c7 cTold hMf hfu
                  exact absurd hfu (Nat.not_lt_zero _)
                | succ fuel ih115 =>
                  intro fw m T9 run hm hTW hfr cmm c0 c1 c2 c3 c4 c5 c6 c7 cTold hMf hfu
                  obtain ⟨w0, w1, w2, w3, w4⟩ := id hTW
                  obtain ⟨⟨na1, na2⟩, ⟨nb1, nb2⟩, ⟨nf1, nf2⟩⟩ := tlC_in (h := (hT σ.1)) (lev := lev) (a := fan) m (by omega)
                  refine k_iload 10 dX8_windows_115 rfl ?_
                  refine k_iload 4 dX8_windows_117 rfl ?_
                  refine k_icmp_gt 305 dX8_windows_119 (by decide) (inI_mk (by omega) (by omega)) (inI_mk (by omega) (by omega)) (fun h119 => ?_) (fun h119 => ?_)
                  · refine k_aload 7 dX8_windows_305 rfl ?_
                    refine k_iload 5 dX8_windows_307 rfl ?_
                    refine k_iald wn cTold rfl (by omega) (by omega) dX8_windows_309 ?_
                    have hMz : MS κ L2 fw mm 0 σ := ⟨A, true, _, RA, PE, OF, TA, RT, RH, HS, TI, ⟨cmm, c0, c1, c2, c3, c4, c5, c6, c7⟩, ⟨hMa, hMb, hMc, hMd⟩, fun _ => ⟨rfl, hHS, hTI⟩⟩
                    exact k_iret dX8_windows_310 rfl (Nat.le_of_ble_eq_true rfl) (Nat.le_of_ble_eq_true rfl) (⟨_, rfl, _, rfl, hfr, Or.inl ⟨(by rw [xWindows, if_pos (by omega), if_pos (by omega), if_pos (by omega)]), (by rw [aWindows, if_pos (show p = -1 by omega)]; simp only [Int.toNat_natCast]; rw [show fbn + 1 - fan = m by omega]; exact hTW.ans (by omega)), hMz⟩⟩)
                  · refine k_iload_n 1 1 dX8_windows_122 rfl rfl ?_
                    refine k_iconst dX8_windows_123 ?_
                    refine k_icmp_ne 144 dX8_windows_124 (by decide) (inI_mk (by omega) (by omega)) (inI_mk (by omega) (by omega)) (fun h124 => ?_) (fun h124 => ?_)
                    · omega
                    · refine k_aload_n 0 0 dX8_windows_127 rfl rfl ?_
                      refine k_get 12 i_X8 q_795 cmm rfl (by decide) rfl dX8_windows_128 ?_
                      refine k_iload 10 dX8_windows_131 rfl ?_
                      have hhb := hT_bd hs1 (fan + m)
                      refine k_lald (fan + m) c6 rfl (by omega) (by omega) dX8_windows_133 ?_
                      refine k_topl ((hT σ.1) (fan + m)) (hHS (fan + m) (by omega)) ?_
                      refine k_iload_n 2 2 dX8_windows_134 rfl rfl ?_
                      refine k_i2l dX8_windows_135 (inI_mk (by omega) (by omega)) ?_
                      refine k_lcmp_lt 144 dX8_windows_136 dX8_windows_137 (by decide) (inL_mk (by omega) (by omega)) (inL_mk (by omega) (by omega)) (fun h136 => ?_) (fun h136 => ?_)
                      · refine k_iconst dX8_windows_144 ?_
                        refine k_istore [(11, .int (iI 0)), (0, .ref mm), (1, .int (iI p)), (2, .int (iI lev)), (3, .int (iI (fan : Int))), (4, .int (iI (fbn : Int))), (5, .int (iI (wn : Int))), (6, .int (iI 1)), (7, .ref told), (8, .int (iI run)), (9, .int (iI (-1))), (10, .int (iI ((fan + m : Nat) : Int)))] dX8_windows_145 (by decide) rfl ?_
                        refine k_iload_n 2 1 dX8_windows_147 rfl rfl ?_
                        refine k_iconst dX8_windows_148 ?_
                        refine k_icmp_eq 227 dX8_windows_149 (by decide) (inI_mk (by omega) (by omega)) (inI_mk (by omega) (by omega)) (fun h149 => ?_) (fun h149 => ?_)
                        · refine k_iload 0 dX8_windows_227 rfl ?_
                          refine k_if_eq 239 dX8_windows_229 (by decide) (inI_mk (by omega) (by omega)) (fun h229 => ?_) (fun h229 => ?_)
                          · refine k_iconst dX8_windows_239 ?_
                            refine k_istore [(8, .int (iI 0)), (11, .int (iI 0)), (0, .ref mm), (1, .int (iI p)), (2, .int (iI lev)), (3, .int (iI (fan : Int))), (4, .int (iI (fbn : Int))), (5, .int (iI (wn : Int))), (6, .int (iI 1)), (7, .ref told), (9, .int (iI (-1))), (10, .int (iI ((fan + m : Nat) : Int)))] dX8_windows_240 (by decide) rfl ?_
                            refine k_iload 1 dX8_windows_242 rfl ?_
                            refine k_if_ne 250 dX8_windows_244 (by decide) (inI_mk (by omega) (by omega)) (fun h244 => ?_) (fun h244 => ?_)
                            · omega
                            · refine k_goto 299 dX8_windows_247 (by decide) ?_
                              refine k_iinc 11 [(10, .int (iI (((fan + m : Nat) : Int) + 1))), (8, .int (iI 0)), (11, .int (iI 0)), (0, .ref mm), (1, .int (iI p)), (2, .int (iI lev)), (3, .int (iI (fan : Int))), (4, .int (iI (fbn : Int))), (5, .int (iI (wn : Int))), (6, .int (iI 1)), (7, .ref told), (9, .int (iI (-1)))] dX8_windows_299 rfl (by decide) rfl ?_
                              refine k_goto 115 dX8_windows_302 (by decide) ?_
                              refine k_perm [3, 4, 5, 6, 7, 8, 9, 10, 1, 11, 0] [(0, .ref mm), (1, .int (iI p)), (2, .int (iI lev)), (3, .int (iI (fan : Int))), (4, .int (iI (fbn : Int))), (5, .int (iI (wn : Int))), (6, .int (iI 1)), (7, .ref told), (8, .int (iI 0)), (9, .int (iI (-1))), (10, .int (iI (((fan + m : Nat) : Int) + 1)))] rfl ?_
                              have hTW3 := hTW.no (m := ((fan + m : Nat) : Int))
                              have hTW2 : TW T9 0 (tlC (hT σ.1) lev fan (m + 1)) := by
                                rw [tlC, decide_eq_false (by omega)]
                                exact hTW3
                              exact ih115 fw (m + 1) T9 0 (by omega) hTW2 hfr cmm c0 c1 c2 c3 c4 c5 c6 c7 cTold hMf (by omega)
                          · omega
                        · omega
                      · refine k_iconst dX8_windows_140 ?_
                        refine k_goto 145 dX8_windows_141 (by decide) ?_
                        refine k_istore [(11, .int (iI 1)), (0, .ref mm), (1, .int (iI p)), (2, .int (iI lev)), (3, .int (iI (fan : Int))), (4, .int (iI (fbn : Int))), (5, .int (iI (wn : Int))), (6, .int (iI 1)), (7, .ref told), (8, .int (iI run)), (9, .int (iI (-1))), (10, .int (iI ((fan + m : Nat) : Int)))] dX8_windows_145 (by decide) rfl ?_
                        refine k_iload_n 2 1 dX8_windows_147 rfl rfl ?_
                        refine k_iconst dX8_windows_148 ?_
                        refine k_icmp_eq 227 dX8_windows_149 (by decide) (inI_mk (by omega) (by omega)) (inI_mk (by omega) (by omega)) (fun h149 => ?_) (fun h149 => ?_)
                        · refine k_iload 0 dX8_windows_227 rfl ?_
                          refine k_if_eq 239 dX8_windows_229 (by decide) (inI_mk (by omega) (by omega)) (fun h229 => ?_) (fun h229 => ?_)
                          · omega
                          · refine k_iload 9 dX8_windows_232 rfl ?_
                            refine k_iconst dX8_windows_234 ?_
                            refine k_iadd dX8_windows_235 ?_
                            refine k_goto 240 dX8_windows_236 (by decide) ?_
                            refine k_istore [(8, .int (iI (run + 1))), (11, .int (iI 1)), (0, .ref mm), (1, .int (iI p)), (2, .int (iI lev)), (3, .int (iI (fan : Int))), (4, .int (iI (fbn : Int))), (5, .int (iI (wn : Int))), (6, .int (iI 1)), (7, .ref told), (9, .int (iI (-1))), (10, .int (iI ((fan + m : Nat) : Int)))] dX8_windows_240 (by decide) rfl ?_
                            refine k_iload 1 dX8_windows_242 rfl ?_
                            refine k_if_ne 250 dX8_windows_244 (by decide) (inI_mk (by omega) (by omega)) (fun h244 => ?_) (fun h244 => ?_)
                            · refine k_aload 9 dX8_windows_250 rfl ?_
                              refine k_iconst dX8_windows_252 ?_
                              refine k_dup2 dX8_windows_253 rfl rfl ?_
                              refine k_iald 1 cTold rfl (by omega) (by omega) dX8_windows_254 ?_
                              refine k_iconst dX8_windows_255 ?_
                              refine k_iadd dX8_windows_256 ?_
                              refine k_iast 1 cTold rfl (by omega) (by omega) dX8_windows_257 (fun f7 hf7 hc7 => ?_)
                              have hr7 := k_fr.put hf7 cTold
                              replace cmm := cmm.fr hr7 rfl
                              replace c0 := c0.fr hr7 rfl
                              replace c1 := c1.fr hr7 rfl
                              replace c2 := c2.fr hr7 rfl
                              replace c3 := c3.fr hr7 rfl
                              replace c4 := c4.fr hr7 rfl
                              replace c5 := c5.fr hr7 rfl
                              replace c6 := c6.fr hr7 rfl
                              replace c7 := c7.fr hr7 rfl
                              replace hMf := hMf.fr hr7 rfl
                              replace cTold : Cl L2 f7 told (30, .inl (κ.2.2.1 0, 4, .inl (fun u9 => iI ((va_up T9 1 ((T9 1) + 1)) u9)))) := hc7
                              refine k_iload 0 dX8_windows_258 rfl ?_
                              refine k_iconst dX8_windows_260 ?_
                              refine k_icmp_ne 272 dX8_windows_261 (by decide) (inI_mk (by omega) (by omega)) (inI_mk (by omega) (by omega)) (fun h261 => ?_) (fun h261 => ?_)
                              · refine k_aload 9 dX8_windows_272 rfl ?_
                                refine k_iconst dX8_windows_274 ?_
                                refine k_iald 2 cTold rfl (by omega) (by omega) dX8_windows_275 ?_
                                refine k_topi (T9 2) rfl ?_
                                refine k_iconst dX8_windows_276 ?_
                                refine k_icmp_ne 286 dX8_windows_277 (by decide) (inI_mk (by omega) (by omega)) (inI_mk (by omega) (by omega)) (fun h277 => ?_) (fun h277 => ?_)
                                · refine k_aload 9 dX8_windows_286 rfl ?_
                                  refine k_iconst dX8_windows_288 ?_
                                  refine k_aload 9 dX8_windows_289 rfl ?_
                                  refine k_iconst dX8_windows_291 ?_
                                  refine k_iald 3 cTold rfl (by omega) (by omega) dX8_windows_292 ?_
                                  refine k_topi (T9 3) rfl ?_
                                  refine k_iload 0 dX8_windows_293 rfl ?_
                                  refine k_max q_996 q_298 q_52 q_299 (inI_mk (by omega) (by omega)) (inI_mk (by omega) (by omega)) (Nat.le_of_ble_eq_true rfl) (Nat.le_of_ble_eq_true rfl) ⟨(Nat.le_of_ble_eq_true rfl), (Nat.le_of_ble_eq_true rfl)⟩ dX8_windows_295 ?_
                                  refine k_iast 3 cTold rfl (by omega) (by omega) dX8_windows_298 (fun f8 hf8 hc8 => ?_)
                                  have hr8 := k_fr.put hf8 cTold
                                  replace cmm := cmm.fr hr8 rfl
                                  replace c0 := c0.fr hr8 rfl
                                  replace c1 := c1.fr hr8 rfl
                                  replace c2 := c2.fr hr8 rfl
                                  replace c3 := c3.fr hr8 rfl
                                  replace c4 := c4.fr hr8 rfl
                                  replace c5 := c5.fr hr8 rfl
                                  replace c6 := c6.fr hr8 rfl
                                  replace c7 := c7.fr hr8 rfl
                                  replace hMf := hMf.fr hr8 rfl
                                  replace cTold : Cl L2 f8 told (30, .inl (κ.2.2.1 0, 4, .inl (fun u9 => iI ((va_up (va_up T9 1 ((T9 1) + 1)) 3 (max (T9 3) (run + 1))) u9)))) := hc8
                                  refine k_iinc 11 [(10, .int (iI (((fan + m : Nat) : Int) + 1))), (8, .int (iI (run + 1))), (11, .int (iI 1)), (0, .ref mm), (1, .int (iI p)), (2, .int (iI lev)), (3, .int (iI (fan : Int))), (4, .int (iI (fbn : Int))), (5, .int (iI (wn : Int))), (6, .int (iI 1)), (7, .ref told), (9, .int (iI (-1)))] dX8_windows_299 rfl (by decide) rfl ?_
                                  refine k_goto 115 dX8_windows_302 (by decide) ?_
                                  refine k_perm [3, 4, 5, 6, 7, 8, 9, 10, 1, 11, 0] [(0, .ref mm), (1, .int (iI p)), (2, .int (iI lev)), (3, .int (iI (fan : Int))), (4, .int (iI (fbn : Int))), (5, .int (iI (wn : Int))), (6, .int (iI 1)), (7, .ref told), (8, .int (iI (run + 1))), (9, .int (iI (-1))), (10, .int (iI (((fan + m : Nat) : Int) + 1)))] rfl ?_
                                  have hTW3 := hTW.yes (G := (va_up (va_up T9 1 ((T9 1) + 1)) 3 (max (T9 3) (run + 1)))) (m := ((fan + m : Nat) : Int)) nf1 (by rw [if_neg (by omega)]; rfl) rfl (by rw [if_neg (by omega)]; rfl) rfl
                                  have hTW2 : TW (va_up (va_up T9 1 ((T9 1) + 1)) 3 (max (T9 3) (run + 1))) (run + 1) (tlC (hT σ.1) lev fan (m + 1)) := by
                                    rw [tlC, decide_eq_true (by omega)]
                                    exact hTW3
                                  exact ih115 f8 (m + 1) (va_up (va_up T9 1 ((T9 1) + 1)) 3 (max (T9 3) (run + 1))) (run + 1) (by omega) hTW2 (k_fr.trans (k_fr.trans hfr hr7 idf (SM_of rfl)) hr8 idf (SM_of rfl)) cmm c0 c1 c2 c3 c4 c5 c6 c7 cTold hMf (by omega)
                                · refine k_aload 9 dX8_windows_280 rfl ?_
                                  refine k_iconst dX8_windows_282 ?_
                                  refine k_iload 11 dX8_windows_283 rfl ?_
                                  refine k_iast 2 cTold rfl (by omega) (by omega) dX8_windows_285 (fun f9 hf9 hc9 => ?_)
                                  have hr9 := k_fr.put hf9 cTold
                                  replace cmm := cmm.fr hr9 rfl
                                  replace c0 := c0.fr hr9 rfl
                                  replace c1 := c1.fr hr9 rfl
                                  replace c2 := c2.fr hr9 rfl
                                  replace c3 := c3.fr hr9 rfl
                                  replace c4 := c4.fr hr9 rfl
                                  replace c5 := c5.fr hr9 rfl
                                  replace c6 := c6.fr hr9 rfl
                                  replace c7 := c7.fr hr9 rfl
                                  replace hMf := hMf.fr hr9 rfl
                                  replace cTold : Cl L2 f9 told (30, .inl (κ.2.2.1 0, 4, .inl (fun u9 => iI ((va_up (va_up T9 1 ((T9 1) + 1)) 2 ((fan + m : Nat) : Int)) u9)))) := hc9
                                  refine k_aload 9 dX8_windows_286 rfl ?_
                                  refine k_iconst dX8_windows_288 ?_
                                  refine k_aload 9 dX8_windows_289 rfl ?_
                                  refine k_iconst dX8_windows_291 ?_
                                  refine k_iald 3 cTold rfl (by omega) (by omega) dX8_windows_292 ?_
                                  refine k_topi (T9 3) rfl ?_
                                  refine k_iload 0 dX8_windows_293 rfl ?_
                                  refine k_max q_996 q_298 q_52 q_299 (inI_mk (by omega) (by omega)) (inI_mk (by omega) (by omega)) (Nat.le_of_ble_eq_true rfl) (Nat.le_of_ble_eq_true rfl) ⟨(Nat.le_of_ble_eq_true rfl), (Nat.le_of_ble_eq_true rfl)⟩ dX8_windows_295 ?_
                                  refine k_iast 3 cTold rfl (by omega) (by omega) dX8_windows_298 (fun f10 hf10 hc10 => ?_)
                                  have hr10 := k_fr.put hf10 cTold
                                  replace cmm := cmm.fr hr10 rfl
                                  replace c0 := c0.fr hr10 rfl
                                  replace c1 := c1.fr hr10 rfl
                                  replace c2 := c2.fr hr10 rfl
                                  replace c3 := c3.fr hr10 rfl
                                  replace c4 := c4.fr hr10 rfl
                                  replace c5 := c5.fr hr10 rfl
                                  replace c6 := c6.fr hr10 rfl
                                  replace c7 := c7.fr hr10 rfl
                                  replace hMf := hMf.fr hr10 rfl
                                  replace cTold : Cl L2 f10 told (30, .inl (κ.2.2.1 0, 4, .inl (fun u9 => iI ((va_up (va_up (va_up T9 1 ((T9 1) + 1)) 2 ((fan + m : Nat) : Int)) 3 (max (T9 3) (run + 1))) u9)))) := hc10
                                  refine k_iinc 11 [(10, .int (iI (((fan + m : Nat) : Int) + 1))), (8, .int (iI (run + 1))), (11, .int (iI 1)), (0, .ref mm), (1, .int (iI p)), (2, .int (iI lev)), (3, .int (iI (fan : Int))), (4, .int (iI (fbn : Int))), (5, .int (iI (wn : Int))), (6, .int (iI 1)), (7, .ref told), (9, .int (iI (-1)))] dX8_windows_299 rfl (by decide) rfl ?_
                                  refine k_goto 115 dX8_windows_302 (by decide) ?_
                                  refine k_perm [3, 4, 5, 6, 7, 8, 9, 10, 1, 11, 0] [(0, .ref mm), (1, .int (iI p)), (2, .int (iI lev)), (3, .int (iI (fan : Int))), (4, .int (iI (fbn : Int))), (5, .int (iI (wn : Int))), (6, .int (iI 1)), (7, .ref told), (8, .int (iI (run + 1))), (9, .int (iI (-1))), (10, .int (iI (((fan + m : Nat) : Int) + 1)))] rfl ?_
                                  have hTW3 := hTW.yes (G := (va_up (va_up (va_up T9 1 ((T9 1) + 1)) 2 ((fan + m : Nat) : Int)) 3 (max (T9 3) (run + 1)))) (m := ((fan + m : Nat) : Int)) nf1 (by rw [if_neg (by omega)]; rfl) rfl (by rw [if_pos (by omega)]; rfl) rfl
                                  have hTW2 : TW (va_up (va_up (va_up T9 1 ((T9 1) + 1)) 2 ((fan + m : Nat) : Int)) 3 (max (T9 3) (run + 1))) (run + 1) (tlC (hT σ.1) lev fan (m + 1)) := by
                                    rw [tlC, decide_eq_true (by omega)]
                                    exact hTW3
                                  exact ih115 f10 (m + 1) (va_up (va_up (va_up T9 1 ((T9 1) + 1)) 2 ((fan + m : Nat) : Int)) 3 (max (T9 3) (run + 1))) (run + 1) (by omega) hTW2 (k_fr.trans (k_fr.trans (k_fr.trans hfr hr7 idf (SM_of rfl)) hr9 idf (SM_of rfl)) hr10 idf (SM_of rfl)) cmm c0 c1 c2 c3 c4 c5 c6 c7 cTold hMf (by omega)
                              · refine k_aload 9 dX8_windows_264 rfl ?_
                                refine k_iconst dX8_windows_266 ?_
                                refine k_dup2 dX8_windows_267 rfl rfl ?_
                                refine k_iald 0 cTold rfl (by omega) (by omega) dX8_windows_268 ?_
                                refine k_iconst dX8_windows_269 ?_
                                refine k_iadd dX8_windows_270 ?_
                                refine k_iast 0 cTold rfl (by omega) (by omega) dX8_windows_271 (fun f11 hf11 hc11 => ?_)
                                have hr11 := k_fr.put hf11 cTold
                                replace cmm := cmm.fr hr11 rfl
                                replace c0 := c0.fr hr11 rfl
                                replace c1 := c1.fr hr11 rfl
                                replace c2 := c2.fr hr11 rfl
                                replace c3 := c3.fr hr11 rfl
                                replace c4 := c4.fr hr11 rfl
                                replace c5 := c5.fr hr11 rfl
                                replace c6 := c6.fr hr11 rfl
                                replace c7 := c7.fr hr11 rfl
                                replace hMf := hMf.fr hr11 rfl
                                replace cTold : Cl L2 f11 told (30, .inl (κ.2.2.1 0, 4, .inl (fun u9 => iI ((va_up (va_up T9 1 ((T9 1) + 1)) 0 (((va_up T9 1 ((T9 1) + 1)) 0) + 1)) u9)))) := hc11
                                refine k_aload 9 dX8_windows_272 rfl ?_
                                refine k_iconst dX8_windows_274 ?_
                                refine k_iald 2 cTold rfl (by omega) (by omega) dX8_windows_275 ?_
                                refine k_topi (T9 2) rfl ?_
                                refine k_iconst dX8_windows_276 ?_
                                refine k_icmp_ne 286 dX8_windows_277 (by decide) (inI_mk (by omega) (by omega)) (inI_mk (by omega) (by omega)) (fun h277 => ?_) (fun h277 => ?_)
                                · refine k_aload 9 dX8_windows_286 rfl ?_
                                  refine k_iconst dX8_windows_288 ?_
                                  refine k_aload 9 dX8_windows_289 rfl ?_
                                  refine k_iconst dX8_windows_291 ?_
                                  refine k_iald 3 cTold rfl (by omega) (by omega) dX8_windows_292 ?_
                                  refine k_topi (T9 3) rfl ?_
                                  refine k_iload 0 dX8_windows_293 rfl ?_
                                  refine k_max q_996 q_298 q_52 q_299 (inI_mk (by omega) (by omega)) (inI_mk (by omega) (by omega)) (Nat.le_of_ble_eq_true rfl) (Nat.le_of_ble_eq_true rfl) ⟨(Nat.le_of_ble_eq_true rfl), (Nat.le_of_ble_eq_true rfl)⟩ dX8_windows_295 ?_
                                  refine k_iast 3 cTold rfl (by omega) (by omega) dX8_windows_298 (fun f12 hf12 hc12 => ?_)
                                  have hr12 := k_fr.put hf12 cTold
                                  replace cmm := cmm.fr hr12 rfl
                                  replace c0 := c0.fr hr12 rfl
                                  replace c1 := c1.fr hr12 rfl
                                  replace c2 := c2.fr hr12 rfl
                                  replace c3 := c3.fr hr12 rfl
                                  replace c4 := c4.fr hr12 rfl
                                  replace c5 := c5.fr hr12 rfl
                                  replace c6 := c6.fr hr12 rfl
                                  replace c7 := c7.fr hr12 rfl
                                  replace hMf := hMf.fr hr12 rfl
                                  replace cTold : Cl L2 f12 told (30, .inl (κ.2.2.1 0, 4, .inl (fun u9 => iI ((va_up (va_up (va_up T9 1 ((T9 1) + 1)) 0 (((va_up T9 1 ((T9 1) + 1)) 0) + 1)) 3 (max (T9 3) (run + 1))) u9)))) := hc12
                                  refine k_iinc 11 [(10, .int (iI (((fan + m : Nat) : Int) + 1))), (8, .int (iI (run + 1))), (11, .int (iI 1)), (0, .ref mm), (1, .int (iI p)), (2, .int (iI lev)), (3, .int (iI (fan : Int))), (4, .int (iI (fbn : Int))), (5, .int (iI (wn : Int))), (6, .int (iI 1)), (7, .ref told), (9, .int (iI (-1)))] dX8_windows_299 rfl (by decide) rfl ?_
                                  refine k_goto 115 dX8_windows_302 (by decide) ?_
                                  refine k_perm [3, 4, 5, 6, 7, 8, 9, 10, 1, 11, 0] [(0, .ref mm), (1, .int (iI p)), (2, .int (iI lev)), (3, .int (iI (fan : Int))), (4, .int (iI (fbn : Int))), (5, .int (iI (wn : Int))), (6, .int (iI 1)), (7, .ref told), (8, .int (iI (run + 1))), (9, .int (iI (-1))), (10, .int (iI (((fan + m : Nat) : Int) + 1)))] rfl ?_
                                  have hTW3 := hTW.yes (G := (va_up (va_up (va_up T9 1 ((T9 1) + 1)) 0 (((va_up T9 1 ((T9 1) + 1)) 0) + 1)) 3 (max (T9 3) (run + 1)))) (m := ((fan + m : Nat) : Int)) nf1 (by rw [if_pos (by omega)]; rfl) rfl (by rw [if_neg (by omega)]; rfl) rfl
                                  have hTW2 : TW (va_up (va_up (va_up T9 1 ((T9 1) + 1)) 0 (((va_up T9 1 ((T9 1) + 1)) 0) + 1)) 3 (max (T9 3) (run + 1))) (run + 1) (tlC (hT σ.1) lev fan (m + 1)) := by
                                    rw [tlC, decide_eq_true (by omega)]
                                    exact hTW3
                                  exact ih115 f12 (m + 1) (va_up (va_up (va_up T9 1 ((T9 1) + 1)) 0 (((va_up T9 1 ((T9 1) + 1)) 0) + 1)) 3 (max (T9 3) (run + 1))) (run + 1) (by omega) hTW2 (k_fr.trans (k_fr.trans (k_fr.trans hfr hr7 idf (SM_of rfl)) hr11 idf (SM_of rfl)) hr12 idf (SM_of rfl)) cmm c0 c1 c2 c3 c4 c5 c6 c7 cTold hMf (by omega)
                                · refine k_aload 9 dX8_windows_280 rfl ?_
                                  refine k_iconst dX8_windows_282 ?_
                                  refine k_iload 11 dX8_windows_283 rfl ?_
                                  refine k_iast 2 cTold rfl (by omega) (by omega) dX8_windows_285 (fun f13 hf13 hc13 => ?_)
                                  have hr13 := k_fr.put hf13 cTold
                                  replace cmm := cmm.fr hr13 rfl
                                  replace c0 := c0.fr hr13 rfl
                                  replace c1 := c1.fr hr13 rfl
                                  replace c2 := c2.fr hr13 rfl
                                  replace c3 := c3.fr hr13 rfl
                                  replace c4 := c4.fr hr13 rfl
                                  replace c5 := c5.fr hr13 rfl
                                  replace c6 := c6.fr hr13 rfl
                                  replace c7 := c7.fr hr13 rfl
                                  replace hMf := hMf.fr hr13 rfl
                                  replace cTold : Cl L2 f13 told (30, .inl (κ.2.2.1 0, 4, .inl (fun u9 => iI ((va_up (va_up (va_up T9 1 ((T9 1) + 1)) 0 (((va_up T9 1 ((T9 1) + 1)) 0) + 1)) 2 ((fan + m : Nat) : Int)) u9)))) := hc13
                                  refine k_aload 9 dX8_windows_286 rfl ?_
                                  refine k_iconst dX8_windows_288 ?_
                                  refine k_aload 9 dX8_windows_289 rfl ?_
                                  refine k_iconst dX8_windows_291 ?_
                                  refine k_iald 3 cTold rfl (by omega) (by omega) dX8_windows_292 ?_
                                  refine k_topi (T9 3) rfl ?_
                                  refine k_iload 0 dX8_windows_293 rfl ?_
                                  refine k_max q_996 q_298 q_52 q_299 (inI_mk (by omega) (by omega)) (inI_mk (by omega) (by omega)) (Nat.le_of_ble_eq_true rfl) (Nat.le_of_ble_eq_true rfl) ⟨(Nat.le_of_ble_eq_true rfl), (Nat.le_of_ble_eq_true rfl)⟩ dX8_windows_295 ?_
                                  refine k_iast 3 cTold rfl (by omega) (by omega) dX8_windows_298 (fun f14 hf14 hc14 => ?_)
                                  have hr14 := k_fr.put hf14 cTold
                                  replace cmm := cmm.fr hr14 rfl
                                  replace c0 := c0.fr hr14 rfl
                                  replace c1 := c1.fr hr14 rfl
                                  replace c2 := c2.fr hr14 rfl
                                  replace c3 := c3.fr hr14 rfl
                                  replace c4 := c4.fr hr14 rfl
                                  replace c5 := c5.fr hr14 rfl
                                  replace c6 := c6.fr hr14 rfl
                                  replace c7 := c7.fr hr14 rfl
                                  replace hMf := hMf.fr hr14 rfl
                                  replace cTold : Cl L2 f14 told (30, .inl (κ.2.2.1 0, 4, .inl (fun u9 => iI ((va_up (va_up (va_up (va_up T9 1 ((T9 1) + 1)) 0 (((va_up T9 1 ((T9 1) + 1)) 0) + 1)) 2 ((fan + m : Nat) : Int)) 3 (max (T9 3) (run + 1))) u9)))) := hc14
                                  refine k_iinc 11 [(10, .int (iI (((fan + m : Nat) : Int) + 1))), (8, .int (iI (run + 1))), (11, .int (iI 1)), (0, .ref mm), (1, .int (iI p)), (2, .int (iI lev)), (3, .int (iI (fan : Int))), (4, .int (iI (fbn : Int))), (5, .int (iI (wn : Int))), (6, .int (iI 1)), (7, .ref told), (9, .int (iI (-1)))] dX8_windows_299 rfl (by decide) rfl ?_
                                  refine k_goto 115 dX8_windows_302 (by decide) ?_
                                  refine k_perm [3, 4, 5, 6, 7, 8, 9, 10, 1, 11, 0] [(0, .ref mm), (1, .int (iI p)), (2, .int (iI lev)), (3, .int (iI (fan : Int))), (4, .int (iI (fbn : Int))), (5, .int (iI (wn : Int))), (6, .int (iI 1)), (7, .ref told), (8, .int (iI (run + 1))), (9, .int (iI (-1))), (10, .int (iI (((fan + m : Nat) : Int) + 1)))] rfl ?_
                                  have hTW3 := hTW.yes (G := (va_up (va_up (va_up (va_up T9 1 ((T9 1) + 1)) 0 (((va_up T9 1 ((T9 1) + 1)) 0) + 1)) 2 ((fan + m : Nat) : Int)) 3 (max (T9 3) (run + 1)))) (m := ((fan + m : Nat) : Int)) nf1 (by rw [if_pos (by omega)]; rfl) rfl (by rw [if_pos (by omega)]; rfl) rfl
                                  have hTW2 : TW (va_up (va_up (va_up (va_up T9 1 ((T9 1) + 1)) 0 (((va_up T9 1 ((T9 1) + 1)) 0) + 1)) 2 ((fan + m : Nat) : Int)) 3 (max (T9 3) (run + 1))) (run + 1) (tlC (hT σ.1) lev fan (m + 1)) := by
                                    rw [tlC, decide_eq_true (by omega)]
                                    exact hTW3
                                  exact ih115 f14 (m + 1) (va_up (va_up (va_up (va_up T9 1 ((T9 1) + 1)) 0 (((va_up T9 1 ((T9 1) + 1)) 0) + 1)) 2 ((fan + m : Nat) : Int)) 3 (max (T9 3) (run + 1))) (run + 1) (by omega) hTW2 (k_fr.trans (k_fr.trans (k_fr.trans (k_fr.trans hfr hr7 idf (SM_of rfl)) hr11 idf (SM_of rfl)) hr13 idf (SM_of rfl)) hr14 idf (SM_of rfl)) cmm c0 c1 c2 c3 c4 c5 c6 c7 cTold hMf (by omega)
                            · omega
                        · omega
              refine k_perm [5, 6, 7, 8, 9, 10, 4, 3, 2, 1, 0] [(0, .ref mm), (1, .int (iI p)), (2, .int (iI lev)), (3, .int (iI (fan : Int))), (4, .int (iI (fbn : Int))), (5, .int (iI (wn : Int))), (6, .int (iI 1)), (7, .ref told), (8, .int (iI 0)), (9, .int (iI (-1))), (10, .int (iI (fan : Int)))] rfl ?_
              exact lp115 _ f6 0 (va_up (va_up (va_up (va_up (fun _ => 0) 0 0) 1 0) 2 (-1)) 3 0) 0 (by omega) ⟨rfl, rfl, rfl, rfl, rfl⟩ (k_fr.trans (k_fr.trans (k_fr.trans (k_fr.trans (k_fr.trans (k_fr.trans (k_fr.mono hr1 (SM_of rfl)) hrF idf idf) hr2 idf (fun _ _ => rfl)) hr3 idf (SM_of rfl)) hr4 idf (SM_of rfl)) hr5 idf (SM_of rfl)) hr6 idf (SM_of rfl)) cmm c0 c1 c2 c3 c4 c5 c6 c7 cTold hMf (Nat.lt_succ_self _)
            · omega
          · refine k_aload_n 0 0 dX8_windows_55 rfl rfl ?_
            refine k_iconst dX8_windows_56 ?_
            refine k_useV (k_runV (c_X8_fail θ.2.1 κ (mm := mm) (k := 2) hM) w_X8_57 ⟨q_846, q_18⟩ rfl rfl cmm rfl ⟨(Nat.le_of_ble_eq_true rfl), (Nat.le_of_ble_eq_true rfl)⟩ (Nat.le_of_ble_eq_true rfl) dX8_windows_57) ⟨(Nat.le_of_ble_eq_true rfl), (Nat.le_of_ble_eq_true rfl)⟩ (fun w9 Lx fx hw9 => ?_)
            obtain ⟨rfl, ex9, hMx, hrx⟩ := hw9
            replace ex9 := ex9.symm
            subst ex9
            exact k_iret dX8_windows_60 rfl (Nat.le_of_ble_eq_true rfl) (Nat.le_of_ble_eq_true rfl) (⟨_, rfl, _, rfl, (k_fr.trans (k_fr.mono hr1 (SM_of rfl)) hrx idf idf), Or.inr (Or.inr (⟨(by rw [xWindows, if_pos (by omega), if_pos (by omega), if_neg (by omega)]), hMx⟩))⟩)
    · have hd28 := of_decide_eq_false h28
      refine k_aload_n 0 0 dX8_windows_31 rfl rfl ?_
      refine k_iconst dX8_windows_32 ?_
      refine k_useV (k_runV (c_X8_fail θ.2.1 κ (mm := mm) (k := 1) hM) w_X8_57 ⟨q_846, q_18⟩ rfl rfl cmm rfl ⟨(Nat.le_of_ble_eq_true rfl), (Nat.le_of_ble_eq_true rfl)⟩ (Nat.le_of_ble_eq_true rfl) dX8_windows_33) ⟨(Nat.le_of_ble_eq_true rfl), (Nat.le_of_ble_eq_true rfl)⟩ (fun w9 Lx fx hw9 => ?_)
      obtain ⟨rfl, ex9, hMx, hrx⟩ := hw9
      replace ex9 := ex9.symm
      subst ex9
      exact k_iret dX8_windows_36 rfl (Nat.le_of_ble_eq_true rfl) (Nat.le_of_ble_eq_true rfl) (⟨_, rfl, _, rfl, (k_fr.trans (k_fr.mono hr1 (SM_of rfl)) hrx idf idf), Or.inr (Or.inl ⟨(by rw [xWindows, if_pos (by omega), if_neg (by omega)]), hMx⟩)⟩)
  · refine k_aload_n 0 0 dX8_windows_10 rfl rfl ?_
    refine k_iload_n 1 1 dX8_windows_11 rfl rfl ?_
    refine k_useR (k_runV (c_X8_isPort θ.2.1 κ (mm := mm) (p := p) hM (by omega) (inI_mk (by omega) (by omega))) w_X8_133 ⟨q_943, q_29⟩ rfl rfl cmm rfl ⟨(Nat.le_of_ble_eq_true rfl), (Nat.le_of_ble_eq_true rfl)⟩ (Nat.le_of_ble_eq_true rfl) dX8_windows_12) ⟨(Nat.le_of_ble_eq_true rfl), (Nat.le_of_ble_eq_true rfl)⟩ ?_
    refine k_ifb_eq 31 dX8_windows_15 (by decide) (fun h15 => ?_) (fun h15 => ?_)
    · have hd15 := of_decide_eq_false h15
      refine k_aload_n 0 0 dX8_windows_31 rfl rfl ?_
      refine k_iconst dX8_windows_32 ?_
      refine k_useV (k_runV (c_X8_fail θ.2.1 κ (mm := mm) (k := 1) hM) w_X8_57 ⟨q_846, q_18⟩ rfl rfl cmm rfl ⟨(Nat.le_of_ble_eq_true rfl), (Nat.le_of_ble_eq_true rfl)⟩ (Nat.le_of_ble_eq_true rfl) dX8_windows_33) ⟨(Nat.le_of_ble_eq_true rfl), (Nat.le_of_ble_eq_true rfl)⟩ (fun w9 Lx fx hw9 => ?_)
      obtain ⟨rfl, ex9, hMx, hrx⟩ := hw9
      replace ex9 := ex9.symm
      subst ex9
      exact k_iret dX8_windows_36 rfl (Nat.le_of_ble_eq_true rfl) (Nat.le_of_ble_eq_true rfl) (⟨_, rfl, _, rfl, (k_fr.trans (k_fr.mono hr1 (SM_of rfl)) hrx idf idf), Or.inr (Or.inl ⟨(by rw [xWindows, if_neg (by omega)]), hMx⟩)⟩)
    · have hd15 := of_decide_eq_true h15
      refine k_iload 5 dX8_windows_18 rfl ?_
      refine k_i2l dX8_windows_20 (inI_mk (by omega) (by omega)) ?_
      refine k_lconst 0 dX8_windows_21 (by decide) ?_
      refine k_ldc2 3 q_888 (by decide) dX8_windows_22 ?_
      refine k_useR (k_runS (c_X8_isIn θ.2.1 κ (v := what) (a := 0) (b := 3) (inL_mk (by omega) (by omega)) (inL_mk (by omega) (by omega)) (inL_mk (by omega) (by omega))) w_X8_41 q_840 rfl rfl ⟨(Nat.le_of_ble_eq_true rfl), (Nat.le_of_ble_eq_true rfl)⟩ (Nat.le_of_ble_eq_true rfl) dX8_windows_25) ⟨(Nat.le_of_ble_eq_true rfl), (Nat.le_of_ble_eq_true rfl)⟩ ?_
      refine k_ifb_ne 37 dX8_windows_28 (by decide) (fun h28 => ?_) (fun h28 => ?_)
      · have hd28 := of_decide_eq_true h28
        refine k_iload_n 3 3 dX8_windows_37 rfl rfl ?_
        refine k_if_lt 55 dX8_windows_38 (by decide) (inI_mk (by omega) (by omega)) (fun h38 => ?_) (fun h38 => ?_)
        · refine k_aload_n 0 0 dX8_windows_55 rfl rfl ?_
          refine k_iconst dX8_windows_56 ?_
          refine k_useV (k_runV (c_X8_fail θ.2.1 κ (mm := mm) (k := 2) hM) w_X8_57 ⟨q_846, q_18⟩ rfl rfl cmm rfl ⟨(Nat.le_of_ble_eq_true rfl), (Nat.le_of_ble_eq_true rfl)⟩ (Nat.le_of_ble_eq_true rfl) dX8_windows_57) ⟨(Nat.le_of_ble_eq_true rfl), (Nat.le_of_ble_eq_true rfl)⟩ (fun w9 Lx fx hw9 => ?_)
          obtain ⟨rfl, ex9, hMx, hrx⟩ := hw9
          replace ex9 := ex9.symm
          subst ex9
          exact k_iret dX8_windows_60 rfl (Nat.le_of_ble_eq_true rfl) (Nat.le_of_ble_eq_true rfl) (⟨_, rfl, _, rfl, (k_fr.trans (k_fr.mono hr1 (SM_of rfl)) hrx idf idf), Or.inr (Or.inr (⟨(by rw [xWindows, if_pos (by omega), if_pos (by omega), if_neg (by omega)]), hMx⟩))⟩)
        · refine k_iload_n 3 3 dX8_windows_41 rfl rfl ?_
          refine k_iload 4 dX8_windows_42 rfl ?_
          refine k_icmp_gt 55 dX8_windows_44 (by decide) (inI_mk (by omega) (by omega)) (inI_mk (by omega) (by omega)) (fun h44 => ?_) (fun h44 => ?_)
          · refine k_aload_n 0 0 dX8_windows_55 rfl rfl ?_
            refine k_iconst dX8_windows_56 ?_
            refine k_useV (k_runV (c_X8_fail θ.2.1 κ (mm := mm) (k := 2) hM) w_X8_57 ⟨q_846, q_18⟩ rfl rfl cmm rfl ⟨(Nat.le_of_ble_eq_true rfl), (Nat.le_of_ble_eq_true rfl)⟩ (Nat.le_of_ble_eq_true rfl) dX8_windows_57) ⟨(Nat.le_of_ble_eq_true rfl), (Nat.le_of_ble_eq_true rfl)⟩ (fun w9 Lx fx hw9 => ?_)
            obtain ⟨rfl, ex9, hMx, hrx⟩ := hw9
            replace ex9 := ex9.symm
            subst ex9
            exact k_iret dX8_windows_60 rfl (Nat.le_of_ble_eq_true rfl) (Nat.le_of_ble_eq_true rfl) (⟨_, rfl, _, rfl, (k_fr.trans (k_fr.mono hr1 (SM_of rfl)) hrx idf idf), Or.inr (Or.inr (⟨(by rw [xWindows, if_pos (by omega), if_pos (by omega), if_neg (by omega)]), hMx⟩))⟩)
          · refine k_iload 4 dX8_windows_47 rfl ?_
            refine k_sipush dX8_windows_49 (by decide) ?_
            refine k_icmp_lt 61 dX8_windows_52 (by decide) (inI_mk (by omega) (by omega)) (inI_mk (by omega) (by omega)) (fun h52 => ?_) (fun h52 => ?_)
            · obtain ⟨fan, rfl⟩ : ∃ fan : Nat, fa = (fan : Int) := ⟨fa.toNat, by omega⟩
              obtain ⟨fbn, rfl⟩ : ∃ fbn : Nat, fb = (fbn : Int) := ⟨fb.toNat, by omega⟩
              obtain ⟨wn, rfl⟩ : ∃ wn : Nat, what = (wn : Int) := ⟨what.toNat, by omega⟩
              obtain ⟨pn, rfl⟩ : ∃ pn : Nat, p = (pn : Int) := ⟨p.toNat, by omega⟩
              refine k_aload_n 0 0 dX8_windows_61 rfl rfl ?_
              refine k_useU (k_runV (c_X8_find θ.2.1 κ (σ := σ) (mm := mm) hM hs) w_X8_90 ⟨q_872, q_20⟩ rfl rfl cmm rfl ⟨(Nat.le_of_ble_eq_true rfl), (Nat.le_of_ble_eq_true rfl)⟩ (Nat.le_of_ble_eq_true rfl) dX8_windows_62) ⟨(Nat.le_of_ble_eq_true rfl), (Nat.le_of_ble_eq_true rfl)⟩ (fun Lq fq hwq => ?_)
              obtain ⟨eq9, hMf, hrF⟩ := hwq
              replace eq9 := eq9.symm
              subst eq9
              obtain ⟨A, RA, PE, OF, TA, RT, RH, HS, TI, ⟨cmm, c0, c1, c2, c3, c4, c5, c6, c7⟩, ⟨hMa, hMb, hMc, hMd⟩, hHS, hTI⟩ := id hMf
              refine k_iload_n 1 1 dX8_windows_65 rfl rfl ?_
              refine k_iconst dX8_windows_66 ?_
              refine k_icmp_eq 78 dX8_windows_67 (by decide) (inI_mk (by omega) (by omega)) (inI_mk (by omega) (by omega)) (fun h67 => ?_) (fun h67 => ?_)
              · omega
              · refine k_aload_n 0 0 dX8_windows_70 rfl rfl ?_
                refine k_iload_n 1 1 dX8_windows_71 rfl rfl ?_
                refine k_useR (k_runV (c_X8_isOrdered_f θ.2.1 κ (p := pn) (mm := mm) hMf hs (by omega)) w_X8_149 ⟨q_959, q_30⟩ rfl rfl cmm rfl ⟨(Nat.le_of_ble_eq_true rfl), (Nat.le_of_ble_eq_true rfl)⟩ (Nat.le_of_ble_eq_true rfl) dX8_windows_72) ⟨(Nat.le_of_ble_eq_true rfl), (Nat.le_of_ble_eq_true rfl)⟩ ?_
                refine k_ifb_eq 82 dX8_windows_75 (by decide) (fun h75 => ?_) (fun h75 => ?_)
                · refine k_iconst dX8_windows_82 ?_
                  refine k_istore [(6, .int (iI 0)), (0, .ref mm), (1, .int (iI (pn : Int))), (2, .int (iI lev)), (3, .int (iI (fan : Int))), (4, .int (iI (fbn : Int))), (5, .int (iI (wn : Int)))] dX8_windows_83 (by decide) rfl ?_
                  refine k_iconst dX8_windows_85 ?_
                  refine k_newai 30 4 q_135 rfl (by omega) (Nat.le_of_ble_eq_true rfl) (Nat.le_of_ble_eq_true rfl) dX8_windows_86 (fun told L15 f15 hz15 hn15 hc15 => ?_)
                  have hr15 := k_fr.new hz15
                  replace cmm := cmm.fr hr15 rfl
                  replace c0 := c0.fr hr15 rfl
                  replace c1 := c1.fr hr15 rfl
                  replace c2 := c2.fr hr15 rfl
                  replace c3 := c3.fr hr15 rfl
                  replace c4 := c4.fr hr15 rfl
                  replace c5 := c5.fr hr15 rfl
                  replace c6 := c6.fr hr15 rfl
                  replace c7 := c7.fr hr15 rfl
                  replace hMf := hMf.fr hr15 rfl
                  have cTold : Cl L15 f15 told (30, .inl (κ.2.2.1 0, 4, .inl (fun u9 => iI ((fun _ => 0) u9)))) := hc15
                  refine k_dup dX8_windows_88 rfl ?_
                  refine k_iconst dX8_windows_89 ?_
                  refine k_iconst dX8_windows_90 ?_
                  refine k_iast 0 cTold rfl (by omega) (by omega) dX8_windows_91 (fun f16 hf16 hc16 => ?_)
                  have hr16 := k_fr.put hf16 cTold
                  replace cmm := cmm.fr hr16 rfl
                  replace c0 := c0.fr hr16 rfl
                  replace c1 := c1.fr hr16 rfl
                  replace c2 := c2.fr hr16 rfl
                  replace c3 := c3.fr hr16 rfl
                  replace c4 := c4.fr hr16 rfl
                  replace c5 := c5.fr hr16 rfl
                  replace c6 := c6.fr hr16 rfl
                  replace c7 := c7.fr hr16 rfl
                  replace hMf := hMf.fr hr16 rfl
                  replace cTold : Cl L15 f16 told (30, .inl (κ.2.2.1 0, 4, .inl (fun u9 => iI ((va_up (fun _ => 0) 0 0) u9)))) := hc16
                  refine k_dup dX8_windows_92 rfl ?_
                  refine k_iconst dX8_windows_93 ?_
                  refine k_iconst dX8_windows_94 ?_
                  refine k_iast 1 cTold rfl (by omega) (by omega) dX8_windows_95 (fun f17 hf17 hc17 => ?_)
                  have hr17 := k_fr.put hf17 cTold
                  replace cmm := cmm.fr hr17 rfl
                  replace c0 := c0.fr hr17 rfl
                  replace c1 := c1.fr hr17 rfl
                  replace c2 := c2.fr hr17 rfl
                  replace c3 := c3.fr hr17 rfl
                  replace c4 := c4.fr hr17 rfl
                  replace c5 := c5.fr hr17 rfl
                  replace c6 := c6.fr hr17 rfl
                  replace c7 := c7.fr hr17 rfl
                  replace hMf := hMf.fr hr17 rfl
                  replace cTold : Cl L15 f17 told (30, .inl (κ.2.2.1 0, 4, .inl (fun u9 => iI ((va_up (va_up (fun _ => 0) 0 0) 1 0) u9)))) := hc17
                  refine k_dup dX8_windows_96 rfl ?_
                  refine k_iconst dX8_windows_97 ?_
                  refine k_iconst dX8_windows_98 ?_
                  refine k_iast 2 cTold rfl (by omega) (by omega) dX8_windows_99 (fun f18 hf18 hc18 => ?_)
                  have hr18 := k_fr.put hf18 cTold
                  replace cmm := cmm.fr hr18 rfl
                  replace c0 := c0.fr hr18 rfl
                  replace c1 := c1.fr hr18 rfl
                  replace c2 := c2.fr hr18 rfl
                  replace c3 := c3.fr hr18 rfl
                  replace c4 := c4.fr hr18 rfl
                  replace c5 := c5.fr hr18 rfl
                  replace c6 := c6.fr hr18 rfl
                  replace c7 := c7.fr hr18 rfl
                  replace hMf := hMf.fr hr18 rfl
                  replace cTold : Cl L15 f18 told (30, .inl (κ.2.2.1 0, 4, .inl (fun u9 => iI ((va_up (va_up (va_up (fun _ => 0) 0 0) 1 0) 2 (-1)) u9)))) := hc18
                  refine k_dup dX8_windows_100 rfl ?_
                  refine k_iconst dX8_windows_101 ?_
                  refine k_iconst dX8_windows_102 ?_
                  refine k_iast 3 cTold rfl (by omega) (by omega) dX8_windows_103 (fun f19 hf19 hc19 => ?_)
                  have hr19 := k_fr.put hf19 cTold
                  replace cmm := cmm.fr hr19 rfl
                  replace c0 := c0.fr hr19 rfl
                  replace c1 := c1.fr hr19 rfl
                  replace c2 := c2.fr hr19 rfl
                  replace c3 := c3.fr hr19 rfl
                  replace c4 := c4.fr hr19 rfl
                  replace c5 := c5.fr hr19 rfl
                  replace c6 := c6.fr hr19 rfl
                  replace c7 := c7.fr hr19 rfl
                  replace hMf := hMf.fr hr19 rfl
                  replace cTold : Cl L15 f19 told (30, .inl (κ.2.2.1 0, 4, .inl (fun u9 => iI ((va_up (va_up (va_up (va_up (fun _ => 0) 0 0) 1 0) 2 (-1)) 3 0) u9)))) := hc19
                  refine k_astore [(7, .ref told), (6, .int (iI 0)), (0, .ref mm), (1, .int (iI (pn : Int))), (2, .int (iI lev)), (3, .int (iI (fan : Int))), (4, .int (iI (fbn : Int))), (5, .int (iI (wn : Int)))] dX8_windows_104 (by decide) rfl ?_
                  refine k_iconst dX8_windows_106 ?_
                  refine k_istore [(8, .int (iI 0)), (7, .ref told), (6, .int (iI 0)), (0, .ref mm), (1, .int (iI (pn : Int))), (2, .int (iI lev)), (3, .int (iI (fan : Int))), (4, .int (iI (fbn : Int))), (5, .int (iI (wn : Int)))] dX8_windows_107 (by decide) rfl ?_
                  refine k_iconst dX8_windows_109 ?_
                  refine k_istore [(9, .int (iI (-1))), (8, .int (iI 0)), (7, .ref told), (6, .int (iI 0)), (0, .ref mm), (1, .int (iI (pn : Int))), (2, .int (iI lev)), (3, .int (iI (fan : Int))), (4, .int (iI (fbn : Int))), (5, .int (iI (wn : Int)))] dX8_windows_110 (by decide) rfl ?_
                  refine k_iload_n 7 3 dX8_windows_112 rfl rfl ?_
                  refine k_istore [(10, .int (iI (fan : Int))), (9, .int (iI (-1))), (8, .int (iI 0)), (7, .ref told), (6, .int (iI 0)), (0, .ref mm), (1, .int (iI (pn : Int))), (2, .int (iI lev)), (3, .int (iI (fan : Int))), (4, .int (iI (fbn : Int))), (5, .int (iI (wn : Int)))] dX8_windows_113 (by decide) rfl ?_
                  have lp115 : ∀ (fuel : Nat) (m : Nat), (fan + m ≤ fbn + 1) → fbn + 1 - (fan + m) < fuel → k_G θ κ cX8_windows 12 (some .int) RX8 (k_rm 7 1 4) (k_MQ θ κ (k_rn (fun v9 L' f' => ∃ v : Int, v9 = .int (iI v) ∧ k_fr SM L f L' f' ∧ ((xWindows σ (pn : Int) (fan : Int) (fbn : Int) (wn : Int) = none ∧ v = aWindows σ (pn : Int) lev (fan : Int) (fbn : Int) (wn : Int) ∧ MS κ L' f' mm 0 σ) ∨ (xWindows σ (pn : Int) (fan : Int) (fbn : Int) (wn : Int) = some cIO ∧ MS κ L' f' mm 1 σ) ∨ (xWindows σ (pn : Int) (fan : Int) (fbn : Int) (wn : Int) = some cIA ∧ MS κ L' f' mm 2 σ)))) 1 4) L15 f19 (0 + 1) (0 + 4) 115 [(0, .ref mm), (1, .int (iI (pn : Int))), (2, .int (iI lev)), (3, .int (iI (fan : Int))), (4, .int (iI (fbn : Int))), (5, .int (iI (wn : Int))), (6, .int (iI 0)), (7, .ref told), (8, .int (iI 0)), (9, .int (iI (-1))), (10, .int (iI ((fan + m : Nat) : Int)))] [] := by
                    intro fuel
                    induction fuel with
                    | zero =>
                      intro m hm hfu
                      exact absurd hfu (Nat.not_lt_zero _)
                    | succ fuel ih115 =>
                      intro m hm hfu
                      refine k_iload 10 dX8_windows_115 rfl ?_
                      refine k_iload 4 dX8_windows_117 rfl ?_
                      refine k_icmp_gt 305 dX8_windows_119 (by decide) (inI_mk (by omega) (by omega)) (inI_mk (by omega) (by omega)) (fun h119 => ?_) (fun h119 => ?_)
                      · refine k_aload 7 dX8_windows_305 rfl ?_
                        refine k_iload 5 dX8_windows_307 rfl ?_
                        refine k_iald wn cTold rfl (by omega) (by omega) dX8_windows_309 ?_
                        have hMz : MS κ L15 f19 mm 0 σ := ⟨A, true, _, RA, PE, OF, TA, RT, RH, HS, TI, ⟨cmm, c0, c1, c2, c3, c4, c5, c6, c7⟩, ⟨hMa, hMb, hMc, hMd⟩, fun _ => ⟨rfl, hHS, hTI⟩⟩
                        exact k_iret dX8_windows_310 rfl (Nat.le_of_ble_eq_true rfl) (Nat.le_of_ble_eq_true rfl) (⟨_, rfl, _, rfl, (k_fr.trans (k_fr.trans (k_fr.trans (k_fr.trans (k_fr.trans (k_fr.trans (k_fr.mono hr1 (SM_of rfl)) hrF idf idf) hr15 idf (fun _ _ => rfl)) hr16 idf (SM_of rfl)) hr17 idf (SM_of rfl)) hr18 idf (SM_of rfl)) hr19 idf (SM_of rfl)), Or.inl ⟨(by rw [xWindows, if_pos (by omega), if_pos (by omega), if_pos (by omega)]), (by rw [aWindows, if_neg (show ¬ ((pn : Int) = -1) by omega)]; simp only [Int.toNat_natCast]; rw [if_neg (by rw [h75]; decide)]; exact TW.ans (run := 0) (x := tl0) ⟨rfl, rfl, rfl, rfl, rfl⟩ (by omega)), hMz⟩⟩)
                      · refine k_iload_n 1 1 dX8_windows_122 rfl rfl ?_
                        refine k_iconst dX8_windows_123 ?_
                        refine k_icmp_ne 144 dX8_windows_124 (by decide) (inI_mk (by omega) (by omega)) (inI_mk (by omega) (by omega)) (fun h124 => ?_) (fun h124 => ?_)
                        · refine k_iconst dX8_windows_144 ?_
                          refine k_istore [(11, .int (iI 0)), (0, .ref mm), (1, .int (iI (pn : Int))), (2, .int (iI lev)), (3, .int (iI (fan : Int))), (4, .int (iI (fbn : Int))), (5, .int (iI (wn : Int))), (6, .int (iI 0)), (7, .ref told), (8, .int (iI 0)), (9, .int (iI (-1))), (10, .int (iI ((fan + m : Nat) : Int)))] dX8_windows_145 (by decide) rfl ?_
                          refine k_iload_n 2 1 dX8_windows_147 rfl rfl ?_
                          refine k_iconst dX8_windows_148 ?_
                          refine k_icmp_eq 227 dX8_windows_149 (by decide) (inI_mk (by omega) (by omega)) (inI_mk (by omega) (by omega)) (fun h149 => ?_) (fun h149 => ?_)
                          · omega
                          · refine k_iload 7 dX8_windows_152 rfl ?_
                            refine k_if_eq 227 dX8_windows_154 (by decide) (inI_mk (by omega) (by omega)) (fun h154 => ?_) (fun h154 => ?_)
                            · refine k_iload 0 dX8_windows_227 rfl ?_
                              refine k_if_eq 239 dX8_windows_229 (by decide) (inI_mk (by omega) (by omega)) (fun h229 => ?_) (fun h229 => ?_)
                              · refine k_iconst dX8_windows_239 ?_
                                refine k_istore [(8, .int (iI 0)), (11, .int (iI 0)), (0, .ref mm), (1, .int (iI (pn : Int))), (2, .int (iI lev)), (3, .int (iI (fan : Int))), (4, .int (iI (fbn : Int))), (5, .int (iI (wn : Int))), (6, .int (iI 0)), (7, .ref told), (9, .int (iI (-1))), (10, .int (iI ((fan + m : Nat) : Int)))] dX8_windows_240 (by decide) rfl ?_
                                refine k_iload 1 dX8_windows_242 rfl ?_
                                refine k_if_ne 250 dX8_windows_244 (by decide) (inI_mk (by omega) (by omega)) (fun h244 => ?_) (fun h244 => ?_)
                                · omega
                                · refine k_goto 299 dX8_windows_247 (by decide) ?_
                                  refine k_iinc 11 [(10, .int (iI (((fan + m : Nat) : Int) + 1))), (8, .int (iI 0)), (11, .int (iI 0)), (0, .ref mm), (1, .int (iI (pn : Int))), (2, .int (iI lev)), (3, .int (iI (fan : Int))), (4, .int (iI (fbn : Int))), (5, .int (iI (wn : Int))), (6, .int (iI 0)), (7, .ref told), (9, .int (iI (-1)))] dX8_windows_299 rfl (by decide) rfl ?_
                                  refine k_goto 115 dX8_windows_302 (by decide) ?_
                                  refine k_perm [3, 4, 5, 6, 7, 8, 9, 10, 1, 11, 0] [(0, .ref mm), (1, .int (iI (pn : Int))), (2, .int (iI lev)), (3, .int (iI (fan : Int))), (4, .int (iI (fbn : Int))), (5, .int (iI (wn : Int))), (6, .int (iI 0)), (7, .ref told), (8, .int (iI 0)), (9, .int (iI (-1))), (10, .int (iI (((fan + m : Nat) : Int) + 1)))] rfl ?_
                                  exact ih115 (m + 1) (by omega) (by omega)
                              · omega
                            · omega
                        · omega
                  refine k_perm [5, 6, 7, 8, 9, 10, 4, 3, 2, 1, 0] [(0, .ref mm), (1, .int (iI (pn : Int))), (2, .int (iI lev)), (3, .int (iI (fan : Int))), (4, .int (iI (fbn : Int))), (5, .int (iI (wn : Int))), (6, .int (iI 0)), (7, .ref told), (8, .int (iI 0)), (9, .int (iI (-1))), (10, .int (iI (fan : Int)))] rfl ?_
                  exact lp115 _ 0 (by omega) (Nat.lt_succ_self _)
                · refine k_iconst dX8_windows_78 ?_
                  refine k_goto 83 dX8_windows_79 (by decide) ?_
                  refine k_istore [(6, .int (iI 1)), (0, .ref mm), (1, .int (iI (pn : Int))), (2, .int (iI lev)), (3, .int (iI (fan : Int))), (4, .int (iI (fbn : Int))), (5, .int (iI (wn : Int)))] dX8_windows_83 (by decide) rfl ?_
                  refine k_iconst dX8_windows_85 ?_
                  refine k_newai 30 4 q_135 rfl (by omega) (Nat.le_of_ble_eq_true rfl) (Nat.le_of_ble_eq_true rfl) dX8_windows_86 (fun told L20 f20 hz20 hn20 hc20 => ?_)
                  have hr20 := k_fr.new hz20
                  replace cmm := cmm.fr hr20 rfl
                  replace c0 := c0.fr hr20 rfl
                  replace c1 := c1.fr hr20 rfl
                  replace c2 := c2.fr hr20 rfl
                  replace c3 := c3.fr hr20 rfl
                  replace c4 := c4.fr hr20 rfl
                  replace c5 := c5.fr hr20 rfl
                  replace c6 := c6.fr hr20 rfl
                  replace c7 := c7.fr hr20 rfl
                  replace hMf := hMf.fr hr20 rfl
                  have cTold : Cl L20 f20 told (30, .inl (κ.2.2.1 0, 4, .inl (fun u9 => iI ((fun _ => 0) u9)))) := hc20
                  refine k_dup dX8_windows_88 rfl ?_
                  refine k_iconst dX8_windows_89 ?_
                  refine k_iconst dX8_windows_90 ?_
                  refine k_iast 0 cTold rfl (by omega) (by omega) dX8_windows_91 (fun f21 hf21 hc21 => ?_)
                  have hr21 := k_fr.put hf21 cTold
                  replace cmm := cmm.fr hr21 rfl
                  replace c0 := c0.fr hr21 rfl
                  replace c1 := c1.fr hr21 rfl
                  replace c2 := c2.fr hr21 rfl
                  replace c3 := c3.fr hr21 rfl
                  replace c4 := c4.fr hr21 rfl
                  replace c5 := c5.fr hr21 rfl
                  replace c6 := c6.fr hr21 rfl
                  replace c7 := c7.fr hr21 rfl
                  replace hMf := hMf.fr hr21 rfl
                  replace cTold : Cl L20 f21 told (30, .inl (κ.2.2.1 0, 4, .inl (fun u9 => iI ((va_up (fun _ => 0) 0 0) u9)))) := hc21
                  refine k_dup dX8_windows_92 rfl ?_
                  refine k_iconst dX8_windows_93 ?_
                  refine k_iconst dX8_windows_94 ?_
                  refine k_iast 1 cTold rfl (by omega) (by omega) dX8_windows_95 (fun f22 hf22 hc22 => ?_)
                  have hr22 := k_fr.put hf22 cTold
                  replace cmm := cmm.fr hr22 rfl
                  replace c0 := c0.fr hr22 rfl
                  replace c1 := c1.fr hr22 rfl
                  replace c2 := c2.fr hr22 rfl
                  replace c3 := c3.fr hr22 rfl
                  replace c4 := c4.fr hr22 rfl
                  replace c5 := c5.fr hr22 rfl
                  replace c6 := c6.fr hr22 rfl
                  replace c7 := c7.fr hr22 rfl
                  replace hMf := hMf.fr hr22 rfl
                  replace cTold : Cl L20 f22 told (30, .inl (κ.2.2.1 0, 4, .inl (fun u9 => iI ((va_up (va_up (fun _ => 0) 0 0) 1 0) u9)))) := hc22
                  refine k_dup dX8_windows_96 rfl ?_
                  refine k_iconst dX8_windows_97 ?_
                  refine k_iconst dX8_windows_98 ?_
                  refine k_iast 2 cTold rfl (by omega) (by omega) dX8_windows_99 (fun f23 hf23 hc23 => ?_)
                  have hr23 := k_fr.put hf23 cTold
                  replace cmm := cmm.fr hr23 rfl
                  replace c0 := c0.fr hr23 rfl
                  replace c1 := c1.fr hr23 rfl
                  replace c2 := c2.fr hr23 rfl
                  replace c3 := c3.fr hr23 rfl
                  replace c4 := c4.fr hr23 rfl
                  replace c5 := c5.fr hr23 rfl
                  replace c6 := c6.fr hr23 rfl
                  replace c7 := c7.fr hr23 rfl
                  replace hMf := hMf.fr hr23 rfl
                  replace cTold : Cl L20 f23 told (30, .inl (κ.2.2.1 0, 4, .inl (fun u9 => iI ((va_up (va_up (va_up (fun _ => 0) 0 0) 1 0) 2 (-1)) u9)))) := hc23
                  refine k_dup dX8_windows_100 rfl ?_
                  refine k_iconst dX8_windows_101 ?_
                  refine k_iconst dX8_windows_102 ?_
                  refine k_iast 3 cTold rfl (by omega) (by omega) dX8_windows_103 (fun f24 hf24 hc24 => ?_)
                  have hr24 := k_fr.put hf24 cTold
                  replace cmm := cmm.fr hr24 rfl
                  replace c0 := c0.fr hr24 rfl
                  replace c1 := c1.fr hr24 rfl
                  replace c2 := c2.fr hr24 rfl
                  replace c3 := c3.fr hr24 rfl
                  replace c4 := c4.fr hr24 rfl
                  replace c5 := c5.fr hr24 rfl
                  replace c6 := c6.fr hr24 rfl
                  replace c7 := c7.fr hr24 rfl
                  replace hMf := hMf.fr hr24 rfl
                  replace cTold : Cl L20 f24 told (30, .inl (κ.2.2.1 0, 4, .inl (fun u9 => iI ((va_up (va_up (va_up (va_up (fun _ => 0) 0 0) 1 0) 2 (-1)) 3 0) u9)))) := hc24
                  refine k_astore [(7, .ref told), (6, .int (iI 1)), (0, .ref mm), (1, .int (iI (pn : Int))), (2, .int (iI lev)), (3, .int (iI (fan : Int))), (4, .int (iI (fbn : Int))), (5, .int (iI (wn : Int)))] dX8_windows_104 (by decide) rfl ?_
                  refine k_iconst dX8_windows_106 ?_
                  refine k_istore [(8, .int (iI 0)), (7, .ref told), (6, .int (iI 1)), (0, .ref mm), (1, .int (iI (pn : Int))), (2, .int (iI lev)), (3, .int (iI (fan : Int))), (4, .int (iI (fbn : Int))), (5, .int (iI (wn : Int)))] dX8_windows_107 (by decide) rfl ?_
                  refine k_iconst dX8_windows_109 ?_
                  refine k_istore [(9, .int (iI (-1))), (8, .int (iI 0)), (7, .ref told), (6, .int (iI 1)), (0, .ref mm), (1, .int (iI (pn : Int))), (2, .int (iI lev)), (3, .int (iI (fan : Int))), (4, .int (iI (fbn : Int))), (5, .int (iI (wn : Int)))] dX8_windows_110 (by decide) rfl ?_
                  refine k_iload_n 7 3 dX8_windows_112 rfl rfl ?_
                  refine k_istore [(10, .int (iI (fan : Int))), (9, .int (iI (-1))), (8, .int (iI 0)), (7, .ref told), (6, .int (iI 1)), (0, .ref mm), (1, .int (iI (pn : Int))), (2, .int (iI lev)), (3, .int (iI (fan : Int))), (4, .int (iI (fbn : Int))), (5, .int (iI (wn : Int)))] dX8_windows_113 (by decide) rfl ?_
                  have lp115 : ∀ (fuel : Nat) (fw : Nat → wE) (m : Nat) (T9 : Nat → Int) (run a9 : Int), (fan + m ≤ fbn + 1) → (TW T9 run (tlP (hT σ.1) (σ.2.2.1 pn) lev fan m)) → (k_fr SM L f L20 fw) → (a9 = ((wAt (hT σ.1) (σ.2.2.1 pn) fan m : Nat) : Int) - 1) → (Cl L20 fw mm (21, .inr (9, [.int (iI 0), .int (iI (σ.1.2.1 : Int)), .ref (A 0), .ref (A 1), .ref (A 2), .int (iI σ.1.1), .int (iI (σ.2.1 : Int)), .ref (A 3), .int (iI (σ.2.2.2.1 : Int)), .ref (A 4), .ref (A 5), .int (iI (bI true)), .ref (A 6), .int (iI (nW (hT σ.1) : Int)), .ref (A 7)]))) → (Cl L20 fw (A 0) (22, .inl (κ.2.2.1 0, 8, .inl (fun u9 => iI (RA u9))))) → (Cl L20 fw (A 1) (23, .inl (κ.2.2.1 0, 8, .inl (fun u9 => iI (PE u9))))) → (Cl L20 fw (A 2) (24, .inl (κ.2.2.1 0, 8, .inl (fun u9 => iI (OF u9))))) → (Cl L20 fw (A 3) (25, .inl (κ.2.2.1 0, 30, .inl (fun u9 => iI (TA u9))))) → (Cl L20 fw (A 4) (26, .inl (κ.2.2.1 0, 40, .inl (fun u9 => iI (RT u9))))) → (Cl L20 fw (A 5) (27, .inl (κ.2.2.1 0, 40, .inl (fun u9 => iI (RH u9))))) → (Cl L20 fw (A 6) (28, .inl (κ.2.2.1 1, 4320, .inr (.inl (fun u9 => lI (HS u9)))))) → (Cl L20 fw (A 7) (29, .inl (κ.2.2.1 0, 4320, .inl (fun u9 => iI (TI u9))))) → (Cl L20 fw told (30, .inl (κ.2.2.1 0, 4, .inl (fun u9 => iI (T9 u9))))) → (MSf κ L20 fw mm 0 σ) → fbn + 1 - (fan + m) < fuel → k_G θ κ cX8_windows 12 (some .int) RX8 (k_rm 7 1 4) (k_MQ θ κ (k_rn (fun v9 L' f' => ∃ v : Int, v9 = .int (iI v) ∧ k_fr SM L f L' f' ∧ ((xWindows σ (pn : Int) (fan : Int) (fbn : Int) (wn : Int) = none ∧ v = aWindows σ (pn : Int) lev (fan : Int) (fbn : Int) (wn : Int) ∧ MS κ L' f' mm 0 σ) ∨ (xWindows σ (pn : Int) (fan : Int) (fbn : Int) (wn : Int) = some cIO ∧ MS κ L' f' mm 1 σ) ∨ (xWindows σ (pn : Int) (fan : Int) (fbn : Int) (wn : Int) = some cIA ∧ MS κ L' f' mm 2 σ)))) 1 4) L20 fw (0 + 1) (0 + 4) 115 [(0, .ref mm), (1, .int (iI (pn : Int))), (2, .int (iI lev)), (3, .int (iI (fan : Int))), (4, .int (iI (fbn : Int))), (5, .int (iI (wn : Int))), (6, .int (iI 1)), (7, .ref told), (8, .int (iI run)), (9, .int (iI a9)), (10, .int (iI ((fan + m : Nat) : Int)))] [] := by
                    intro fuel
                    induction fuel with
                    | zero =>
                      intro fw m T9 run a9 hm hTW hfr ha9 cmm c0 c1 c2 c3 c4 c5 c6 c7 cTold hMf hfu
                      exact absurd hfu (Nat.not_lt_zero _)
                    | succ fuel ih115 =>
                      intro fw m T9 run a9 hm hTW hfr ha9 cmm c0 c1 c2 c3 c4 c5 c6 c7 cTold hMf hfu
                      obtain ⟨w0, w1, w2, w3, w4⟩ := id hTW
                      obtain ⟨⟨na1, na2⟩, ⟨nb1, nb2⟩, ⟨nf1, nf2⟩⟩ := tlP_in (h := (hT σ.1)) (q := (σ.2.2.1 pn)) (lev := lev) (a := fan) m (by omega)
                      refine k_iload 10 dX8_windows_115 rfl ?_
                      refine k_iload 4 dX8_windows_117 rfl ?_
                      refine k_icmp_gt 305 dX8_windows_119 (by decide) (inI_mk (by omega) (by omega)) (inI_mk (by omega) (by omega)) (fun h119 => ?_) (fun h119 => ?_)
                      · refine k_aload 7 dX8_windows_305 rfl ?_
                        refine k_iload 5 dX8_windows_307 rfl ?_
                        refine k_iald wn cTold rfl (by omega) (by omega) dX8_windows_309 ?_
                        have hMz : MS κ L20 fw mm 0 σ := ⟨A, true, _, RA, PE, OF, TA, RT, RH, HS, TI, ⟨cmm, c0, c1, c2, c3, c4, c5, c6, c7⟩, ⟨hMa, hMb, hMc, hMd⟩, fun _ => ⟨rfl, hHS, hTI⟩⟩
                        exact k_iret dX8_windows_310 rfl (Nat.le_of_ble_eq_true rfl) (Nat.le_of_ble_eq_true rfl) (⟨_, rfl, _, rfl, hfr, Or.inl ⟨(by rw [xWindows, if_pos (by omega), if_pos (by omega), if_pos (by omega)]), (by rw [aWindows, if_neg (show ¬ ((pn : Int) = -1) by omega)]; simp only [Int.toNat_natCast]; rw [if_pos h75, show fbn + 1 - fan = m by omega]; exact hTW.ans (by omega)), hMz⟩⟩)
                      · refine k_iload_n 1 1 dX8_windows_122 rfl rfl ?_
                        refine k_iconst dX8_windows_123 ?_
                        refine k_icmp_ne 144 dX8_windows_124 (by decide) (inI_mk (by omega) (by omega)) (inI_mk (by omega) (by omega)) (fun h124 => ?_) (fun h124 => ?_)
                        · refine k_iconst dX8_windows_144 ?_
                          refine k_istore [(11, .int (iI 0)), (0, .ref mm), (1, .int (iI (pn : Int))), (2, .int (iI lev)), (3, .int (iI (fan : Int))), (4, .int (iI (fbn : Int))), (5, .int (iI (wn : Int))), (6, .int (iI 1)), (7, .ref told), (8, .int (iI run)), (9, .int (iI a9)), (10, .int (iI ((fan + m : Nat) : Int)))] dX8_windows_145 (by decide) rfl ?_
                          refine k_iload_n 2 1 dX8_windows_147 rfl rfl ?_
                          refine k_iconst dX8_windows_148 ?_
                          refine k_icmp_eq 227 dX8_windows_149 (by decide) (inI_mk (by omega) (by omega)) (inI_mk (by omega) (by omega)) (fun h149 => ?_) (fun h149 => ?_)
                          · omega
                          · refine k_iload 7 dX8_windows_152 rfl ?_
                            refine k_if_eq 227 dX8_windows_154 (by decide) (inI_mk (by omega) (by omega)) (fun h154 => ?_) (fun h154 => ?_)
                            · omega
                            · have lp157 : ∀ (fuel : Nat) (y : Nat) (a8 : Int), (y ≤ nW (hT σ.1)) → (a8 = (y : Int) - 1) → (lat (hT σ.1) (σ.2.2.1 pn) ((fan + m : Nat) : Int) y = wAt (hT σ.1) (σ.2.2.1 pn) fan (m + 1)) → (wAt (hT σ.1) (σ.2.2.1 pn) fan m ≤ y) → nW (hT σ.1) - y < fuel → k_G θ κ cX8_windows 12 (some .int) RX8 (k_rm 7 1 4) (k_MQ θ κ (k_rn (fun v9 L' f' => ∃ v : Int, v9 = .int (iI v) ∧ k_fr SM L f L' f' ∧ ((xWindows σ (pn : Int) (fan : Int) (fbn : Int) (wn : Int) = none ∧ v = aWindows σ (pn : Int) lev (fan : Int) (fbn : Int) (wn : Int) ∧ MS κ L' f' mm 0 σ) ∨ (xWindows σ (pn : Int) (fan : Int) (fbn : Int) (wn : Int) = some cIO ∧ MS κ L' f' mm 1 σ) ∨ (xWindows σ (pn : Int) (fan : Int) (fbn : Int) (wn : Int) = some cIA ∧ MS κ L' f' mm 2 σ)))) 1 4) L20 fw (0 + 1) (0 + 4) 157 [(0, .ref mm), (1, .int (iI (pn : Int))), (2, .int (iI lev)), (3, .int (iI (fan : Int))), (4, .int (iI (fbn : Int))), (5, .int (iI (wn : Int))), (6, .int (iI 1)), (7, .ref told), (8, .int (iI run)), (9, .int (iI a8)), (10, .int (iI ((fan + m : Nat) : Int))), (11, .int (iI 0))] [] := by
                                intro fuel
                                induction fuel with
                                | zero =>
                                  intro y a8 hy ha8 hl hyw hfu
                                  exact absurd hfu (Nat.not_lt_zero _)
                                | succ fuel ih157 =>
                                  intro y a8 hy ha8 hl hyw hfu
                                  refine k_iload 9 dX8_windows_157 rfl ?_
                                  refine k_iconst dX8_windows_159 ?_
                                  refine k_iadd dX8_windows_160 ?_
                                  refine k_topi (y : Int) (by omega) ?_
                                  refine k_aload_n 0 0 dX8_windows_161 rfl rfl ?_
                                  refine k_get 13 i_X8 q_796 cmm rfl (by decide) rfl dX8_windows_162 ?_
                                  refine k_icmp_ge 188 dX8_windows_165 (by decide) (inI_mk (by omega) (by omega)) (inI_mk (by omega) (by omega)) (fun h165 => ?_) (fun h165 => ?_)
                                  · have hwy : wAt (hT σ.1) (σ.2.2.1 pn) fan (m + 1) = y := by rw [← hl, lat_stop (fun q9 => by omega)]
                                    refine k_iload 9 dX8_windows_188 rfl ?_
                                    refine k_iconst dX8_windows_190 ?_
                                    refine k_icmp_eq 224 dX8_windows_191 (by decide) (inI_mk (by omega) (by omega)) (inI_mk (by omega) (by omega)) (fun h191 => ?_) (fun h191 => ?_)
                                    · refine k_iconst dX8_windows_224 ?_
                                      refine k_istore [(11, .int (iI 0)), (0, .ref mm), (1, .int (iI (pn : Int))), (2, .int (iI lev)), (3, .int (iI (fan : Int))), (4, .int (iI (fbn : Int))), (5, .int (iI (wn : Int))), (6, .int (iI 1)), (7, .ref told), (8, .int (iI run)), (9, .int (iI a8)), (10, .int (iI ((fan + m : Nat) : Int)))] dX8_windows_225 (by decide) rfl ?_
                                      refine k_iload 0 dX8_windows_227 rfl ?_
                                      refine k_if_eq 239 dX8_windows_229 (by decide) (inI_mk (by omega) (by omega)) (fun h229 => ?_) (fun h229 => ?_)
                                      · refine k_iconst dX8_windows_239 ?_
                                        refine k_istore [(8, .int (iI 0)), (11, .int (iI 0)), (0, .ref mm), (1, .int (iI (pn : Int))), (2, .int (iI lev)), (3, .int (iI (fan : Int))), (4, .int (iI (fbn : Int))), (5, .int (iI (wn : Int))), (6, .int (iI 1)), (7, .ref told), (9, .int (iI a8)), (10, .int (iI ((fan + m : Nat) : Int)))] dX8_windows_240 (by decide) rfl ?_
                                        refine k_iload 1 dX8_windows_242 rfl ?_
                                        refine k_if_ne 250 dX8_windows_244 (by decide) (inI_mk (by omega) (by omega)) (fun h244 => ?_) (fun h244 => ?_)
                                        · omega
                                        · refine k_goto 299 dX8_windows_247 (by decide) ?_
                                          refine k_iinc 11 [(10, .int (iI (((fan + m : Nat) : Int) + 1))), (8, .int (iI 0)), (11, .int (iI 0)), (0, .ref mm), (1, .int (iI (pn : Int))), (2, .int (iI lev)), (3, .int (iI (fan : Int))), (4, .int (iI (fbn : Int))), (5, .int (iI (wn : Int))), (6, .int (iI 1)), (7, .ref told), (9, .int (iI a8))] dX8_windows_299 rfl (by decide) rfl ?_
                                          refine k_goto 115 dX8_windows_302 (by decide) ?_
                                          refine k_perm [3, 4, 5, 6, 7, 8, 9, 10, 1, 11, 0] [(0, .ref mm), (1, .int (iI (pn : Int))), (2, .int (iI lev)), (3, .int (iI (fan : Int))), (4, .int (iI (fbn : Int))), (5, .int (iI (wn : Int))), (6, .int (iI 1)), (7, .ref told), (8, .int (iI 0)), (9, .int (iI a8)), (10, .int (iI (((fan + m : Nat) : Int) + 1)))] rfl ?_
                                          have hTW3 := hTW.no (m := ((fan + m : Nat) : Int))
                                          have hTW2 : TW T9 0 (tlP (hT σ.1) (σ.2.2.1 pn) lev fan (m + 1)) := by
                                            rw [tlP, hwy, decide_eq_false (fun q9 => by omega)]
                                            exact hTW3
                                          exact ih115 fw (m + 1) T9 0 a8 (by omega) hTW2 hfr (by rw [hwy]; omega) cmm c0 c1 c2 c3 c4 c5 c6 c7 cTold hMf (by omega)
                                      · omega
                                    · refine k_iload 9 dX8_windows_194 rfl ?_
                                      refine k_iconst dX8_windows_196 ?_
                                      refine k_iadd dX8_windows_197 ?_
                                      refine k_topi (y : Int) (by omega) ?_
                                      refine k_aload_n 0 0 dX8_windows_198 rfl rfl ?_
                                      refine k_get 13 i_X8 q_796 cmm rfl (by decide) rfl dX8_windows_199 ?_
                                      refine k_icmp_ge 224 dX8_windows_202 (by decide) (inI_mk (by omega) (by omega)) (inI_mk (by omega) (by omega)) (fun h202 => ?_) (fun h202 => ?_)
                                      · refine k_iconst dX8_windows_224 ?_
                                        refine k_istore [(11, .int (iI 0)), (0, .ref mm), (1, .int (iI (pn : Int))), (2, .int (iI lev)), (3, .int (iI (fan : Int))), (4, .int (iI (fbn : Int))), (5, .int (iI (wn : Int))), (6, .int (iI 1)), (7, .ref told), (8, .int (iI run)), (9, .int (iI a8)), (10, .int (iI ((fan + m : Nat) : Int)))] dX8_windows_225 (by decide) rfl ?_
                                        refine k_iload 0 dX8_windows_227 rfl ?_
                                        refine k_if_eq 239 dX8_windows_229 (by decide) (inI_mk (by omega) (by omega)) (fun h229 => ?_) (fun h229 => ?_)
                                        · refine k_iconst dX8_windows_239 ?_
                                          refine k_istore [(8, .int (iI 0)), (11, .int (iI 0)), (0, .ref mm), (1, .int (iI (pn : Int))), (2, .int (iI lev)), (3, .int (iI (fan : Int))), (4, .int (iI (fbn : Int))), (5, .int (iI (wn : Int))), (6, .int (iI 1)), (7, .ref told), (9, .int (iI a8)), (10, .int (iI ((fan + m : Nat) : Int)))] dX8_windows_240 (by decide) rfl ?_
                                          refine k_iload 1 dX8_windows_242 rfl ?_
                                          refine k_if_ne 250 dX8_windows_244 (by decide) (inI_mk (by omega) (by omega)) (fun h244 => ?_) (fun h244 => ?_)
                                          · omega
                                          · refine k_goto 299 dX8_windows_247 (by decide) ?_
                                            refine k_iinc 11 [(10, .int (iI (((fan + m : Nat) : Int) + 1))), (8, .int (iI 0)), (11, .int (iI 0)), (0, .ref mm), (1, .int (iI (pn : Int))), (2, .int (iI lev)), (3, .int (iI (fan : Int))), (4, .int (iI (fbn : Int))), (5, .int (iI (wn : Int))), (6, .int (iI 1)), (7, .ref told), (9, .int (iI a8))] dX8_windows_299 rfl (by decide) rfl ?_
                                            refine k_goto 115 dX8_windows_302 (by decide) ?_
                                            refine k_perm [3, 4, 5, 6, 7, 8, 9, 10, 1, 11, 0] [(0, .ref mm), (1, .int (iI (pn : Int))), (2, .int (iI lev)), (3, .int (iI (fan : Int))), (4, .int (iI (fbn : Int))), (5, .int (iI (wn : Int))), (6, .int (iI 1)), (7, .ref told), (8, .int (iI 0)), (9, .int (iI a8)), (10, .int (iI (((fan + m : Nat) : Int) + 1)))] rfl ?_
                                            have hTW3 := hTW.no (m := ((fan + m : Nat) : Int))
                                            have hTW2 : TW T9 0 (tlP (hT σ.1) (σ.2.2.1 pn) lev fan (m + 1)) := by
                                              rw [tlP, hwy, decide_eq_false (fun q9 => by omega)]
                                              exact hTW3
                                            exact ih115 fw (m + 1) T9 0 a8 (by omega) hTW2 hfr (by rw [hwy]; omega) cmm c0 c1 c2 c3 c4 c5 c6 c7 cTold hMf (by omega)
                                        · omega
                                      · obtain ⟨yk, hyk⟩ : ∃ yk : Nat, y = yk + 1 := ⟨y - 1, by omega⟩
                                        have hwsp := (wAt_spec (h := (hT σ.1)) (q := (σ.2.2.1 pn)) (a := fan) (m + 1)).2 yk (by omega)
                                        have hwse := wAt_end (h := (hT σ.1)) (q := (σ.2.2.1 pn)) (a := fan) (m := m) (by omega)
                                        rw [hwy, hyk] at hwse
                                        have hbt := btw_all (h := (hT σ.1)) (hs3 pn (by omega)) (hT_bd hs1) (k := yk) (t := ((fan + m : Nat) : Int)) (by omega) (by omega) (by omega)
                                        obtain ⟨hbt1, hbt2⟩ := hbt
                                        subst hyk
                                        refine k_aload_n 0 0 dX8_windows_205 rfl rfl ?_
                                        refine k_iload_n 1 1 dX8_windows_206 rfl rfl ?_
                                        refine k_iload 9 dX8_windows_207 rfl ?_
                                        refine k_topi (yk : Int) (by omega) ?_
                                        refine k_iload 10 dX8_windows_209 rfl ?_
                                        refine k_useR (k_runV (c_X8_between θ.2.1 κ (p := pn) (k := yk) (mm := mm) (t := ((fan + m : Nat) : Int)) hMf hs (by omega) (by omega) (by omega) (by omega)) w_X8_168 ⟨q_984, q_34⟩ rfl rfl cmm rfl ⟨(Nat.le_of_ble_eq_true rfl), (Nat.le_of_ble_eq_true rfl)⟩ (Nat.le_of_ble_eq_true rfl) dX8_windows_211) ⟨(Nat.le_of_ble_eq_true rfl), (Nat.le_of_ble_eq_true rfl)⟩ ?_
                                        refine k_iload_n 2 2 dX8_windows_214 rfl rfl ?_
                                        refine k_i2l dX8_windows_215 (inI_mk (by omega) (by omega)) ?_
                                        refine k_lcmp_lt 224 dX8_windows_216 dX8_windows_217 (by decide) (inL_mk (by omega) (by omega)) (inL_mk (by omega) (by omega)) (fun h216 => ?_) (fun h216 => ?_)
                                        · refine k_iconst dX8_windows_224 ?_
                                          refine k_istore [(11, .int (iI 0)), (0, .ref mm), (1, .int (iI (pn : Int))), (2, .int (iI lev)), (3, .int (iI (fan : Int))), (4, .int (iI (fbn : Int))), (5, .int (iI (wn : Int))), (6, .int (iI 1)), (7, .ref told), (8, .int (iI run)), (9, .int (iI a8)), (10, .int (iI ((fan + m : Nat) : Int)))] dX8_windows_225 (by decide) rfl ?_
                                          refine k_iload 0 dX8_windows_227 rfl ?_
                                          refine k_if_eq 239 dX8_windows_229 (by decide) (inI_mk (by omega) (by omega)) (fun h229 => ?_) (fun h229 => ?_)
                                          · refine k_iconst dX8_windows_239 ?_
                                            refine k_istore [(8, .int (iI 0)), (11, .int (iI 0)), (0, .ref mm), (1, .int (iI (pn : Int))), (2, .int (iI lev)), (3, .int (iI (fan : Int))), (4, .int (iI (fbn : Int))), (5, .int (iI (wn : Int))), (6, .int (iI 1)), (7, .ref told), (9, .int (iI a8)), (10, .int (iI ((fan + m : Nat) : Int)))] dX8_windows_240 (by decide) rfl ?_
                                            refine k_iload 1 dX8_windows_242 rfl ?_
                                            refine k_if_ne 250 dX8_windows_244 (by decide) (inI_mk (by omega) (by omega)) (fun h244 => ?_) (fun h244 => ?_)
                                            · omega
                                            · refine k_goto 299 dX8_windows_247 (by decide) ?_
                                              refine k_iinc 11 [(10, .int (iI (((fan + m : Nat) : Int) + 1))), (8, .int (iI 0)), (11, .int (iI 0)), (0, .ref mm), (1, .int (iI (pn : Int))), (2, .int (iI lev)), (3, .int (iI (fan : Int))), (4, .int (iI (fbn : Int))), (5, .int (iI (wn : Int))), (6, .int (iI 1)), (7, .ref told), (9, .int (iI a8))] dX8_windows_299 rfl (by decide) rfl ?_
                                              refine k_goto 115 dX8_windows_302 (by decide) ?_
                                              refine k_perm [3, 4, 5, 6, 7, 8, 9, 10, 1, 11, 0] [(0, .ref mm), (1, .int (iI (pn : Int))), (2, .int (iI lev)), (3, .int (iI (fan : Int))), (4, .int (iI (fbn : Int))), (5, .int (iI (wn : Int))), (6, .int (iI 1)), (7, .ref told), (8, .int (iI 0)), (9, .int (iI a8)), (10, .int (iI (((fan + m : Nat) : Int) + 1)))] rfl ?_
                                              have hTW3 := hTW.no (m := ((fan + m : Nat) : Int))
                                              have hTW2 : TW T9 0 (tlP (hT σ.1) (σ.2.2.1 pn) lev fan (m + 1)) := by
                                                rw [tlP, hwy, decide_eq_false (fun q9 => by omega)]
                                                exact hTW3
                                              exact ih115 fw (m + 1) T9 0 a8 (by omega) hTW2 hfr (by rw [hwy]; omega) cmm c0 c1 c2 c3 c4 c5 c6 c7 cTold hMf (by omega)
                                          · omega
                                        · refine k_iconst dX8_windows_220 ?_
                                          refine k_goto 225 dX8_windows_221 (by decide) ?_
                                          refine k_istore [(11, .int (iI 1)), (0, .ref mm), (1, .int (iI (pn : Int))), (2, .int (iI lev)), (3, .int (iI (fan : Int))), (4, .int (iI (fbn : Int))), (5, .int (iI (wn : Int))), (6, .int (iI 1)), (7, .ref told), (8, .int (iI run)), (9, .int (iI a8)), (10, .int (iI ((fan + m : Nat) : Int)))] dX8_windows_225 (by decide) rfl ?_
                                          refine k_iload 0 dX8_windows_227 rfl ?_
                                          refine k_if_eq 239 dX8_windows_229 (by decide) (inI_mk (by omega) (by omega)) (fun h229 => ?_) (fun h229 => ?_)
                                          · omega
                                          · refine k_iload 9 dX8_windows_232 rfl ?_
                                            refine k_iconst dX8_windows_234 ?_
                                            refine k_iadd dX8_windows_235 ?_
                                            refine k_goto 240 dX8_windows_236 (by decide) ?_
                                            refine k_istore [(8, .int (iI (run + 1))), (11, .int (iI 1)), (0, .ref mm), (1, .int (iI (pn : Int))), (2, .int (iI lev)), (3, .int (iI (fan : Int))), (4, .int (iI (fbn : Int))), (5, .int (iI (wn : Int))), (6, .int (iI 1)), (7, .ref told), (9, .int (iI a8)), (10, .int (iI ((fan + m : Nat) : Int)))] dX8_windows_240 (by decide) rfl ?_
                                            refine k_iload 1 dX8_windows_242 rfl ?_
                                            refine k_if_ne 250 dX8_windows_244 (by decide) (inI_mk (by omega) (by omega)) (fun h244 => ?_) (fun h244 => ?_)
                                            · refine k_aload 9 dX8_windows_250 rfl ?_
                                              refine k_iconst dX8_windows_252 ?_
                                              refine k_dup2 dX8_windows_253 rfl rfl ?_
                                              refine k_iald 1 cTold rfl (by omega) (by omega) dX8_windows_254 ?_
                                              refine k_iconst dX8_windows_255 ?_
                                              refine k_iadd dX8_windows_256 ?_
                                              refine k_iast 1 cTold rfl (by omega) (by omega) dX8_windows_257 (fun f25 hf25 hc25 => ?_)
                                              have hr25 := k_fr.put hf25 cTold
                                              replace cmm := cmm.fr hr25 rfl
                                              replace c0 := c0.fr hr25 rfl
                                              replace c1 := c1.fr hr25 rfl
                                              replace c2 := c2.fr hr25 rfl
                                              replace c3 := c3.fr hr25 rfl
                                              replace c4 := c4.fr hr25 rfl
                                              replace c5 := c5.fr hr25 rfl
                                              replace c6 := c6.fr hr25 rfl
                                              replace c7 := c7.fr hr25 rfl
                                              replace hMf := hMf.fr hr25 rfl
                                              replace cTold : Cl L20 f25 told (30, .inl (κ.2.2.1 0, 4, .inl (fun u9 => iI ((va_up T9 1 ((T9 1) + 1)) u9)))) := hc25
                                              refine k_iload 0 dX8_windows_258 rfl ?_
                                              refine k_iconst dX8_windows_260 ?_
                                              refine k_icmp_ne 272 dX8_windows_261 (by decide) (inI_mk (by omega) (by omega)) (inI_mk (by omega) (by omega)) (fun h261 => ?_) (fun h261 => ?_)
                                              · refine k_aload 9 dX8_windows_272 rfl ?_
                                                refine k_iconst dX8_windows_274 ?_
                                                refine k_iald 2 cTold rfl (by omega) (by omega) dX8_windows_275 ?_
                                                refine k_topi (T9 2) rfl ?_
                                                refine k_iconst dX8_windows_276 ?_
                                                refine k_icmp_ne 286 dX8_windows_277 (by decide) (inI_mk (by omega) (by omega)) (inI_mk (by omega) (by omega)) (fun h277 => ?_) (fun h277 => ?_)
                                                · refine k_aload 9 dX8_windows_286 rfl ?_
                                                  refine k_iconst dX8_windows_288 ?_
                                                  refine k_aload 9 dX8_windows_289 rfl ?_
                                                  refine k_iconst dX8_windows_291 ?_
                                                  refine k_iald 3 cTold rfl (by omega) (by omega) dX8_windows_292 ?_
                                                  refine k_topi (T9 3) rfl ?_
                                                  refine k_iload 0 dX8_windows_293 rfl ?_
                                                  refine k_max q_996 q_298 q_52 q_299 (inI_mk (by omega) (by omega)) (inI_mk (by omega) (by omega)) (Nat.le_of_ble_eq_true rfl) (Nat.le_of_ble_eq_true rfl) ⟨(Nat.le_of_ble_eq_true rfl), (Nat.le_of_ble_eq_true rfl)⟩ dX8_windows_295 ?_
                                                  refine k_iast 3 cTold rfl (by omega) (by omega) dX8_windows_298 (fun f26 hf26 hc26 => ?_)
                                                  have hr26 := k_fr.put hf26 cTold
                                                  replace cmm := cmm.fr hr26 rfl
                                                  replace c0 := c0.fr hr26 rfl
                                                  replace c1 := c1.fr hr26 rfl
                                                  replace c2 := c2.fr hr26 rfl
                                                  replace c3 := c3.fr hr26 rfl
                                                  replace c4 := c4.fr hr26 rfl
                                                  replace c5 := c5.fr hr26 rfl
                                                  replace c6 := c6.fr hr26 rfl
                                                  replace c7 := c7.fr hr26 rfl
                                                  replace hMf := hMf.fr hr26 rfl
                                                  replace cTold : Cl L20 f26 told (30, .inl (κ.2.2.1 0, 4, .inl (fun u9 => iI ((va_up (va_up T9 1 ((T9 1) + 1)) 3 (max (T9 3) (run + 1))) u9)))) := hc26
                                                  refine k_iinc 11 [(10, .int (iI (((fan + m : Nat) : Int) + 1))), (8, .int (iI (run + 1))), (11, .int (iI 1)), (0, .ref mm), (1, .int (iI (pn : Int))), (2, .int (iI lev)), (3, .int (iI (fan : Int))), (4, .int (iI (fbn : Int))), (5, .int (iI (wn : Int))), (6, .int (iI 1)), (7, .ref told), (9, .int (iI a8))] dX8_windows_299 rfl (by decide) rfl ?_
                                                  refine k_goto 115 dX8_windows_302 (by decide) ?_
                                                  refine k_perm [3, 4, 5, 6, 7, 8, 9, 10, 1, 11, 0] [(0, .ref mm), (1, .int (iI (pn : Int))), (2, .int (iI lev)), (3, .int (iI (fan : Int))), (4, .int (iI (fbn : Int))), (5, .int (iI (wn : Int))), (6, .int (iI 1)), (7, .ref told), (8, .int (iI (run + 1))), (9, .int (iI a8)), (10, .int (iI (((fan + m : Nat) : Int) + 1)))] rfl ?_
                                                  have hTW3 := hTW.yes (G := (va_up (va_up T9 1 ((T9 1) + 1)) 3 (max (T9 3) (run + 1)))) (m := ((fan + m : Nat) : Int)) nf1 (by rw [if_neg (by omega)]; rfl) rfl (by rw [if_neg (by omega)]; rfl) rfl
                                                  have hTW2 : TW (va_up (va_up T9 1 ((T9 1) + 1)) 3 (max (T9 3) (run + 1))) (run + 1) (tlP (hT σ.1) (σ.2.2.1 pn) lev fan (m + 1)) := by
                                                    rw [tlP, hwy, decide_eq_true ⟨by omega, by omega, by omega⟩]
                                                    exact hTW3
                                                  exact ih115 f26 (m + 1) (va_up (va_up T9 1 ((T9 1) + 1)) 3 (max (T9 3) (run + 1))) (run + 1) a8 (by omega) hTW2 (k_fr.trans (k_fr.trans hfr hr25 idf (SM_of rfl)) hr26 idf (SM_of rfl)) (by rw [hwy]; omega) cmm c0 c1 c2 c3 c4 c5 c6 c7 cTold hMf (by omega)
                                                · refine k_aload 9 dX8_windows_280 rfl ?_
                                                  refine k_iconst dX8_windows_282 ?_
                                                  refine k_iload 11 dX8_windows_283 rfl ?_
                                                  refine k_iast 2 cTold rfl (by omega) (by omega) dX8_windows_285 (fun f27 hf27 hc27 => ?_)
                                                  have hr27 := k_fr.put hf27 cTold
                                                  replace cmm := cmm.fr hr27 rfl
                                                  replace c0 := c0.fr hr27 rfl
                                                  replace c1 := c1.fr hr27 rfl
                                                  replace c2 := c2.fr hr27 rfl
                                                  replace c3 := c3.fr hr27 rfl
                                                  replace c4 := c4.fr hr27 rfl
                                                  replace c5 := c5.fr hr27 rfl
                                                  replace c6 := c6.fr hr27 rfl
                                                  replace c7 := c7.fr hr27 rfl
                                                  replace hMf := hMf.fr hr27 rfl
                                                  replace cTold : Cl L20 f27 told (30, .inl (κ.2.2.1 0, 4, .inl (fun u9 => iI ((va_up (va_up T9 1 ((T9 1) + 1)) 2 ((fan + m : Nat) : Int)) u9)))) := hc27
                                                  refine k_aload 9 dX8_windows_286 rfl ?_
                                                  refine k_iconst dX8_windows_288 ?_
                                                  refine k_aload 9 dX8_windows_289 rfl ?_
                                                  refine k_iconst dX8_windows_291 ?_
                                                  refine k_iald 3 cTold rfl (by omega) (by omega) dX8_windows_292 ?_
                                                  refine k_topi (T9 3) rfl ?_
                                                  refine k_iload 0 dX8_windows_293 rfl ?_
                                                  refine k_max q_996 q_298 q_52 q_299 (inI_mk (by omega) (by omega)) (inI_mk (by omega) (by omega)) (Nat.le_of_ble_eq_true rfl) (Nat.le_of_ble_eq_true rfl) ⟨(Nat.le_of_ble_eq_true rfl), (Nat.le_of_ble_eq_true rfl)⟩ dX8_windows_295 ?_
                                                  refine k_iast 3 cTold rfl (by omega) (by omega) dX8_windows_298 (fun f28 hf28 hc28 => ?_)
                                                  have hr28 := k_fr.put hf28 cTold
                                                  replace cmm := cmm.fr hr28 rfl
                                                  replace c0 := c0.fr hr28 rfl
                                                  replace c1 := c1.fr hr28 rfl
                                                  replace c2 := c2.fr hr28 rfl
                                                  replace c3 := c3.fr hr28 rfl
                                                  replace c4 := c4.fr hr28 rfl
                                                  replace c5 := c5.fr hr28 rfl
                                                  replace c6 := c6.fr hr28 rfl
                                                  replace c7 := c7.fr hr28 rfl
                                                  replace hMf := hMf.fr hr28 rfl
                                                  replace cTold : Cl L20 f28 told (30, .inl (κ.2.2.1 0, 4, .inl (fun u9 => iI ((va_up (va_up (va_up T9 1 ((T9 1) + 1)) 2 ((fan + m : Nat) : Int)) 3 (max (T9 3) (run + 1))) u9)))) := hc28
                                                  refine k_iinc 11 [(10, .int (iI (((fan + m : Nat) : Int) + 1))), (8, .int (iI (run + 1))), (11, .int (iI 1)), (0, .ref mm), (1, .int (iI (pn : Int))), (2, .int (iI lev)), (3, .int (iI (fan : Int))), (4, .int (iI (fbn : Int))), (5, .int (iI (wn : Int))), (6, .int (iI 1)), (7, .ref told), (9, .int (iI a8))] dX8_windows_299 rfl (by decide) rfl ?_
                                                  refine k_goto 115 dX8_windows_302 (by decide) ?_
                                                  refine k_perm [3, 4, 5, 6, 7, 8, 9, 10, 1, 11, 0] [(0, .ref mm), (1, .int (iI (pn : Int))), (2, .int (iI lev)), (3, .int (iI (fan : Int))), (4, .int (iI (fbn : Int))), (5, .int (iI (wn : Int))), (6, .int (iI 1)), (7, .ref told), (8, .int (iI (run + 1))), (9, .int (iI a8)), (10, .int (iI (((fan + m : Nat) : Int) + 1)))] rfl ?_
                                                  have hTW3 := hTW.yes (G := (va_up (va_up (va_up T9 1 ((T9 1) + 1)) 2 ((fan + m : Nat) : Int)) 3 (max (T9 3) (run + 1)))) (m := ((fan + m : Nat) : Int)) nf1 (by rw [if_neg (by omega)]; rfl) rfl (by rw [if_pos (by omega)]; rfl) rfl
                                                  have hTW2 : TW (va_up (va_up (va_up T9 1 ((T9 1) + 1)) 2 ((fan + m : Nat) : Int)) 3 (max (T9 3) (run + 1))) (run + 1) (tlP (hT σ.1) (σ.2.2.1 pn) lev fan (m + 1)) := by
                                                    rw [tlP, hwy, decide_eq_true ⟨by omega, by omega, by omega⟩]
                                                    exact hTW3
                                                  exact ih115 f28 (m + 1) (va_up (va_up (va_up T9 1 ((T9 1) + 1)) 2 ((fan + m : Nat) : Int)) 3 (max (T9 3) (run + 1))) (run + 1) a8 (by omega) hTW2 (k_fr.trans (k_fr.trans (k_fr.trans hfr hr25 idf (SM_of rfl)) hr27 idf (SM_of rfl)) hr28 idf (SM_of rfl)) (by rw [hwy]; omega) cmm c0 c1 c2 c3 c4 c5 c6 c7 cTold hMf (by omega)
                                              · refine k_aload 9 dX8_windows_264 rfl ?_
                                                refine k_iconst dX8_windows_266 ?_
                                                refine k_dup2 dX8_windows_267 rfl rfl ?_
                                                refine k_iald 0 cTold rfl (by omega) (by omega) dX8_windows_268 ?_
                                                refine k_iconst dX8_windows_269 ?_
                                                refine k_iadd dX8_windows_270 ?_
                                                refine k_iast 0 cTold rfl (by omega) (by omega) dX8_windows_271 (fun f29 hf29 hc29 => ?_)
                                                have hr29 := k_fr.put hf29 cTold
                                                replace cmm := cmm.fr hr29 rfl
                                                replace c0 := c0.fr hr29 rfl
                                                replace c1 := c1.fr hr29 rfl
                                                replace c2 := c2.fr hr29 rfl
                                                replace c3 := c3.fr hr29 rfl
                                                replace c4 := c4.fr hr29 rfl
                                                replace c5 := c5.fr hr29 rfl
                                                replace c6 := c6.fr hr29 rfl
                                                replace c7 := c7.fr hr29 rfl
                                                replace hMf := hMf.fr hr29 rfl
                                                replace cTold : Cl L20 f29 told (30, .inl (κ.2.2.1 0, 4, .inl (fun u9 => iI ((va_up (va_up T9 1 ((T9 1) + 1)) 0 (((va_up T9 1 ((T9 1) + 1)) 0) + 1)) u9)))) := hc29
                                                refine k_aload 9 dX8_windows_272 rfl ?_
                                                refine k_iconst dX8_windows_274 ?_
                                                refine k_iald 2 cTold rfl (by omega) (by omega) dX8_windows_275 ?_
                                                refine k_topi (T9 2) rfl ?_
                                                refine k_iconst dX8_windows_276 ?_
                                                refine k_icmp_ne 286 dX8_windows_277 (by decide) (inI_mk (by omega) (by omega)) (inI_mk (by omega) (by omega)) (fun h277 => ?_) (fun h277 => ?_)
                                                · refine k_aload 9 dX8_windows_286 rfl ?_
                                                  refine k_iconst dX8_windows_288 ?_
                                                  refine k_aload 9 dX8_windows_289 rfl ?_
                                                  refine k_iconst dX8_windows_291 ?_
                                                  refine k_iald 3 cTold rfl (by omega) (by omega) dX8_windows_292 ?_
                                                  refine k_topi (T9 3) rfl ?_
                                                  refine k_iload 0 dX8_windows_293 rfl ?_
                                                  refine k_max q_996 q_298 q_52 q_299 (inI_mk (by omega) (by omega)) (inI_mk (by omega) (by omega)) (Nat.le_of_ble_eq_true rfl) (Nat.le_of_ble_eq_true rfl) ⟨(Nat.le_of_ble_eq_true rfl), (Nat.le_of_ble_eq_true rfl)⟩ dX8_windows_295 ?_
                                                  refine k_iast 3 cTold rfl (by omega) (by omega) dX8_windows_298 (fun f30 hf30 hc30 => ?_)
                                                  have hr30 := k_fr.put hf30 cTold
                                                  replace cmm := cmm.fr hr30 rfl
                                                  replace c0 := c0.fr hr30 rfl
                                                  replace c1 := c1.fr hr30 rfl
                                                  replace c2 := c2.fr hr30 rfl
                                                  replace c3 := c3.fr hr30 rfl
                                                  replace c4 := c4.fr hr30 rfl
                                                  replace c5 := c5.fr hr30 rfl
                                                  replace c6 := c6.fr hr30 rfl
                                                  replace c7 := c7.fr hr30 rfl
                                                  replace hMf := hMf.fr hr30 rfl
                                                  replace cTold : Cl L20 f30 told (30, .inl (κ.2.2.1 0, 4, .inl (fun u9 => iI ((va_up (va_up (va_up T9 1 ((T9 1) + 1)) 0 (((va_up T9 1 ((T9 1) + 1)) 0) + 1)) 3 (max (T9 3) (run + 1))) u9)))) := hc30
                                                  refine k_iinc 11 [(10, .int (iI (((fan + m : Nat) : Int) + 1))), (8, .int (iI (run + 1))), (11, .int (iI 1)), (0, .ref mm), (1, .int (iI (pn : Int))), (2, .int (iI lev)), (3, .int (iI (fan : Int))), (4, .int (iI (fbn : Int))), (5, .int (iI (wn : Int))), (6, .int (iI 1)), (7, .ref told), (9, .int (iI a8))] dX8_windows_299 rfl (by decide) rfl ?_
                                                  refine k_goto 115 dX8_windows_302 (by decide) ?_
                                                  refine k_perm [3, 4, 5, 6, 7, 8, 9, 10, 1, 11, 0] [(0, .ref mm), (1, .int (iI (pn : Int))), (2, .int (iI lev)), (3, .int (iI (fan : Int))), (4, .int (iI (fbn : Int))), (5, .int (iI (wn : Int))), (6, .int (iI 1)), (7, .ref told), (8, .int (iI (run + 1))), (9, .int (iI a8)), (10, .int (iI (((fan + m : Nat) : Int) + 1)))] rfl ?_
                                                  have hTW3 := hTW.yes (G := (va_up (va_up (va_up T9 1 ((T9 1) + 1)) 0 (((va_up T9 1 ((T9 1) + 1)) 0) + 1)) 3 (max (T9 3) (run + 1)))) (m := ((fan + m : Nat) : Int)) nf1 (by rw [if_pos (by omega)]; rfl) rfl (by rw [if_neg (by omega)]; rfl) rfl
                                                  have hTW2 : TW (va_up (va_up (va_up T9 1 ((T9 1) + 1)) 0 (((va_up T9 1 ((T9 1) + 1)) 0) + 1)) 3 (max (T9 3) (run + 1))) (run + 1) (tlP (hT σ.1) (σ.2.2.1 pn) lev fan (m + 1)) := by
                                                    rw [tlP, hwy, decide_eq_true ⟨by omega, by omega, by omega⟩]
                                                    exact hTW3
                                                  exact ih115 f30 (m + 1) (va_up (va_up (va_up T9 1 ((T9 1) + 1)) 0 (((va_up T9 1 ((T9 1) + 1)) 0) + 1)) 3 (max (T9 3) (run + 1))) (run + 1) a8 (by omega) hTW2 (k_fr.trans (k_fr.trans (k_fr.trans hfr hr25 idf (SM_of rfl)) hr29 idf (SM_of rfl)) hr30 idf (SM_of rfl)) (by rw [hwy]; omega) cmm c0 c1 c2 c3 c4 c5 c6 c7 cTold hMf (by omega)
                                                · refine k_aload 9 dX8_windows_280 rfl ?_
                                                  refine k_iconst dX8_windows_282 ?_
                                                  refine k_iload 11 dX8_windows_283 rfl ?_
                                                  refine k_iast 2 cTold rfl (by omega) (by omega) dX8_windows_285 (fun f31 hf31 hc31 => ?_)
                                                  have hr31 := k_fr.put hf31 cTold
                                                  replace cmm := cmm.fr hr31 rfl
                                                  replace c0 := c0.fr hr31 rfl
                                                  replace c1 := c1.fr hr31 rfl
                                                  replace c2 := c2.fr hr31 rfl
                                                  replace c3 := c3.fr hr31 rfl
                                                  replace c4 := c4.fr hr31 rfl
                                                  replace c5 := c5.fr hr31 rfl
                                                  replace c6 := c6.fr hr31 rfl
                                                  replace c7 := c7.fr hr31 rfl
                                                  replace hMf := hMf.fr hr31 rfl
                                                  replace cTold : Cl L20 f31 told (30, .inl (κ.2.2.1 0, 4, .inl (fun u9 => iI ((va_up (va_up (va_up T9 1 ((T9 1) + 1)) 0 (((va_up T9 1 ((T9 1) + 1)) 0) + 1)) 2 ((fan + m : Nat) : Int)) u9)))) := hc31
                                                  refine k_aload 9 dX8_windows_286 rfl ?_
                                                  refine k_iconst dX8_windows_288 ?_
                                                  refine k_aload 9 dX8_windows_289 rfl ?_
                                                  refine k_iconst dX8_windows_291 ?_
                                                  refine k_iald 3 cTold rfl (by omega) (by omega) dX8_windows_292 ?_
                                                  refine k_topi (T9 3) rfl ?_
                                                  refine k_iload 0 dX8_windows_293 rfl ?_
                                                  refine k_max q_996 q_298 q_52 q_299 (inI_mk (by omega) (by omega)) (inI_mk (by omega) (by omega)) (Nat.le_of_ble_eq_true rfl) (Nat.le_of_ble_eq_true rfl) ⟨(Nat.le_of_ble_eq_true rfl), (Nat.le_of_ble_eq_true rfl)⟩ dX8_windows_295 ?_
                                                  refine k_iast 3 cTold rfl (by omega) (by omega) dX8_windows_298 (fun f32 hf32 hc32 => ?_)
                                                  have hr32 := k_fr.put hf32 cTold
                                                  replace cmm := cmm.fr hr32 rfl
                                                  replace c0 := c0.fr hr32 rfl
                                                  replace c1 := c1.fr hr32 rfl
                                                  replace c2 := c2.fr hr32 rfl
                                                  replace c3 := c3.fr hr32 rfl
                                                  replace c4 := c4.fr hr32 rfl
                                                  replace c5 := c5.fr hr32 rfl
                                                  replace c6 := c6.fr hr32 rfl
                                                  replace c7 := c7.fr hr32 rfl
                                                  replace hMf := hMf.fr hr32 rfl
                                                  replace cTold : Cl L20 f32 told (30, .inl (κ.2.2.1 0, 4, .inl (fun u9 => iI ((va_up (va_up (va_up (va_up T9 1 ((T9 1) + 1)) 0 (((va_up T9 1 ((T9 1) + 1)) 0) + 1)) 2 ((fan + m : Nat) : Int)) 3 (max (T9 3) (run + 1))) u9)))) := hc32
                                                  refine k_iinc 11 [(10, .int (iI (((fan + m : Nat) : Int) + 1))), (8, .int (iI (run + 1))), (11, .int (iI 1)), (0, .ref mm), (1, .int (iI (pn : Int))), (2, .int (iI lev)), (3, .int (iI (fan : Int))), (4, .int (iI (fbn : Int))), (5, .int (iI (wn : Int))), (6, .int (iI 1)), (7, .ref told), (9, .int (iI a8))] dX8_windows_299 rfl (by decide) rfl ?_
                                                  refine k_goto 115 dX8_windows_302 (by decide) ?_
                                                  refine k_perm [3, 4, 5, 6, 7, 8, 9, 10, 1, 11, 0] [(0, .ref mm), (1, .int (iI (pn : Int))), (2, .int (iI lev)), (3, .int (iI (fan : Int))), (4, .int (iI (fbn : Int))), (5, .int (iI (wn : Int))), (6, .int (iI 1)), (7, .ref told), (8, .int (iI (run + 1))), (9, .int (iI a8)), (10, .int (iI (((fan + m : Nat) : Int) + 1)))] rfl ?_
                                                  have hTW3 := hTW.yes (G := (va_up (va_up (va_up (va_up T9 1 ((T9 1) + 1)) 0 (((va_up T9 1 ((T9 1) + 1)) 0) + 1)) 2 ((fan + m : Nat) : Int)) 3 (max (T9 3) (run + 1)))) (m := ((fan + m : Nat) : Int)) nf1 (by rw [if_pos (by omega)]; rfl) rfl (by rw [if_pos (by omega)]; rfl) rfl
                                                  have hTW2 : TW (va_up (va_up (va_up (va_up T9 1 ((T9 1) + 1)) 0 (((va_up T9 1 ((T9 1) + 1)) 0) + 1)) 2 ((fan + m : Nat) : Int)) 3 (max (T9 3) (run + 1))) (run + 1) (tlP (hT σ.1) (σ.2.2.1 pn) lev fan (m + 1)) := by
                                                    rw [tlP, hwy, decide_eq_true ⟨by omega, by omega, by omega⟩]
                                                    exact hTW3
                                                  exact ih115 f32 (m + 1) (va_up (va_up (va_up (va_up T9 1 ((T9 1) + 1)) 0 (((va_up T9 1 ((T9 1) + 1)) 0) + 1)) 2 ((fan + m : Nat) : Int)) 3 (max (T9 3) (run + 1))) (run + 1) a8 (by omega) hTW2 (k_fr.trans (k_fr.trans (k_fr.trans (k_fr.trans hfr hr25 idf (SM_of rfl)) hr29 idf (SM_of rfl)) hr31 idf (SM_of rfl)) hr32 idf (SM_of rfl)) (by rw [hwy]; omega) cmm c0 c1 c2 c3 c4 c5 c6 c7 cTold hMf (by omega)
                                            · omega
                                  · refine k_aload_n 0 0 dX8_windows_168 rfl rfl ?_
                                    refine k_iload_n 1 1 dX8_windows_169 rfl rfl ?_
                                    refine k_iload 9 dX8_windows_170 rfl ?_
                                    refine k_iconst dX8_windows_172 ?_
                                    refine k_iadd dX8_windows_173 ?_
                                    refine k_topi (y : Int) (by omega) ?_
                                    refine k_useR (k_runV (c_X8_timeAt θ.2.1 κ (p := pn) (k := y) (mm := mm) hMf hs (by omega) (by omega)) w_X8_146 ⟨q_963, q_31⟩ rfl rfl cmm rfl ⟨(Nat.le_of_ble_eq_true rfl), (Nat.le_of_ble_eq_true rfl)⟩ (Nat.le_of_ble_eq_true rfl) dX8_windows_174) ⟨(Nat.le_of_ble_eq_true rfl), (Nat.le_of_ble_eq_true rfl)⟩ ?_
                                    have hpb := pT_bd (h := (hT σ.1)) (hs3 pn (by omega)) (k := y) (by omega)
                                    refine k_iload 10 dX8_windows_177 rfl ?_
                                    refine k_icmp_gt 188 dX8_windows_179 (by decide) (inI_mk (by omega) (by omega)) (inI_mk (by omega) (by omega)) (fun h179 => ?_) (fun h179 => ?_)
                                    · have hwy : wAt (hT σ.1) (σ.2.2.1 pn) fan (m + 1) = y := by rw [← hl, lat_stop (fun q9 => by omega)]
                                      refine k_iload 9 dX8_windows_188 rfl ?_
                                      refine k_iconst dX8_windows_190 ?_
                                      refine k_icmp_eq 224 dX8_windows_191 (by decide) (inI_mk (by omega) (by omega)) (inI_mk (by omega) (by omega)) (fun h191 => ?_) (fun h191 => ?_)
                                      · refine k_iconst dX8_windows_224 ?_
                                        refine k_istore [(11, .int (iI 0)), (0, .ref mm), (1, .int (iI (pn : Int))), (2, .int (iI lev)), (3, .int (iI (fan : Int))), (4, .int (iI (fbn : Int))), (5, .int (iI (wn : Int))), (6, .int (iI 1)), (7, .ref told), (8, .int (iI run)), (9, .int (iI a8)), (10, .int (iI ((fan + m : Nat) : Int)))] dX8_windows_225 (by decide) rfl ?_
                                        refine k_iload 0 dX8_windows_227 rfl ?_
                                        refine k_if_eq 239 dX8_windows_229 (by decide) (inI_mk (by omega) (by omega)) (fun h229 => ?_) (fun h229 => ?_)
                                        · refine k_iconst dX8_windows_239 ?_
                                          refine k_istore [(8, .int (iI 0)), (11, .int (iI 0)), (0, .ref mm), (1, .int (iI (pn : Int))), (2, .int (iI lev)), (3, .int (iI (fan : Int))), (4, .int (iI (fbn : Int))), (5, .int (iI (wn : Int))), (6, .int (iI 1)), (7, .ref told), (9, .int (iI a8)), (10, .int (iI ((fan + m : Nat) : Int)))] dX8_windows_240 (by decide) rfl ?_
                                          refine k_iload 1 dX8_windows_242 rfl ?_
                                          refine k_if_ne 250 dX8_windows_244 (by decide) (inI_mk (by omega) (by omega)) (fun h244 => ?_) (fun h244 => ?_)
                                          · omega
                                          · refine k_goto 299 dX8_windows_247 (by decide) ?_
                                            refine k_iinc 11 [(10, .int (iI (((fan + m : Nat) : Int) + 1))), (8, .int (iI 0)), (11, .int (iI 0)), (0, .ref mm), (1, .int (iI (pn : Int))), (2, .int (iI lev)), (3, .int (iI (fan : Int))), (4, .int (iI (fbn : Int))), (5, .int (iI (wn : Int))), (6, .int (iI 1)), (7, .ref told), (9, .int (iI a8))] dX8_windows_299 rfl (by decide) rfl ?_
                                            refine k_goto 115 dX8_windows_302 (by decide) ?_
                                            refine k_perm [3, 4, 5, 6, 7, 8, 9, 10, 1, 11, 0] [(0, .ref mm), (1, .int (iI (pn : Int))), (2, .int (iI lev)), (3, .int (iI (fan : Int))), (4, .int (iI (fbn : Int))), (5, .int (iI (wn : Int))), (6, .int (iI 1)), (7, .ref told), (8, .int (iI 0)), (9, .int (iI a8)), (10, .int (iI (((fan + m : Nat) : Int) + 1)))] rfl ?_
                                            have hTW3 := hTW.no (m := ((fan + m : Nat) : Int))
                                            have hTW2 : TW T9 0 (tlP (hT σ.1) (σ.2.2.1 pn) lev fan (m + 1)) := by
                                              rw [tlP, hwy, decide_eq_false (fun q9 => by omega)]
                                              exact hTW3
                                            exact ih115 fw (m + 1) T9 0 a8 (by omega) hTW2 hfr (by rw [hwy]; omega) cmm c0 c1 c2 c3 c4 c5 c6 c7 cTold hMf (by omega)
                                        · omega
                                      · refine k_iload 9 dX8_windows_194 rfl ?_
                                        refine k_iconst dX8_windows_196 ?_
                                        refine k_iadd dX8_windows_197 ?_
                                        refine k_topi (y : Int) (by omega) ?_
                                        refine k_aload_n 0 0 dX8_windows_198 rfl rfl ?_
                                        refine k_get 13 i_X8 q_796 cmm rfl (by decide) rfl dX8_windows_199 ?_
                                        refine k_icmp_ge 224 dX8_windows_202 (by decide) (inI_mk (by omega) (by omega)) (inI_mk (by omega) (by omega)) (fun h202 => ?_) (fun h202 => ?_)
                                        · refine k_iconst dX8_windows_224 ?_
                                          refine k_istore [(11, .int (iI 0)), (0, .ref mm), (1, .int (iI (pn : Int))), (2, .int (iI lev)), (3, .int (iI (fan : Int))), (4, .int (iI (fbn : Int))), (5, .int (iI (wn : Int))), (6, .int (iI 1)), (7, .ref told), (8, .int (iI run)), (9, .int (iI a8)), (10, .int (iI ((fan + m : Nat) : Int)))] dX8_windows_225 (by decide) rfl ?_
                                          refine k_iload 0 dX8_windows_227 rfl ?_
                                          refine k_if_eq 239 dX8_windows_229 (by decide) (inI_mk (by omega) (by omega)) (fun h229 => ?_) (fun h229 => ?_)
                                          · refine k_iconst dX8_windows_239 ?_
                                            refine k_istore [(8, .int (iI 0)), (11, .int (iI 0)), (0, .ref mm), (1, .int (iI (pn : Int))), (2, .int (iI lev)), (3, .int (iI (fan : Int))), (4, .int (iI (fbn : Int))), (5, .int (iI (wn : Int))), (6, .int (iI 1)), (7, .ref told), (9, .int (iI a8)), (10, .int (iI ((fan + m : Nat) : Int)))] dX8_windows_240 (by decide) rfl ?_
                                            refine k_iload 1 dX8_windows_242 rfl ?_
                                            refine k_if_ne 250 dX8_windows_244 (by decide) (inI_mk (by omega) (by omega)) (fun h244 => ?_) (fun h244 => ?_)
                                            · omega
                                            · refine k_goto 299 dX8_windows_247 (by decide) ?_
                                              refine k_iinc 11 [(10, .int (iI (((fan + m : Nat) : Int) + 1))), (8, .int (iI 0)), (11, .int (iI 0)), (0, .ref mm), (1, .int (iI (pn : Int))), (2, .int (iI lev)), (3, .int (iI (fan : Int))), (4, .int (iI (fbn : Int))), (5, .int (iI (wn : Int))), (6, .int (iI 1)), (7, .ref told), (9, .int (iI a8))] dX8_windows_299 rfl (by decide) rfl ?_
                                              refine k_goto 115 dX8_windows_302 (by decide) ?_
                                              refine k_perm [3, 4, 5, 6, 7, 8, 9, 10, 1, 11, 0] [(0, .ref mm), (1, .int (iI (pn : Int))), (2, .int (iI lev)), (3, .int (iI (fan : Int))), (4, .int (iI (fbn : Int))), (5, .int (iI (wn : Int))), (6, .int (iI 1)), (7, .ref told), (8, .int (iI 0)), (9, .int (iI a8)), (10, .int (iI (((fan + m : Nat) : Int) + 1)))] rfl ?_
                                              have hTW3 := hTW.no (m := ((fan + m : Nat) : Int))
                                              have hTW2 : TW T9 0 (tlP (hT σ.1) (σ.2.2.1 pn) lev fan (m + 1)) := by
                                                rw [tlP, hwy, decide_eq_false (fun q9 => by omega)]
                                                exact hTW3
                                              exact ih115 fw (m + 1) T9 0 a8 (by omega) hTW2 hfr (by rw [hwy]; omega) cmm c0 c1 c2 c3 c4 c5 c6 c7 cTold hMf (by omega)
                                          · omega
                                        · obtain ⟨yk, hyk⟩ : ∃ yk : Nat, y = yk + 1 := ⟨y - 1, by omega⟩
                                          have hwsp := (wAt_spec (h := (hT σ.1)) (q := (σ.2.2.1 pn)) (a := fan) (m + 1)).2 yk (by omega)
                                          have hwse := wAt_end (h := (hT σ.1)) (q := (σ.2.2.1 pn)) (a := fan) (m := m) (by omega)
                                          rw [hwy, hyk] at hwse
                                          have hbt := btw_all (h := (hT σ.1)) (hs3 pn (by omega)) (hT_bd hs1) (k := yk) (t := ((fan + m : Nat) : Int)) (by omega) (by omega) (by omega)
                                          obtain ⟨hbt1, hbt2⟩ := hbt
                                          subst hyk
                                          refine k_aload_n 0 0 dX8_windows_205 rfl rfl ?_
                                          refine k_iload_n 1 1 dX8_windows_206 rfl rfl ?_
                                          refine k_iload 9 dX8_windows_207 rfl ?_
                                          refine k_topi (yk : Int) (by omega) ?_
                                          refine k_iload 10 dX8_windows_209 rfl ?_
                                          refine k_useR (k_runV (c_X8_between θ.2.1 κ (p := pn) (k := yk) (mm := mm) (t := ((fan + m : Nat) : Int)) hMf hs (by omega) (by omega) (by omega) (by omega)) w_X8_168 ⟨q_984, q_34⟩ rfl rfl cmm rfl ⟨(Nat.le_of_ble_eq_true rfl), (Nat.le_of_ble_eq_true rfl)⟩ (Nat.le_of_ble_eq_true rfl) dX8_windows_211) ⟨(Nat.le_of_ble_eq_true rfl), (Nat.le_of_ble_eq_true rfl)⟩ ?_
                                          refine k_iload_n 2 2 dX8_windows_214 rfl rfl ?_
                                          refine k_i2l dX8_windows_215 (inI_mk (by omega) (by omega)) ?_
                                          refine k_lcmp_lt 224 dX8_windows_216 dX8_windows_217 (by decide) (inL_mk (by omega) (by omega)) (inL_mk (by omega) (by omega)) (fun h216 => ?_) (fun h216 => ?_)
                                          · refine k_iconst dX8_windows_224 ?_
                                            refine k_istore [(11, .int (iI 0)), (0, .ref mm), (1, .int (iI (pn : Int))), (2, .int (iI lev)), (3, .int (iI (fan : Int))), (4, .int (iI (fbn : Int))), (5, .int (iI (wn : Int))), (6, .int (iI 1)), (7, .ref told), (8, .int (iI run)), (9, .int (iI a8)), (10, .int (iI ((fan + m : Nat) : Int)))] dX8_windows_225 (by decide) rfl ?_
                                            refine k_iload 0 dX8_windows_227 rfl ?_
                                            refine k_if_eq 239 dX8_windows_229 (by decide) (inI_mk (by omega) (by omega)) (fun h229 => ?_) (fun h229 => ?_)
                                            · refine k_iconst dX8_windows_239 ?_
                                              refine k_istore [(8, .int (iI 0)), (11, .int (iI 0)), (0, .ref mm), (1, .int (iI (pn : Int))), (2, .int (iI lev)), (3, .int (iI (fan : Int))), (4, .int (iI (fbn : Int))), (5, .int (iI (wn : Int))), (6, .int (iI 1)), (7, .ref told), (9, .int (iI a8)), (10, .int (iI ((fan + m : Nat) : Int)))] dX8_windows_240 (by decide) rfl ?_
                                              refine k_iload 1 dX8_windows_242 rfl ?_
                                              refine k_if_ne 250 dX8_windows_244 (by decide) (inI_mk (by omega) (by omega)) (fun h244 => ?_) (fun h244 => ?_)
                                              · omega
                                              · refine k_goto 299 dX8_windows_247 (by decide) ?_
                                                refine k_iinc 11 [(10, .int (iI (((fan + m : Nat) : Int) + 1))), (8, .int (iI 0)), (11, .int (iI 0)), (0, .ref mm), (1, .int (iI (pn : Int))), (2, .int (iI lev)), (3, .int (iI (fan : Int))), (4, .int (iI (fbn : Int))), (5, .int (iI (wn : Int))), (6, .int (iI 1)), (7, .ref told), (9, .int (iI a8))] dX8_windows_299 rfl (by decide) rfl ?_
                                                refine k_goto 115 dX8_windows_302 (by decide) ?_
                                                refine k_perm [3, 4, 5, 6, 7, 8, 9, 10, 1, 11, 0] [(0, .ref mm), (1, .int (iI (pn : Int))), (2, .int (iI lev)), (3, .int (iI (fan : Int))), (4, .int (iI (fbn : Int))), (5, .int (iI (wn : Int))), (6, .int (iI 1)), (7, .ref told), (8, .int (iI 0)), (9, .int (iI a8)), (10, .int (iI (((fan + m : Nat) : Int) + 1)))] rfl ?_
                                                have hTW3 := hTW.no (m := ((fan + m : Nat) : Int))
                                                have hTW2 : TW T9 0 (tlP (hT σ.1) (σ.2.2.1 pn) lev fan (m + 1)) := by
                                                  rw [tlP, hwy, decide_eq_false (fun q9 => by omega)]
                                                  exact hTW3
                                                exact ih115 fw (m + 1) T9 0 a8 (by omega) hTW2 hfr (by rw [hwy]; omega) cmm c0 c1 c2 c3 c4 c5 c6 c7 cTold hMf (by omega)
                                            · omega
                                          · refine k_iconst dX8_windows_220 ?_
                                            refine k_goto 225 dX8_windows_221 (by decide) ?_
                                            refine k_istore [(11, .int (iI 1)), (0, .ref mm), (1, .int (iI (pn : Int))), (2, .int (iI lev)), (3, .int (iI (fan : Int))), (4, .int (iI (fbn : Int))), (5, .int (iI (wn : Int))), (6, .int (iI 1)), (7, .ref told), (8, .int (iI run)), (9, .int (iI a8)), (10, .int (iI ((fan + m : Nat) : Int)))] dX8_windows_225 (by decide) rfl ?_
                                            refine k_iload 0 dX8_windows_227 rfl ?_
                                            refine k_if_eq 239 dX8_windows_229 (by decide) (inI_mk (by omega) (by omega)) (fun h229 => ?_) (fun h229 => ?_)
                                            · omega
                                            · refine k_iload 9 dX8_windows_232 rfl ?_
                                              refine k_iconst dX8_windows_234 ?_
                                              refine k_iadd dX8_windows_235 ?_
                                              refine k_goto 240 dX8_windows_236 (by decide) ?_
                                              refine k_istore [(8, .int (iI (run + 1))), (11, .int (iI 1)), (0, .ref mm), (1, .int (iI (pn : Int))), (2, .int (iI lev)), (3, .int (iI (fan : Int))), (4, .int (iI (fbn : Int))), (5, .int (iI (wn : Int))), (6, .int (iI 1)), (7, .ref told), (9, .int (iI a8)), (10, .int (iI ((fan + m : Nat) : Int)))] dX8_windows_240 (by decide) rfl ?_
                                              refine k_iload 1 dX8_windows_242 rfl ?_
                                              refine k_if_ne 250 dX8_windows_244 (by decide) (inI_mk (by omega) (by omega)) (fun h244 => ?_) (fun h244 => ?_)
                                              · refine k_aload 9 dX8_windows_250 rfl ?_
                                                refine k_iconst dX8_windows_252 ?_
                                                refine k_dup2 dX8_windows_253 rfl rfl ?_
                                                refine k_iald 1 cTold rfl (by omega) (by omega) dX8_windows_254 ?_
                                                refine k_iconst dX8_windows_255 ?_
                                                refine k_iadd dX8_windows_256 ?_
                                                refine k_iast 1 cTold rfl (by omega) (by omega) dX8_windows_257 (fun f33 hf33 hc33 => ?_)
                                                have hr33 := k_fr.put hf33 cTold
                                                replace cmm := cmm.fr hr33 rfl
                                                replace c0 := c0.fr hr33 rfl
                                                replace c1 := c1.fr hr33 rfl
                                                replace c2 := c2.fr hr33 rfl
                                                replace c3 := c3.fr hr33 rfl
                                                replace c4 := c4.fr hr33 rfl
                                                replace c5 := c5.fr hr33 rfl
                                                replace c6 := c6.fr hr33 rfl
                                                replace c7 := c7.fr hr33 rfl
                                                replace hMf := hMf.fr hr33 rfl
                                                replace cTold : Cl L20 f33 told (30, .inl (κ.2.2.1 0, 4, .inl (fun u9 => iI ((va_up T9 1 ((T9 1) + 1)) u9)))) := hc33
                                                refine k_iload 0 dX8_windows_258 rfl ?_
                                                refine k_iconst dX8_windows_260 ?_
                                                refine k_icmp_ne 272 dX8_windows_261 (by decide) (inI_mk (by omega) (by omega)) (inI_mk (by omega) (by omega)) (fun h261 => ?_) (fun h261 => ?_)
                                                · refine k_aload 9 dX8_windows_272 rfl ?_
                                                  refine k_iconst dX8_windows_274 ?_
                                                  refine k_iald 2 cTold rfl (by omega) (by omega) dX8_windows_275 ?_
                                                  refine k_topi (T9 2) rfl ?_
                                                  refine k_iconst dX8_windows_276 ?_
                                                  refine k_icmp_ne 286 dX8_windows_277 (by decide) (inI_mk (by omega) (by omega)) (inI_mk (by omega) (by omega)) (fun h277 => ?_) (fun h277 => ?_)
                                                  · refine k_aload 9 dX8_windows_286 rfl ?_
                                                    refine k_iconst dX8_windows_288 ?_
                                                    refine k_aload 9 dX8_windows_289 rfl ?_
                                                    refine k_iconst dX8_windows_291 ?_
                                                    refine k_iald 3 cTold rfl (by omega) (by omega) dX8_windows_292 ?_
                                                    refine k_topi (T9 3) rfl ?_
                                                    refine k_iload 0 dX8_windows_293 rfl ?_
                                                    refine k_max q_996 q_298 q_52 q_299 (inI_mk (by omega) (by omega)) (inI_mk (by omega) (by omega)) (Nat.le_of_ble_eq_true rfl) (Nat.le_of_ble_eq_true rfl) ⟨(Nat.le_of_ble_eq_true rfl), (Nat.le_of_ble_eq_true rfl)⟩ dX8_windows_295 ?_
                                                    refine k_iast 3 cTold rfl (by omega) (by omega) dX8_windows_298 (fun f34 hf34 hc34 => ?_)
                                                    have hr34 := k_fr.put hf34 cTold
                                                    replace cmm := cmm.fr hr34 rfl
                                                    replace c0 := c0.fr hr34 rfl
                                                    replace c1 := c1.fr hr34 rfl
                                                    replace c2 := c2.fr hr34 rfl
                                                    replace c3 := c3.fr hr34 rfl
                                                    replace c4 := c4.fr hr34 rfl
                                                    replace c5 := c5.fr hr34 rfl
                                                    replace c6 := c6.fr hr34 rfl
                                                    replace c7 := c7.fr hr34 rfl
                                                    replace hMf := hMf.fr hr34 rfl
                                                    replace cTold : Cl L20 f34 told (30, .inl (κ.2.2.1 0, 4, .inl (fun u9 => iI ((va_up (va_up T9 1 ((T9 1) + 1)) 3 (max (T9 3) (run + 1))) u9)))) := hc34
                                                    refine k_iinc 11 [(10, .int (iI (((fan + m : Nat) : Int) + 1))), (8, .int (iI (run + 1))), (11, .int (iI 1)), (0, .ref mm), (1, .int (iI (pn : Int))), (2, .int (iI lev)), (3, .int (iI (fan : Int))), (4, .int (iI (fbn : Int))), (5, .int (iI (wn : Int))), (6, .int (iI 1)), (7, .ref told), (9, .int (iI a8))] dX8_windows_299 rfl (by decide) rfl ?_
                                                    refine k_goto 115 dX8_windows_302 (by decide) ?_
                                                    refine k_perm [3, 4, 5, 6, 7, 8, 9, 10, 1, 11, 0] [(0, .ref mm), (1, .int (iI (pn : Int))), (2, .int (iI lev)), (3, .int (iI (fan : Int))), (4, .int (iI (fbn : Int))), (5, .int (iI (wn : Int))), (6, .int (iI 1)), (7, .ref told), (8, .int (iI (run + 1))), (9, .int (iI a8)), (10, .int (iI (((fan + m : Nat) : Int) + 1)))] rfl ?_
                                                    have hTW3 := hTW.yes (G := (va_up (va_up T9 1 ((T9 1) + 1)) 3 (max (T9 3) (run + 1)))) (m := ((fan + m : Nat) : Int)) nf1 (by rw [if_neg (by omega)]; rfl) rfl (by rw [if_neg (by omega)]; rfl) rfl
                                                    have hTW2 : TW (va_up (va_up T9 1 ((T9 1) + 1)) 3 (max (T9 3) (run + 1))) (run + 1) (tlP (hT σ.1) (σ.2.2.1 pn) lev fan (m + 1)) := by
                                                      rw [tlP, hwy, decide_eq_true ⟨by omega, by omega, by omega⟩]
                                                      exact hTW3
                                                    exact ih115 f34 (m + 1) (va_up (va_up T9 1 ((T9 1) + 1)) 3 (max (T9 3) (run + 1))) (run + 1) a8 (by omega) hTW2 (k_fr.trans (k_fr.trans hfr hr33 idf (SM_of rfl)) hr34 idf (SM_of rfl)) (by rw [hwy]; omega) cmm c0 c1 c2 c3 c4 c5 c6 c7 cTold hMf (by omega)
                                                  · refine k_aload 9 dX8_windows_280 rfl ?_
                                                    refine k_iconst dX8_windows_282 ?_
                                                    refine k_iload 11 dX8_windows_283 rfl ?_
                                                    refine k_iast 2 cTold rfl (by omega) (by omega) dX8_windows_285 (fun f35 hf35 hc35 => ?_)
                                                    have hr35 := k_fr.put hf35 cTold
                                                    replace cmm := cmm.fr hr35 rfl
                                                    replace c0 := c0.fr hr35 rfl
                                                    replace c1 := c1.fr hr35 rfl
                                                    replace c2 := c2.fr hr35 rfl
                                                    replace c3 := c3.fr hr35 rfl
                                                    replace c4 := c4.fr hr35 rfl
                                                    replace c5 := c5.fr hr35 rfl
                                                    replace c6 := c6.fr hr35 rfl
                                                    replace c7 := c7.fr hr35 rfl
                                                    replace hMf := hMf.fr hr35 rfl
                                                    replace cTold : Cl L20 f35 told (30, .inl (κ.2.2.1 0, 4, .inl (fun u9 => iI ((va_up (va_up T9 1 ((T9 1) + 1)) 2 ((fan + m : Nat) : Int)) u9)))) := hc35
                                                    refine k_aload 9 dX8_windows_286 rfl ?_
                                                    refine k_iconst dX8_windows_288 ?_
                                                    refine k_aload 9 dX8_windows_289 rfl ?_
                                                    refine k_iconst dX8_windows_291 ?_
                                                    refine k_iald 3 cTold rfl (by omega) (by omega) dX8_windows_292 ?_
                                                    refine k_topi (T9 3) rfl ?_
                                                    refine k_iload 0 dX8_windows_293 rfl ?_
                                                    refine k_max q_996 q_298 q_52 q_299 (inI_mk (by omega) (by omega)) (inI_mk (by omega) (by omega)) (Nat.le_of_ble_eq_true rfl) (Nat.le_of_ble_eq_true rfl) ⟨(Nat.le_of_ble_eq_true rfl), (Nat.le_of_ble_eq_true rfl)⟩ dX8_windows_295 ?_
                                                    refine k_iast 3 cTold rfl (by omega) (by omega) dX8_windows_298 (fun f36 hf36 hc36 => ?_)
                                                    have hr36 := k_fr.put hf36 cTold
                                                    replace cmm := cmm.fr hr36 rfl
                                                    replace c0 := c0.fr hr36 rfl
                                                    replace c1 := c1.fr hr36 rfl
                                                    replace c2 := c2.fr hr36 rfl
                                                    replace c3 := c3.fr hr36 rfl
                                                    replace c4 := c4.fr hr36 rfl
                                                    replace c5 := c5.fr hr36 rfl
                                                    replace c6 := c6.fr hr36 rfl
                                                    replace c7 := c7.fr hr36 rfl
                                                    replace hMf := hMf.fr hr36 rfl
                                                    replace cTold : Cl L20 f36 told (30, .inl (κ.2.2.1 0, 4, .inl (fun u9 => iI ((va_up (va_up (va_up T9 1 ((T9 1) + 1)) 2 ((fan + m : Nat) : Int)) 3 (max (T9 3) (run + 1))) u9)))) := hc36
                                                    refine k_iinc 11 [(10, .int (iI (((fan + m : Nat) : Int) + 1))), (8, .int (iI (run + 1))), (11, .int (iI 1)), (0, .ref mm), (1, .int (iI (pn : Int))), (2, .int (iI lev)), (3, .int (iI (fan : Int))), (4, .int (iI (fbn : Int))), (5, .int (iI (wn : Int))), (6, .int (iI 1)), (7, .ref told), (9, .int (iI a8))] dX8_windows_299 rfl (by decide) rfl ?_
                                                    refine k_goto 115 dX8_windows_302 (by decide) ?_
                                                    refine k_perm [3, 4, 5, 6, 7, 8, 9, 10, 1, 11, 0] [(0, .ref mm), (1, .int (iI (pn : Int))), (2, .int (iI lev)), (3, .int (iI (fan : Int))), (4, .int (iI (fbn : Int))), (5, .int (iI (wn : Int))), (6, .int (iI 1)), (7, .ref told), (8, .int (iI (run + 1))), (9, .int (iI a8)), (10, .int (iI (((fan + m : Nat) : Int) + 1)))] rfl ?_
                                                    have hTW3 := hTW.yes (G := (va_up (va_up (va_up T9 1 ((T9 1) + 1)) 2 ((fan + m : Nat) : Int)) 3 (max (T9 3) (run + 1)))) (m := ((fan + m : Nat) : Int)) nf1 (by rw [if_neg (by omega)]; rfl) rfl (by rw [if_pos (by omega)]; rfl) rfl
                                                    have hTW2 : TW (va_up (va_up (va_up T9 1 ((T9 1) + 1)) 2 ((fan + m : Nat) : Int)) 3 (max (T9 3) (run + 1))) (run + 1) (tlP (hT σ.1) (σ.2.2.1 pn) lev fan (m + 1)) := by
                                                      rw [tlP, hwy, decide_eq_true ⟨by omega, by omega, by omega⟩]
                                                      exact hTW3
                                                    exact ih115 f36 (m + 1) (va_up (va_up (va_up T9 1 ((T9 1) + 1)) 2 ((fan + m : Nat) : Int)) 3 (max (T9 3) (run + 1))) (run + 1) a8 (by omega) hTW2 (k_fr.trans (k_fr.trans (k_fr.trans hfr hr33 idf (SM_of rfl)) hr35 idf (SM_of rfl)) hr36 idf (SM_of rfl)) (by rw [hwy]; omega) cmm c0 c1 c2 c3 c4 c5 c6 c7 cTold hMf (by omega)
                                                · refine k_aload 9 dX8_windows_264 rfl ?_
                                                  refine k_iconst dX8_windows_266 ?_
                                                  refine k_dup2 dX8_windows_267 rfl rfl ?_
                                                  refine k_iald 0 cTold rfl (by omega) (by omega) dX8_windows_268 ?_
                                                  refine k_iconst dX8_windows_269 ?_
                                                  refine k_iadd dX8_windows_270 ?_
                                                  refine k_iast 0 cTold rfl (by omega) (by omega) dX8_windows_271 (fun f37 hf37 hc37 => ?_)
                                                  have hr37 := k_fr.put hf37 cTold
                                                  replace cmm := cmm.fr hr37 rfl
                                                  replace c0 := c0.fr hr37 rfl
                                                  replace c1 := c1.fr hr37 rfl
                                                  replace c2 := c2.fr hr37 rfl
                                                  replace c3 := c3.fr hr37 rfl
                                                  replace c4 := c4.fr hr37 rfl
                                                  replace c5 := c5.fr hr37 rfl
                                                  replace c6 := c6.fr hr37 rfl
                                                  replace c7 := c7.fr hr37 rfl
                                                  replace hMf := hMf.fr hr37 rfl
                                                  replace cTold : Cl L20 f37 told (30, .inl (κ.2.2.1 0, 4, .inl (fun u9 => iI ((va_up (va_up T9 1 ((T9 1) + 1)) 0 (((va_up T9 1 ((T9 1) + 1)) 0) + 1)) u9)))) := hc37
                                                  refine k_aload 9 dX8_windows_272 rfl ?_
                                                  refine k_iconst dX8_windows_274 ?_
                                                  refine k_iald 2 cTold rfl (by omega) (by omega) dX8_windows_275 ?_
                                                  refine k_topi (T9 2) rfl ?_
                                                  refine k_iconst dX8_windows_276 ?_
                                                  refine k_icmp_ne 286 dX8_windows_277 (by decide) (inI_mk (by omega) (by omega)) (inI_mk (by omega) (by omega)) (fun h277 => ?_) (fun h277 => ?_)
                                                  · refine k_aload 9 dX8_windows_286 rfl ?_
                                                    refine k_iconst dX8_windows_288 ?_
                                                    refine k_aload 9 dX8_windows_289 rfl ?_
                                                    refine k_iconst dX8_windows_291 ?_
                                                    refine k_iald 3 cTold rfl (by omega) (by omega) dX8_windows_292 ?_
                                                    refine k_topi (T9 3) rfl ?_
                                                    refine k_iload 0 dX8_windows_293 rfl ?_
                                                    refine k_max q_996 q_298 q_52 q_299 (inI_mk (by omega) (by omega)) (inI_mk (by omega) (by omega)) (Nat.le_of_ble_eq_true rfl) (Nat.le_of_ble_eq_true rfl) ⟨(Nat.le_of_ble_eq_true rfl), (Nat.le_of_ble_eq_true rfl)⟩ dX8_windows_295 ?_
                                                    refine k_iast 3 cTold rfl (by omega) (by omega) dX8_windows_298 (fun f38 hf38 hc38 => ?_)
                                                    have hr38 := k_fr.put hf38 cTold
                                                    replace cmm := cmm.fr hr38 rfl
                                                    replace c0 := c0.fr hr38 rfl
                                                    replace c1 := c1.fr hr38 rfl
                                                    replace c2 := c2.fr hr38 rfl
                                                    replace c3 := c3.fr hr38 rfl
                                                    replace c4 := c4.fr hr38 rfl
                                                    replace c5 := c5.fr hr38 rfl
                                                    replace c6 := c6.fr hr38 rfl
                                                    replace c7 := c7.fr hr38 rfl
                                                    replace hMf := hMf.fr hr38 rfl
                                                    replace cTold : Cl L20 f38 told (30, .inl (κ.2.2.1 0, 4, .inl (fun u9 => iI ((va_up (va_up (va_up T9 1 ((T9 1) + 1)) 0 (((va_up T9 1 ((T9 1) + 1)) 0) + 1)) 3 (max (T9 3) (run + 1))) u9)))) := hc38
                                                    refine k_iinc 11 [(10, .int (iI (((fan + m : Nat) : Int) + 1))), (8, .int (iI (run + 1))), (11, .int (iI 1)), (0, .ref mm), (1, .int (iI (pn : Int))), (2, .int (iI lev)), (3, .int (iI (fan : Int))), (4, .int (iI (fbn : Int))), (5, .int (iI (wn : Int))), (6, .int (iI 1)), (7, .ref told), (9, .int (iI a8))] dX8_windows_299 rfl (by decide) rfl ?_
                                                    refine k_goto 115 dX8_windows_302 (by decide) ?_
                                                    refine k_perm [3, 4, 5, 6, 7, 8, 9, 10, 1, 11, 0] [(0, .ref mm), (1, .int (iI (pn : Int))), (2, .int (iI lev)), (3, .int (iI (fan : Int))), (4, .int (iI (fbn : Int))), (5, .int (iI (wn : Int))), (6, .int (iI 1)), (7, .ref told), (8, .int (iI (run + 1))), (9, .int (iI a8)), (10, .int (iI (((fan + m : Nat) : Int) + 1)))] rfl ?_
                                                    have hTW3 := hTW.yes (G := (va_up (va_up (va_up T9 1 ((T9 1) + 1)) 0 (((va_up T9 1 ((T9 1) + 1)) 0) + 1)) 3 (max (T9 3) (run + 1)))) (m := ((fan + m : Nat) : Int)) nf1 (by rw [if_pos (by omega)]; rfl) rfl (by rw [if_neg (by omega)]; rfl) rfl
                                                    have hTW2 : TW (va_up (va_up (va_up T9 1 ((T9 1) + 1)) 0 (((va_up T9 1 ((T9 1) + 1)) 0) + 1)) 3 (max (T9 3) (run + 1))) (run + 1) (tlP (hT σ.1) (σ.2.2.1 pn) lev fan (m + 1)) := by
                                                      rw [tlP, hwy, decide_eq_true ⟨by omega, by omega, by omega⟩]
                                                      exact hTW3
                                                    exact ih115 f38 (m + 1) (va_up (va_up (va_up T9 1 ((T9 1) + 1)) 0 (((va_up T9 1 ((T9 1) + 1)) 0) + 1)) 3 (max (T9 3) (run + 1))) (run + 1) a8 (by omega) hTW2 (k_fr.trans (k_fr.trans (k_fr.trans hfr hr33 idf (SM_of rfl)) hr37 idf (SM_of rfl)) hr38 idf (SM_of rfl)) (by rw [hwy]; omega) cmm c0 c1 c2 c3 c4 c5 c6 c7 cTold hMf (by omega)
                                                  · refine k_aload 9 dX8_windows_280 rfl ?_
                                                    refine k_iconst dX8_windows_282 ?_
                                                    refine k_iload 11 dX8_windows_283 rfl ?_
                                                    refine k_iast 2 cTold rfl (by omega) (by omega) dX8_windows_285 (fun f39 hf39 hc39 => ?_)
                                                    have hr39 := k_fr.put hf39 cTold
                                                    replace cmm := cmm.fr hr39 rfl
                                                    replace c0 := c0.fr hr39 rfl
                                                    replace c1 := c1.fr hr39 rfl
                                                    replace c2 := c2.fr hr39 rfl
                                                    replace c3 := c3.fr hr39 rfl
                                                    replace c4 := c4.fr hr39 rfl
                                                    replace c5 := c5.fr hr39 rfl
                                                    replace c6 := c6.fr hr39 rfl
                                                    replace c7 := c7.fr hr39 rfl
                                                    replace hMf := hMf.fr hr39 rfl
                                                    replace cTold : Cl L20 f39 told (30, .inl (κ.2.2.1 0, 4, .inl (fun u9 => iI ((va_up (va_up (va_up T9 1 ((T9 1) + 1)) 0 (((va_up T9 1 ((T9 1) + 1)) 0) + 1)) 2 ((fan + m : Nat) : Int)) u9)))) := hc39
                                                    refine k_aload 9 dX8_windows_286 rfl ?_
                                                    refine k_iconst dX8_windows_288 ?_
                                                    refine k_aload 9 dX8_windows_289 rfl ?_
                                                    refine k_iconst dX8_windows_291 ?_
                                                    refine k_iald 3 cTold rfl (by omega) (by omega) dX8_windows_292 ?_
                                                    refine k_topi (T9 3) rfl ?_
                                                    refine k_iload 0 dX8_windows_293 rfl ?_
                                                    refine k_max q_996 q_298 q_52 q_299 (inI_mk (by omega) (by omega)) (inI_mk (by omega) (by omega)) (Nat.le_of_ble_eq_true rfl) (Nat.le_of_ble_eq_true rfl) ⟨(Nat.le_of_ble_eq_true rfl), (Nat.le_of_ble_eq_true rfl)⟩ dX8_windows_295 ?_
                                                    refine k_iast 3 cTold rfl (by omega) (by omega) dX8_windows_298 (fun f40 hf40 hc40 => ?_)
                                                    have hr40 := k_fr.put hf40 cTold
                                                    replace cmm := cmm.fr hr40 rfl
                                                    replace c0 := c0.fr hr40 rfl
                                                    replace c1 := c1.fr hr40 rfl
                                                    replace c2 := c2.fr hr40 rfl
                                                    replace c3 := c3.fr hr40 rfl
                                                    replace c4 := c4.fr hr40 rfl
                                                    replace c5 := c5.fr hr40 rfl
                                                    replace c6 := c6.fr hr40 rfl
                                                    replace c7 := c7.fr hr40 rfl
                                                    replace hMf := hMf.fr hr40 rfl
                                                    replace cTold : Cl L20 f40 told (30, .inl (κ.2.2.1 0, 4, .inl (fun u9 => iI ((va_up (va_up (va_up (va_up T9 1 ((T9 1) + 1)) 0 (((va_up T9 1 ((T9 1) + 1)) 0) + 1)) 2 ((fan + m : Nat) : Int)) 3 (max (T9 3) (run + 1))) u9)))) := hc40
                                                    refine k_iinc 11 [(10, .int (iI (((fan + m : Nat) : Int) + 1))), (8, .int (iI (run + 1))), (11, .int (iI 1)), (0, .ref mm), (1, .int (iI (pn : Int))), (2, .int (iI lev)), (3, .int (iI (fan : Int))), (4, .int (iI (fbn : Int))), (5, .int (iI (wn : Int))), (6, .int (iI 1)), (7, .ref told), (9, .int (iI a8))] dX8_windows_299 rfl (by decide) rfl ?_
                                                    refine k_goto 115 dX8_windows_302 (by decide) ?_
                                                    refine k_perm [3, 4, 5, 6, 7, 8, 9, 10, 1, 11, 0] [(0, .ref mm), (1, .int (iI (pn : Int))), (2, .int (iI lev)), (3, .int (iI (fan : Int))), (4, .int (iI (fbn : Int))), (5, .int (iI (wn : Int))), (6, .int (iI 1)), (7, .ref told), (8, .int (iI (run + 1))), (9, .int (iI a8)), (10, .int (iI (((fan + m : Nat) : Int) + 1)))] rfl ?_
                                                    have hTW3 := hTW.yes (G := (va_up (va_up (va_up (va_up T9 1 ((T9 1) + 1)) 0 (((va_up T9 1 ((T9 1) + 1)) 0) + 1)) 2 ((fan + m : Nat) : Int)) 3 (max (T9 3) (run + 1)))) (m := ((fan + m : Nat) : Int)) nf1 (by rw [if_pos (by omega)]; rfl) rfl (by rw [if_pos (by omega)]; rfl) rfl
                                                    have hTW2 : TW (va_up (va_up (va_up (va_up T9 1 ((T9 1) + 1)) 0 (((va_up T9 1 ((T9 1) + 1)) 0) + 1)) 2 ((fan + m : Nat) : Int)) 3 (max (T9 3) (run + 1))) (run + 1) (tlP (hT σ.1) (σ.2.2.1 pn) lev fan (m + 1)) := by
                                                      rw [tlP, hwy, decide_eq_true ⟨by omega, by omega, by omega⟩]
                                                      exact hTW3
                                                    exact ih115 f40 (m + 1) (va_up (va_up (va_up (va_up T9 1 ((T9 1) + 1)) 0 (((va_up T9 1 ((T9 1) + 1)) 0) + 1)) 2 ((fan + m : Nat) : Int)) 3 (max (T9 3) (run + 1))) (run + 1) a8 (by omega) hTW2 (k_fr.trans (k_fr.trans (k_fr.trans (k_fr.trans hfr hr33 idf (SM_of rfl)) hr37 idf (SM_of rfl)) hr39 idf (SM_of rfl)) hr40 idf (SM_of rfl)) (by rw [hwy]; omega) cmm c0 c1 c2 c3 c4 c5 c6 c7 cTold hMf (by omega)
                                              · omega
                                    · refine k_iinc 9 [(9, .int (iI (a8 + 1))), (0, .ref mm), (1, .int (iI (pn : Int))), (2, .int (iI lev)), (3, .int (iI (fan : Int))), (4, .int (iI (fbn : Int))), (5, .int (iI (wn : Int))), (6, .int (iI 1)), (7, .ref told), (8, .int (iI run)), (10, .int (iI ((fan + m : Nat) : Int))), (11, .int (iI 0))] dX8_windows_182 rfl (by decide) rfl ?_
                                      refine k_goto 157 dX8_windows_185 (by decide) ?_
                                      refine k_perm [1, 2, 3, 4, 5, 6, 7, 8, 9, 0, 10, 11] [(0, .ref mm), (1, .int (iI (pn : Int))), (2, .int (iI lev)), (3, .int (iI (fan : Int))), (4, .int (iI (fbn : Int))), (5, .int (iI (wn : Int))), (6, .int (iI 1)), (7, .ref told), (8, .int (iI run)), (9, .int (iI (a8 + 1))), (10, .int (iI ((fan + m : Nat) : Int))), (11, .int (iI 0))] rfl ?_
                                      exact ih157 (y + 1) (a8 + 1) (by omega) (by omega) ((lat_go (by omega) (by omega)).symm.trans hl) (by omega) (by omega)
                              refine k_perm [1, 2, 3, 4, 5, 6, 7, 8, 9, 10, 11, 0] [(0, .ref mm), (1, .int (iI (pn : Int))), (2, .int (iI lev)), (3, .int (iI (fan : Int))), (4, .int (iI (fbn : Int))), (5, .int (iI (wn : Int))), (6, .int (iI 1)), (7, .ref told), (8, .int (iI run)), (9, .int (iI a9)), (10, .int (iI ((fan + m : Nat) : Int))), (11, .int (iI 0))] rfl ?_
                              exact lp157 _ (wAt (hT σ.1) (σ.2.2.1 pn) fan m) a9 (wAt_spec (h := (hT σ.1)) (q := (σ.2.2.1 pn)) (a := fan) m).1 ha9 rfl (Nat.le_refl _) (Nat.lt_succ_self _)
                        · omega
                  refine k_perm [5, 6, 7, 8, 9, 10, 4, 3, 2, 1, 0] [(0, .ref mm), (1, .int (iI (pn : Int))), (2, .int (iI lev)), (3, .int (iI (fan : Int))), (4, .int (iI (fbn : Int))), (5, .int (iI (wn : Int))), (6, .int (iI 1)), (7, .ref told), (8, .int (iI 0)), (9, .int (iI (-1))), (10, .int (iI (fan : Int)))] rfl ?_
                  exact lp115 _ f24 0 (va_up (va_up (va_up (va_up (fun _ => 0) 0 0) 1 0) 2 (-1)) 3 0) 0 (-1) (by omega) ⟨rfl, rfl, rfl, rfl, rfl⟩ (k_fr.trans (k_fr.trans (k_fr.trans (k_fr.trans (k_fr.trans (k_fr.trans (k_fr.mono hr1 (SM_of rfl)) hrF idf idf) hr20 idf (fun _ _ => rfl)) hr21 idf (SM_of rfl)) hr22 idf (SM_of rfl)) hr23 idf (SM_of rfl)) hr24 idf (SM_of rfl)) rfl cmm c0 c1 c2 c3 c4 c5 c6 c7 cTold hMf (Nat.lt_succ_self _)
            · refine k_aload_n 0 0 dX8_windows_55 rfl rfl ?_
              refine k_iconst dX8_windows_56 ?_
              refine k_useV (k_runV (c_X8_fail θ.2.1 κ (mm := mm) (k := 2) hM) w_X8_57 ⟨q_846, q_18⟩ rfl rfl cmm rfl ⟨(Nat.le_of_ble_eq_true rfl), (Nat.le_of_ble_eq_true rfl)⟩ (Nat.le_of_ble_eq_true rfl) dX8_windows_57) ⟨(Nat.le_of_ble_eq_true rfl), (Nat.le_of_ble_eq_true rfl)⟩ (fun w9 Lx fx hw9 => ?_)
              obtain ⟨rfl, ex9, hMx, hrx⟩ := hw9
              replace ex9 := ex9.symm
              subst ex9
              exact k_iret dX8_windows_60 rfl (Nat.le_of_ble_eq_true rfl) (Nat.le_of_ble_eq_true rfl) (⟨_, rfl, _, rfl, (k_fr.trans (k_fr.mono hr1 (SM_of rfl)) hrx idf idf), Or.inr (Or.inr (⟨(by rw [xWindows, if_pos (by omega), if_pos (by omega), if_neg (by omega)]), hMx⟩))⟩)
      · have hd28 := of_decide_eq_false h28
        refine k_aload_n 0 0 dX8_windows_31 rfl rfl ?_
        refine k_iconst dX8_windows_32 ?_
        refine k_useV (k_runV (c_X8_fail θ.2.1 κ (mm := mm) (k := 1) hM) w_X8_57 ⟨q_846, q_18⟩ rfl rfl cmm rfl ⟨(Nat.le_of_ble_eq_true rfl), (Nat.le_of_ble_eq_true rfl)⟩ (Nat.le_of_ble_eq_true rfl) dX8_windows_33) ⟨(Nat.le_of_ble_eq_true rfl), (Nat.le_of_ble_eq_true rfl)⟩ (fun w9 Lx fx hw9 => ?_)
        obtain ⟨rfl, ex9, hMx, hrx⟩ := hw9
        replace ex9 := ex9.symm
        subst ex9
        exact k_iret dX8_windows_36 rfl (Nat.le_of_ble_eq_true rfl) (Nat.le_of_ble_eq_true rfl) (⟨_, rfl, _, rfl, (k_fr.trans (k_fr.mono hr1 (SM_of rfl)) hrx idf idf), Or.inr (Or.inl ⟨(by rw [xWindows, if_pos (by omega), if_neg (by omega)]), hMx⟩)⟩)
