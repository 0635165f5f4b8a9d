/-! ===== the law's own method: between two waters, at the chief port and at the other one ===== -/
theorem in1_step {h : Nat → Int} {k m : Nat} {last : Int} (hk : k + 1 < nW h) (h1 : tm h k ≤ m) (h2 : m ≤ tm h (k + 1)) (hl : (m = tm h k ∧ last = h (tm h k)) ∨ (tm h k < m ∧ last = h (m - 1))) : (hi h k = true → h m ≤ last) ∧ (hi h k = false → last ≤ h m) := by
  rcases hl with ⟨a, b⟩ | ⟨a, b⟩
  · subst a
    subst b
    exact ⟨fun _ => Int.le_refl _, fun _ => Int.le_refl _⟩
  · subst b
    exact ⟨fun e => (wat_hi hk e).2.2 m a h2, fun e => (wat_lo hk e).2.2 m a h2⟩
/-- the heights that are still to come do not turn -/
def Inv2 (h : Nat → Int) (q : Pt) (w m : Nat) (bef : Int) : Prop := ∀ t : Int, (m : Int) ≤ t → t < pT h q (w + 1) → (pH h q w ≤ pH h q (w + 1) → bef ≤ btw h q (w + 1) t) ∧ (pH h q (w + 1) ≤ pH h q w → btw h q (w + 1) t ≤ bef)
theorem inv2_0 {h : Nat → Int} {q : Pt} {w m : Nat} (h1 : pT h q w ≤ (m : Int)) : Inv2 h q w m (pH h q w) := fun t a b => ⟨fun c => (btw_up (Int.le_trans h1 a) (Int.le_refl t) b c).1, fun c => (btw_dn (Int.le_trans h1 a) (Int.le_refl t) b c).1⟩
theorem inv2_s {h : Nat → Int} {q : Pt} {w m m2 : Nat} (h1 : pT h q w ≤ (m : Int)) (h2 : m ≤ m2) : Inv2 h q w m2 (btw h q (w + 1) (m : Int)) := fun t a b => ⟨fun c => (btw_up h1 (show (m : Int) ≤ t by omega) b c).2.1, fun c => (btw_dn h1 (show (m : Int) ≤ t by omega) b c).2.1⟩
theorem btw_in {h : Nat → Int} {q : Pt} (ok : PtOk q) (hb : ∀ t, -50000 ≤ h t ∧ h t ≤ 50000) {w : Nat} {t : Int} (h1 : pT h q w ≤ t) (h2 : t < pT h q (w + 1)) : -153000 ≤ btw h q (w + 1) t ∧ btw h q (w + 1) t ≤ 153000 := by
  have a1 := pH_bd ok hb w
  have a2 := pH_bd ok hb (w + 1)
  rcases Int.le_total (pH h q w) (pH h q (w + 1)) with c | c
  · have e := btw_up h1 (Int.le_refl t) h2 c
    omega
  · have e := btw_dn h1 (Int.le_refl t) h2 c
    omega
set_option maxHeartbeats 4000000 in
set_option maxRecDepth 100000 in
theorem law_232 {θ : Kt} {κ : Kx} {Q : State → Prop} {tt : Nat} {σ : Sg} (hts : θ.2.1.stackTraces = false) (hs : SgOk σ) {w K : Nat} (hw : w + 1 < nW (hT σ.1)) (hK : K ≤ 300000) (cont : ∀ (L : List Nat) (f : Nat → wE) (k n : Nat), k ≤ K → n ≤ 6 * k + 30000 → CS κ L f tt σ → k_G θ κ cL_law 16 (some .boolean) RL room_1 Q L f k n 288 [(8, .int (iI (hT σ.1 (tm (hT σ.1) (w + 1))))), (7, .int (iI (bI (hi (hT σ.1) w)))), (6, .int (iI (w : Int))), (5, .int (iI (nW (hT σ.1) : Int))), (3, .int (iI 0)), (1, .ref tt)] []) : ∀ (j m : Nat) (last : Int) (L : List Nat) (f : Nat → wE) (k n : Nat), tm (hT σ.1) (w + 1) + 1 ≤ m + j → tm (hT σ.1) w ≤ m → m ≤ tm (hT σ.1) (w + 1) + 1 → ((m = tm (hT σ.1) w ∧ last = hT σ.1 (tm (hT σ.1) w)) ∨ (tm (hT σ.1) w < m ∧ last = hT σ.1 (m - 1))) → k + 2 * j + 1 ≤ K → n ≤ 6 * k + 30000 → CS κ L f tt σ → k_G θ κ cL_law 16 (some .boolean) RL room_1 Q L f k n 232 [(9, .int (iI (m : Int))), (8, .int (iI last)), (7, .int (iI (bI (hi (hT σ.1) w)))), (6, .int (iI (w : Int))), (5, .int (iI (nW (hT σ.1) : Int))), (3, .int (iI 0)), (1, .ref tt)] [] := by
  intro j
  have hnn := nW_le (hT σ.1)
  have ht1 := (tm_spec hw).1
  have ht0 := (tm_next hw).1
  have hb1 := hT_bd hs.1 (tm (hT σ.1) (w + 1))
  induction j with
  | zero =>
    intro m last L f k n h1 h2 h3 hl hk hn hC
    have hbm := hT_bd hs.1 m
    have hbl : -50000 ≤ last ∧ last ≤ 50000 := by
      rcases hl with ⟨a, b⟩ | ⟨a, b⟩
      · rw [b]
        exact hT_bd hs.1 _
      · rw [b]
        exact hT_bd hs.1 _
    refine k_iload 0 dL_law_232 rfl ?_
    refine k_aload_n 6 1 dL_law_234 rfl rfl ?_
    refine k_iload 3 dL_law_235 rfl ?_
    refine k_iconst dL_law_237 ?_
    refine k_iadd dL_law_238 ?_
    refine k_iconst dL_law_239 ?_
    refine a_water0 (w + 1) hts hs hC (by omega) (by omega) (by omega) (by omega) (Nat.le_of_ble_eq_true rfl) dL_law_240 (fun L11 f11 hC => ?_)
    refine k_icmp_gt 288 dL_law_243 (by decide) (inI_mk (by omega) (by omega)) (inI_mk (by omega) (by omega)) (fun h243 => ?_) (fun h243 => ?_)
    · refine k_perm [1, 2, 3, 4, 5, 6] [(8, .int (iI last)), (7, .int (iI (bI (hi (hT σ.1) w)))), (6, .int (iI (w : Int))), (5, .int (iI (nW (hT σ.1) : Int))), (3, .int (iI 0)), (1, .ref tt)] rfl ?_
      have e9 : last = hT σ.1 (tm (hT σ.1) (w + 1)) := by
        rcases hl with ⟨a, b⟩ | ⟨a, b⟩
        · omega
        · rw [b, show m - 1 = tm (hT σ.1) (w + 1) by omega]
      rw [e9]
      exact cont _ _ _ _ (by omega) (by omega) hC
    · omega
  | succ j ih =>
    intro m last L f k n h1 h2 h3 hl hk hn hC
    have hbm := hT_bd hs.1 m
    have hbl : -50000 ≤ last ∧ last ≤ 50000 := by
      rcases hl with ⟨a, b⟩ | ⟨a, b⟩
      · rw [b]
        exact hT_bd hs.1 _
      · rw [b]
        exact hT_bd hs.1 _
    refine k_iload 0 dL_law_232 rfl ?_
    refine k_aload_n 6 1 dL_law_234 rfl rfl ?_
    refine k_iload 3 dL_law_235 rfl ?_
    refine k_iconst dL_law_237 ?_
    refine k_iadd dL_law_238 ?_
    refine k_iconst dL_law_239 ?_
    refine a_water0 (w + 1) hts hs hC (by omega) (by omega) (by omega) (by omega) (Nat.le_of_ble_eq_true rfl) dL_law_240 (fun L12 f12 hC => ?_)
    refine k_icmp_gt 288 dL_law_243 (by decide) (inI_mk (by omega) (by omega)) (inI_mk (by omega) (by omega)) (fun h243 => ?_) (fun h243 => ?_)
    · refine k_perm [1, 2, 3, 4, 5, 6] [(8, .int (iI last)), (7, .int (iI (bI (hi (hT σ.1) w)))), (6, .int (iI (w : Int))), (5, .int (iI (nW (hT σ.1) : Int))), (3, .int (iI 0)), (1, .ref tt)] rfl ?_
      have e9 : last = hT σ.1 (tm (hT σ.1) (w + 1)) := by
        rcases hl with ⟨a, b⟩ | ⟨a, b⟩
        · omega
        · rw [b, show m - 1 = tm (hT σ.1) (w + 1) by omega]
      rw [e9]
      exact cont _ _ _ _ (by omega) (by omega) hC
    · refine k_aload_n 6 1 dL_law_246 rfl rfl ?_
      refine k_iload 0 dL_law_247 rfl ?_
      refine a_height m hts hs hC (by omega) (by omega) (by omega) (by omega) (Nat.le_of_ble_eq_true rfl) dL_law_249 (fun L13 f13 hC => ?_)
      refine k_istore [(10, .int (iI (hT σ.1 m))), (9, .int (iI (m : Int))), (8, .int (iI last)), (7, .int (iI (bI (hi (hT σ.1) w)))), (6, .int (iI (w : Int))), (5, .int (iI (nW (hT σ.1) : Int))), (3, .int (iI 0)), (1, .ref tt)] dL_law_252 (by decide) rfl ?_
      have hst := in1_step hw h2 (show m ≤ tm (hT σ.1) (w + 1) by omega) hl
      have J278 : k_G θ κ cL_law 16 (some .boolean) RL room_1 Q L13 f13 ((k + 1) + 1) ((n + 6) + 6) 278 [(10, .int (iI (hT σ.1 m))), (9, .int (iI (m : Int))), (8, .int (iI last)), (7, .int (iI (bI (hi (hT σ.1) w)))), (6, .int (iI (w : Int))), (5, .int (iI (nW (hT σ.1) : Int))), (3, .int (iI 0)), (1, .ref tt)] [] := by
        refine k_iload 0 dL_law_278 rfl ?_
        refine k_istore [(8, .int (iI (hT σ.1 m))), (10, .int (iI (hT σ.1 m))), (9, .int (iI (m : Int))), (7, .int (iI (bI (hi (hT σ.1) w)))), (6, .int (iI (w : Int))), (5, .int (iI (nW (hT σ.1) : Int))), (3, .int (iI 0)), (1, .ref tt)] dL_law_280 (by decide) rfl ?_
        refine k_iinc 2 [(9, .int (iI ((m : Int) + 1))), (8, .int (iI (hT σ.1 m))), (10, .int (iI (hT σ.1 m))), (7, .int (iI (bI (hi (hT σ.1) w)))), (6, .int (iI (w : Int))), (5, .int (iI (nW (hT σ.1) : Int))), (3, .int (iI 0)), (1, .ref tt)] dL_law_282 rfl (by decide) rfl ?_
        refine k_goto 232 dL_law_285 (by decide) ?_
        refine k_perm [0, 1, 3, 4, 5, 6, 7] [(9, .int (iI ((m : Int) + 1))), (8, .int (iI (hT σ.1 m))), (7, .int (iI (bI (hi (hT σ.1) w)))), (6, .int (iI (w : Int))), (5, .int (iI (nW (hT σ.1) : Int))), (3, .int (iI 0)), (1, .ref tt)] rfl ?_
        exact ih (m + 1) _ _ _ _ _ (by omega) (by omega) (by omega) (Or.inr ⟨by omega, by rw [Nat.add_sub_cancel]⟩) (by omega) (by omega) hC
      refine k_iload 3 dL_law_254 rfl ?_
      refine k_ifb_eq 269 dL_law_256 (by decide) (fun h256 => ?_) (fun h256 => ?_)
      · refine k_iload 0 dL_law_269 rfl ?_
        refine k_iload 2 dL_law_271 rfl ?_
        refine k_icmp_ge 278 dL_law_273 (by decide) (inI_mk (by omega) (by omega)) (inI_mk (by omega) (by omega)) (fun h273 => ?_) (fun h273 => ?_)
        · exact J278
        · exact absurd (hst.2 h256) (Int.not_le.mpr h273)
      · refine k_iload 0 dL_law_259 rfl ?_
        refine k_iload 2 dL_law_261 rfl ?_
        refine k_icmp_le 278 dL_law_263 (by decide) (inI_mk (by omega) (by omega)) (inI_mk (by omega) (by omega)) (fun h263 => ?_) (fun h263 => ?_)
        · exact J278
        · exact absurd (hst.1 h256) (Int.not_le.mpr h263)
set_option maxHeartbeats 4000000 in
set_option maxRecDepth 100000 in
theorem law_433 {θ : Kt} {κ : Kx} {Q : State → Prop} {tt : Nat} {σ : Sg} (hts : θ.2.1.stackTraces = false) (hs : SgOk σ) {w K : Nat} (hp : 0 < σ.2.1) (ho : ord (hT σ.1) (σ.2.2.1 0) = true) (hw : w + 1 < nW (hT σ.1)) (hK : K ≤ 300000) (cont : ∀ (L : List Nat) (f : Nat → wE) (k n : Nat), k ≤ K → n ≤ 6 * k + 30000 → CS κ L f tt σ → k_G θ κ cL_law 16 (some .boolean) RL room_1 Q L f k n 527 [(6, .int (iI (w : Int))), (5, .int (iI (nW (hT σ.1) : Int))), (3, .int (iI 0)), (1, .ref tt)] []) : ∀ (j m : Nat) (bef : Int) (L : List Nat) (f : Nat → wE) (k n : Nat), min 4320 (pT (hT σ.1) (σ.2.2.1 0) (w + 1)) ≤ (m : Int) + (j : Int) → m ≤ 5000 → (pT (hT σ.1) (σ.2.2.1 0) w) ≤ (m : Int) → Inv2 (hT σ.1) (σ.2.2.1 0) w m bef → (-153000 ≤ bef ∧ bef ≤ 153000) → k + j ≤ K → n ≤ 6 * k + 30000 → CS κ L f tt σ → k_G θ κ cL_law 16 (some .boolean) RL room_1 Q L f k n 433 [(14, .int (iI (m : Int))), (13, .int (iI bef)), (12, .int (iI (pH (hT σ.1) (σ.2.2.1 0) (w + 1)))), (11, .int (iI (pH (hT σ.1) (σ.2.2.1 0) w))), (10, .int (iI (pT (hT σ.1) (σ.2.2.1 0) (w + 1)))), (9, .int (iI (pT (hT σ.1) (σ.2.2.1 0) w))), (6, .int (iI (w : Int))), (5, .int (iI (nW (hT σ.1) : Int))), (3, .int (iI 0)), (1, .ref tt)] [] := by
  intro j
  have hok : PtOk (σ.2.2.1 0) := hs.2.1.2 0 hp
  have hnn := nW_le (hT σ.1)
  have ht0 := pT_bd (h := hT σ.1) hok (show w < nW (hT σ.1) by omega)
  have ht1 := pT_bd (h := hT σ.1) hok hw
  have hq0 := pH_bd hok (fun t => hT_bd hs.1 t) w
  have hq1 := pH_bd hok (fun t => hT_bd hs.1 t) (w + 1)
  have hlt0 := ord_lt ho hw
  induction j with
  | zero =>
    intro m bef L f k n h1 h2 hfm hinv hbb hk hn hC
    refine k_iload 0 dL_law_433 rfl ?_
    refine k_sipush dL_law_435 (by decide) ?_
    refine k_iload 4 dL_law_438 rfl ?_
    refine k_min q_567 q_329 q_27 q_330 (inI_mk (by omega) (by omega)) (inI_mk (by omega) (by omega)) (Nat.le_of_ble_eq_true rfl) (Nat.le_of_ble_eq_true rfl) ⟨(by show _ ≤ 600086; omega), (by show _ ≤ 7301442; omega)⟩ dL_law_440 ?_
    refine k_icmp_ge 527 dL_law_443 (by decide) (inI_mk (by omega) (by omega)) (inI_mk (by omega) (by omega)) (fun h443 => ?_) (fun h443 => ?_)
    · refine k_perm [6, 7, 8, 9] [(6, .int (iI (w : Int))), (5, .int (iI (nW (hT σ.1) : Int))), (3, .int (iI 0)), (1, .ref tt)] rfl ?_
      exact cont _ _ _ _ (by omega) (by omega) hC
    · omega
  | succ j ih =>
    intro m bef L f k n h1 h2 hfm hinv hbb hk hn hC
    refine k_iload 0 dL_law_433 rfl ?_
    refine k_sipush dL_law_435 (by decide) ?_
    refine k_iload 4 dL_law_438 rfl ?_
    refine k_min q_567 q_329 q_27 q_330 (inI_mk (by omega) (by omega)) (inI_mk (by omega) (by omega)) (Nat.le_of_ble_eq_true rfl) (Nat.le_of_ble_eq_true rfl) ⟨(by show _ ≤ 600086; omega), (by show _ ≤ 7301442; omega)⟩ dL_law_440 ?_
    refine k_icmp_ge 527 dL_law_443 (by decide) (inI_mk (by omega) (by omega)) (inI_mk (by omega) (by omega)) (fun h443 => ?_) (fun h443 => ?_)
    · refine k_perm [6, 7, 8, 9] [(6, .int (iI (w : Int))), (5, .int (iI (nW (hT σ.1) : Int))), (3, .int (iI 0)), (1, .ref tt)] rfl ?_
      exact cont _ _ _ _ (by omega) (by omega) hC
    · have hlt : (m : Int) < (pT (hT σ.1) (σ.2.2.1 0) (w + 1)) := by omega
      have hbt := btw_in hok (fun t => hT_bd hs.1 t) hfm hlt
      refine k_aload_n 9 1 dL_law_446 rfl rfl ?_
      refine k_iload_n 8 3 dL_law_447 rfl rfl ?_
      refine k_iload 0 dL_law_448 rfl ?_
      refine a_portHeight w m hts hs hC hp ho hw hfm hlt (by omega) (by omega) (by omega) (by omega) (Nat.le_of_ble_eq_true rfl) dL_law_450 (fun L14 f14 hC => ?_)
      refine k_istore [(15, .int (iI (btw (hT σ.1) (σ.2.2.1 0) (w + 1) (m : Int)))), (14, .int (iI (m : Int))), (13, .int (iI bef)), (12, .int (iI (pH (hT σ.1) (σ.2.2.1 0) (w + 1)))), (11, .int (iI (pH (hT σ.1) (σ.2.2.1 0) w))), (10, .int (iI (pT (hT σ.1) (σ.2.2.1 0) (w + 1)))), (9, .int (iI (pT (hT σ.1) (σ.2.2.1 0) w))), (6, .int (iI (w : Int))), (5, .int (iI (nW (hT σ.1) : Int))), (3, .int (iI 0)), (1, .ref tt)] dL_law_453 (by decide) rfl ?_
      have J509 : k_G θ κ cL_law 16 (some .boolean) RL room_1 Q L14 f14 (k + 1) (n + 6) 509 [(15, .int (iI (btw (hT σ.1) (σ.2.2.1 0) (w + 1) (m : Int)))), (14, .int (iI (m : Int))), (13, .int (iI bef)), (12, .int (iI (pH (hT σ.1) (σ.2.2.1 0) (w + 1)))), (11, .int (iI (pH (hT σ.1) (σ.2.2.1 0) w))), (10, .int (iI (pT (hT σ.1) (σ.2.2.1 0) (w + 1)))), (9, .int (iI (pT (hT σ.1) (σ.2.2.1 0) w))), (6, .int (iI (w : Int))), (5, .int (iI (nW (hT σ.1) : Int))), (3, .int (iI 0)), (1, .ref tt)] [] := by
        refine k_iload 0 dL_law_509 rfl ?_
        refine k_istore [(13, .int (iI (btw (hT σ.1) (σ.2.2.1 0) (w + 1) (m : Int)))), (15, .int (iI (btw (hT σ.1) (σ.2.2.1 0) (w + 1) (m : Int)))), (14, .int (iI (m : Int))), (12, .int (iI (pH (hT σ.1) (σ.2.2.1 0) (w + 1)))), (11, .int (iI (pH (hT σ.1) (σ.2.2.1 0) w))), (10, .int (iI (pT (hT σ.1) (σ.2.2.1 0) (w + 1)))), (9, .int (iI (pT (hT σ.1) (σ.2.2.1 0) w))), (6, .int (iI (w : Int))), (5, .int (iI (nW (hT σ.1) : Int))), (3, .int (iI 0)), (1, .ref tt)] dL_law_511 (by decide) rfl ?_
        refine k_iload 2 dL_law_513 rfl ?_
        refine k_iconst dL_law_515 ?_
        refine k_iload 2 dL_law_516 rfl ?_
        refine k_iconst dL_law_518 ?_
        refine k_irem dL_law_519 (inI_mk (by omega) (by omega)) (inI_mk (by omega) (by omega)) (by omega) ?_
        refine k_iadd dL_law_520 ?_
        refine k_iadd dL_law_521 ?_
        have htm := tm_bd (a := (m : Int)) (p := 5) (by omega) (by omega)
        refine k_topi ((m + 1 + ((m : Int).tmod 5).toNat : Nat) : Int) (by omega) ?_
        refine k_istore [(14, .int (iI ((m + 1 + ((m : Int).tmod 5).toNat : Nat) : Int))), (13, .int (iI (btw (hT σ.1) (σ.2.2.1 0) (w + 1) (m : Int)))), (15, .int (iI (btw (hT σ.1) (σ.2.2.1 0) (w + 1) (m : Int)))), (12, .int (iI (pH (hT σ.1) (σ.2.2.1 0) (w + 1)))), (11, .int (iI (pH (hT σ.1) (σ.2.2.1 0) w))), (10, .int (iI (pT (hT σ.1) (σ.2.2.1 0) (w + 1)))), (9, .int (iI (pT (hT σ.1) (σ.2.2.1 0) w))), (6, .int (iI (w : Int))), (5, .int (iI (nW (hT σ.1) : Int))), (3, .int (iI 0)), (1, .ref tt)] dL_law_522 (by decide) rfl ?_
        refine k_goto 433 dL_law_524 (by decide) ?_
        refine k_perm [0, 1, 3, 4, 5, 6, 7, 8, 9, 10] [(14, .int (iI ((m + 1 + ((m : Int).tmod 5).toNat : Nat) : Int))), (13, .int (iI (btw (hT σ.1) (σ.2.2.1 0) (w + 1) (m : Int)))), (12, .int (iI (pH (hT σ.1) (σ.2.2.1 0) (w + 1)))), (11, .int (iI (pH (hT σ.1) (σ.2.2.1 0) w))), (10, .int (iI (pT (hT σ.1) (σ.2.2.1 0) (w + 1)))), (9, .int (iI (pT (hT σ.1) (σ.2.2.1 0) w))), (6, .int (iI (w : Int))), (5, .int (iI (nW (hT σ.1) : Int))), (3, .int (iI 0)), (1, .ref tt)] rfl ?_
        exact ih _ _ _ _ _ _ (by omega) (by omega) (by omega) (inv2_s hfm (by omega)) hbt (by omega) (by omega) hC
      have J469 : k_G θ κ cL_law 16 (some .boolean) RL room_1 Q L14 f14 (k + 1) (n + 6) 469 [(15, .int (iI (btw (hT σ.1) (σ.2.2.1 0) (w + 1) (m : Int)))), (14, .int (iI (m : Int))), (13, .int (iI bef)), (12, .int (iI (pH (hT σ.1) (σ.2.2.1 0) (w + 1)))), (11, .int (iI (pH (hT σ.1) (σ.2.2.1 0) w))), (10, .int (iI (pT (hT σ.1) (σ.2.2.1 0) (w + 1)))), (9, .int (iI (pT (hT σ.1) (σ.2.2.1 0) w))), (6, .int (iI (w : Int))), (5, .int (iI (nW (hT σ.1) : Int))), (3, .int (iI 0)), (1, .ref tt)] [] := by
        refine k_iload 4 dL_law_469 rfl ?_
        refine k_iload 3 dL_law_471 rfl ?_
        refine k_icmp_gt 493 dL_law_473 (by decide) (inI_mk (by omega) (by omega)) (inI_mk (by omega) (by omega)) (fun h473 => ?_) (fun h473 => ?_)
        · refine k_iload 0 dL_law_493 rfl ?_
          refine k_iload 2 dL_law_495 rfl ?_
          refine k_icmp_gt 507 dL_law_497 (by decide) (inI_mk (by omega) (by omega)) (inI_mk (by omega) (by omega)) (fun h497 => ?_) (fun h497 => ?_)
          · exact absurd ((hinv _ (Int.le_refl _) hlt).2 (Int.le_of_lt h473)) (Int.not_le.mpr h497)
          · refine k_iload 0 dL_law_500 rfl ?_
            refine k_iload 3 dL_law_502 rfl ?_
            refine k_icmp_ge 509 dL_law_504 (by decide) (inI_mk (by omega) (by omega)) (inI_mk (by omega) (by omega)) (fun h504 => ?_) (fun h504 => ?_)
            · exact J509
            · exact absurd (btw_dn hfm (Int.le_refl _) hlt (Int.le_of_lt h473)).2.2 (Int.not_le.mpr h504)
        · refine k_iload 0 dL_law_476 rfl ?_
          refine k_iload 2 dL_law_478 rfl ?_
          refine k_icmp_lt 507 dL_law_480 (by decide) (inI_mk (by omega) (by omega)) (inI_mk (by omega) (by omega)) (fun h480 => ?_) (fun h480 => ?_)
          · exact absurd ((hinv _ (Int.le_refl _) hlt).1 h473) (Int.not_le.mpr h480)
          · refine k_iload 0 dL_law_483 rfl ?_
            refine k_iload 3 dL_law_485 rfl ?_
            refine k_icmp_le 509 dL_law_487 (by decide) (inI_mk (by omega) (by omega)) (inI_mk (by omega) (by omega)) (fun h487 => ?_) (fun h487 => ?_)
            · exact J509
            · exact absurd (btw_up hfm (Int.le_refl _) hlt h473).2.2 (Int.not_le.mpr h487)
      refine k_iload 1 dL_law_455 rfl ?_
      refine k_iload 6 dL_law_457 rfl ?_
      refine k_icmp_ne 469 dL_law_459 (by decide) (inI_mk (by omega) (by omega)) (inI_mk (by omega) (by omega)) (fun h459 => ?_) (fun h459 => ?_)
      · exact J469
      · refine k_iload 0 dL_law_462 rfl ?_
        refine k_iload 4 dL_law_464 rfl ?_
        refine k_icmp_ne 507 dL_law_466 (by decide) (inI_mk (by omega) (by omega)) (inI_mk (by omega) (by omega)) (fun h466 => ?_) (fun h466 => ?_)
        · exact absurd (by rw [h459]; exact btw_0 hlt0) h466
        · exact J469
