set_option maxHeartbeats 4000000 in
set_option maxRecDepth 100000 in
theorem c_J3_checkIndex_8e157 (la : Launch) (κ : Kx) {L : List Nat} {f : Nat → wE} {i n : Int}   (h0 : 0 ≤ i) (h1 : i < n) (h2 : n < 2147483648) : k_M la κ yJ3_checkIndex_8e157 cJ3_checkIndex_8e157 3 (some .int) 1 0 0 [.int (iI i), .int (iI n), .null] L f (k_ro L f (.int (iI i))) := by
  refine k_head RJ3 [(0, .int (iI i)), (1, .int (iI n)), (2, .null)] rfl (by decide) (Nat.le_of_ble_eq_true rfl) rfl (fun θ hθ hin => ?_)
  refine k_iload_n 0 0 dJ3_checkIndex_8e157_0 rfl rfl ?_
  refine k_if_lt 9 dJ3_checkIndex_8e157_1 (by decide) (inI_mk (by omega) (by omega)) (fun h1 => ?_) (fun h1 => ?_)
  · omega
  · refine k_iload_n 0 0 dJ3_checkIndex_8e157_4 rfl rfl ?_
    refine k_iload_n 1 1 dJ3_checkIndex_8e157_5 rfl rfl ?_
    refine k_icmp_lt 16 dJ3_checkIndex_8e157_6 (by decide) (inI_mk (by omega) (by omega)) (inI_mk (by omega) (by omega)) (fun h6 => ?_) (fun h6 => ?_)
    · refine k_iload_n 0 0 dJ3_checkIndex_8e157_16 rfl rfl ?_
      exact k_iret dJ3_checkIndex_8e157_17 rfl (Nat.le_of_ble_eq_true rfl) (Nat.le_of_ble_eq_true rfl) (k_oki rfl)
    · omega
set_option maxHeartbeats 4000000 in
set_option maxRecDepth 100000 in
theorem c_J15_checkIndex_7cf53 (la : Launch) (κ : Kx) {L : List Nat} {f : Nat → wE} {i n : Int}   (h0 : 0 ≤ i) (h1 : i < n) (h2 : n < 2147483648) : k_M la κ yJ15_checkIndex_7cf53 cJ15_checkIndex_7cf53 2 (some .int) 2 0 0 [.int (iI i), .int (iI n)] L f (k_ro L f (.int (iI i))) := by
  refine k_head RJ15 [(0, .int (iI i)), (1, .int (iI n))] rfl (by decide) (Nat.le_of_ble_eq_true rfl) rfl (fun θ hθ hin => ?_)
  refine k_iload_n 0 0 dJ15_checkIndex_7cf53_0 rfl rfl ?_
  refine k_iload_n 1 1 dJ15_checkIndex_7cf53_1 rfl rfl ?_
  refine k_null dJ15_checkIndex_7cf53_2 ?_
  refine k_useR (k_runS (c_J3_checkIndex_8e157 θ.2.1 κ (i := i) (n := n) (by omega) (by omega) (by omega)) w_J15_105 q_222 rfl rfl ⟨(Nat.le_of_ble_eq_true rfl), (Nat.le_of_ble_eq_true rfl)⟩ (Nat.le_of_ble_eq_true rfl) dJ15_checkIndex_7cf53_3) ⟨(Nat.le_of_ble_eq_true rfl), (Nat.le_of_ble_eq_true rfl)⟩ ?_
  exact k_iret dJ15_checkIndex_7cf53_6 rfl (Nat.le_of_ble_eq_true rfl) (Nat.le_of_ble_eq_true rfl) (k_oki rfl)
set_option maxHeartbeats 4000000 in
set_option maxRecDepth 100000 in
theorem c_Jx4a65c_size_8abf5 (la : Launch) (κ : Kx) {L : List Nat} {f : Nat → wE} {l tl ta n : Nat} {g : Nat → Nat}  (hL : ListR κ L f l tl ta n g)  : k_M la κ yJx4a65c_size_8abf5 cJx4a65c_size_8abf5 1 (some .int) 1 0 0 [.ref l] L f (k_ro L f (.int (iI (n : Int)))) := by
  refine k_head RJx4a65c [(0, .ref l)] rfl (by decide) (Nat.le_of_ble_eq_true rfl) rfl (fun θ hθ hin => ?_)
  obtain ⟨md, E, cap, row, cl, hE⟩ := hL
  refine k_aload_n 0 0 dJx4a65c_size_8abf5_0 rfl rfl ?_
  refine k_get 2 i_Jx4a65c q_65 cl rfl (by decide) rfl dJx4a65c_size_8abf5_1 ?_
  exact k_iret dJx4a65c_size_8abf5_4 rfl (Nat.le_of_ble_eq_true rfl) (Nat.le_of_ble_eq_true rfl) (k_oki rfl)
set_option maxHeartbeats 4000000 in
set_option maxRecDepth 100000 in
theorem c_Jx4a65c_elementData_915e3 (la : Launch) (κ : Kx) {L : List Nat} {f : Nat → wE} {l tl ta n : Nat} {g : Nat → Nat} {i : Nat}  (hL : ListR κ L f l tl ta n g) (hi : i < n) : k_M la κ yJx4a65c_elementData_915e3 cJx4a65c_elementData_915e3 2 (some (.object "java/lang/Object")) 1 0 0 [.ref l, .int (iI (i : Int))] L f (k_ro L f (.ref (g i))) := by
  refine k_head RJx4a65c [(0, .ref l), (1, .int (iI (i : Int)))] rfl (by decide) (Nat.le_of_ble_eq_true rfl) rfl (fun θ hθ hin => ?_)
  have hle := hL.le
  obtain ⟨md, E, cap, row, cl, hE⟩ := hL
  obtain ⟨cE, hnc, hcap, hrow⟩ := hE.resolve_left (fun q => by omega)
  refine k_aload_n 0 0 dJx4a65c_elementData_915e3_0 rfl rfl ?_
  refine k_get 1 i_Jx4a65c q_64 cl rfl (by decide) rfl dJx4a65c_elementData_915e3_1 ?_
  refine k_iload_n 1 1 dJx4a65c_elementData_915e3_4 rfl rfl ?_
  refine k_aald i cE rfl (by omega) (by omega) (hrow i hi) dJx4a65c_elementData_915e3_5 ?_
  exact k_aret dJx4a65c_elementData_915e3_6 rfl (Or.inl ⟨_, rfl⟩) (Nat.le_of_ble_eq_true rfl) (Nat.le_of_ble_eq_true rfl) ⟨rfl, rfl, rfl⟩
set_option maxHeartbeats 4000000 in
set_option maxRecDepth 100000 in
theorem c_Jx4a65c_get_915e3 (la : Launch) (κ : Kx) {L : List Nat} {f : Nat → wE} {l tl ta n : Nat} {g : Nat → Nat} {i : Nat}  (hL : ListR κ L f l tl ta n g) (hi : i < n) : k_M la κ yJx4a65c_get_915e3 cJx4a65c_get_915e3 2 (some (.object "java/lang/Object")) 3 0 0 [.ref l, .int (iI (i : Int))] L f (k_ro L f (.ref (g i))) := by
  refine k_head RJx4a65c [(0, .ref l), (1, .int (iI (i : Int)))] rfl (by decide) (Nat.le_of_ble_eq_true rfl) rfl (fun θ hθ hin => ?_)
  have hle := hL.le
  obtain ⟨md, E, cl⟩ := hL.cl
  refine k_iload_n 1 1 dJx4a65c_get_915e3_0 rfl rfl ?_
  refine k_aload_n 0 0 dJx4a65c_get_915e3_1 rfl rfl ?_
  refine k_get 2 i_Jx4a65c q_65 cl rfl (by decide) rfl dJx4a65c_get_915e3_2 ?_
  refine k_useR (k_runS (c_J15_checkIndex_7cf53 θ.2.1 κ (i := (i : Int)) (n := (n : Int)) (by omega) (by omega) (by omega)) w_Jx4a65c_118 q_219 rfl rfl ⟨(Nat.le_of_ble_eq_true rfl), (Nat.le_of_ble_eq_true rfl)⟩ (Nat.le_of_ble_eq_true rfl) dJx4a65c_get_915e3_5) ⟨(Nat.le_of_ble_eq_true rfl), (Nat.le_of_ble_eq_true rfl)⟩ ?_
  refine k_pop dJx4a65c_get_915e3_8 rfl ?_
  refine k_aload_n 0 0 dJx4a65c_get_915e3_9 rfl rfl ?_
  refine k_iload_n 1 1 dJx4a65c_get_915e3_10 rfl rfl ?_
  refine k_useR (k_runV (c_Jx4a65c_elementData_915e3 θ.2.1 κ (l := l) (i := i) hL hi) w_Jx4a65c_123 ⟨q_225, q_226⟩ rfl rfl cl rfl ⟨(Nat.le_of_ble_eq_true rfl), (Nat.le_of_ble_eq_true rfl)⟩ (Nat.le_of_ble_eq_true rfl) dJx4a65c_get_915e3_11) ⟨(Nat.le_of_ble_eq_true rfl), (Nat.le_of_ble_eq_true rfl)⟩ ?_
  exact k_aret dJx4a65c_get_915e3_14 rfl (Or.inl ⟨_, rfl⟩) (Nat.le_of_ble_eq_true rfl) (Nat.le_of_ble_eq_true rfl) ⟨rfl, rfl, rfl⟩
set_option maxHeartbeats 4000000 in
set_option maxRecDepth 100000 in
theorem c_J8_newLength_cabcc (la : Launch) (κ : Kx) {L : List Nat} {f : Nat → wE} {o a b : Int}   (h1 : 0 ≤ o ∧ o ≤ 1000) (h2 : 0 ≤ a ∧ a ≤ 1000) (h3 : 0 ≤ b ∧ b ≤ 1000) (h4 : 0 < o + max a b) : k_M la κ yJ8_newLength_cabcc cJ8_newLength_cabcc 4 (some .int) 2 0 0 [.int (iI o), .int (iI a), .int (iI b)] L f (k_ro L f (.int (iI (o + max a b)))) := by
  refine k_head RJ8 [(0, .int (iI o)), (1, .int (iI a)), (2, .int (iI b))] rfl (by decide) (Nat.le_of_ble_eq_true rfl) rfl (fun θ hθ hin => ?_)
  refine k_iload_n 0 0 dJ8_newLength_cabcc_0 rfl rfl ?_
  refine k_iload_n 1 1 dJ8_newLength_cabcc_1 rfl rfl ?_
  refine k_iload_n 2 2 dJ8_newLength_cabcc_2 rfl rfl ?_
  refine k_max q_419 q_322 q_27 q_323 (inI_mk (by omega) (by omega)) (inI_mk (by omega) (by omega)) (Nat.le_of_ble_eq_true rfl) (Nat.le_of_ble_eq_true rfl) ⟨(Nat.le_of_ble_eq_true rfl), (Nat.le_of_ble_eq_true rfl)⟩ dJ8_newLength_cabcc_3 ?_
  refine k_iadd dJ8_newLength_cabcc_6 ?_
  refine k_istore_n 3 [(3, .int (iI (o + (max a b)))), (0, .int (iI o)), (1, .int (iI a)), (2, .int (iI b))] dJ8_newLength_cabcc_7 rfl (by decide) rfl ?_
  refine k_iconst dJ8_newLength_cabcc_8 ?_
  refine k_iload_n 0 3 dJ8_newLength_cabcc_9 rfl rfl ?_
  refine k_icmp_ge 21 dJ8_newLength_cabcc_10 (by decide) (inI_mk (by omega) (by omega)) (inI_mk (by omega) (by omega)) (fun h10 => ?_) (fun h10 => ?_)
  · omega
  · refine k_iload_n 0 3 dJ8_newLength_cabcc_13 rfl rfl ?_
    refine k_ldc 2147483639 q_420 (by decide) dJ8_newLength_cabcc_14 ?_
    refine k_icmp_gt 21 dJ8_newLength_cabcc_16 (by decide) (inI_mk (by omega) (by omega)) (inI_mk (by omega) (by omega)) (fun h16 => ?_) (fun h16 => ?_)
    · omega
    · refine k_iload_n 0 3 dJ8_newLength_cabcc_19 rfl rfl ?_
      exact k_iret dJ8_newLength_cabcc_20 rfl (Nat.le_of_ble_eq_true rfl) (Nat.le_of_ble_eq_true rfl) (k_oki rfl)
set_option maxHeartbeats 4000000 in
set_option maxRecDepth 100000 in
theorem c_J7_copyOf_6403c (la : Launch) (κ : Kx) {L : List Nat} {f : Nat → wE} {a n ta ci : Nat} {row : Nat → Option Nat} {g : Nat → Nat} {r : vw_C} {m : Nat} (ca : Cl L f a (ta, .inl (κ.2.2.1 3, n, .inr (.inr (.inr (.inr row))))))  (hnm : n ≤ m ∧ m ≤ 60) (hci : vwCl[ci]? = some r) (hq : Cond.castable r.1 "java/lang/Object" ∈ lw_tbl) (hrow : ∀ i, i < n → row i = some (g i)) (hel : ∀ i, i < n → ∃ (t : Nat) (fs : List Value), Cl L f (g i) (t, .inr (ci, fs))) : k_M la κ yJ7_copyOf_6403c cJ7_copyOf_6403c 4 (some (.array (.object "java/lang/Object"))) 2 1 60 [.ref a, .int (iI (m : Int)), .ref (κ.2.2.2 5)] L f (k_rn (fun w L' f' => ∃ (q9 : Nat) (row9 : Nat → Option Nat), w = .ref q9 ∧ (∀ z ∈ L, z ∈ L' ∧ f' z = f z) ∧ Cl L' f' q9 (ta, .inl (κ.2.2.1 3, m, .inr (.inr (.inr (.inr row9))))) ∧ ∀ i, i < n → row9 i = some (g i))) := by
  refine k_head RJ7 [(0, .ref a), (1, .int (iI (m : Int))), (2, .ref (κ.2.2.2 5))] rfl (by decide) (Nat.le_of_ble_eq_true rfl) rfl (fun θ hθ hin => ?_)
  have ca0 := ca.1
  refine k_aload_n 2 2 dJ7_copyOf_6403c_0 rfl rfl ?_
  refine k_ldcM q_444 dJ7_copyOf_6403c_1 ?_
  refine k_acmp_ne 13 dJ7_copyOf_6403c_3 (by decide) (fun h3 => ?_) (fun h3 => ?_)
  · exact absurd rfl h3
  · refine k_iload_n 1 1 dJ7_copyOf_6403c_6 rfl rfl ?_
    refine k_newq ta m q_446 rfl (by omega) (Nat.le_of_ble_eq_true rfl) (by show 0 + m ≤ 60; omega) dJ7_copyOf_6403c_7 (fun q9 L1 f1 hz1 hn1 hc1 => ?_)
    have hr1 := k_fr.new hz1
    replace ca := ca.fr hr1 rfl
    have cQ9 : Cl L1 f1 q9 (ta, .inl (κ.2.2.1 3, m, .inr (.inr (.inr (.inr (fun _ => none)))))) := hc1
    refine k_widen 1 60 (by omega) (by omega) ?_
    refine k_goto 24 dJ7_copyOf_6403c_10 (by decide) ?_
    refine k_astore_n 3 [(3, .ref q9), (0, .ref a), (1, .int (iI (m : Int))), (2, .ref (κ.2.2.2 5))] dJ7_copyOf_6403c_24 rfl (by decide) rfl ?_
    refine k_aload_n 1 0 dJ7_copyOf_6403c_25 rfl rfl ?_
    refine k_iconst dJ7_copyOf_6403c_26 ?_
    refine k_aload_n 0 3 dJ7_copyOf_6403c_27 rfl rfl ?_
    refine k_iconst dJ7_copyOf_6403c_28 ?_
    refine k_aload_n 1 0 dJ7_copyOf_6403c_29 rfl rfl ?_
    refine k_alen (t0 := 3) ca rfl dJ7_copyOf_6403c_30 ?_
    refine k_iload_n 2 1 dJ7_copyOf_6403c_31 rfl rfl ?_
    refine k_min q_447 q_329 q_27 q_330 (inI_mk (by omega) (by omega)) (inI_mk (by omega) (by omega)) (Nat.le_of_ble_eq_true rfl) (Nat.le_of_ble_eq_true rfl) ⟨(Nat.le_of_ble_eq_true rfl), (Nat.le_of_ble_eq_true rfl)⟩ dJ7_copyOf_6403c_32 ?_
    have hel9 : ∀ j, j < n → ∀ y, row j = some y → ∃ (t : Nat) (fs : List Value), Cl L1 f1 y (t, .inr (ci, fs)) := fun j hj y hy => by
      have e := (hrow j hj).symm.trans hy
      obtain ⟨t, fs, hc⟩ := hel j hj
      rw [Option.some.inj e] at hc
      exact ⟨t, fs, hc.new hz1⟩
    have hmin : min (n : Int) (m : Int) = (n : Int) := by omega
    refine k_copyq n q_448 q_450 q_449 q_29 ca cQ9 hmin (Nat.le_refl _) hnm.1 (by omega) hci hq hel9 (Nat.le_of_ble_eq_true rfl) (Nat.le_of_ble_eq_true rfl) dJ7_copyOf_6403c_35 (fun f2 g2 hf2 hc2 hg2 => ?_)
    have hr2 := k_fr.put hf2 cQ9
    replace ca := Cl.put2 hf2 ca (fun e => hn1 (by rw [← e]; exact ca0))
    replace cQ9 : Cl L1 f2 q9 (ta, .inl (κ.2.2.1 3, m, .inr (.inr (.inr (.inr g2))))) := hc2
    have hfin : ∀ z ∈ L, z ∈ L1 ∧ f2 z = f z := fun z hz => ⟨(hz1 z hz).1, (hf2 z (fun e => hn1 (by rw [← e]; exact hz))).trans (hz1 z hz).2⟩
    refine k_aload_n 0 3 dJ7_copyOf_6403c_38 rfl rfl ?_
    exact k_aret dJ7_copyOf_6403c_39 rfl (Or.inr ⟨_, rfl⟩) (Nat.le_of_ble_eq_true rfl) (Nat.le_of_ble_eq_true rfl) (⟨.ref q9, rfl, q9, g2, rfl, hfin, cQ9, fun i hi => (hg2 i hi).trans (hrow i hi)⟩)
set_option maxHeartbeats 4000000 in
set_option maxRecDepth 100000 in
theorem c_J7_copyOf_1904c (la : Launch) (κ : Kx) {L : List Nat} {f : Nat → wE} {a n ta ci : Nat} {row : Nat → Option Nat} {g : Nat → Nat} {r : vw_C} {m : Nat} (ca : Cl L f a (ta, .inl (κ.2.2.1 3, n, .inr (.inr (.inr (.inr row))))))  (hnm : n ≤ m ∧ m ≤ 60) (hci : vwCl[ci]? = some r) (hq : Cond.castable r.1 "java/lang/Object" ∈ lw_tbl) (hrow : ∀ i, i < n → row i = some (g i)) (hel : ∀ i, i < n → ∃ (t : Nat) (fs : List Value), Cl L f (g i) (t, .inr (ci, fs))) : k_M la κ yJ7_copyOf_1904c cJ7_copyOf_1904c 2 (some (.array (.object "java/lang/Object"))) 3 1 60 [.ref a, .int (iI (m : Int))] L f (k_rn (fun w L' f' => ∃ (q9 : Nat) (row9 : Nat → Option Nat), w = .ref q9 ∧ (∀ z ∈ L, z ∈ L' ∧ f' z = f z) ∧ Cl L' f' q9 (ta, .inl (κ.2.2.1 3, m, .inr (.inr (.inr (.inr row9))))) ∧ ∀ i, i < n → row9 i = some (g i))) := by
  refine k_head RJ7 [(0, .ref a), (1, .int (iI (m : Int)))] rfl (by decide) (Nat.le_of_ble_eq_true rfl) rfl (fun θ hθ hin => ?_)
  refine k_aload_n 0 0 dJ7_copyOf_1904c_0 rfl rfl ?_
  refine k_iload_n 1 1 dJ7_copyOf_1904c_1 rfl rfl ?_
  refine k_aload_n 0 0 dJ7_copyOf_1904c_2 rfl rfl ?_
  refine k_getC q_427 q_583 q_582 q_428 q_440 ca (Nat.le_of_ble_eq_true rfl) (Nat.le_of_ble_eq_true rfl) dJ7_copyOf_1904c_3 ?_
  refine k_useV (k_runS (c_J7_copyOf_6403c θ.2.1 κ (a := a) (m := m) ca hnm hci hq hrow hel) w_J7_300 q_442 rfl rfl ⟨(Nat.le_of_ble_eq_true rfl), (Nat.le_of_ble_eq_true rfl)⟩ (Nat.le_of_ble_eq_true rfl) dJ7_copyOf_1904c_6) ⟨(Nat.le_of_ble_eq_true rfl), (Nat.le_of_ble_eq_true rfl)⟩ (fun w L1 f1 hw => ?_)
  obtain ⟨q9, row9, rfl, hz1, cQ9, hr9⟩ := hw
  have hr1 := k_fr.new hz1
  replace ca := ca.fr hr1 rfl
  exact k_aret dJ7_copyOf_1904c_9 rfl (Or.inr ⟨_, rfl⟩) (Nat.le_of_ble_eq_true rfl) (Nat.le_of_ble_eq_true rfl) (⟨.ref q9, rfl, q9, row9, rfl, hz1, cQ9, hr9⟩)
set_option maxHeartbeats 4000000 in
set_option maxRecDepth 100000 in
theorem c_Jx4a65c_grow_92f84 (la : Launch) (κ : Kx) {L : List Nat} {f : Nat → wE} {l tl ta n ci E : Nat} {md : Int} {row : Nat → Option Nat} {g : Nat → Nat} {r : vw_C} (cl : Cl L f l (tl, .inr (0, [.int (iI md), .ref E, .int (iI (n : Int))])))  (htg : ta ≠ tl) (hE : (E = κ.2.2.2 4 ∧ n = 0) ∨ (Cl L f E (ta, .inl (κ.2.2.1 3, n, .inr (.inr (.inr (.inr row))))) ∧ (10 ≤ n ∧ n ≤ 39) ∧ ∀ i, i < n → row i = some (g i))) (hci : vwCl[ci]? = some r) (hq : Cond.castable r.1 "java/lang/Object" ∈ lw_tbl) (hel : ∀ i, i < n → ∃ (t : Nat) (fs : List Value), Cl L f (g i) (t, .inr (ci, fs))) : k_M la κ yJx4a65c_grow_92f84 cJx4a65c_grow_92f84 4 (some (.array (.object "java/lang/Object"))) 4 1 60 [.ref l, .int (iI ((n : Int) + 1))] L f (k_rn (fun w L' f' => ∃ (q9 cap9 : Nat) (row9 : Nat → Option Nat), w = .ref q9 ∧ k_fr (fun u => u == tl) L f L' f' ∧ Cl L' f' l (tl, .inr (0, [.int (iI md), .ref q9, .int (iI (n : Int))])) ∧ Cl L' f' q9 (ta, .inl (κ.2.2.1 3, cap9, .inr (.inr (.inr (.inr row9))))) ∧ n < cap9 ∧ (10 ≤ cap9 ∧ cap9 ≤ 60) ∧ ∀ i, i < n → row9 i = some (g i))) := by
  refine k_head RJx4a65c [(0, .ref l), (1, .int (iI ((n : Int) + 1)))] rfl (by decide) (Nat.le_of_ble_eq_true rfl) rfl (fun θ hθ hin => ?_)
  rcases hE with ⟨hE0, hn0⟩ | ⟨cE, hcap, hrow⟩
  · subst hE0
    have hn1 : (n : Int) = 0 := by omega
    refine k_aload_n 0 0 dJx4a65c_grow_92f84_0 rfl rfl ?_
    refine k_get 1 i_Jx4a65c q_64 cl rfl (by decide) rfl dJx4a65c_grow_92f84_1 ?_
    refine k_tlenD dJx4a65c_grow_92f84_4 ?_
    refine k_istore_n 2 [(2, .int (iI 0)), (0, .ref l), (1, .int (iI ((n : Int) + 1)))] dJx4a65c_grow_92f84_5 rfl (by decide) rfl ?_
    refine k_iload_n 0 2 dJx4a65c_grow_92f84_6 rfl rfl ?_
    refine k_if_gt 20 dJx4a65c_grow_92f84_7 (by decide) (inI_mk (by omega) (by omega)) (fun h7 => ?_) (fun h7 => ?_)
    · omega
    · refine k_aload_n 1 0 dJx4a65c_grow_92f84_10 rfl rfl ?_
      refine k_get 1 i_Jx4a65c q_64 cl rfl (by decide) rfl dJx4a65c_grow_92f84_11 ?_
      refine k_getsD q_62 dJx4a65c_grow_92f84_14 ?_
      refine k_acmp_eq 45 dJx4a65c_grow_92f84_17 (by decide) (fun h17 => ?_) (fun h17 => ?_)
      · refine k_aload_n 1 0 dJx4a65c_grow_92f84_45 rfl rfl ?_
        refine k_bipush dJx4a65c_grow_92f84_46 (by decide) ?_
        refine k_iload_n 2 1 dJx4a65c_grow_92f84_48 rfl rfl ?_
        refine k_max q_451 q_322 q_27 q_323 (inI_mk (by omega) (by omega)) (inI_mk (by omega) (by omega)) (Nat.le_of_ble_eq_true rfl) (Nat.le_of_ble_eq_true rfl) ⟨(Nat.le_of_ble_eq_true rfl), (Nat.le_of_ble_eq_true rfl)⟩ dJx4a65c_grow_92f84_49 ?_
        refine k_newq ta 10 q_452 (by omega) (by omega) (Nat.le_of_ble_eq_true rfl) (Nat.le_of_ble_eq_true rfl) dJx4a65c_grow_92f84_52 (fun q9 L1 f1 hz1 hn1 hc1 => ?_)
        have hr1 := k_fr.new hz1
        replace cl := cl.fr hr1 rfl
        have cQ9 : Cl L1 f1 q9 (ta, .inl (κ.2.2.1 3, 10, .inr (.inr (.inr (.inr (fun _ => none)))))) := hc1
        refine k_dup_x1 dJx4a65c_grow_92f84_55 rfl rfl ?_
        refine k_put 1 [.int (iI md), .ref q9, .int (iI (n : Int))] i_Jx4a65c tyJx4a65c_ok nmJx4a65c q_64 cl rfl (by decide) rfl rfl rfl rfl (Nat.le_of_ble_eq_true rfl) rfl dJx4a65c_grow_92f84_56 (fun f2 hf2 hc2 => ?_)
        have hr2 := k_fr.put hf2 cl
        replace cQ9 := cQ9.fr hr2 (tag_ne htg)
        replace cl : Cl L1 f2 l (tl, .inr (0, [.int (iI md), .ref q9, .int (iI (n : Int))])) := hc2
        refine k_widen 1 60 (by omega) (by omega) ?_
        exact k_aret dJx4a65c_grow_92f84_59 rfl (Or.inr ⟨_, rfl⟩) (Nat.le_of_ble_eq_true rfl) (Nat.le_of_ble_eq_true rfl) (⟨_, rfl, q9, 10, (fun _ => none), rfl, k_fr.trans hr1 hr2 (fun _ _ => rfl) (fun _ h => h), cl, cQ9, by omega, by omega, fun i hi => absurd hi (by omega)⟩)
      · exact absurd rfl h17
  · have hnn : 10 ≤ n ∧ n ≤ 39 := hcap
    refine k_aload_n 0 0 dJx4a65c_grow_92f84_0 rfl rfl ?_
    refine k_get 1 i_Jx4a65c q_64 cl rfl (by decide) rfl dJx4a65c_grow_92f84_1 ?_
    refine k_alen (t0 := 3) cE rfl dJx4a65c_grow_92f84_4 ?_
    refine k_istore_n 2 [(2, .int (iI (n : Int))), (0, .ref l), (1, .int (iI ((n : Int) + 1)))] dJx4a65c_grow_92f84_5 rfl (by decide) rfl ?_
    refine k_iload_n 0 2 dJx4a65c_grow_92f84_6 rfl rfl ?_
    refine k_if_gt 20 dJx4a65c_grow_92f84_7 (by decide) (inI_mk (by omega) (by omega)) (fun h7 => ?_) (fun h7 => ?_)
    · refine k_iload_n 0 2 dJx4a65c_grow_92f84_20 rfl rfl ?_
      refine k_iload_n 2 1 dJx4a65c_grow_92f84_21 rfl rfl ?_
      refine k_iload_n 0 2 dJx4a65c_grow_92f84_22 rfl rfl ?_
      refine k_isub dJx4a65c_grow_92f84_23 ?_
      refine k_iload_n 0 2 dJx4a65c_grow_92f84_24 rfl rfl ?_
      refine k_iconst dJx4a65c_grow_92f84_25 ?_
      refine k_ishr1 n rfl (by omega) dJx4a65c_grow_92f84_26 ?_
      refine k_useR (k_runS (c_J8_newLength_cabcc θ.2.1 κ (o := (n : Int)) (a := (((n : Int) + 1) - (n : Int))) (b := ((n / 2 : Nat) : Int)) (by omega) (by omega) (by omega) (by omega)) w_Jx4a65c_73 q_417 rfl rfl ⟨(Nat.le_of_ble_eq_true rfl), (Nat.le_of_ble_eq_true rfl)⟩ (Nat.le_of_ble_eq_true rfl) dJx4a65c_grow_92f84_27) ⟨(Nat.le_of_ble_eq_true rfl), (Nat.le_of_ble_eq_true rfl)⟩ ?_
      obtain ⟨m9, hm9⟩ : ∃ m9 : Nat, m9 = n + n / 2 := ⟨_, rfl⟩
      refine k_topi (m9 : Int) (by omega) ?_
      refine k_istore_n 3 [(3, .int (iI (m9 : Int))), (2, .int (iI (n : Int))), (0, .ref l), (1, .int (iI ((n : Int) + 1)))] dJx4a65c_grow_92f84_30 rfl (by decide) rfl ?_
      refine k_aload_n 2 0 dJx4a65c_grow_92f84_31 rfl rfl ?_
      refine k_aload_n 2 0 dJx4a65c_grow_92f84_32 rfl rfl ?_
      refine k_get 1 i_Jx4a65c q_64 cl rfl (by decide) rfl dJx4a65c_grow_92f84_33 ?_
      refine k_iload_n 0 3 dJx4a65c_grow_92f84_36 rfl rfl ?_
      refine k_useV (k_runS (c_J7_copyOf_1904c θ.2.1 κ (m := m9) (a := E) cE ⟨by omega, by omega⟩ hci hq hrow hel) w_Jx4a65c_66 q_425 rfl rfl ⟨(Nat.le_of_ble_eq_true rfl), (Nat.le_of_ble_eq_true rfl)⟩ (Nat.le_of_ble_eq_true rfl) dJx4a65c_grow_92f84_37) ⟨(Nat.le_of_ble_eq_true rfl), (Nat.le_of_ble_eq_true rfl)⟩ (fun w L1 f1 hw => ?_)
      obtain ⟨q9, row9, rfl, hz1, cQ9, hr9⟩ := hw
      have hr1 := k_fr.new hz1
      replace cl := cl.fr hr1 rfl
      replace cE := cE.fr hr1 rfl
      refine k_dup_x1 dJx4a65c_grow_92f84_40 rfl rfl ?_
      refine k_put 1 [.int (iI md), .ref q9, .int (iI (n : Int))] i_Jx4a65c tyJx4a65c_ok nmJx4a65c q_64 cl rfl (by decide) rfl rfl rfl rfl (Nat.le_of_ble_eq_true rfl) rfl dJx4a65c_grow_92f84_41 (fun f3 hf3 hc3 => ?_)
      have hr3 := k_fr.put hf3 cl
      replace cE := cE.fr hr3 (tag_ne htg)
      replace cQ9 := cQ9.fr hr3 (tag_ne htg)
      replace cl : Cl L1 f3 l (tl, .inr (0, [.int (iI md), .ref q9, .int (iI (n : Int))])) := hc3
      refine k_widen 1 60 (by omega) (by omega) ?_
      exact k_aret dJx4a65c_grow_92f84_44 rfl (Or.inr ⟨_, rfl⟩) (Nat.le_of_ble_eq_true rfl) (Nat.le_of_ble_eq_true rfl) (⟨_, rfl, q9, m9, row9, rfl, k_fr.trans hr1 hr3 (fun _ _ => rfl) (fun _ h => h), cl, cQ9, by omega, by omega, hr9⟩)
    · omega
set_option maxHeartbeats 4000000 in
set_option maxRecDepth 100000 in
theorem c_Jx4a65c_grow_d5877 (la : Launch) (κ : Kx) {L : List Nat} {f : Nat → wE} {l tl ta n ci E : Nat} {md : Int} {row : Nat → Option Nat} {g : Nat → Nat} {r : vw_C} (cl : Cl L f l (tl, .inr (0, [.int (iI md), .ref E, .int (iI (n : Int))])))  (htg : ta ≠ tl) (hE : (E = κ.2.2.2 4 ∧ n = 0) ∨ (Cl L f E (ta, .inl (κ.2.2.1 3, n, .inr (.inr (.inr (.inr row))))) ∧ (10 ≤ n ∧ n ≤ 39) ∧ ∀ i, i < n → row i = some (g i))) (hci : vwCl[ci]? = some r) (hq : Cond.castable r.1 "java/lang/Object" ∈ lw_tbl) (hel : ∀ i, i < n → ∃ (t : Nat) (fs : List Value), Cl L f (g i) (t, .inr (ci, fs))) : k_M la κ yJx4a65c_grow_d5877 cJx4a65c_grow_d5877 1 (some (.array (.object "java/lang/Object"))) 5 1 60 [.ref l] L f (k_rn (fun w L' f' => ∃ (q9 cap9 : Nat) (row9 : Nat → Option Nat), w = .ref q9 ∧ k_fr (fun u => u == tl) L f L' f' ∧ Cl L' f' l (tl, .inr (0, [.int (iI md), .ref q9, .int (iI (n : Int))])) ∧ Cl L' f' q9 (ta, .inl (κ.2.2.1 3, cap9, .inr (.inr (.inr (.inr row9))))) ∧ n < cap9 ∧ (10 ≤ cap9 ∧ cap9 ≤ 60) ∧ ∀ i, i < n → row9 i = some (g i))) := by
  refine k_head RJx4a65c [(0, .ref l)] rfl (by decide) (Nat.le_of_ble_eq_true rfl) rfl (fun θ hθ hin => ?_)
  refine k_aload_n 0 0 dJx4a65c_grow_d5877_0 rfl rfl ?_
  refine k_aload_n 0 0 dJx4a65c_grow_d5877_1 rfl rfl ?_
  refine k_get 2 i_Jx4a65c q_65 cl rfl (by decide) rfl dJx4a65c_grow_d5877_2 ?_
  refine k_iconst dJx4a65c_grow_d5877_5 ?_
  refine k_iadd dJx4a65c_grow_d5877_6 ?_
  refine k_useV (k_runV (c_Jx4a65c_grow_92f84 θ.2.1 κ (l := l) cl htg hE hci hq hel) w_Jx4a65c_69 ⟨q_414, q_11⟩ rfl rfl cl rfl ⟨(Nat.le_of_ble_eq_true rfl), (Nat.le_of_ble_eq_true rfl)⟩ (Nat.le_of_ble_eq_true rfl) dJx4a65c_grow_d5877_7) ⟨(Nat.le_of_ble_eq_true rfl), (Nat.le_of_ble_eq_true rfl)⟩ (fun w Lg fg hw => ?_)
  obtain ⟨q9, cap9, row9, rfl, hrg, cl1, cQ9, hnc9, hcc, hr9⟩ := hw
  replace cl := cl1
  exact k_aret dJx4a65c_grow_d5877_10 rfl (Or.inr ⟨_, rfl⟩) (Nat.le_of_ble_eq_true rfl) (Nat.le_of_ble_eq_true rfl) (⟨_, rfl, q9, cap9, row9, rfl, hrg, cl, cQ9, hnc9, hcc, hr9⟩)
set_option maxHeartbeats 4000000 in
set_option maxRecDepth 100000 in
theorem c_Jx4a65c_add_72be8 (la : Launch) (κ : Kx) {L : List Nat} {f : Nat → wE} {l tl ta tv n ci E v cap : Nat} {md : Int} {row : Nat → Option Nat} {g : Nat → Nat} {r : vw_C} {vs : List Value} (cl : Cl L f l (tl, .inr (0, [.int (iI md), .ref E, .int (iI (n : Int))])))  (hvv : Cl L f v (tv, .inr (ci, vs))) (htg : ta ≠ tl) (htv : tv ≠ tl ∧ tv ≠ ta) (hE : (E = κ.2.2.2 4 ∧ n = 0) ∨ (Cl L f E (ta, .inl (κ.2.2.1 3, cap, .inr (.inr (.inr (.inr row))))) ∧ n ≤ cap ∧ (10 ≤ cap ∧ cap ≤ 60) ∧ ∀ i, i < n → row i = some (g i))) (hn : n ≤ 39) (hci : vwCl[ci]? = some r) (hq : Cond.castable r.1 "java/lang/Object" ∈ lw_tbl) (hel : ∀ i, i < n → ∃ (t : Nat) (fs : List Value), Cl L f (g i) (t, .inr (ci, fs))) : k_M la κ yJx4a65c_add_72be8 cJx4a65c_add_72be8 4 none 6 1 60 [.ref l, .ref v, .ref E, .int (iI (n : Int))] L f (k_ru (fun L' f' => ListR κ L' f' l tl ta (n + 1) (va_up g n v) ∧ k_fr (S2 tl ta) L f L' f')) := by
  refine k_head RJx4a65c [(0, .ref l), (1, .ref v), (2, .ref E), (3, .int (iI (n : Int)))] rfl (by decide) (Nat.le_of_ble_eq_true rfl) rfl (fun θ hθ hin => ?_)
  have hv := hvv
  rcases hE with ⟨hE0, hn0⟩ | ⟨cE, hnc, hcap, hrow⟩
  · subst hE0
    have hn1 : (n : Int) = 0 := by omega
    refine k_iload_n 3 3 dJx4a65c_add_72be8_0 rfl rfl ?_
    refine k_aload_n 2 2 dJx4a65c_add_72be8_1 rfl rfl ?_
    refine k_tlenD dJx4a65c_add_72be8_2 ?_
    refine k_icmp_ne 11 dJx4a65c_add_72be8_3 (by decide) (inI_mk (by omega) (by omega)) (inI_mk (by omega) (by omega)) (fun h3 => ?_) (fun h3 => ?_)
    · omega
    · refine k_aload_n 0 0 dJx4a65c_add_72be8_6 rfl rfl ?_
      refine k_useV (k_runV (c_Jx4a65c_grow_d5877 θ.2.1 κ (l := l) cl htg (Or.inl ⟨rfl, hn0⟩ : (κ.2.2.2 4 = κ.2.2.2 4 ∧ n = 0) ∨ (Cl L f (κ.2.2.2 4) (ta, .inl (κ.2.2.1 3, n, .inr (.inr (.inr (.inr row))))) ∧ (10 ≤ n ∧ n ≤ 39) ∧ ∀ i, i < n → row i = some (g i))) hci hq hel) w_Jx4a65c_129 ⟨q_410, q_10⟩ rfl rfl cl rfl ⟨(Nat.le_of_ble_eq_true rfl), (Nat.le_of_ble_eq_true rfl)⟩ (Nat.le_of_ble_eq_true rfl) dJx4a65c_add_72be8_7) ⟨(Nat.le_of_ble_eq_true rfl), (Nat.le_of_ble_eq_true rfl)⟩ (fun w Lg fg hw => ?_)
      obtain ⟨q9, cap9, row9, rfl, hrg, cl1, cQ9, hnc9, hcc, hr9⟩ := hw
      replace cl := cl1
      replace hv := hv.fr hrg (tag_ne htv.1)
      refine k_astore_n 2 [(2, .ref q9), (0, .ref l), (1, .ref v), (3, .int (iI (n : Int)))] dJx4a65c_add_72be8_10 rfl (by decide) rfl ?_
      refine k_aload_n 0 2 dJx4a65c_add_72be8_11 rfl rfl ?_
      refine k_iload_n 3 3 dJx4a65c_add_72be8_12 rfl rfl ?_
      refine k_aload_n 2 1 dJx4a65c_add_72be8_13 rfl rfl ?_
      refine k_aast n cQ9 hv hci hq rfl (by omega) (by omega) dJx4a65c_add_72be8_14 (fun f1 hf1 hc1 => ?_)
      have hr1 := k_fr.put hf1 cQ9
      replace cl := cl.fr hr1 (tag_ne (Ne.symm htg))
      replace hv := hv.fr hr1 (tag_ne htv.2)
      replace cQ9 : Cl Lg f1 q9 (ta, .inl (κ.2.2.1 3, cap9, .inr (.inr (.inr (.inr (va_up row9 n (some v))))))) := hc1
      refine k_aload_n 1 0 dJx4a65c_add_72be8_15 rfl rfl ?_
      refine k_iload_n 3 3 dJx4a65c_add_72be8_16 rfl rfl ?_
      refine k_iconst dJx4a65c_add_72be8_17 ?_
      refine k_iadd dJx4a65c_add_72be8_18 ?_
      refine k_topi ((n + 1 : Nat) : Int) (by omega) ?_
      refine k_put 2 [.int (iI md), .ref q9, .int (iI ((n + 1 : Nat) : Int))] i_Jx4a65c tyJx4a65c_ok nmJx4a65c q_65 cl rfl (by decide) rfl rfl rfl rfl (Nat.le_of_ble_eq_true rfl) rfl dJx4a65c_add_72be8_19 (fun f2 hf2 hc2 => ?_)
      have hr2 := k_fr.put hf2 cl
      replace hv := hv.fr hr2 (tag_ne htv.1)
      replace cQ9 := cQ9.fr hr2 (tag_ne htg)
      replace cl : Cl Lg f2 l (tl, .inr (0, [.int (iI md), .ref q9, .int (iI ((n + 1 : Nat) : Int))])) := hc2
      exact k_vret dJx4a65c_add_72be8_22 rfl (Nat.le_of_ble_eq_true rfl) (Nat.le_of_ble_eq_true rfl) (⟨rfl, ⟨md, q9, cap9, _, cl, Or.inr ⟨cQ9, by omega, hcc, row_add hr9⟩⟩, k_fr.trans (k_fr.trans hrg hr1 S2_l S2_r) hr2 (fun _ h => h) S2_l⟩)
  · refine k_iload_n 3 3 dJx4a65c_add_72be8_0 rfl rfl ?_
    refine k_aload_n 2 2 dJx4a65c_add_72be8_1 rfl rfl ?_
    refine k_alen (t0 := 3) cE rfl dJx4a65c_add_72be8_2 ?_
    refine k_icmp_ne 11 dJx4a65c_add_72be8_3 (by decide) (inI_mk (by omega) (by omega)) (inI_mk (by omega) (by omega)) (fun h3 => ?_) (fun h3 => ?_)
    · refine k_aload_n 2 2 dJx4a65c_add_72be8_11 rfl rfl ?_
      refine k_iload_n 3 3 dJx4a65c_add_72be8_12 rfl rfl ?_
      refine k_aload_n 1 1 dJx4a65c_add_72be8_13 rfl rfl ?_
      refine k_aast n cE hv hci hq rfl (by omega) (by omega) dJx4a65c_add_72be8_14 (fun f3 hf3 hc3 => ?_)
      have hr3 := k_fr.put hf3 cE
      replace cl := cl.fr hr3 (tag_ne (Ne.symm htg))
      replace hv := hv.fr hr3 (tag_ne htv.2)
      replace cE : Cl L f3 E (ta, .inl (κ.2.2.1 3, cap, .inr (.inr (.inr (.inr (va_up row n (some v))))))) := hc3
      refine k_aload_n 0 0 dJx4a65c_add_72be8_15 rfl rfl ?_
      refine k_iload_n 3 3 dJx4a65c_add_72be8_16 rfl rfl ?_
      refine k_iconst dJx4a65c_add_72be8_17 ?_
      refine k_iadd dJx4a65c_add_72be8_18 ?_
      refine k_topi ((n + 1 : Nat) : Int) (by omega) ?_
      refine k_put 2 [.int (iI md), .ref E, .int (iI ((n + 1 : Nat) : Int))] i_Jx4a65c tyJx4a65c_ok nmJx4a65c q_65 cl rfl (by decide) rfl rfl rfl rfl (Nat.le_of_ble_eq_true rfl) rfl dJx4a65c_add_72be8_19 (fun f4 hf4 hc4 => ?_)
      have hr4 := k_fr.put hf4 cl
      replace hv := hv.fr hr4 (tag_ne htv.1)
      replace cE := cE.fr hr4 (tag_ne htg)
      replace cl : Cl L f4 l (tl, .inr (0, [.int (iI md), .ref E, .int (iI ((n + 1 : Nat) : Int))])) := hc4
      exact k_vret dJx4a65c_add_72be8_22 rfl (Nat.le_of_ble_eq_true rfl) (Nat.le_of_ble_eq_true rfl) (⟨rfl, ⟨md, E, cap, _, cl, Or.inr ⟨cE, by omega, hcap, row_add hrow⟩⟩, k_fr.trans hr3 hr4 S2_r S2_l⟩)
    · refine k_aload_n 0 0 dJx4a65c_add_72be8_6 rfl rfl ?_
      have hcn : n = cap := by omega
      subst hcn
      refine k_useV (k_runV (c_Jx4a65c_grow_d5877 θ.2.1 κ (l := l) cl htg (Or.inr ⟨cE, by omega, hrow⟩) hci hq hel) w_Jx4a65c_129 ⟨q_410, q_10⟩ rfl rfl cl rfl ⟨(Nat.le_of_ble_eq_true rfl), (Nat.le_of_ble_eq_true rfl)⟩ (Nat.le_of_ble_eq_true rfl) dJx4a65c_add_72be8_7) ⟨(Nat.le_of_ble_eq_true rfl), (Nat.le_of_ble_eq_true rfl)⟩ (fun w Lg fg hw => ?_)
      obtain ⟨q9, cap9, row9, rfl, hrg, cl1, cQ9, hnc9, hcc, hr9⟩ := hw
      replace cl := cl1
      replace hv := hv.fr hrg (tag_ne htv.1)
      refine k_astore_n 2 [(2, .ref q9), (0, .ref l), (1, .ref v), (3, .int (iI (n : Int)))] dJx4a65c_add_72be8_10 rfl (by decide) rfl ?_
      refine k_aload_n 0 2 dJx4a65c_add_72be8_11 rfl rfl ?_
      refine k_iload_n 3 3 dJx4a65c_add_72be8_12 rfl rfl ?_
      refine k_aload_n 2 1 dJx4a65c_add_72be8_13 rfl rfl ?_
      refine k_aast n cQ9 hv hci hq rfl (by omega) (by omega) dJx4a65c_add_72be8_14 (fun f5 hf5 hc5 => ?_)
      have hr5 := k_fr.put hf5 cQ9
      replace cl := cl.fr hr5 (tag_ne (Ne.symm htg))
      replace hv := hv.fr hr5 (tag_ne htv.2)
      replace cQ9 : Cl Lg f5 q9 (ta, .inl (κ.2.2.1 3, cap9, .inr (.inr (.inr (.inr (va_up row9 n (some v))))))) := hc5
      refine k_aload_n 1 0 dJx4a65c_add_72be8_15 rfl rfl ?_
      refine k_iload_n 3 3 dJx4a65c_add_72be8_16 rfl rfl ?_
      refine k_iconst dJx4a65c_add_72be8_17 ?_
      refine k_iadd dJx4a65c_add_72be8_18 ?_
      refine k_topi ((n + 1 : Nat) : Int) (by omega) ?_
      refine k_put 2 [.int (iI md), .ref q9, .int (iI ((n + 1 : Nat) : Int))] i_Jx4a65c tyJx4a65c_ok nmJx4a65c q_65 cl rfl (by decide) rfl rfl rfl rfl (Nat.le_of_ble_eq_true rfl) rfl dJx4a65c_add_72be8_19 (fun f6 hf6 hc6 => ?_)
      have hr6 := k_fr.put hf6 cl
      replace hv := hv.fr hr6 (tag_ne htv.1)
      replace cQ9 := cQ9.fr hr6 (tag_ne htg)
      replace cl : Cl Lg f6 l (tl, .inr (0, [.int (iI md), .ref q9, .int (iI ((n + 1 : Nat) : Int))])) := hc6
      exact k_vret dJx4a65c_add_72be8_22 rfl (Nat.le_of_ble_eq_true rfl) (Nat.le_of_ble_eq_true rfl) (⟨rfl, ⟨md, q9, cap9, _, cl, Or.inr ⟨cQ9, by omega, hcc, row_add hr9⟩⟩, k_fr.trans (k_fr.trans hrg hr5 S2_l S2_r) hr6 (fun _ h => h) S2_l⟩)
set_option maxHeartbeats 4000000 in
set_option maxRecDepth 100000 in
theorem c_Jx4a65c_add_9ea2d (la : Launch) (κ : Kx) {L : List Nat} {f : Nat → wE} {l tl ta tv n ci v : Nat} {g : Nat → Nat} {r : vw_C} {vs : List Value}  (hL : ListR κ L f l tl ta n g) (hvv : Cl L f v (tv, .inr (ci, vs))) (htg : ta ≠ tl) (htv : tv ≠ tl ∧ tv ≠ ta) (hn : n ≤ 39) (hci : vwCl[ci]? = some r) (hq : Cond.castable r.1 "java/lang/Object" ∈ lw_tbl) (hel : ∀ i, i < n → ∃ (t : Nat) (fs : List Value), Cl L f (g i) (t, .inr (ci, fs)) ∧ t ≠ tl ∧ t ≠ ta) : k_M la κ yJx4a65c_add_9ea2d cJx4a65c_add_9ea2d 2 (some .boolean) 7 1 60 [.ref l, .ref v] L f (k_rn (fun w L' f' => w = .int (iI 1) ∧ ListR κ L' f' l tl ta (n + 1) (va_up g n v) ∧ k_fr (S2 tl ta) L f L' f')) := by
  refine k_head RJx4a65c [(0, .ref l), (1, .ref v)] rfl (by decide) (Nat.le_of_ble_eq_true rfl) rfl (fun θ hθ hin => ?_)
  obtain ⟨md, E, cap, row, cl, hE⟩ := hL
  have hv := hvv
  refine k_aload_n 0 0 dJx4a65c_add_9ea2d_0 rfl rfl ?_
  refine k_dup dJx4a65c_add_9ea2d_1 rfl ?_
  refine k_getS 0 i_Jx4a65c q_67 q_68 cl rfl (by decide) rfl dJx4a65c_add_9ea2d_2 ?_
  refine k_iconst dJx4a65c_add_9ea2d_5 ?_
  refine k_iadd dJx4a65c_add_9ea2d_6 ?_
  refine k_putS 0 [.int (iI (md + 1)), .ref E, .int (iI (n : Int))] i_Jx4a65c tyJx4a65c_ok nmJx4a65c q_67 q_68 cl rfl (by decide) rfl rfl rfl rfl (Nat.le_of_ble_eq_true rfl) rfl dJx4a65c_add_9ea2d_7 (fun f1 hf1 hc1 => ?_)
  have hr1 := k_fr.put hf1 cl
  replace hv := hv.fr hr1 (tag_ne htv.1)
  replace cl : Cl L f1 l (tl, .inr (0, [.int (iI (md + 1)), .ref E, .int (iI (n : Int))])) := hc1
  have hE1 : (E = κ.2.2.2 4 ∧ n = 0) ∨ (Cl L f1 E (ta, .inl (κ.2.2.1 3, cap, .inr (.inr (.inr (.inr row))))) ∧ n ≤ cap ∧ (10 ≤ cap ∧ cap ≤ 60) ∧ ∀ i, i < n → row i = some (g i)) := hE.imp id (fun h => ⟨h.1.fr hr1 (tag_ne htg), h.2⟩)
  have hel1 : ∀ i, i < n → ∃ (t : Nat) (fs : List Value), Cl L f1 (g i) (t, .inr (ci, fs)) := fun i hi => by
    obtain ⟨t, fs, h, ht⟩ := hel i hi
    exact ⟨t, fs, h.fr hr1 (tag_ne ht.1)⟩
  refine k_aload_n 0 0 dJx4a65c_add_9ea2d_10 rfl rfl ?_
  refine k_aload_n 1 1 dJx4a65c_add_9ea2d_11 rfl rfl ?_
  refine k_aload_n 0 0 dJx4a65c_add_9ea2d_12 rfl rfl ?_
  refine k_get 1 i_Jx4a65c q_64 cl rfl (by decide) rfl dJx4a65c_add_9ea2d_13 ?_
  refine k_aload_n 0 0 dJx4a65c_add_9ea2d_16 rfl rfl ?_
  refine k_get 2 i_Jx4a65c q_65 cl rfl (by decide) rfl dJx4a65c_add_9ea2d_17 ?_
  refine k_useU (k_runV (c_Jx4a65c_add_72be8 θ.2.1 κ (E := E) (l := l) (v := v) (n := n) cl hv htg htv hE1 hn hci hq hel1) w_Jx4a65c_131 ⟨q_406, q_9⟩ rfl rfl cl rfl ⟨(Nat.le_of_ble_eq_true rfl), (Nat.le_of_ble_eq_true rfl)⟩ (Nat.le_of_ble_eq_true rfl) dJx4a65c_add_9ea2d_20) ⟨(Nat.le_of_ble_eq_true rfl), (Nat.le_of_ble_eq_true rfl)⟩ (fun La fa hw => ?_)
  obtain ⟨hLa, hra⟩ := hw
  refine k_iconst dJx4a65c_add_9ea2d_23 ?_
  exact k_zret (b := true) dJx4a65c_add_9ea2d_24 rfl (Nat.le_of_ble_eq_true rfl) (Nat.le_of_ble_eq_true rfl) (⟨_, rfl, rfl, hLa, k_fr.trans hr1 hra S2_l (fun _ h => h)⟩)
set_option maxHeartbeats 4000000 in
set_option maxRecDepth 100000 in
theorem c_Jxa1e45_init_da8c8 (la : Launch) (κ : Kx) {L : List Nat} {f : Nat → wE} {a : Nat}    : k_M la κ yJxa1e45_init_da8c8 cJxa1e45_init_da8c8 1 none 1 0 0 [.ref a] L f (k_ru (fun L' f' => L' = L ∧ f' = f)) := by
  refine k_head RJxa1e45 [(0, .ref a)] rfl (by decide) (Nat.le_of_ble_eq_true rfl) rfl (fun θ hθ hin => ?_)
  refine k_aload_n 0 0 dJxa1e45_init_da8c8_0 rfl rfl ?_
  refine k_objInit q_61 q_42 q_43 (Nat.le_of_ble_eq_true rfl) (Nat.le_of_ble_eq_true rfl) dJxa1e45_init_da8c8_1 ?_
  exact k_vret dJxa1e45_init_da8c8_4 rfl (Nat.le_of_ble_eq_true rfl) (Nat.le_of_ble_eq_true rfl) (⟨rfl, rfl, rfl⟩)
set_option maxHeartbeats 4000000 in
set_option maxRecDepth 100000 in
theorem c_Jxc12de_init_da8c8 (la : Launch) (κ : Kx) {L : List Nat} {f : Nat → wE} {l tl : Nat} (cl : Cl L f l (tl, .inr (0, [.int (iI 0), .null, .int (iI 0)])))   : k_M la κ yJxc12de_init_da8c8 cJxc12de_init_da8c8 1 none 2 0 0 [.ref l] L f (k_ru (fun L' f' => L' = L ∧ (∀ z, z ≠ l → f' z = f z) ∧ Cl L f' l (tl, .inr (0, [.int (iI 0), .null, .int (iI 0)])))) := by
  refine k_head RJxc12de [(0, .ref l)] rfl (by decide) (Nat.le_of_ble_eq_true rfl) rfl (fun θ hθ hin => ?_)
  refine k_aload_n 0 0 dJxc12de_init_da8c8_0 rfl rfl ?_
  refine k_useU (k_runI (c_Jxa1e45_init_da8c8 θ.2.1 κ (a := l) ) w_Jxc12de_1 q_59 rfl rfl rfl ⟨(Nat.le_of_ble_eq_true rfl), (Nat.le_of_ble_eq_true rfl)⟩ (Nat.le_of_ble_eq_true rfl) dJxc12de_init_da8c8_1) ⟨(Nat.le_of_ble_eq_true rfl), (Nat.le_of_ble_eq_true rfl)⟩ (fun L9 f9 hw => ?_)
  obtain ⟨e9, e8⟩ := hw
  replace e9 := e9.symm
  replace e8 := e8.symm
  subst e9
  subst e8
  refine k_aload_n 0 0 dJxc12de_init_da8c8_4 rfl rfl ?_
  refine k_iconst dJxc12de_init_da8c8_5 ?_
  refine k_put 0 [.int (iI 0), .null, .int (iI 0)] i_Jx4a65c tyJx4a65c_ok nmJx4a65c q_66 cl rfl (by decide) rfl rfl rfl rfl (Nat.le_of_ble_eq_true rfl) rfl dJxc12de_init_da8c8_6 (fun f1 hf1 hc1 => ?_)
  have hr1 := k_fr.put hf1 cl
  replace cl : Cl L f1 l (tl, .inr (0, [.int (iI 0), .null, .int (iI 0)])) := hc1
  exact k_vret dJxc12de_init_da8c8_9 rfl (Nat.le_of_ble_eq_true rfl) (Nat.le_of_ble_eq_true rfl) (⟨rfl, rfl, hf1, cl⟩)
set_option maxHeartbeats 4000000 in
set_option maxRecDepth 100000 in
theorem c_Jx4a65c_init_da8c8 (la : Launch) (κ : Kx) {L : List Nat} {f : Nat → wE} {l tl : Nat} (cl : Cl L f l (tl, .inr (0, [.int (iI 0), .null, .int (iI 0)])))   : k_M la κ yJx4a65c_init_da8c8 cJx4a65c_init_da8c8 1 none 3 0 0 [.ref l] L f (k_ru (fun L' f' => L' = L ∧ (∀ z, z ≠ l → f' z = f z) ∧ Cl L f' l (tl, .inr (0, [.int (iI 0), .ref (κ.2.2.2 4), .int (iI 0)])))) := by
  refine k_head RJx4a65c [(0, .ref l)] rfl (by decide) (Nat.le_of_ble_eq_true rfl) rfl (fun θ hθ hin => ?_)
  refine k_aload_n 0 0 dJx4a65c_init_da8c8_0 rfl rfl ?_
  refine k_useU (k_runI (c_Jxc12de_init_da8c8 θ.2.1 κ (l := l) cl) w_Jx4a65c_1 q_56 rfl rfl rfl ⟨(Nat.le_of_ble_eq_true rfl), (Nat.le_of_ble_eq_true rfl)⟩ (Nat.le_of_ble_eq_true rfl) dJx4a65c_init_da8c8_1) ⟨(Nat.le_of_ble_eq_true rfl), (Nat.le_of_ble_eq_true rfl)⟩ (fun L9 f9 hw => ?_)
  obtain ⟨e9, hf9, cl9⟩ := hw
  replace e9 := e9.symm
  subst e9
  replace cl := cl9
  refine k_aload_n 0 0 dJx4a65c_init_da8c8_4 rfl rfl ?_
  refine k_getsD q_62 dJx4a65c_init_da8c8_5 ?_
  refine k_put 1 [.int (iI 0), .ref (κ.2.2.2 4), .int (iI 0)] i_Jx4a65c tyJx4a65c_ok nmJx4a65c q_64 cl rfl (by decide) rfl rfl rfl rfl (Nat.le_of_ble_eq_true rfl) rfl dJx4a65c_init_da8c8_8 (fun f1 hf1 hc1 => ?_)
  have hr1 := k_fr.put hf1 cl
  replace cl : Cl L f1 l (tl, .inr (0, [.int (iI 0), .ref (κ.2.2.2 4), .int (iI 0)])) := hc1
  exact k_vret dJx4a65c_init_da8c8_11 rfl (Nat.le_of_ble_eq_true rfl) (Nat.le_of_ble_eq_true rfl) (⟨rfl, rfl, fun z hz => (hf1 z hz).trans (hf9 z hz), cl⟩)
