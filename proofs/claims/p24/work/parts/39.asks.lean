/-! ===== the class's calls, as the law makes them ===== -/
set_option maxHeartbeats 4000000 in
set_option maxRecDepth 100000 in
theorem a_height {θ : Kt} {κ : Kx} {cc : ByteArray} {nL : Nat} {ret : Option FieldType} {Q : State → Prop} {L : List Nat} {f : Nat → wE} {k n pc : Nat} {lv : List (Nat × Value)} {st : List Value} {tt : Nat} {σ : Sg} {z : Int} (t : Nat) (hts : θ.2.1.stackTraces = false) (hs : SgOk σ) (hC : CS κ L f tt σ) (hz : z = (t : Int)) (ht : t < 4320) (hk : k + 1 ≤ 600086) (hn : n + 6 ≤ 7301442) (hcat : (st.map fun v => v.category).sum ≤ 8) (dc : decode cc pc = .ok (.invokevirtual 64, 3)) (kk : ∀ (L' : List Nat) (f' : Nat → wE), CS κ L' f' tt σ → k_G θ κ cc nL ret RL room_1 Q L' f' (k + 1) (n + 6) (pc + 3) lv (.int (iI (hT σ.1 t)) :: st)) : k_G θ κ cc nL ret RL room_1 Q L f k n pc lv (.int (iI z) :: .ref tt :: st) := by
  obtain ⟨td, tb, pl, rl, old, hF⟩ := hC
  refine k_useN (c_X7_height θ.2.1 κ (t := z) hF hts hs (inI_mk (by omega) (by omega))) w_L_64 ⟨q_129, q_130⟩ rfl rfl hF.1 rfl ⟨(Nat.le_of_ble_eq_true rfl), (Nat.le_of_ble_eq_true rfl)⟩ hcat dc ⟨hk, hn⟩ (fun v L' f' hp => ?_) (fun E L' f' hp => ?_)
  · obtain ⟨w9, rfl, hx9, rfl, hC9, hr9⟩ := hp
    subst hz
    exact kk L' f' hC9
  · have hx9 := hp.1
    rw [xHeight, if_pos (by omega)] at hx9
    exact nomatch hx9
set_option maxHeartbeats 4000000 in
set_option maxRecDepth 100000 in
theorem a_count {θ : Kt} {κ : Kx} {cc : ByteArray} {nL : Nat} {ret : Option FieldType} {Q : State → Prop} {L : List Nat} {f : Nat → wE} {k n pc : Nat} {lv : List (Nat × Value)} {st : List Value} {tt : Nat} {σ : Sg}  (hts : θ.2.1.stackTraces = false) (hs : SgOk σ) (hC : CS κ L f tt σ)  (hk : k + 1 ≤ 600086) (hn : n + 6 ≤ 7301442) (hcat : (st.map fun v => v.category).sum ≤ 8) (dc : decode cc pc = .ok (.invokevirtual 57, 3)) (kk : ∀ (L' : List Nat) (f' : Nat → wE), CS κ L' f' tt σ → k_G θ κ cc nL ret RL room_1 Q L' f' (k + 1) (n + 6) (pc + 3) lv (.int (iI (nW (hT σ.1) : Int)) :: st)) : k_G θ κ cc nL ret RL room_1 Q L f k n pc lv (.int (iI 1) :: .ref tt :: st) := by
  obtain ⟨td, tb, pl, rl, old, hF⟩ := hC
  refine k_useN (c_X7_count θ.2.1 κ (what := 1) hF hts hs (inI_mk (by omega) (by omega))) w_L_57 ⟨q_235, q_236⟩ rfl rfl hF.1 rfl ⟨(Nat.le_of_ble_eq_true rfl), (Nat.le_of_ble_eq_true rfl)⟩ hcat dc ⟨hk, hn⟩ (fun v L' f' hp => ?_) (fun E L' f' hp => ?_)
  · obtain ⟨w9, rfl, hx9, rfl, hC9, hr9⟩ := hp
    exact kk L' f' hC9
  · have hx9 := hp.1
    rw [xCount, if_pos (by omega)] at hx9
    exact nomatch hx9
set_option maxHeartbeats 4000000 in
set_option maxRecDepth 100000 in
theorem a_water0 {θ : Kt} {κ : Kx} {cc : ByteArray} {nL : Nat} {ret : Option FieldType} {Q : State → Prop} {L : List Nat} {f : Nat → wE} {k n pc : Nat} {lv : List (Nat × Value)} {st : List Value} {tt : Nat} {σ : Sg} {z : Int} (w : Nat) (hts : θ.2.1.stackTraces = false) (hs : SgOk σ) (hC : CS κ L f tt σ) (hz : z = (w : Int)) (hw : w < nW (hT σ.1)) (hk : k + 1 ≤ 600086) (hn : n + 6 ≤ 7301442) (hcat : (st.map fun v => v.category).sum ≤ 8) (dc : decode cc pc = .ok (.invokevirtual 61, 3)) (kk : ∀ (L' : List Nat) (f' : Nat → wE), CS κ L' f' tt σ → k_G θ κ cc nL ret RL room_1 Q L' f' (k + 1) (n + 6) (pc + 3) lv (.int (iI ((tm (hT σ.1) w : Int))) :: st)) : k_G θ κ cc nL ret RL room_1 Q L f k n pc lv (.int (iI 0) :: .int (iI z) :: .ref tt :: st) := by
  obtain ⟨td, tb, pl, rl, old, hF⟩ := hC
  refine k_useN (c_X7_water θ.2.1 κ (w := z) (what := 0) hF hts hs (by have hnn := nW_le (hT σ.1); exact inI_mk (by omega) (by omega)) (inI_mk (by omega) (by omega))) w_L_61 ⟨q_277, q_278⟩ rfl rfl hF.1 rfl ⟨(Nat.le_of_ble_eq_true rfl), (Nat.le_of_ble_eq_true rfl)⟩ hcat dc ⟨hk, hn⟩ (fun v L' f' hp => ?_) (fun E L' f' hp => ?_)
  · obtain ⟨w9, rfl, hx9, rfl, hC9, hr9⟩ := hp
    subst hz
    exact kk L' f' hC9
  · have hx9 := hp.1
    rw [xWater, if_pos (by omega), if_pos (by omega)] at hx9
    exact nomatch hx9
set_option maxHeartbeats 4000000 in
set_option maxRecDepth 100000 in
theorem a_water1 {θ : Kt} {κ : Kx} {cc : ByteArray} {nL : Nat} {ret : Option FieldType} {Q : State → Prop} {L : List Nat} {f : Nat → wE} {k n pc : Nat} {lv : List (Nat × Value)} {st : List Value} {tt : Nat} {σ : Sg} {z : Int} (w : Nat) (hts : θ.2.1.stackTraces = false) (hs : SgOk σ) (hC : CS κ L f tt σ) (hz : z = (w : Int)) (hw : w < nW (hT σ.1)) (hk : k + 1 ≤ 600086) (hn : n + 6 ≤ 7301442) (hcat : (st.map fun v => v.category).sum ≤ 8) (dc : decode cc pc = .ok (.invokevirtual 61, 3)) (kk : ∀ (L' : List Nat) (f' : Nat → wE), CS κ L' f' tt σ → k_G θ κ cc nL ret RL room_1 Q L' f' (k + 1) (n + 6) (pc + 3) lv (.int (iI (hT σ.1 (tm (hT σ.1) w))) :: st)) : k_G θ κ cc nL ret RL room_1 Q L f k n pc lv (.int (iI 1) :: .int (iI z) :: .ref tt :: st) := by
  obtain ⟨td, tb, pl, rl, old, hF⟩ := hC
  refine k_useN (c_X7_water θ.2.1 κ (w := z) (what := 1) hF hts hs (by have hnn := nW_le (hT σ.1); exact inI_mk (by omega) (by omega)) (inI_mk (by omega) (by omega))) w_L_61 ⟨q_277, q_278⟩ rfl rfl hF.1 rfl ⟨(Nat.le_of_ble_eq_true rfl), (Nat.le_of_ble_eq_true rfl)⟩ hcat dc ⟨hk, hn⟩ (fun v L' f' hp => ?_) (fun E L' f' hp => ?_)
  · obtain ⟨w9, rfl, hx9, rfl, hC9, hr9⟩ := hp
    subst hz
    exact kk L' f' hC9
  · have hx9 := hp.1
    rw [xWater, if_pos (by omega), if_pos (by omega)] at hx9
    exact nomatch hx9
set_option maxHeartbeats 4000000 in
set_option maxRecDepth 100000 in
theorem a_water2 {θ : Kt} {κ : Kx} {cc : ByteArray} {nL : Nat} {ret : Option FieldType} {Q : State → Prop} {L : List Nat} {f : Nat → wE} {k n pc : Nat} {lv : List (Nat × Value)} {st : List Value} {tt : Nat} {σ : Sg} {z : Int} (w : Nat) (hts : θ.2.1.stackTraces = false) (hs : SgOk σ) (hC : CS κ L f tt σ) (hz : z = (w : Int)) (hw : w < nW (hT σ.1)) (hk : k + 1 ≤ 600086) (hn : n + 6 ≤ 7301442) (hcat : (st.map fun v => v.category).sum ≤ 8) (dc : decode cc pc = .ok (.invokevirtual 61, 3)) (kk : ∀ (L' : List Nat) (f' : Nat → wE), CS κ L' f' tt σ → k_G θ κ cc nL ret RL room_1 Q L' f' (k + 1) (n + 6) (pc + 3) lv (.int (iI (bI (hi (hT σ.1) w))) :: st)) : k_G θ κ cc nL ret RL room_1 Q L f k n pc lv (.int (iI 2) :: .int (iI z) :: .ref tt :: st) := by
  obtain ⟨td, tb, pl, rl, old, hF⟩ := hC
  refine k_useN (c_X7_water θ.2.1 κ (w := z) (what := 2) hF hts hs (by have hnn := nW_le (hT σ.1); exact inI_mk (by omega) (by omega)) (inI_mk (by omega) (by omega))) w_L_61 ⟨q_277, q_278⟩ rfl rfl hF.1 rfl ⟨(Nat.le_of_ble_eq_true rfl), (Nat.le_of_ble_eq_true rfl)⟩ hcat dc ⟨hk, hn⟩ (fun v L' f' hp => ?_) (fun E L' f' hp => ?_)
  · obtain ⟨w9, rfl, hx9, rfl, hC9, hr9⟩ := hp
    subst hz
    exact kk L' f' hC9
  · have hx9 := hp.1
    rw [xWater, if_pos (by omega), if_pos (by omega)] at hx9
    exact nomatch hx9
set_option maxHeartbeats 4000000 in
set_option maxRecDepth 100000 in
theorem a_next {θ : Kt} {κ : Kx} {cc : ByteArray} {nL : Nat} {ret : Option FieldType} {Q : State → Prop} {L : List Nat} {f : Nat → wE} {k n pc : Nat} {lv : List (Nat × Value)} {st : List Value} {tt : Nat} {σ : Sg} {z : Int} {b : Bool} (t : Nat) (hts : θ.2.1.stackTraces = false) (hs : SgOk σ) (hC : CS κ L f tt σ) (hz : z = (t : Int)) (ht : t < 4320) (hk : k + 1 ≤ 600086) (hn : n + 6 ≤ 7301442) (hcat : (st.map fun v => v.category).sum ≤ 8) (dc : decode cc pc = .ok (.invokevirtual 67, 3)) (kk : ∀ (L' : List Nat) (f' : Nat → wE), CS κ L' f' tt σ → k_G θ κ cc nL ret RL room_1 Q L' f' (k + 1) (n + 6) (pc + 3) lv (.int (iI (nextW (hT σ.1) (t : Int) b 4320 0)) :: st)) : k_G θ κ cc nL ret RL room_1 Q L f k n pc lv (.int (iI (bI b)) :: .int (iI z) :: .ref tt :: st) := by
  obtain ⟨td, tb, pl, rl, old, hF⟩ := hC
  refine k_useN (c_X7_next θ.2.1 κ (t := z) (b := b) hF hts hs (inI_mk (by omega) (by omega))) w_L_67 ⟨q_300, q_301⟩ rfl rfl hF.1 rfl ⟨(Nat.le_of_ble_eq_true rfl), (Nat.le_of_ble_eq_true rfl)⟩ hcat dc ⟨hk, hn⟩ (fun v L' f' hp => ?_) (fun E L' f' hp => ?_)
  · obtain ⟨w9, rfl, hx9, rfl, hC9, hr9⟩ := hp
    subst hz
    exact kk L' f' hC9
  · have hx9 := hp.1
    rw [xHeight, if_pos (by omega)] at hx9
    exact nomatch hx9
set_option maxHeartbeats 4000000 in
set_option maxRecDepth 100000 in
theorem a_datum {θ : Kt} {κ : Kx} {cc : ByteArray} {nL : Nat} {ret : Option FieldType} {Q : State → Prop} {L : List Nat} {f : Nat → wE} {k n pc : Nat} {lv : List (Nat × Value)} {st : List Value} {tt : Nat} {σ : Sg} (what : Int) (hts : θ.2.1.stackTraces = false) (hs : SgOk σ) (hC : CS κ L f tt σ) (hwh : 0 ≤ what ∧ what ≤ 4) (hk : k + 1 ≤ 600086) (hn : n + 6 ≤ 7301442) (hcat : (st.map fun v => v.category).sum ≤ 8) (dc : decode cc pc = .ok (.invokevirtual 94, 3)) (kk : ∀ (L' : List Nat) (f' : Nat → wE), CS κ L' f' tt σ → k_G θ κ cc nL ret RL room_1 Q L' f' (k + 1) (n + 6) (pc + 3) lv (.int (iI (dat (hT σ.1) what)) :: st)) : k_G θ κ cc nL ret RL room_1 Q L f k n pc lv (.int (iI what) :: .ref tt :: st) := by
  obtain ⟨td, tb, pl, rl, old, hF⟩ := hC
  refine k_useN (c_X7_datum θ.2.1 κ (what := what) hF hts hs (inI_mk (by omega) (by omega))) w_L_94 ⟨q_304, q_305⟩ rfl rfl hF.1 rfl ⟨(Nat.le_of_ble_eq_true rfl), (Nat.le_of_ble_eq_true rfl)⟩ hcat dc ⟨hk, hn⟩ (fun v L' f' hp => ?_) (fun E L' f' hp => ?_)
  · obtain ⟨w9, rfl, hx9, rfl, hC9, hr9⟩ := hp
    exact kk L' f' hC9
  · have hx9 := hp.1
    rw [xDatum, if_pos (by omega)] at hx9
    exact nomatch hx9
set_option maxHeartbeats 4000000 in
set_option maxRecDepth 100000 in
theorem a_isInOrder {θ : Kt} {κ : Kx} {cc : ByteArray} {nL : Nat} {ret : Option FieldType} {Q : State → Prop} {L : List Nat} {f : Nat → wE} {k n pc : Nat} {lv : List (Nat × Value)} {st : List Value} {tt : Nat} {σ : Sg}  (hts : θ.2.1.stackTraces = false) (hs : SgOk σ) (hC : CS κ L f tt σ) (hp : 0 < σ.2.1) (hk : k + 1 ≤ 600086) (hn : n + 6 ≤ 7301442) (hcat : (st.map fun v => v.category).sum ≤ 8) (dc : decode cc pc = .ok (.invokevirtual 71, 3)) (kk : ∀ (L' : List Nat) (f' : Nat → wE), CS κ L' f' tt σ → k_G θ κ cc nL ret RL room_1 Q L' f' (k + 1) (n + 6) (pc + 3) lv (.int (iI (bI (ord (hT σ.1) (σ.2.2.1 0)))) :: st)) : k_G θ κ cc nL ret RL room_1 Q L f k n pc lv (.int (iI 0) :: .ref tt :: st) := by
  obtain ⟨td, tb, pl, rl, old, hF⟩ := hC
  refine k_useN (c_X7_isInOrder θ.2.1 κ (p := 0) hF hts hs (inI_mk (by omega) (by omega))) w_L_71 ⟨q_475, q_476⟩ rfl rfl hF.1 rfl ⟨(Nat.le_of_ble_eq_true rfl), (Nat.le_of_ble_eq_true rfl)⟩ hcat dc ⟨hk, hn⟩ (fun v L' f' hp => ?_) (fun E L' f' hp => ?_)
  · obtain ⟨w9, rfl, hx9, rfl, hC9, hr9⟩ := hp
    exact kk L' f' hC9
  · have hx9 := hp.1
    rw [xPort, if_pos (by omega)] at hx9
    exact nomatch hx9
set_option maxHeartbeats 4000000 in
set_option maxRecDepth 100000 in
theorem a_portWater1 {θ : Kt} {κ : Kx} {cc : ByteArray} {nL : Nat} {ret : Option FieldType} {Q : State → Prop} {L : List Nat} {f : Nat → wE} {k n pc : Nat} {lv : List (Nat × Value)} {st : List Value} {tt : Nat} {σ : Sg} {z : Int} (w : Nat) (hts : θ.2.1.stackTraces = false) (hs : SgOk σ) (hC : CS κ L f tt σ) (hp : 0 < σ.2.1) (hz : z = (w : Int)) (hw : w < nW (hT σ.1)) (hk : k + 1 ≤ 600086) (hn : n + 6 ≤ 7301442) (hcat : (st.map fun v => v.category).sum ≤ 8) (dc : decode cc pc = .ok (.invokevirtual 75, 3)) (kk : ∀ (L' : List Nat) (f' : Nat → wE), CS κ L' f' tt σ → k_G θ κ cc nL ret RL room_1 Q L' f' (k + 1) (n + 6) (pc + 3) lv (.int (iI (pT (hT σ.1) (σ.2.2.1 0) w)) :: st)) : k_G θ κ cc nL ret RL room_1 Q L f k n pc lv (.int (iI 1) :: .int (iI z) :: .int (iI 0) :: .ref tt :: st) := by
  obtain ⟨td, tb, pl, rl, old, hF⟩ := hC
  refine k_useN (c_X7_portWater θ.2.1 κ (p := 0) (w := z) (b := true) hF hts hs (inI_mk (by omega) (by omega)) (by have hnn := nW_le (hT σ.1); exact inI_mk (by omega) (by omega))) w_L_75 ⟨q_490, q_491⟩ rfl rfl hF.1 rfl ⟨(Nat.le_of_ble_eq_true rfl), (Nat.le_of_ble_eq_true rfl)⟩ hcat dc ⟨hk, hn⟩ (fun v L' f' hp => ?_) (fun E L' f' hp => ?_)
  · obtain ⟨w9, rfl, hx9, rfl, hC9, hr9⟩ := hp
    subst hz
    exact kk L' f' hC9
  · have hx9 := hp.1
    rw [xPortWater, if_pos (by omega), if_pos (by omega)] at hx9
    exact nomatch hx9
set_option maxHeartbeats 4000000 in
set_option maxRecDepth 100000 in
theorem a_portWater0 {θ : Kt} {κ : Kx} {cc : ByteArray} {nL : Nat} {ret : Option FieldType} {Q : State → Prop} {L : List Nat} {f : Nat → wE} {k n pc : Nat} {lv : List (Nat × Value)} {st : List Value} {tt : Nat} {σ : Sg} {z : Int} (w : Nat) (hts : θ.2.1.stackTraces = false) (hs : SgOk σ) (hC : CS κ L f tt σ) (hp : 0 < σ.2.1) (hz : z = (w : Int)) (hw : w < nW (hT σ.1)) (hk : k + 1 ≤ 600086) (hn : n + 6 ≤ 7301442) (hcat : (st.map fun v => v.category).sum ≤ 8) (dc : decode cc pc = .ok (.invokevirtual 75, 3)) (kk : ∀ (L' : List Nat) (f' : Nat → wE), CS κ L' f' tt σ → k_G θ κ cc nL ret RL room_1 Q L' f' (k + 1) (n + 6) (pc + 3) lv (.int (iI (pH (hT σ.1) (σ.2.2.1 0) w)) :: st)) : k_G θ κ cc nL ret RL room_1 Q L f k n pc lv (.int (iI 0) :: .int (iI z) :: .int (iI 0) :: .ref tt :: st) := by
  obtain ⟨td, tb, pl, rl, old, hF⟩ := hC
  refine k_useN (c_X7_portWater θ.2.1 κ (p := 0) (w := z) (b := false) hF hts hs (inI_mk (by omega) (by omega)) (by have hnn := nW_le (hT σ.1); exact inI_mk (by omega) (by omega))) w_L_75 ⟨q_490, q_491⟩ rfl rfl hF.1 rfl ⟨(Nat.le_of_ble_eq_true rfl), (Nat.le_of_ble_eq_true rfl)⟩ hcat dc ⟨hk, hn⟩ (fun v L' f' hp => ?_) (fun E L' f' hp => ?_)
  · obtain ⟨w9, rfl, hx9, rfl, hC9, hr9⟩ := hp
    subst hz
    exact kk L' f' hC9
  · have hx9 := hp.1
    rw [xPortWater, if_pos (by omega), if_pos (by omega)] at hx9
    exact nomatch hx9
set_option maxHeartbeats 4000000 in
set_option maxRecDepth 100000 in
theorem a_portHeight {θ : Kt} {κ : Kx} {cc : ByteArray} {nL : Nat} {ret : Option FieldType} {Q : State → Prop} {L : List Nat} {f : Nat → wE} {k n pc : Nat} {lv : List (Nat × Value)} {st : List Value} {tt : Nat} {σ : Sg} {z : Int} (w t : Nat) (hts : θ.2.1.stackTraces = false) (hs : SgOk σ) (hC : CS κ L f tt σ) (hp : 0 < σ.2.1) (ho : ord (hT σ.1) (σ.2.2.1 0) = true) (hw : w + 1 < nW (hT σ.1)) (h1 : pT (hT σ.1) (σ.2.2.1 0) w ≤ (t : Int)) (h2 : (t : Int) < pT (hT σ.1) (σ.2.2.1 0) (w + 1)) (hz : z = (t : Int)) (ht : t < 4320) (hk : k + 1 ≤ 600086) (hn : n + 6 ≤ 7301442) (hcat : (st.map fun v => v.category).sum ≤ 8) (dc : decode cc pc = .ok (.invokevirtual 87, 3)) (kk : ∀ (L' : List Nat) (f' : Nat → wE), CS κ L' f' tt σ → k_G θ κ cc nL ret RL room_1 Q L' f' (k + 1) (n + 6) (pc + 3) lv (.int (iI (btw (hT σ.1) (σ.2.2.1 0) (w + 1) (t : Int))) :: st)) : k_G θ κ cc nL ret RL room_1 Q L f k n pc lv (.int (iI z) :: .int (iI 0) :: .ref tt :: st) := by
  obtain ⟨td, tb, pl, rl, old, hF⟩ := hC
  refine k_useN (c_X7_portHeight θ.2.1 κ (p := 0) (t := z) hF hts hs (inI_mk (by omega) (by omega)) (inI_mk (by omega) (by omega))) w_L_87 ⟨q_500, q_501⟩ rfl rfl hF.1 rfl ⟨(Nat.le_of_ble_eq_true rfl), (Nat.le_of_ble_eq_true rfl)⟩ hcat dc ⟨hk, hn⟩ (fun v L' f' hp => ?_) (fun E L' f' hp => ?_)
  · obtain ⟨w9, rfl, hx9, rfl, hC9, hr9⟩ := hp
    have hla : lat (hT σ.1) (σ.2.2.1 (0 : Int).toNat) z 0 = w + 1 := lat_at ho hw (by rw [hz]; exact h1) (by rw [hz]; exact h2)
    have e9 : aPortHeight σ 0 z = btw (hT σ.1) (σ.2.2.1 0) (w + 1) (t : Int) := by
      unfold aPortHeight
      rw [hla, hz]
      rfl
    rw [e9]
    exact kk L' f' hC9
  · have hx9 := hp.1
    have hla : lat (hT σ.1) (σ.2.2.1 (0 : Int).toNat) z 0 = w + 1 := lat_at ho hw (by rw [hz]; exact h1) (by rw [hz]; exact h2)
    have ho2 : ord (hT σ.1) (σ.2.2.1 (0 : Int).toNat) = true := ho
    rw [xPortHeight, if_pos (by omega), if_pos (by omega), if_pos ho2, if_pos (by rw [hla]; omega)] at hx9
    exact nomatch hx9
set_option maxHeartbeats 4000000 in
set_option maxRecDepth 100000 in
theorem a_addPort {θ : Kt} {κ : Kx} {cc : ByteArray} {nL : Nat} {ret : Option FieldType} {Q : State → Prop} {L : List Nat} {f : Nat → wE} {k n pc : Nat} {lv : List (Nat × Value)} {st : List Value} {tt : Nat} {σ : Sg}  (hts : θ.2.1.stackTraces = false) (hs : SgOk σ) (hC : CS κ L f tt σ) (hp : σ.2.1 = 0) (hk : k + 4 ≤ 600086) (hn : n + 67 ≤ 7301442) (hcat : (st.map fun v => v.category).sum ≤ 8) (dc : decode cc pc = .ok (.invokevirtual 46, 3)) (kk : ∀ (L' : List Nat) (f' : Nat → wE) (σ' : Sg), CS κ L' f' tt σ' → SgOk σ' → σ'.2.1 = 1 → k_G θ κ cc nL ret RL room_1 Q L' f' (k + 4) (n + 67) (pc + 3) lv (.int (iI 0) :: st)) : k_G θ κ cc nL ret RL room_1 Q L f k n pc lv (.ref tt :: st) := by
  obtain ⟨td, tb, pl, rl, old, hF⟩ := hC
  refine k_useN (c_X7_addPort θ.2.1 κ  hF hts hs) w_L_46 ⟨q_348, q_349⟩ rfl rfl hF.1 rfl ⟨(Nat.le_of_ble_eq_true rfl), (Nat.le_of_ble_eq_true rfl)⟩ hcat dc ⟨hk, hn⟩ (fun v L' f' hp => ?_) (fun E L' f' hp => ?_)
  · obtain ⟨w9, rfl, hx9, rfl, hC9, hr9⟩ := hp
    have e9 : ((σ.2.1 : Nat) : Int) = 0 := by omega
    rw [e9]
    exact kk L' f' _ hC9 (sAddPort_ok hs hx9) (show σ.2.1 + 1 = 1 by omega)
  · have hx9 := hp.1
    rw [xAddPort, if_pos (by omega)] at hx9
    exact nomatch hx9
set_option maxHeartbeats 4000000 in
set_option maxRecDepth 100000 in
theorem a_setPort {θ : Kt} {κ : Kx} {cc : ByteArray} {nL : Nat} {ret : Option FieldType} {Q : State → Prop} {L : List Nat} {f : Nat → wE} {k n pc : Nat} {lv : List (Nat × Value)} {st : List Value} {tt : Nat} {σ : Sg} {sh fa : Int} {b : Bool} (hts : θ.2.1.stackTraces = false) (hs : SgOk σ) (hC : CS κ L f tt σ) (hp : σ.2.1 = 1) (h1 : -300 ≤ sh ∧ sh ≤ 300) (h2 : 0 ≤ fa ∧ fa ≤ 300) (hk : k + 1 ≤ 600086) (hn : n + 6 ≤ 7301442) (hcat : (st.map fun v => v.category).sum ≤ 8) (dc : decode cc pc = .ok (.invokevirtual 50, 3)) (kk : ∀ (L' : List Nat) (f' : Nat → wE) (σ' : Sg) (v : Int), CS κ L' f' tt σ' → SgOk σ' → σ'.2.1 = 1 → k_G θ κ cc nL ret RL room_1 Q L' f' (k + 1) (n + 6) (pc + 3) lv (.int (iI v) :: st)) : k_G θ κ cc nL ret RL room_1 Q L f k n pc lv (.int (iI fa) :: .int (iI sh) :: .int (iI (bI b)) :: .int (iI 0) :: .ref tt :: st) := by
  obtain ⟨td, tb, pl, rl, old, hF⟩ := hC
  refine k_useN (c_X7_setPort θ.2.1 κ (p := 0) (b := b) (sh := sh) (fa := fa) hF hts hs (inI_mk (by omega) (by omega)) (inI_mk (by omega) (by omega)) (inI_mk (by omega) (by omega))) w_L_50 ⟨q_454, q_455⟩ rfl rfl hF.1 rfl ⟨(Nat.le_of_ble_eq_true rfl), (Nat.le_of_ble_eq_true rfl)⟩ hcat dc ⟨hk, hn⟩ (fun v L' f' hp => ?_) (fun E L' f' hp => ?_)
  · obtain ⟨w9, rfl, hx9, rfl, hC9, hr9⟩ := hp
    exact kk L' f' _ _ hC9 (sSetPort_ok hs hx9) hp
  · have hx9 := hp.1
    rw [xSetPort, if_pos (by omega), if_pos h1, if_pos h2] at hx9
    exact nomatch hx9
set_option maxHeartbeats 4000000 in
set_option maxRecDepth 100000 in
theorem a_setAdd {θ : Kt} {κ : Kx} {cc : ByteArray} {nL : Nat} {ret : Option FieldType} {Q : State → Prop} {L : List Nat} {f : Nat → wE} {k n pc : Nat} {lv : List (Nat × Value)} {st : List Value} {tt : Nat} {σ : Sg} {ad : Int} (hts : θ.2.1.stackTraces = false) (hs : SgOk σ) (hC : CS κ L f tt σ) (hp : σ.2.1 = 1) (h1 : -3000 ≤ ad ∧ ad ≤ 3000) (hk : k + 1 ≤ 600086) (hn : n + 6 ≤ 7301442) (hcat : (st.map fun v => v.category).sum ≤ 8) (dc : decode cc pc = .ok (.invokevirtual 54, 3)) (kk : ∀ (L' : List Nat) (f' : Nat → wE) (σ' : Sg) (v : Int), CS κ L' f' tt σ' → SgOk σ' → σ'.2.1 = 1 → k_G θ κ cc nL ret RL room_1 Q L' f' (k + 1) (n + 6) (pc + 3) lv (.int (iI v) :: st)) : k_G θ κ cc nL ret RL room_1 Q L f k n pc lv (.int (iI ad) :: .int (iI 0) :: .ref tt :: st) := by
  obtain ⟨td, tb, pl, rl, old, hF⟩ := hC
  refine k_useN (c_X7_setAddition θ.2.1 κ (p := 0) (ad := ad) hF hts hs (inI_mk (by omega) (by omega)) (inI_mk (by omega) (by omega))) w_L_54 ⟨q_470, q_471⟩ rfl rfl hF.1 rfl ⟨(Nat.le_of_ble_eq_true rfl), (Nat.le_of_ble_eq_true rfl)⟩ hcat dc ⟨hk, hn⟩ (fun v L' f' hp => ?_) (fun E L' f' hp => ?_)
  · obtain ⟨w9, rfl, hx9, rfl, hC9, hr9⟩ := hp
    exact kk L' f' _ _ hC9 (sSetAdd_ok hs hx9) hp
  · have hx9 := hp.1
    rw [xSetAdd, if_pos (by omega), if_pos h1] at hx9
    exact nomatch hx9
set_option maxHeartbeats 4000000 in
set_option maxRecDepth 100000 in
theorem a_addWave {θ : Kt} {κ : Kx} {cc : ByteArray} {nL : Nat} {ret : Option FieldType} {Q : State → Prop} {L : List Nat} {f : Nat → wE} {k n pc : Nat} {lv : List (Nat × Value)} {st : List Value} {tt : Nat} {σ : Sg} {r p o : Int} (hts : θ.2.1.stackTraces = false) (hs : SgOk σ) (hC : CS κ L f tt σ) (hw : σ.1.2.1 ≤ 7) (h1 : 0 ≤ r ∧ r ≤ 5000) (h2 : 60 ≤ p ∧ p ≤ 20000) (h3 : 0 ≤ o ∧ o ≤ p - 1) (hk : k + 2 ≤ 6) (hn : n + 63 ≤ 189) (hcat : (st.map fun v => v.category).sum ≤ 8) (dc : decode cc pc = .ok (.invokevirtual 19, 3)) (kk : ∀ (L' : List Nat) (f' : Nat → wE) (σ' : Sg), CS κ L' f' tt σ' → SgOk σ' → σ'.1.2.1 = σ.1.2.1 + 1 → σ'.2.1 = σ.2.1 → k_fr SC L f L' f' → k_G θ κ cc nL ret RL (k_rm 9 6 189) Q L' f' (k + 2) (n + 63) (pc + 3) lv (.int (iI (σ.1.2.1 : Int)) :: st)) : k_G θ κ cc nL ret RL (k_rm 9 6 189) Q L f k n pc lv (.int (iI o) :: .int (iI p) :: .int (iI r) :: .ref tt :: st) := by
  obtain ⟨td, tb, pl, rl, old, hF⟩ := hC
  refine k_useN (c_X7_addWave θ.2.1 κ (r := r) (p := p) (o := o) hF hts hs (inI_mk (by omega) (by omega)) (inI_mk (by omega) (by omega)) (inI_mk (by omega) (by omega))) w_L_19 ⟨q_540, q_541⟩ rfl rfl hF.1 rfl ⟨(Nat.le_of_ble_eq_true rfl), (Nat.le_of_ble_eq_true rfl)⟩ hcat dc ⟨hk, hn⟩ (fun v L' f' hp => ?_) (fun E L' f' hp => ?_)
  · obtain ⟨w9, rfl, hx9, rfl, hC9, hr9⟩ := hp
    exact kk L' f' _ hC9 (sAddWave_ok hs hx9) rfl rfl hr9
  · have hx9 := hp.1
    rw [xAddWave, if_pos h1, if_pos h2, if_pos h3, if_pos (by omega)] at hx9
    exact nomatch hx9
