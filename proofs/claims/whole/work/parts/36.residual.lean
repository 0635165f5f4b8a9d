section Doubles
variable {θ : Kt} {κ : Kx} {cc : ByteArray} {nL : Nat} {ret : Option FieldType} {own : String} {R : Room} {Q : State → Prop} {L : List Nat} {f : Nat → wE} {k n pc mc ms : Nat} {lv : List (Nat × Value)} {st : List Value} {post : Option Value → List Nat → (Nat → wE) → Prop}
theorem k_dconst0 (d : decode cc pc = .ok (.dconst 0, 1)) (kk : k_G θ κ cc nL ret own R Q L f k n (pc + 1) lv (.double FP.dconst0 :: st)) : k_G θ κ cc nL ret own R Q L f k n pc lv st :=
  fun E H locs ls hH hS hl => lv_dconst0 E.1 E.2.1 d (kk E H locs ls hH hS hl)
theorem k_l2d {x : Int64} (d : decode cc pc = .ok (.l2d, 1)) (kk : k_G θ κ cc nL ret own R Q L f k n (pc + 1) lv (.double (FP.l2d x) :: st)) : k_G θ κ cc nL ret own R Q L f k n pc lv (.long x :: st) :=
  fun E H locs ls hH hS hl => lv_l2d E.1 E.2.1 d (kk E H locs ls hH hS hl)
theorem k_i2d {x : Int32} (d : decode cc pc = .ok (.i2d, 1)) (kk : k_G θ κ cc nL ret own R Q L f k n (pc + 1) lv (.double (FP.i2d x) :: st)) : k_G θ κ cc nL ret own R Q L f k n pc lv (.int x :: st) :=
  fun E H locs ls hH hS hl => lv_i2d E.1 E.2.1 d (kk E H locs ls hH hS hl)
theorem k_ddiv {x y : UInt64} (d : decode cc pc = .ok (.ddiv, 1)) (hne : vf_n64 (FP.ddiv x y)) (kk : k_G θ κ cc nL ret own R Q L f k n (pc + 1) lv (.double (FP.ddiv x y) :: st)) : k_G θ κ cc nL ret own R Q L f k n pc lv (.double y :: .double x :: st) :=
  fun E H locs ls hH hS hl => lv_ddiv E.1 E.2.1 d hne (kk E H locs ls hH hS hl)
theorem k_dret {x : UInt64} (d : decode cc pc = .ok (.dreturn, 1)) (hr : ret = some .double) (hk : k ≤ mc) (hn : n ≤ ms) (hp : post (some (.double x)) L f) : k_G θ κ cc nL ret own R (k_MQ θ κ post mc ms) L f k n pc lv [.double x] := by
  intro E H locs ls hH hS hl
  refine W.widen hk hn ?_
  exact W.dret E.1 E.2.1 (E.2.2.2.2.2.2.2.1.trans hr) (fun t ht hW => ⟨⟨_, L, f, rfl, hp, by rw [ht]; exact hH⟩, hS.F ht⟩) hS.2.2 d E.2.2.2.2.2.2.2.2
theorem k_okd {a b : UInt64} (h : a = b) : k_ro L f (.double b) (some (.double a)) L f := ⟨by rw [h], rfl, rfl⟩
end Doubles
def rsd (σ : Sg) : UInt64 := if σ.2.2.2.1 = 0 then FP.dconst0 else FP.ddiv (FP.l2d (lI (sumD (hT σ.1) σ.2.2.2 σ.2.2.2.1))) (FP.i2d (iI (σ.2.2.2.1 : Int)))
set_option maxHeartbeats 4000000 in
set_option maxRecDepth 100000 in
theorem c_X7_residual (la : Launch) (κ : Kx) {L : List Nat} {f : Nat → wE} {tt td tb pl rl : Nat} {old : Bool} {σ : Sg}   (hC : CSF κ L f tt td tb pl rl old σ) (hs : SgOk σ) : k_M la κ yX7_residual cX7_residual 2 (some .double) 8 0 0 [.ref tt] L f (k_ro L f (.double (rsd σ))) := by
  refine k_head RX7 [(0, .ref tt)] rfl (by decide) (Nat.le_of_ble_eq_true rfl) rfl (fun θ hθ hin => ?_)
  obtain ⟨ctt, hTd, hTx, hPs, hRs⟩ := id hC
  obtain ⟨rv, hLr, hRv⟩ := id hRs
  obtain ⟨md3, E3, crl⟩ := hLr.cl
  obtain ⟨hs1, ⟨hs2, hs3⟩, hs4⟩ := id hs
  have hs5 := hs1.2.1
  have hs6 := hs4.1
  have hs7 := nW_le (hT σ.1)
  have hs8 := hs1.1
  refine k_aload_n 0 0 dX7_residual_0 rfl rfl ?_
  refine k_get 3 i_X7 q_142 ctt rfl (by decide) rfl dX7_residual_1 ?_
  refine k_useR (k_runV (c_Jx4a65c_size_8abf5 θ.2.1 κ (n := σ.2.2.2.1) (g := rv) (l := rl) hLr) w_X7_55 ⟨q_160, q_161⟩ rfl rfl crl rfl ⟨(Nat.le_of_ble_eq_true rfl), (Nat.le_of_ble_eq_true rfl)⟩ (Nat.le_of_ble_eq_true rfl) dX7_residual_4) ⟨(Nat.le_of_ble_eq_true rfl), (Nat.le_of_ble_eq_true rfl)⟩ ?_
  refine k_istore_n 1 [(1, .int (iI (σ.2.2.2.1 : Int))), (0, .ref tt)] dX7_residual_7 rfl (by decide) rfl ?_
  refine k_iload_n 0 1 dX7_residual_8 rfl rfl ?_
  refine k_if_ne 16 dX7_residual_9 (by decide) (inI_mk (by omega) (by omega)) (fun h9 => ?_) (fun h9 => ?_)
  · refine k_aload_n 1 0 dX7_residual_16 rfl rfl ?_
    refine k_useR (k_runV (c_X7_sumOfDifferences θ.2.1 κ (tt := tt) hC hs) w_X7_219 ⟨q_165, q_0⟩ rfl rfl ctt rfl ⟨(Nat.le_of_ble_eq_true rfl), (Nat.le_of_ble_eq_true rfl)⟩ (Nat.le_of_ble_eq_true rfl) dX7_residual_17) ⟨(Nat.le_of_ble_eq_true rfl), (Nat.le_of_ble_eq_true rfl)⟩ ?_
    refine k_l2d dX7_residual_20 ?_
    refine k_iload_n 0 1 dX7_residual_21 rfl rfl ?_
    refine k_i2d dX7_residual_22 ?_
    refine k_ddiv dX7_residual_23 (fd_div (by omega) (by omega)) ?_
    exact k_dret dX7_residual_24 rfl (Nat.le_of_ble_eq_true rfl) (Nat.le_of_ble_eq_true rfl) (k_okd (by rw [rsd, if_neg (by omega)]))
  · refine k_dconst0 dX7_residual_12 ?_
    refine k_goto 24 dX7_residual_13 (by decide) ?_
    exact k_dret dX7_residual_24 rfl (Nat.le_of_ble_eq_true rfl) (Nat.le_of_ble_eq_true rfl) (k_okd (by rw [rsd, if_pos (by omega)]))
