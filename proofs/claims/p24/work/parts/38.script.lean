/-! ===== the law's own methods: rows ===== -/
section ScriptRows
variable {θ : Kt} {κ : Kx} {cc : ByteArray} {nL : Nat} {ret : Option FieldType} {own : String} {R : Room} {Q : State → Prop} {L : List Nat} {f : Nat → wE} {k n pc : Nat} {lv : List (Nat × Value)} {st st0 : List Value}
variable {y : MethodName} {bytes : ByteArray} {maxL d mc ms idx nA : Nat} {ret' : Option FieldType} {post : Option Value → List Nat → (Nat → wE) → Prop} {As : List Value} {b tg ci : Nat} {fs : List Value} {C : String} {T : u_T} {N : Nat}
def k_SX (θ : Kt) (κ : Kx) (N : Nat) : Prop := ∃ xs : Nat → Int32, va_T .int (κ.2.2.2 2) N (fun j => Value.int (xs j)) (kA κ) θ.2.2.2.1 θ.2.2.2.1.heap
theorem k_slenT (dc : decode cc pc = .ok (.arraylength, 1)) (kk : ∀ N : Nat, N < 2147483648 → k_SX θ κ N → k_G θ κ cc nL ret own R Q L f k n (pc + 1) lv (.int (iI (N : Int)) :: st)) : k_G θ κ cc nL ret own R Q L f k n pc lv (.ref (κ.2.2.2 2) :: st) := by
  intro E H locs ls hH hS hl
  obtain ⟨N, xs, h1, h2⟩ := E.2.2.2.2.2.1.2.2.1
  exact va_tlen E.1 E.2.1 h2 hS (iI_nI N).symm dc (kk N h1 ⟨xs, h2⟩ E H locs ls hH hS hl)
theorem k_sldT {z : Int} (hX : k_SX θ κ N) (h0 : 0 ≤ z) (h1 : z < (N : Int)) (hN : N < 2147483648) (dc : decode cc pc = .ok (.iaload, 1)) (kk : ∀ w : Int, k_G θ κ cc nL ret own R Q L f k n (pc + 1) lv (.int (iI w) :: st)) : k_G θ κ cc nL ret own R Q L f k n pc lv (.int (iI z) :: .ref (κ.2.2.2 2) :: st) := by
  intro E H locs ls hH hS hl
  obtain ⟨xs, h2⟩ := hX
  have e : (fun j => Value.int (xs j)) (iI z).toNatClampNeg = .int (iI (xs (iI z).toNatClampNeg).toInt) := congrArg Value.int (iI_of _)
  exact va_ti E.1 E.2.1 h2 hS (iI_in (k := z.toNat) (by omega) (by omega) hN) e dc (kk _ E H locs ls hH hS hl)
theorem k_andM {x : Int} (dc : decode cc pc = .ok (.iand, 1)) (kk : ∀ z : Int, 0 ≤ z → z < 2147483648 → k_G θ κ cc nL ret own R Q L f k n (pc + 1) lv (.int (iI z) :: st)) : k_G θ κ cc nL ret own R Q L f k n pc lv (.int (iI 2147483647) :: .int (iI x) :: st) := by
  obtain ⟨j, hj, e⟩ := pk_andE (iI x) (m := iI 2147483647) 31 (by decide +kernel)
  have hj2 : j < 2147483648 := hj
  have e2 : iI x &&& iI 2147483647 = iI (j : Int) := e.trans (iI_nI j).symm
  exact fun E H locs ls hH hS hl => lv_iand E.1 E.2.1 dc (by
    rw [e2]
    exact kk (j : Int) (by omega) (by omega) E H locs ls hH hS hl)
theorem k_ishrR {x y : Int} (dc : decode cc pc = .ok (.ishr, 1)) (kk : ∀ z : Int, k_G θ κ cc nL ret own R Q L f k n (pc + 1) lv (.int (iI z) :: st)) : k_G θ κ cc nL ret own R Q L f k n pc lv (.int (iI y) :: .int (iI x) :: st) :=
  fun E H locs ls hH hS hl => lv_ishr E.1 E.2.1 dc (by
    rw [iI_of (iI x >>> (iI y &&& 31))]
    exact kk _ E H locs ls hH hS hl)
/-- an answer of which only something is known; nothing changes -/
def k_rp (L : List Nat) (f : Nat → wE) (P : Int → Prop) : Option Value → List Nat → (Nat → wE) → Prop := k_rn (fun w L' f' => (∃ z : Int, P z ∧ w = .int (iI z)) ∧ L' = L ∧ f' = f)
theorem k_useP {P : Int → Prop} (hr : k_C θ κ cc nL ret own R L f 0 0 pc lv st0 st (k_rp L f P)) (hf : k ≤ R.cells ∧ n ≤ R.slots) (kk : ∀ z : Int, P z → k_G θ κ cc nL ret own R Q L f k n (pc + 3) lv (.int (iI z) :: st)) : k_G θ κ cc nL ret own R Q L f k n pc lv st0 := by
  refine k_useV hr hf (fun w L' f' h => ?_)
  obtain ⟨⟨z, hz, e1⟩, e2, e3⟩ := h
  rw [e1, e2, e3]
  exact kk z hz
/-- an exception of class E over the frame at pc: here it never comes -/
theorem k_useN {P : String → List Nat → (Nat → wE) → Prop} (M : k_MX θ.2.1 κ y bytes maxL ret' d mc ms (.ref b :: As) L f post P) (w : k_wB own idx y bytes maxL ret' nA) (w2 : Cond.instanceMethod y ∈ lw_tbl ∧ Cond.selects C y y ∈ lw_tbl) (hn : As.length = nA) (hst : st0 = As.reverse ++ .ref b :: st) (hc : Cl L f b (tg, .inr (ci, fs))) (hci : vwCl[ci]? = some (C, T, N)) (hR : d + 1 ≤ R.frames ∧ 8 + (maxL + 11) + 30 * d ≤ R.locals) (hcat : (st.map fun v => v.category).sum ≤ 8) (dc : decode cc pc = .ok (.invokevirtual idx, 3)) (hf : k + mc ≤ R.cells ∧ n + ms ≤ R.slots)
    (kk : ∀ (v : Option Value) (L' : List Nat) (f' : Nat → wE), post v L' f' → k_G θ κ cc nL ret own R Q L' f' (k + mc) (n + ms) (pc + 3) lv (v.toList ++ st))
    (kx : ∀ (E : String) (L' : List Nat) (f' : Nat → wE), ¬ P E L' f') : k_G θ κ cc nL ret own R Q L f k n pc lv st0 := by
  intro E H locs ls hH hS hl T0 hT X
  have hrun := vx_runV (p := θ.1) (l := θ.2.1) (e := θ.2.2.1) (R := R) (below := θ.2.2.2.2.2.2.1) (meth := θ.2.2.2.2.2.2.2.1) (C := C) (g := F0 θ.2.2.2.2.1 pc ls st0) (H := H) (locs := locs) (cells := k) (slots := n) E.fix M ⟨w.cb E hR, E.word w2.1 rfl, E.word w2.2 rfl⟩ ⟨k_blind, k_recv E hH hc hci, fun U hU hW => ⟨rfl, E.start hH hS hU hW⟩⟩ rfl hn hl.1 hst (lv_room hcat) dc hf
  rcases hrun T0 hT X with ⟨v, s0, t, T', L9, h0, X', hL, e1, e2, ⟨⟨v', L', f', hv, hp, hH'⟩, hz, hkp⟩, stp⟩ | ⟨q, s0, t, T', L9, Ex, ce, h0, X', hL, e1, e2, ⟨⟨L', f', hp, hH'⟩, hz, hkp⟩, hce, hcv, hcl, stp⟩
  · cases hv
    rw [h0] at hz hkp
    have hS' : va_S (kA κ) θ.2.2.2.1.heap T'.heap (locs ++ L9) := ⟨Nat.le_trans hS.1 (by rw [e1]; exact hz), fun q h1 h2 => by rw [e1, hkp q (Nat.lt_of_lt_of_le h1 hS.1) h2]; exact hS.2.1 q h1 h2, fun q hq => by
      rcases List.mem_append.mp hq with h | h
      · exact hS.2.2 q h
      · exact hL q h⟩
    obtain ⟨t2, a1, b1⟩ := kk v L' f' hp E T'.heap (locs ++ L9) ls (by rw [e1]; exact hH') hS' hl T' rfl X'
    exact ⟨t2, stp t2 a1, b1⟩
  · exact absurd hp (kx Ex L' f')
end ScriptRows
set_option maxHeartbeats 4000000 in
set_option maxRecDepth 100000 in
theorem c_L_below (la : Launch) (κ : Kx) {L : List Nat} {f : Nat → wE} {x m : Int} (hm : 0 < m ∧ m ≤ 100000) : k_M la κ yL_below cL_below 2 (some .int) 1 0 0 [.int (iI x), .int (iI m)] L f (k_rp L f (fun z => 0 ≤ z ∧ z < m)) := by
  refine k_head RL [(0, .int (iI x)), (1, .int (iI m))] rfl (by decide) (Nat.le_of_ble_eq_true rfl) rfl (fun θ hθ hin => ?_)
  refine k_iload_n 0 0 dL_below_0 rfl rfl ?_
  refine k_ldc 2147483647 q_531 (by decide) dL_below_1 ?_
  refine k_andM dL_below_3 (fun z h0 h1 => ?_)
  refine k_iload_n 1 1 dL_below_4 rfl rfl ?_
  refine k_irem dL_below_5 (inI_mk (by omega) (by omega)) (inI_mk (by omega) (by omega)) (by omega) ?_
  have h2 := tm_bd h0 hm.1
  exact k_iret dL_below_6 rfl (Nat.le_of_ble_eq_true rfl) (Nat.le_of_ble_eq_true rfl) ⟨_, rfl, ⟨_, h2, rfl⟩, rfl, rfl⟩
set_option maxHeartbeats 4000000 in
set_option maxRecDepth 100000 in
theorem c_L_cell (la : Launch) (κ : Kx) {L : List Nat} {f : Nat → wE} {z : Int} (hz : 0 ≤ z ∧ z ≤ 1000) : k_M la κ yL_cell cL_cell 2 (some .int) 1 0 0 [.ref (κ.2.2.2 2), .int (iI z)] L f (k_rp L f (fun _ => True)) := by
  refine k_head RL [(0, .ref (κ.2.2.2 2)), (1, .int (iI z))] rfl (by decide) (Nat.le_of_ble_eq_true rfl) rfl (fun θ hθ hin => ?_)
  refine k_iload_n 1 1 dL_cell_0 rfl rfl ?_
  refine k_aload_n 0 0 dL_cell_1 rfl rfl ?_
  refine k_slenT dL_cell_2 (fun N hN hX => ?_)
  refine k_icmp_ge 12 dL_cell_3 (by decide) (inI_mk (by omega) (by omega)) (inI_mk (by omega) (by omega)) (fun _ => ?_) (fun h3 => ?_)
  · refine k_ldc 790386105 q_535 (by decide) dL_cell_12 ?_
    refine k_iload_n 1 1 dL_cell_14 rfl rfl ?_
    refine k_iconst dL_cell_15 ?_
    refine k_iadd dL_cell_16 ?_
    refine k_imul dL_cell_17 ?_
    exact k_iret dL_cell_18 rfl (Nat.le_of_ble_eq_true rfl) (Nat.le_of_ble_eq_true rfl) ⟨_, rfl, ⟨_, trivial, rfl⟩, rfl, rfl⟩
  · refine k_aload_n 0 0 dL_cell_6 rfl rfl ?_
    refine k_iload_n 1 1 dL_cell_7 rfl rfl ?_
    refine k_sldT hX hz.1 h3 hN dL_cell_8 (fun w => ?_)
    refine k_goto 18 dL_cell_9 (by decide) ?_
    exact k_iret dL_cell_18 rfl (Nat.le_of_ble_eq_true rfl) (Nat.le_of_ble_eq_true rfl) ⟨_, rfl, ⟨_, trivial, rfl⟩, rfl, rfl⟩
set_option maxHeartbeats 4000000 in
set_option maxRecDepth 100000 in
theorem c_J6_compare_7cf53 (la : Launch) (κ : Kx) {L : List Nat} {f : Nat → wE} {x y : Int}   (hx : inI x) (hy : inI y) : k_M la κ yJ6_compare_7cf53 cJ6_compare_7cf53 2 (some .int) 1 0 0 [.int (iI x), .int (iI y)] L f (k_ro L f (.int (iI (cmpI x y)))) := by
  refine k_head RJ6 [(0, .int (iI x)), (1, .int (iI y))] rfl (by decide) (Nat.le_of_ble_eq_true rfl) rfl (fun θ hθ hin => ?_)
  refine k_iload_n 0 0 dJ6_compare_7cf53_0 rfl rfl ?_
  refine k_iload_n 1 1 dJ6_compare_7cf53_1 rfl rfl ?_
  refine k_icmp_ge 9 dJ6_compare_7cf53_2 (by decide) hx hy (fun h2 => ?_) (fun h2 => ?_)
  · refine k_iload_n 0 0 dJ6_compare_7cf53_9 rfl rfl ?_
    refine k_iload_n 1 1 dJ6_compare_7cf53_10 rfl rfl ?_
    refine k_icmp_ne 18 dJ6_compare_7cf53_11 (by decide) hx hy (fun h11 => ?_) (fun h11 => ?_)
    · refine k_iconst dJ6_compare_7cf53_18 ?_
      exact k_iret dJ6_compare_7cf53_19 rfl (Nat.le_of_ble_eq_true rfl) (Nat.le_of_ble_eq_true rfl) (k_oki (by
      unfold cmpI
      repeat' split
      all_goals omega))
    · refine k_iconst dJ6_compare_7cf53_14 ?_
      refine k_goto 19 dJ6_compare_7cf53_15 (by decide) ?_
      exact k_iret dJ6_compare_7cf53_19 rfl (Nat.le_of_ble_eq_true rfl) (Nat.le_of_ble_eq_true rfl) (k_oki (by
      unfold cmpI
      repeat' split
      all_goals omega))
  · refine k_iconst dJ6_compare_7cf53_5 ?_
    refine k_goto 19 dJ6_compare_7cf53_6 (by decide) ?_
    exact k_iret dJ6_compare_7cf53_19 rfl (Nat.le_of_ble_eq_true rfl) (Nat.le_of_ble_eq_true rfl) (k_oki (by
      unfold cmpI
      repeat' split
      all_goals omega))
theorem cmpI_mul (a b c d : Int) : -1 ≤ cmpI a b * cmpI c d ∧ cmpI a b * cmpI c d ≤ 1 := by
  unfold cmpI
  repeat' split
  all_goals decide
theorem cmpI_in (a b : Int) : inI (cmpI a b) := by
  have := cmpI_bd a b
  exact inI_mk (by omega) (by omega)
theorem bI_ne1 {b : Bool} (h : bI b ≠ 1) : 0 = bI b := by
  cases b with
  | true => exact absurd rfl h
  | false => rfl
theorem bI_not (b : Bool) (h : b = false) : 1 = bI (!b) := by
  subst h
  rfl
theorem bI_not0 (b : Bool) (h : b = true) : 0 = bI (!b) := by
  subst h
  rfl
