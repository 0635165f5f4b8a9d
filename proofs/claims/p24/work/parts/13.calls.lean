/-! ===== calls and ends ===== -/
def k_ro (L : List Nat) (f : Nat → wE) (w : Value) : Option Value → List Nat → (Nat → wE) → Prop := fun v L' f' => v = some w ∧ L' = L ∧ f' = f
def k_rn (p : Value → List Nat → (Nat → wE) → Prop) : Option Value → List Nat → (Nat → wE) → Prop := fun v L' f' => ∃ w, v = some w ∧ p w L' f'
def k_ru (p : List Nat → (Nat → wE) → Prop) : Option Value → List Nat → (Nat → wE) → Prop := fun v L' f' => v = none ∧ p L' f'
/-- what a call links -/
def k_wB (own : String) (idx : Nat) (y : MethodName) (bytes : ByteArray) (maxL : Nat) (ret : Option FieldType) (nA : Nat) : Prop :=
  (Cond.methodLink own idx y ∈ lw_tbl ∧ Cond.initialized y.cls ∈ lw_tbl ∧ Cond.code y bytes maxL ret ∈ lw_tbl) ∧ (y.cls ≠ "java/lang/invoke/MethodHandle" ∧ y.cls ≠ "java/lang/invoke/VarHandle") ∧ (parseMethodDescriptor y.desc).map (fun d => d.parameters.length) = some nA
def k_wBN (own : String) (idx : Nat) (y : MethodName) (host : String) (bytes : ByteArray) (maxL : Nat) (ret : Option FieldType) (nA : Nat) : Prop :=
  (Cond.methodLinkNest own idx y host ∈ lw_tbl ∧ Cond.initialized y.cls ∈ lw_tbl ∧ Cond.code y bytes maxL ret ∈ lw_tbl) ∧ (y.cls ≠ "java/lang/invoke/MethodHandle" ∧ y.cls ≠ "java/lang/invoke/VarHandle") ∧ (parseMethodDescriptor y.desc).map (fun d => d.parameters.length) = some nA
def k_rm (d mc ms : Nat) : Room := { frames := d, cells := mc, slots := ms, locals := 30 * d }
/-- the contract: from the pool (L, f), with As for arguments, method y comes back with post -/
def k_M (l : Launch) (κ : Kx) (y : MethodName) (bytes : ByteArray) (maxL : Nat) (ret : Option FieldType) (d mc ms : Nat) (As : List Value) (L : List Nat) (f : Nat → wE) (post : Option Value → List Nat → (Nat → wE) → Prop) : Prop :=
  Met l y [Cond.code y bytes maxL ret] (k_rm d mc ms) (va_Pc As (k_I κ L f)) (k_Q κ post) mc ms (kA κ)
def k_C (θ : Kt) (κ : Kx) (cc : ByteArray) (nL : Nat) (ret : Option FieldType) (own : String) (R : Room) (L : List Nat) (f : Nat → wE) (mc ms pc : Nat) (lv : List (Nat × Value)) (st0 st : List Value) (post : Option Value → List Nat → (Nat → wE) → Prop) : Prop :=
  k_E θ κ cc nL ret own → ∀ (H : Heap) (locs : List Loc) (ls : Array Slot) (k n : Nat), k_H κ L f H → va_S (kA κ) θ.2.2.2.1.heap H locs → lv_has ls nL lv → (k + mc ≤ R.cells ∧ n + ms ≤ R.slots) →
    ∃ a : Array Value, va_Run θ.1 θ.2.1 θ.2.2.1 R θ.2.2.2.1 θ.2.2.2.2.1 θ.2.2.2.2.2.1 θ.2.2.2.2.2.2.1 θ.2.2.2.2.2.2.2.1 θ.2.2.2.2.2.2.2.2 H locs k n mc ms (F0 θ.2.2.2.2.1 pc ls st0) st (k_Q κ post a) (kA κ)
section Calls
variable {θ : Kt} {κ : Kx} {cc : ByteArray} {nL : Nat} {ret : Option FieldType} {own : String} {R : Room} {Q : State → Prop} {L : List Nat} {f : Nat → wE} {k n pc : Nat} {lv : List (Nat × Value)} {st st0 : List Value}
variable {y : MethodName} {bytes : ByteArray} {maxL d mc ms idx nA : Nat} {ret' : Option FieldType} {post : Option Value → List Nat → (Nat → wE) → Prop} {As : List Value} {b tg ci : Nat} {fs : List Value} {C : String} {T : u_T} {N : Nat}
theorem k_E.start (E : k_E θ κ cc nL ret own) {H : Heap} {locs : List Loc} (hH : k_H κ L f H) (hS : va_S (kA κ) θ.2.2.2.1.heap H locs) {U : State} (hU : U.heap = H) (hW : θ.2.2.2.1.WarmedH U.vm) : k_I κ L f U := by
  obtain ⟨-, -, -, -, hV, hZ, hb, -⟩ := E
  subst hU
  exact ⟨hH, k_V.warm hW hV, k_Z.moved hW.alike (hZ.kept hS.2.1), Nat.le_trans hb hS.1⟩
theorem k_E.fix (E : k_E θ κ cc nL ret own) : CallFix θ.1 θ.2.2.2.2.1 θ.2.2.2.2.2.2.2.2 cc nL θ.2.2.2.1 θ.2.2.2.2.2.1 [] own := ⟨E.1, E.2.1, E.2.2.1, E.2.2.2.1, fun _ h => nomatch h⟩
theorem k_wB.cb (w : k_wB own idx y bytes maxL ret' nA) (E : k_E θ κ cc nL ret own) (hR : d + 1 ≤ R.frames ∧ 8 + (maxL + 11) + 30 * d ≤ R.locals) : CallB R θ.2.2.2.1 θ.2.2.2.2.2.1 own idx y bytes maxL ret' [Cond.code y bytes maxL ret'] (k_rm d mc ms) mc ms nA := by
  obtain ⟨⟨w1, w2, w3⟩, w4, w5⟩ := w
  have hcode := E.word w3 rfl
  refine ⟨rfl, rfl, hR.1, hR.2, fun w hw a' U hW => ?_, List.mem_singleton.mpr rfl, hcode, E.word w2 rfl, w4, fun sig h => ?_, E.word w1 rfl⟩
  · rw [List.mem_singleton.mp hw]
    exact word_at hW (Or.inl rfl) hcode
  · rw [h] at w5
    exact (Option.some.inj w5).symm
theorem k_wBN.cb {host : String} (w : k_wBN own idx y host bytes maxL ret' nA) (E : k_E θ κ cc nL ret own) (hR : d + 1 ≤ R.frames ∧ 8 + (maxL + 11) + 30 * d ≤ R.locals) : va_CN R θ.2.2.2.1 θ.2.2.2.2.2.1 own idx y host bytes maxL ret' [Cond.code y bytes maxL ret'] (k_rm d mc ms) mc ms nA := by
  obtain ⟨⟨w1, w2, w3⟩, w4, w5⟩ := w
  have hcode := E.word w3 rfl
  refine ⟨⟨rfl, rfl, hR.1, hR.2, fun w hw a' U hW => ?_, List.mem_singleton.mpr rfl⟩, hcode, E.word w2 rfl, w4, fun sig h => ?_, E.word w1 rfl⟩
  · rw [List.mem_singleton.mp hw]
    exact word_at hW (Or.inl rfl) hcode
  · rw [h] at w5
    exact (Option.some.inj w5).symm
theorem k_recv (E : k_E θ κ cc nL ret own) {H : Heap} (hH : k_H κ L f H) (hc : Cl L f b (tg, .inr (ci, fs))) (hci : vwCl[ci]? = some (C, T, N)) : ∃ cell : Cell, H[b]? = some cell ∧ cell.vm.isStatics = false ∧ θ.2.2.2.1.vm.findClass C = some cell.cls := by
  obtain ⟨q0, hq0⟩ := k_pos hc
  exact va_recv E.K hH.1 hci hq0
theorem k_runV (M : k_M θ.2.1 κ y bytes maxL ret' d mc ms (.ref b :: As) L f post) (w : k_wB own idx y bytes maxL ret' nA) (w2 : Cond.instanceMethod y ∈ lw_tbl ∧ Cond.selects C y y ∈ lw_tbl) (hn : As.length = nA) (hst : st0 = As.reverse ++ .ref b :: st) (hc : Cl L f b (tg, .inr (ci, fs))) (hci : vwCl[ci]? = some (C, T, N)) (hR : d + 1 ≤ R.frames ∧ 8 + (maxL + 11) + 30 * d ≤ R.locals) (hcat : (st.map fun v => v.category).sum ≤ 8) (dc : decode cc pc = .ok (.invokevirtual idx, 3)) : k_C θ κ cc nL ret own R L f mc ms pc lv st0 st post := by
  intro E H locs ls k n hH hS hl hf
  exact ⟨_, va_runV (C := C) E.fix M ⟨w.cb E hR, E.word w2.1 rfl, E.word w2.2 rfl⟩ ⟨k_blind, k_recv E hH hc hci, fun U hU hW => ⟨rfl, E.start hH hS hU hW⟩⟩ rfl hn hl.1 hst (lv_room hcat) dc hf⟩
theorem k_runS (M : k_M θ.2.1 κ y bytes maxL ret' d mc ms As L f post) (w : k_wB own idx y bytes maxL ret' nA) (w2 : Cond.static y ∈ lw_tbl) (hn : As.length = nA) (hst : st0 = As.reverse ++ st) (hR : d + 1 ≤ R.frames ∧ 8 + (maxL + 11) + 30 * d ≤ R.locals) (hcat : (st.map fun v => v.category).sum ≤ 8) (dc : decode cc pc = .ok (.invokestatic idx, 3)) : k_C θ κ cc nL ret own R L f mc ms pc lv st0 st post := by
  intro E H locs ls k n hH hS hl hf
  exact ⟨_, va_runS E.fix M ⟨w.cb E hR, E.word w2 rfl⟩ ⟨k_blind, fun U hU hW => ⟨rfl, E.start hH hS hU hW⟩⟩ rfl hn hl.1 hst (lv_room hcat) dc hf⟩
theorem k_runI (M : k_M θ.2.1 κ y bytes maxL none d mc ms (.ref b :: As) L f post) (w : k_wB own idx y bytes maxL none nA) (w2 : Cond.instanceMethod y ∈ lw_tbl) (hy : y.name = "<init>") (hn : As.length = nA) (hst : st0 = As.reverse ++ .ref b :: st) (hR : d + 1 ≤ R.frames ∧ 8 + (maxL + 11) + 30 * d ≤ R.locals) (hcat : (st.map fun v => v.category).sum ≤ 8) (dc : decode cc pc = .ok (.invokespecial idx, 3)) : k_C θ κ cc nL ret own R L f mc ms pc lv st0 st post := by
  intro E H locs ls k n hH hS hl hf
  exact ⟨_, va_runI E.fix M ⟨w.cb E hR, hy, E.word w2 rfl⟩ ⟨k_blind, fun U hU hW => ⟨rfl, E.start hH hS hU hW⟩⟩ rfl hn hl.1 hst (lv_room hcat) dc hf⟩
theorem k_runSN {host : String} (M : k_M θ.2.1 κ y bytes maxL ret' d mc ms As L f post) (w : k_wBN own idx y host bytes maxL ret' nA) (w2 : Cond.static y ∈ lw_tbl) (hn : As.length = nA) (hst : st0 = As.reverse ++ st) (hR : d + 1 ≤ R.frames ∧ 8 + (maxL + 11) + 30 * d ≤ R.locals) (hcat : (st.map fun v => v.category).sum ≤ 8) (dc : decode cc pc = .ok (.invokestatic idx, 3)) : k_C θ κ cc nL ret own R L f mc ms pc lv st0 st post := by
  intro E H locs ls k n hH hS hl hf
  exact ⟨_, va_runSN (host := host) E.fix M ⟨w.cb E hR, E.word w2 rfl, trivial⟩ ⟨k_blind, fun U hU hW => ⟨rfl, E.start hH hS hU hW⟩⟩ rfl hn hl.1 hst (lv_room hcat) dc hf⟩
theorem k_runIN {host : String} (M : k_M θ.2.1 κ y bytes maxL none d mc ms (.ref b :: As) L f post) (w : k_wBN own idx y host bytes maxL none nA) (w2 : Cond.instanceMethod y ∈ lw_tbl) (hy : y.name = "<init>") (hn : As.length = nA) (hst : st0 = As.reverse ++ .ref b :: st) (hR : d + 1 ≤ R.frames ∧ 8 + (maxL + 11) + 30 * d ≤ R.locals) (hcat : (st.map fun v => v.category).sum ≤ 8) (dc : decode cc pc = .ok (.invokespecial idx, 3)) : k_C θ κ cc nL ret own R L f mc ms pc lv st0 st post := by
  intro E H locs ls k n hH hS hl hf
  exact ⟨_, va_runIN (host := host) E.fix M ⟨w.cb E hR, hy, E.word w2 rfl⟩ ⟨k_blind, fun U hU hW => ⟨rfl, E.start hH hS hU hW⟩⟩ rfl hn hl.1 hst (lv_room hcat) dc hf⟩
theorem k_use (hr : k_C θ κ cc nL ret own R L f mc ms pc lv st0 st post) (hf : k + mc ≤ R.cells ∧ n + ms ≤ R.slots) (kk : ∀ (v : Option Value) (L' : List Nat) (f' : Nat → wE), post v L' f' → k_G θ κ cc nL ret own R Q L' f' (k + mc) (n + ms) (pc + 3) lv (v.toList ++ st)) : k_G θ κ cc nL ret own R Q L f k n pc lv st0 := by
  intro E H locs ls hH hS hl
  obtain ⟨a, hrun⟩ := hr E H locs ls k n hH hS hl hf
  intro T hT X
  obtain ⟨v, s0, t, T', L9, h0, X', hL, e1, e2, ⟨⟨v', L', f', hv, hp, hH'⟩, hz, hkp⟩, stp⟩ := hrun T hT X
  cases hv
  rw [h0] at hz hkp
  have hS' : va_S (kA κ) θ.2.2.2.1.heap T'.heap (locs ++ L9) := ⟨Nat.le_trans hS.1 (by rw [e1]; exact hz), fun q h1 h2 => by rw [e1, hkp q (Nat.lt_of_lt_of_le h1 hS.1) h2]; exact hS.2.1 q h1 h2, fun q hq => by
    rcases List.mem_append.mp hq with h | h
    · exact hS.2.2 q h
    · exact hL q h⟩
  obtain ⟨t2, a1, b1⟩ := kk v L' f' hp E T'.heap (locs ++ L9) ls (by rw [e1]; exact hH') hS' hl T' rfl X'
  exact ⟨t2, stp t2 a1, b1⟩
/-- a call that only reads: its answer is the value w -/
theorem k_useR {w : Value} (hr : k_C θ κ cc nL ret own R L f 0 0 pc lv st0 st (k_ro L f w)) (hf : k ≤ R.cells ∧ n ≤ R.slots) (kk : k_G θ κ cc nL ret own R Q L f k n (pc + 3) lv (w :: st)) : k_G θ κ cc nL ret own R Q L f k n pc lv st0 := by
  refine k_use hr hf (fun v L' f' h => ?_)
  obtain ⟨rfl, rfl, rfl⟩ := h
  exact kk
theorem k_useV {p : Value → List Nat → (Nat → wE) → Prop} (hr : k_C θ κ cc nL ret own R L f mc ms pc lv st0 st (k_rn p)) (hf : k + mc ≤ R.cells ∧ n + ms ≤ R.slots) (kk : ∀ (w : Value) (L' : List Nat) (f' : Nat → wE), p w L' f' → k_G θ κ cc nL ret own R Q L' f' (k + mc) (n + ms) (pc + 3) lv (w :: st)) : k_G θ κ cc nL ret own R Q L f k n pc lv st0 := by
  refine k_use hr hf (fun v L' f' h => ?_)
  obtain ⟨w, rfl, hp⟩ := h
  exact kk w L' f' hp
theorem k_useU {p : List Nat → (Nat → wE) → Prop} (hr : k_C θ κ cc nL ret own R L f mc ms pc lv st0 st (k_ru p)) (hf : k + mc ≤ R.cells ∧ n + ms ≤ R.slots) (kk : ∀ (L' : List Nat) (f' : Nat → wE), p L' f' → k_G θ κ cc nL ret own R Q L' f' (k + mc) (n + ms) (pc + 3) lv st) : k_G θ κ cc nL ret own R Q L f k n pc lv st0 := by
  refine k_use hr hf (fun v L' f' h => ?_)
  obtain ⟨rfl, hp⟩ := h
  exact kk L' f' hp
theorem k_objInit {a i : Nat} (h1 : Cond.methodLink own i Lib.objectInit ∈ lw_tbl) (h2 : Cond.instanceMethod Lib.objectInit ∈ lw_tbl) (h3 : Cond.code Lib.objectInit ⟨#[0xb1]⟩ 1 none ∈ lw_tbl) (hf : 1 ≤ R.frames) (hlo : (st.map fun v => v.category).sum + 12 ≤ R.locals) (dc : decode cc pc = .ok (.invokespecial i, 3)) (kk : k_G θ κ cc nL ret own R Q L f k n (pc + 3) lv st) : k_G θ κ cc nL ret own R Q L f k n pc lv (.ref a :: st) :=
  fun E H locs ls hH hS hl => W.objInit E.1 E.2.1 E.2.2.2.1 (E.word h1 rfl) (E.word h2 rfl) (E.word h3 rfl) rfl (by rw [E.2.2.1]; exact hl.1) rfl dc hf (by show 2 * 0 + _ + 12 ≤ _; omega) (kk E H locs ls hH hS hl)
end Calls
section Math
variable {θ : Kt} {κ : Kx} {cc : ByteArray} {nL : Nat} {ret : Option FieldType} {own : String} {R : Room} {Q : State → Prop} {L : List Nat} {f : Nat → wE} {k n pc : Nat} {lv : List (Nat × Value)} {st : List Value}
theorem k_max {x y : Int} {i : Nat} (h1 : Cond.methodLink own i Lib.Math.max.name ∈ lw_tbl) (h2 : Cond.static Lib.Math.max.name ∈ lw_tbl) (h3 : Cond.initialized "java/lang/Math" ∈ lw_tbl) (h4 : Cond.code Lib.Math.max.name Lib.Math.max.code 2 (some .int) ∈ lw_tbl) (hx : inI x) (hy : inI y) (hf : 1 ≤ R.frames) (hlo : (st.map fun v => v.category).sum + 13 ≤ R.locals) (hk : k ≤ R.cells ∧ n ≤ R.slots) (dc : decode cc pc = .ok (.invokestatic i, 3)) (kk : k_G θ κ cc nL ret own R Q L f k n (pc + 3) lv (.int (iI (max x y)) :: st)) : k_G θ κ cc nL ret own R Q L f k n pc lv (.int (iI y) :: .int (iI x) :: st) :=
  fun E H locs ls hH hS hl => va_mmax E.1 E.2.1 (by rw [E.2.2.1]; exact hl.1.symm) E.2.2.2.1 (E.word h1 rfl) (E.word h2 rfl) (E.word h3 rfl) (E.word h4 rfl) hf hlo hk.1 hk.2 dc (by rw [iI_mx hx hy]; exact kk E H locs ls hH hS hl)
theorem k_min {x y : Int} {i : Nat} (h1 : Cond.methodLink own i Lib.Math.min.name ∈ lw_tbl) (h2 : Cond.static Lib.Math.min.name ∈ lw_tbl) (h3 : Cond.initialized "java/lang/Math" ∈ lw_tbl) (h4 : Cond.code Lib.Math.min.name Lib.Math.min.code 2 (some .int) ∈ lw_tbl) (hx : inI x) (hy : inI y) (hf : 1 ≤ R.frames) (hlo : (st.map fun v => v.category).sum + 13 ≤ R.locals) (hk : k ≤ R.cells ∧ n ≤ R.slots) (dc : decode cc pc = .ok (.invokestatic i, 3)) (kk : k_G θ κ cc nL ret own R Q L f k n (pc + 3) lv (.int (iI (min x y)) :: st)) : k_G θ κ cc nL ret own R Q L f k n pc lv (.int (iI y) :: .int (iI x) :: st) :=
  fun E H locs ls hH hS hl => va_mmin E.1 E.2.1 (by rw [E.2.2.1]; exact hl.1.symm) E.2.2.2.1 (E.word h1 rfl) (E.word h2 rfl) (E.word h3 rfl) (E.word h4 rfl) hf hlo hk.1 hk.2 dc (by rw [iI_mn hx hy]; exact kk E H locs ls hH hS hl)
theorem k_abs {x : Int} {i : Nat} (h1 : Cond.methodLink own i Lib.Math.abs.name ∈ lw_tbl) (h2 : Cond.static Lib.Math.abs.name ∈ lw_tbl) (h3 : Cond.initialized "java/lang/Math" ∈ lw_tbl) (h4 : Cond.code Lib.Math.abs.name Lib.Math.abs.code 1 (some .int) ∈ lw_tbl) (hx : inI x) (hf : 1 ≤ R.frames) (hlo : (st.map fun v => v.category).sum + 13 ≤ R.locals) (hk : k ≤ R.cells ∧ n ≤ R.slots) (dc : decode cc pc = .ok (.invokestatic i, 3)) (kk : k_G θ κ cc nL ret own R Q L f k n (pc + 3) lv (.int (iI (x.natAbs : Int)) :: st)) : k_G θ κ cc nL ret own R Q L f k n pc lv (.int (iI x) :: st) :=
  fun E H locs ls hH hS hl => va_mabs E.1 E.2.1 (by rw [E.2.2.1]; exact hl.1.symm) E.2.2.2.1 (E.word h1 rfl) (E.word h2 rfl) (E.word h3 rfl) (E.word h4 rfl) hf hlo hk.1 hk.2 dc (by rw [iI_ab hx]; exact kk E H locs ls hH hS hl)
theorem k_maxl {x y : Int} {i : Nat} (h1 : Cond.methodLink own i Lib.MathLoose.max_long.x ∈ lw_tbl) (h2 : Cond.static Lib.MathLoose.max_long.x ∈ lw_tbl) (h3 : Cond.initialized "java/lang/Math" ∈ lw_tbl) (h4 : Cond.code Lib.MathLoose.max_long.x Lib.MathLoose.max_long.code 4 (some .long) ∈ lw_tbl) (hx : inL x) (hy : inL y) (hf : 1 ≤ R.frames) (hlo : (st.map fun v => v.category).sum + 15 ≤ R.locals) (hk : k ≤ R.cells ∧ n ≤ R.slots) (dc : decode cc pc = .ok (.invokestatic i, 3)) (kk : k_G θ κ cc nL ret own R Q L f k n (pc + 3) lv (.long (lI (max x y)) :: st)) : k_G θ κ cc nL ret own R Q L f k n pc lv (.long (lI y) :: .long (lI x) :: st) :=
  fun E H locs ls hH hS hl => va_mmax_long E.1 E.2.1 (by rw [E.2.2.1]; exact hl.1.symm) E.2.2.2.1 (E.word h1 rfl) (E.word h2 rfl) (E.word h3 rfl) (E.word h4 rfl) hf hlo hk.1 hk.2 dc (by rw [lI_mx hx hy]; exact kk E H locs ls hH hS hl)
theorem k_absl {x : Int} {i : Nat} (h1 : Cond.methodLink own i Lib.MathLoose.abs_long.x ∈ lw_tbl) (h2 : Cond.static Lib.MathLoose.abs_long.x ∈ lw_tbl) (h3 : Cond.initialized "java/lang/Math" ∈ lw_tbl) (h4 : Cond.code Lib.MathLoose.abs_long.x Lib.MathLoose.abs_long.code 2 (some .long) ∈ lw_tbl) (hx : inL x) (hf : 1 ≤ R.frames) (hlo : (st.map fun v => v.category).sum + 13 ≤ R.locals) (hk : k ≤ R.cells ∧ n ≤ R.slots) (dc : decode cc pc = .ok (.invokestatic i, 3)) (kk : k_G θ κ cc nL ret own R Q L f k n (pc + 3) lv (.long (lI (x.natAbs : Int)) :: st)) : k_G θ κ cc nL ret own R Q L f k n pc lv (.long (lI x) :: st) :=
  fun E H locs ls hH hS hl => va_mabs_long E.1 E.2.1 (by rw [E.2.2.1]; exact hl.1.symm) E.2.2.2.1 (E.word h1 rfl) (E.word h2 rfl) (E.word h3 rfl) (E.word h4 rfl) hf hlo hk.1 hk.2 dc (by rw [lI_ab hx]; exact kk E H locs ls hH hS hl)
end Math
section Statics
variable {θ : Kt} {κ : Kx} {cc : ByteArray} {nL : Nat} {ret : Option FieldType} {own : String} {R : Room} {Q : State → Prop} {L : List Nat} {f : Nat → wE} {k n pc : Nat} {lv : List (Nat × Value)} {st : List Value}
/-- a static array of ours: place j of the list -/
def k_Zs (κ : Kx) (j : Nat) (C nm : String) (l : List Int) : Prop := l.length = 6 ∧ ∀ (U : State) (H : Heap), k_Z κ U H → va_Z C nm "[I" (.ref (κ.2.2.2 j)) (kA κ) U H ∧ va_T .int (κ.2.2.2 j) 6 (k_arr l) (kA κ) U H
theorem k_Zs0 {κ : Kx} : k_Zs κ 0 "TideTable" "TWELFTHS_OF_SIXTH" [1, 2, 3, 3, 2, 1] := ⟨rfl, fun _ _ h => h.1⟩
theorem k_Zs1 {κ : Kx} : k_Zs κ 1 "TideTable" "TWELFTHS_AHEAD_OF_SIXTH" [0, 1, 3, 6, 9, 11] := ⟨rfl, fun _ _ h => h.2.1⟩
theorem k_gets {C nm : String} {j i : Nat} {l : List Int} (hz : k_Zs κ j C nm l) (hq : Cond.fieldLink own i C nm "[I" ∈ lw_tbl) (dc : decode cc pc = .ok (.getstatic i, 3)) (kk : k_G θ κ cc nL ret own R Q L f k n (pc + 3) lv (.ref (κ.2.2.2 j) :: st)) : k_G θ κ cc nL ret own R Q L f k n pc lv st :=
  fun E H locs ls hH hS hl => va_gets E.1 E.2.1 (hz.2 _ _ E.2.2.2.2.2.1).1 hS E.2.2.2.1 (E.word hq rfl) (fun _ h => h) dc (kk E H locs ls hH hS hl)
theorem k_getsN {C nm host : String} {j i : Nat} {l : List Int} (hz : k_Zs κ j C nm l) (hq : Cond.fieldLinkNest own i C nm "[I" host ∈ lw_tbl) (dc : decode cc pc = .ok (.getstatic i, 3)) (kk : k_G θ κ cc nL ret own R Q L f k n (pc + 3) lv (.ref (κ.2.2.2 j) :: st)) : k_G θ κ cc nL ret own R Q L f k n pc lv st :=
  fun E H locs ls hH hS hl => va_getsN E.1 E.2.1 (hz.2 _ _ E.2.2.2.2.2.1).1 hS E.2.2.2.1 (E.word hq rfl) (fun _ h => h) dc (kk E H locs ls hH hS hl)
theorem k_ti {C nm : String} {j : Nat} {l : List Int} {x : Int} (hz : k_Zs κ j C nm l) (m : Nat) (hx : x = (m : Int)) (hm : m < 6) (dc : decode cc pc = .ok (.iaload, 1)) (kk : k_G θ κ cc nL ret own R Q L f k n (pc + 1) lv (.int (iI (l.getD m 0)) :: st)) : k_G θ κ cc nL ret own R Q L f k n pc lv (.int (iI x) :: .ref (κ.2.2.2 j) :: st) :=
  fun E H locs ls hH hS hl => va_ti E.1 E.2.1 (hz.2 _ _ E.2.2.2.2.2.1).2 hS (iI_in hx hm (by omega)) (by rw [iI_cl hx (by omega)]; rfl) dc (kk E H locs ls hH hS hl)
theorem k_tlen {C nm : String} {j : Nat} {l : List Int} (hz : k_Zs κ j C nm l) (dc : decode cc pc = .ok (.arraylength, 1)) (kk : k_G θ κ cc nL ret own R Q L f k n (pc + 1) lv (.int (iI 6) :: st)) : k_G θ κ cc nL ret own R Q L f k n pc lv (.ref (κ.2.2.2 j) :: st) :=
  fun E H locs ls hH hS hl => va_tlen E.1 E.2.1 (hz.2 _ _ E.2.2.2.2.2.1).2 hS (by decide) dc (kk E H locs ls hH hS hl)
end Statics
/-! ===== a method's head and its ends ===== -/
def k_MQ (θ : Kt) (κ : Kx) (post : Option Value → List Nat → (Nat → wE) → Prop) (mc ms : Nat) : State → Prop := MQ θ.2.2.2.2.2.2.1 (k_Q κ post) θ.2.2.2.2.2.1 θ.2.2.2.1 mc ms (kA κ)
theorem k_head {l : Launch} {κ : Kx} {y : MethodName} {cc : ByteArray} {nL : Nat} {ret : Option FieldType} {d mc ms : Nat} {As : List Value} {L : List Nat} {f : Nat → wE} {post : Option Value → List Nat → (Nat → wE) → Prop} (own : String) (lv : List (Nat × Value)) (ho : y.cls = own) (hy : plainName own = true) (hsl : (lg_sl As).length ≤ nL) (hlv : lv_args 0 As = lv)
    (body : ∀ θ : Kt, θ.2.1 = l → (y.name = "<init>" → θ.2.2.2.2.2.2.2.1.name = "<init>") → k_G θ κ cc nL ret own (k_rm d mc ms) (k_MQ θ κ post mc ms) L f 0 0 0 lv []) : k_M l κ y cc nL ret d mc ms As L f post := by
  subst ho
  refine Met.ofW (cc := cc) (maxL := nL) (ret := ret) hy rfl ?_
  intro p e s m args below meth c s₁ B hml hv
  obtain ⟨rfl, hH, hV, hZ, hb⟩ := hv
  have hE : k_E (p, l, e, s, m, As.toArray, below, meth, c) κ cc nL ret y.cls := ⟨B.exec, B.bytes, hml, findClass_of_methodNamed B.named, hV, hZ, hb, B.returns, B.notSynchronized⟩
  have hl := lv_entry As (n := nL) hsl
  rw [lg_entry_eq]
  rw [hlv] at hl
  exact body (p, l, e, s, m, As.toArray, below, meth, c) rfl (fun h => (name_of_methodNamed B.named B.method).1.trans h) hE s.heap [] _ hH va_S.rf hl
section Ends
variable {θ : Kt} {κ : Kx} {cc : ByteArray} {nL : Nat} {ret : Option FieldType} {own : String} {R : Room} {L : List Nat} {f : Nat → wE} {k n pc mc ms : Nat} {lv : List (Nat × Value)} {post : Option Value → List Nat → (Nat → wE) → Prop}
theorem k_iret {x : Int32} (d : decode cc pc = .ok (.ireturn, 1)) (hr : ret = some .int) (hk : k ≤ mc) (hn : n ≤ ms) (hp : post (some (.int x)) L f) : k_G θ κ cc nL ret own R (k_MQ θ κ post mc ms) L f k n pc lv [.int x] := by
  intro E H locs ls hH hS hl
  refine W.widen hk hn ?_
  exact W.iret E.1 E.2.1 (E.2.2.2.2.2.2.2.1.trans hr) (fun t ht hW => ⟨⟨_, L, f, rfl, hp, by rw [ht]; exact hH⟩, hS.F ht⟩) hS.2.2 d E.2.2.2.2.2.2.2.2
theorem k_zret {b : Bool} (d : decode cc pc = .ok (.ireturn, 1)) (hr : ret = some .boolean) (hk : k ≤ mc) (hn : n ≤ ms) (hp : post (some (.int (iI (bI b)))) L f) : k_G θ κ cc nL ret own R (k_MQ θ κ post mc ms) L f k n pc lv [.int (iI (bI b))] := by
  intro E H locs ls hH hS hl
  refine W.widen hk hn ?_
  exact W.zret E.1 E.2.1 (E.2.2.2.2.2.2.2.1.trans hr) (by cases b <;> rfl) (fun t ht hW => ⟨⟨_, L, f, rfl, hp, by rw [ht]; exact hH⟩, hS.F ht⟩) hS.2.2 d E.2.2.2.2.2.2.2.2
theorem k_lret {x : Int64} (d : decode cc pc = .ok (.lreturn, 1)) (hr : ret = some .long) (hk : k ≤ mc) (hn : n ≤ ms) (hp : post (some (.long x)) L f) : k_G θ κ cc nL ret own R (k_MQ θ κ post mc ms) L f k n pc lv [.long x] := by
  intro E H locs ls hH hS hl
  refine W.widen hk hn ?_
  exact W.lret E.1 E.2.1 (E.2.2.2.2.2.2.2.1.trans hr) (fun t ht hW => ⟨⟨_, L, f, rfl, hp, by rw [ht]; exact hH⟩, hS.F ht⟩) hS.2.2 d E.2.2.2.2.2.2.2.2
theorem k_vret (d : decode cc pc = .ok (.return_, 1)) (hr : ret = none) (hk : k ≤ mc) (hn : n ≤ ms) (hp : post none L f) : k_G θ κ cc nL ret own R (k_MQ θ κ post mc ms) L f k n pc lv [] := by
  intro E H locs ls hH hS hl
  refine W.widen hk hn ?_
  exact W.vret E.1 E.2.1 (E.2.2.2.2.2.2.2.1.trans hr) (fun t ht hW => ⟨⟨_, L, f, rfl, hp, by rw [ht]; exact hH⟩, hS.F ht⟩) hS.2.2 d E.2.2.2.2.2.2.2.2
theorem k_aret {x : Nat} {rt : FieldType} (d : decode cc pc = .ok (.areturn, 1)) (hr : ret = some rt) (hrt : (∃ n, rt = .object n) ∨ ∃ t, rt = .array t) (hk : k ≤ mc) (hn : n ≤ ms) (hp : post (some (.ref x)) L f) : k_G θ κ cc nL ret own R (k_MQ θ κ post mc ms) L f k n pc lv [.ref x] := by
  intro E H locs ls hH hS hl
  refine W.widen hk hn ?_
  exact W.aret E.1 E.2.1 (E.2.2.2.2.2.2.2.1.trans hr) hrt (Or.inr ⟨x, rfl⟩) (fun t ht hW => ⟨⟨_, L, f, rfl, hp, by rw [ht]; exact hH⟩, hS.F ht⟩) hS.2.2 d E.2.2.2.2.2.2.2.2
end Ends
/-! ===== small things for the walks ===== -/
theorem inL_mk {z : Int} (h1 : -9223372036854775808 ≤ z) (h2 : z < 9223372036854775808) : inL z := ⟨h1, h2⟩
theorem k_nar_b (b : Bool) : narrow .boolean (.int (iI (bI b))) = .int (iI (bI b)) := by cases b <;> rfl
theorem k_fit_b (b : Bool) : fits .boolean (.int (iI (bI b))) = true := by cases b <;> rfl
theorem k_oki {L : List Nat} {f : Nat → wE} {a b : Int} (h : a = b) : k_ro L f (.int (iI b)) (some (.int (iI a))) L f := ⟨by rw [h], rfl, rfl⟩
theorem k_okb {L : List Nat} {f : Nat → wE} {a b : Bool} (h : a = b) : k_ro L f (.int (iI (bI b))) (some (.int (iI (bI a)))) L f := ⟨by rw [h], rfl, rfl⟩
theorem k_okl {L : List Nat} {f : Nat → wE} {a b : Int} (h : a = b) : k_ro L f (.long (lI b)) (some (.long (lI a))) L f := ⟨by rw [h], rfl, rfl⟩
theorem k_fr.put {L : List Nat} {f f' : Nat → wE} {a t : Nat} {x : va_E} (hne : ∀ z, z ≠ a → f' z = f z) (ha : Cl L f a (t, x)) : k_fr (fun u => u == t) L f L f' := fun z hz => ⟨hz, fun h => hne z (fun e => by subst e; rw [ha.2] at h; simp at h)⟩
theorem k_fr.new {L L' : List Nat} {f f' : Nat → wE} (hz : ∀ z ∈ L, z ∈ L' ∧ f' z = f z) : k_fr (fun _ => false) L f L' f' := fun z h => ⟨(hz z h).1, fun _ => (hz z h).2⟩
theorem k_fr.refl {S : Nat → Bool} {L : List Nat} {f : Nat → wE} : k_fr S L f L f := fun z hz => ⟨hz, fun _ => rfl⟩
theorem k_fr.trans {S1 S2 S : Nat → Bool} {L L1 L2 : List Nat} {f f1 f2 : Nat → wE} (h1 : k_fr S1 L f L1 f1) (h2 : k_fr S2 L1 f1 L2 f2) (hS1 : ∀ t, S t = false → S1 t = false) (hS2 : ∀ t, S t = false → S2 t = false) : k_fr S L f L2 f2 := by
  intro z hz
  obtain ⟨a1, b1⟩ := h1 z hz
  obtain ⟨a2, b2⟩ := h2 z a1
  refine ⟨a2, fun h => ?_⟩
  have e1 := b1 (hS1 _ h)
  have e2 := b2 (by rw [e1]; exact hS2 _ h)
  exact e2.trans e1
theorem k_fr.mono {S1 S : Nat → Bool} {L L1 : List Nat} {f f1 : Nat → wE} (h1 : k_fr S1 L f L1 f1) (hS1 : ∀ t, S t = false → S1 t = false) : k_fr S L f L1 f1 := fun z hz => ⟨(h1 z hz).1, fun h => (h1 z hz).2 (hS1 _ h)⟩
