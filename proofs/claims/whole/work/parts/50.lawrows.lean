/-! ===== the law's own class: rows ===== -/
/-- none of the three exceptions is another one -/
def NC (U : State) : Prop := va_Nc cIA cIS U ∧ va_Nc cIA cIO U ∧ va_Nc cIS cIA U ∧ va_Nc cIS cIO U ∧ va_Nc cIO cIA U ∧ va_Nc cIO cIS U
theorem NC.moved {u U : State} (hvm : u.vm.Alike U.vm) (h : NC u) : NC U := ⟨va_Nc.moved hvm h.1, va_Nc.moved hvm h.2.1, va_Nc.moved hvm h.2.2.1, va_Nc.moved hvm h.2.2.2.1, va_Nc.moved hvm h.2.2.2.2.1, va_Nc.moved hvm h.2.2.2.2.2⟩
def k_IN (κ : Kx) (L : List Nat) (f : Nat → wE) (U : State) : Prop := k_I κ L f U ∧ NC U
theorem k_blindN {κ : Kx} {L : List Nat} {f : Nat → wE} {As : List Value} : FrameBlind (va_Pc As (k_IN κ L f)) := by
  intro a U g mk h
  obtain ⟨h1, h2, h3⟩ := h
  have h4 := (k_blind (κ := κ) (L := L) (f := f) (As := As)) a U g mk ⟨h1, h2⟩
  exact ⟨h4.1, h4.2, h3.moved (Vm.Alike.refl U.vm)⟩
/-- the contract of a method with an exception table -/
def k_MW (l : Launch) (κ : Kx) (y : MethodName) (bytes : ByteArray) (maxL : Nat) (ret : Option FieldType) (hh : List (Nat × Nat × Nat × Nat)) (d mc ms : Nat) (As : List Value) (L : List Nat) (f : Nat → wE) (post : Option Value → List Nat → (Nat → wE) → Prop) : Prop :=
  Met l y [Cond.codeWith y bytes maxL ret hh] (k_rm d mc ms) (va_Pc As (k_IN κ L f)) (k_Q κ post) mc ms (kA κ)
theorem k_headW {l : Launch} {κ : Kx} {y : MethodName} {cc : ByteArray} {nL : Nat} {ret : Option FieldType} {hh : List (Nat × Nat × Nat × Nat)} {d mc ms : Nat} {As : List Value} {L : List Nat} {f : Nat → wE} {post : Option Value → List Nat → (Nat → wE) → Prop} (own : String) (lv : List (Nat × Value)) (ho : y.cls = own) (hy : plainName own = true) (hsl : (lg_sl As).length ≤ nL) (hlv : lv_args 0 As = lv)
    (body : ∀ θ : Kt, θ.2.1 = l → θ.2.2.2.2.2.2.2.2.exceptionTable.toList = tableOf hh → NC θ.2.2.2.1 → k_G θ κ cc nL ret own (k_rm d mc ms) (k_MQ θ κ post mc ms) L f 0 0 0 lv []) : k_MW l κ y cc nL ret hh d mc ms As L f post := by
  subst ho
  unfold k_MW Met
  refine MetFree.of_bodyS (code := cc) (maxLocals := nL) (ret := ret) hy ?_ ?_
  · intro args s m h hn
    obtain ⟨m9, meth, c, hn9, h1, h2, h3, h4, -, h5, h6, -⟩ := Cond.codeWith_spec (atoms_spec (ws := [Cond.codeWith y cc nL ret hh]) h _ List.mem_cons_self)
    cases hn.symm.trans hn9
    exact ⟨meth, c, h1, h2, h3, h4, h5, h6⟩
  · intro p e s m args below meth c s₁ B hml hv _
    obtain ⟨rfl, ⟨hH, hV, hZ, hb⟩, hnc⟩ := hv
    have hh0 : s₁.heap = s.heap := by rw [B.state]; rfl
    have ht : c.exceptionTable.toList = tableOf hh := vx_table (x := y) B (atoms_spec (ws := [Cond.codeWith y cc nL ret hh]) B.pre _ List.mem_cons_self)
    have hE : k_E (p, l, e, s, m, As.toArray, below, meth, c) κ cc nL ret y.cls := ⟨B.exec, B.bytes, hml, findClass_of_methodNamed B.named, hV, hZ, hb, B.returns, B.notSynchronized⟩
    have hl := lv_entry As (n := nL) hsl
    rw [hlv] at hl
    have K : W p l e (headSpec [Cond.codeWith y cc nL ret hh] (k_rm d mc ms)).room s m As.toArray below meth c s.heap [] 0 0 (MQ below (k_Q κ post) As.toArray s mc ms (kA κ)) (entryFrame m As.toArray nL) := by
      rw [lg_entry_eq]
      exact body (p, l, e, s, m, As.toArray, below, meth, c) rfl ht hnc hE s.heap [] _ hH va_S.rf hl
    obtain ⟨t, a1, o, b1, b2, b3, b4⟩ := K s₁ hh0 (Stand.of_body B)
    exact ⟨t, o, a1, b1, b2, b3, b4⟩
/-- an exception of class E over the frame at pc -/
def k_GX (θ : Kt) (κ : Kx) (cc : ByteArray) (nL : Nat) (ret : Option FieldType) (own : String) (R : Room) (Q : State → Prop) (E : String) (L : List Nat) (f : Nat → wE) (k n pc : Nat) (lv : List (Nat × Value)) (st : List Value) : Prop :=
  k_E θ κ cc nL ret own → ∀ (H : Heap) (locs : List Loc) (ls : Array Slot) (ce : Cell) (q : Addr), k_H κ L f H → va_S (kA κ) θ.2.2.2.1.heap H locs → lv_has ls nL lv → H[q]? = some ce → ce.vm = .none → θ.2.2.2.1.vm.findClass E = some ce.cls →
    vx_W θ.1 θ.2.1 θ.2.2.1 R θ.2.2.2.1 θ.2.2.2.2.1 θ.2.2.2.2.2.1 θ.2.2.2.2.2.2.1 θ.2.2.2.2.2.2.2.1 θ.2.2.2.2.2.2.2.2 H locs k n Q (F0 θ.2.2.2.2.1 pc ls st) q
def k_wBW (own : String) (idx : Nat) (y : MethodName) (bytes : ByteArray) (maxL : Nat) (ret : Option FieldType) (hh : List (Nat × Nat × Nat × Nat)) (nA : Nat) : Prop :=
  (Cond.methodLink own idx y ∈ lw_tbl ∧ Cond.initialized y.cls ∈ lw_tbl ∧ Cond.codeWith y bytes maxL ret hh ∈ lw_tbl) ∧ (y.cls ≠ "java/lang/invoke/MethodHandle" ∧ y.cls ≠ "java/lang/invoke/VarHandle") ∧ (parseMethodDescriptor y.desc).map (fun d => d.parameters.length) = some nA
section LawRows
variable {θ : Kt} {κ : Kx} {cc : ByteArray} {nL : Nat} {ret : Option FieldType} {own : String} {R : Room} {Q : State → Prop} {L : List Nat} {f : Nat → wE} {k n pc : Nat} {lv : List (Nat × Value)} {st st0 : List Value}
variable {y : MethodName} {bytes : ByteArray} {maxL d mc ms idx nA : Nat} {ret' : Option FieldType} {post : Option Value → List Nat → (Nat → wE) → Prop} {As : List Value} {b tg ci : Nat} {fs : List Value} {C : String} {T : u_T} {N : Nat}
/-- a call that returns or throws, one of our class -/
theorem k_useX {P : String → List Nat → (Nat → wE) → Prop} (M : k_MX θ.2.1 κ y bytes maxL ret' d mc ms (.ref b :: As) L f post P) (w : k_wB own idx y bytes maxL ret' nA) (w2 : Cond.instanceMethod y ∈ lw_tbl ∧ Cond.selects C y y ∈ lw_tbl) (hn : As.length = nA) (hst : st0 = As.reverse ++ .ref b :: st) (hc : Cl L f b (tg, .inr (ci, fs))) (hci : vwCl[ci]? = some (C, T, N)) (hR : d + 1 ≤ R.frames ∧ 8 + (maxL + 11) + 30 * d ≤ R.locals) (hcat : (st.map fun v => v.category).sum ≤ 8) (dc : decode cc pc = .ok (.invokevirtual idx, 3)) (hf : k + mc ≤ R.cells ∧ n + ms ≤ R.slots)
    (kk : ∀ (v : Option Value) (L' : List Nat) (f' : Nat → wE), post v L' f' → k_G θ κ cc nL ret own R Q L' f' (k + mc) (n + ms) (pc + 3) lv (v.toList ++ st))
    (kx : ∀ (E : String) (L' : List Nat) (f' : Nat → wE), P E L' f' → k_GX θ κ cc nL ret own R Q E L' f' (k + mc) (n + ms) pc lv st) : k_G θ κ cc nL ret own R Q L f k n pc lv st0 := by
  intro E H locs ls hH hS hl T0 hT X
  have hrun := vx_runV (p := θ.1) (l := θ.2.1) (e := θ.2.2.1) (R := R) (below := θ.2.2.2.2.2.2.1) (meth := θ.2.2.2.2.2.2.2.1) (C := C) (g := F0 θ.2.2.2.2.1 pc ls st0) (H := H) (locs := locs) (cells := k) (slots := n) E.fix M ⟨w.cb E hR, E.word w2.1 rfl, E.word w2.2 rfl⟩ ⟨k_blind, k_recv E hH hc hci, fun U hU hW => ⟨rfl, E.start hH hS hU hW⟩⟩ rfl hn hl.1 hst (lv_room hcat) dc hf
  rcases hrun T0 hT X with ⟨v, s0, t, T', L9, h0, X', hL, e1, e2, ⟨⟨v', L', f', hv, hp, hH'⟩, hz, hkp⟩, stp⟩ | ⟨q, s0, t, T', L9, Ex, ce, h0, X', hL, e1, e2, ⟨⟨L', f', hp, hH'⟩, hz, hkp⟩, hce, hcv, hcl, stp⟩
  · cases hv
    rw [h0] at hz hkp
    have hS' : va_S (kA κ) θ.2.2.2.1.heap T'.heap (locs ++ L9) := ⟨Nat.le_trans hS.1 (by rw [e1]; exact hz), fun q h1 h2 => by rw [e1, hkp q (Nat.lt_of_lt_of_le h1 hS.1) h2]; exact hS.2.1 q h1 h2, fun q hq => by
      rcases List.mem_append.mp hq with h | h
      · exact hS.2.2 q h
      · exact hL q h⟩
    obtain ⟨t2, a1, b1⟩ := kk v L' f' hp E T'.heap (locs ++ L9) ls (by rw [e1]; exact hH') hS' hl T' rfl X'
    exact ⟨t2, stp t2 a1, b1⟩
  · rw [h0] at hz hkp
    have hS' : va_S (kA κ) θ.2.2.2.1.heap T'.heap (locs ++ L9) := ⟨Nat.le_trans hS.1 (by rw [e1]; exact hz), fun q h1 h2 => by rw [e1, hkp q (Nat.lt_of_lt_of_le h1 hS.1) h2]; exact hS.2.1 q h1 h2, fun q hq => by
      rcases List.mem_append.mp hq with h | h
      · exact hS.2.2 q h
      · exact hL q h⟩
    obtain ⟨t2, a1, b1⟩ := kx Ex L' f' hp E T'.heap (locs ++ L9) ls ce q (by rw [e1]; exact hH') hS' hl (by rw [e1]; exact hce) hcv hcl T' rfl X'
    exact ⟨t2, stp.trans a1, b1⟩
theorem k_catch {E nm : String} (pre : List ExceptionTableEntry) (x : ExceptionTableEntry) (suf : List ExceptionTableEntry) (hsplit : θ.2.2.2.2.2.2.2.2.exceptionTable.toList = pre ++ x :: suf)
    (hpass : ∀ z ∈ pre, covers z pc = false ∨ (z.catchType ≠ 0 ∧ ∃ nm : String, Cond.classLink own z.catchType nm ∈ lw_tbl ∧ va_Nc E nm θ.2.2.2.1)) (hx : covers x pc = true) (h0 : x.catchType ≠ 0) (hlink : Cond.classLink own x.catchType nm ∈ lw_tbl) (hcast : Cond.castable E nm ∈ lw_tbl)
    (kk : ∀ q : Nat, k_G θ κ cc nL ret own R Q L f k n x.handlerPc lv [.ref q]) : k_GX θ κ cc nL ret own R Q E L f k n pc lv st := by
  intro EE H locs ls ce q hH hS hl hce hcv hcl
  exact vx_catch EE.2.2.2.1 pre x suf hsplit (fun z hz => by
    rcases hpass z hz with h | ⟨a1, nm1, a2, a3⟩
    · exact Or.inl h
    · exact Or.inr ⟨a1, nm1, EE.word a2 rfl, a3⟩) hx h0 (EE.word hlink rfl) (EE.word hcast rfl) hce hcv hcl (kk q EE H locs ls hH hS hl)
theorem k_runSW {hh : List (Nat × Nat × Nat × Nat)} (M : k_MW θ.2.1 κ y bytes maxL ret' hh d mc ms As L f post) (hnc : NC θ.2.2.2.1) (w : k_wBW own idx y bytes maxL ret' hh nA) (w2 : Cond.static y ∈ lw_tbl) (hn : As.length = nA) (hst : st0 = As.reverse ++ st) (hR : d + 1 ≤ R.frames ∧ 8 + (maxL + 11) + 30 * d ≤ R.locals) (hcat : (st.map fun v => v.category).sum ≤ 8) (dc : decode cc pc = .ok (.invokestatic idx, 3)) : k_C θ κ cc nL ret own R L f mc ms pc lv st0 st post := by
  intro E H locs ls k n hH hS hl hf
  obtain ⟨⟨w1, w3, w4⟩, w5, w6⟩ := w
  have hcode := E.word w4 rfl
  exact ⟨_, vx_runSW (hh := hh) E.fix M ⟨⟨rfl, rfl, hR.1, hR.2, fun w hw a' U hW => by
      rw [List.mem_singleton.mp hw]
      exact word_at hW (Or.inl rfl) hcode, List.mem_singleton.mpr rfl⟩, hcode, E.word w3 rfl, w5, fun sig h => by
      rw [h] at w6
      exact (Option.some.inj w6).symm, E.word w1 rfl, E.word w2 rfl⟩ ⟨k_blindN, fun U hU hW => ⟨rfl, E.start hH hS hU hW, hnc.moved hW.alike⟩⟩ rfl hn hl.1 hst (lv_room hcat) dc hf⟩
/-! the script, raw numbers -/
theorem k_sld {xs : Nat → Int32} {z : Int} (j : Nat) (hX : va_X b N xs θ.2.2.2.1 θ.2.2.2.1.heap) (hb : b < θ.2.2.2.1.heap.size) (hk : b < κ.2.1) (hz : z = (j : Int)) (hj : j < N) (hN : N < 2147483648) (dc : decode cc pc = .ok (.iaload, 1)) (kk : k_G θ κ cc nL ret own R Q L f k n (pc + 1) lv (.int (iI (xs j).toInt) :: st)) : k_G θ κ cc nL ret own R Q L f k n pc lv (.int (iI z) :: .ref b :: st) :=
  fun E H locs ls hH hS hl => va_sld E.1 E.2.1 hX hb (Nat.not_le.mpr hk) hS (iI_in hz hj hN) dc (by
    rw [iI_cl hz (by omega), iI_of (xs j)]
    exact kk E H locs ls hH hS hl)
theorem k_slen {xs : Nat → Int32} (hX : va_X b N xs θ.2.2.2.1 θ.2.2.2.1.heap) (hb : b < θ.2.2.2.1.heap.size) (hk : b < κ.2.1) (dc : decode cc pc = .ok (.arraylength, 1)) (kk : k_G θ κ cc nL ret own R Q L f k n (pc + 1) lv (.int (iI (N : Int)) :: st)) : k_G θ κ cc nL ret own R Q L f k n pc lv (.ref b :: st) :=
  fun E H locs ls hH hS hl => va_slen E.1 E.2.1 hX hb (Nat.not_le.mpr hk) hS dc (by
    rw [show Int32.ofNat N = iI (N : Int) from (iI_nI N).symm]
    exact kk E H locs ls hH hS hl)
theorem k_iandR {x y : Int32} (dc : decode cc pc = .ok (.iand, 1)) (kk : k_G θ κ cc nL ret own R Q L f k n (pc + 1) lv (.int (iI (x &&& y).toInt) :: st)) : k_G θ κ cc nL ret own R Q L f k n pc lv (.int y :: .int x :: st) :=
  fun E H locs ls hH hS hl => lv_iand E.1 E.2.1 dc (by
    rw [iI_of (x &&& y)]
    exact kk E H locs ls hH hS hl)
theorem k_i2lR {x : Int32} (dc : decode cc pc = .ok (.i2l, 1)) (kk : k_G θ κ cc nL ret own R Q L f k n (pc + 1) lv (.long (lI x.toInt) :: st)) : k_G θ κ cc nL ret own R Q L f k n pc lv (.int x :: st) :=
  fun E H locs ls hH hS hl => lv_i2l E.1 E.2.1 dc ((congrArg Int32.toInt64 (iI_of x)).trans (iI_toL (inI_of x))) (kk E H locs ls hH hS hl)
theorem k_icmp_eqR {x y : Int32} {off : Int} (tgt : Nat) (dc : decode cc pc = .ok (.if_icmp .eq off, 3)) (ht : (pc : Int) + off = (tgt : Int)) (kt : x = y → k_G θ κ cc nL ret own R Q L f k n tgt lv st) (kf : x ≠ y → k_G θ κ cc nL ret own R Q L f k n (pc + 3) lv st) : k_G θ κ cc nL ret own R Q L f k n pc lv (.int y :: .int x :: st) :=
  fun E H locs ls hH hS hl => lv_icmp_eq E.1 E.2.1 dc ht (fun q => kt q E H locs ls hH hS hl) (fun q => kf q E H locs ls hH hS hl)
theorem k_if_eqR {x : Int32} {off : Int} (tgt : Nat) (dc : decode cc pc = .ok (.ifCond .eq off, 3)) (ht : (pc : Int) + off = (tgt : Int)) (kt : x = 0 → k_G θ κ cc nL ret own R Q L f k n tgt lv st) (kf : x ≠ 0 → k_G θ κ cc nL ret own R Q L f k n (pc + 3) lv st) : k_G θ κ cc nL ret own R Q L f k n pc lv (.int x :: st) :=
  fun E H locs ls hH hS hl => lv_if_eq E.1 E.2.1 dc ht (fun q => kt q E H locs ls hH hS hl) (fun q => kf q E H locs ls hH hS hl)
theorem k_if_neR {x : Int32} {off : Int} (tgt : Nat) (dc : decode cc pc = .ok (.ifCond .ne off, 3)) (ht : (pc : Int) + off = (tgt : Int)) (kt : x ≠ 0 → k_G θ κ cc nL ret own R Q L f k n tgt lv st) (kf : x = 0 → k_G θ κ cc nL ret own R Q L f k n (pc + 3) lv st) : k_G θ κ cc nL ret own R Q L f k n pc lv (.int x :: st) :=
  fun E H locs ls hH hS hl => lv_if_ne E.1 E.2.1 dc ht (fun q => kt q E H locs ls hH hS hl) (fun q => kf q E H locs ls hH hS hl)
/-- two longs that are one, and 'if they differ' -/
theorem k_lcmpS {x : Int64} {off : Int} (tgt : Nat) (d0 : decode cc pc = .ok (.lcmp, 1)) (dc : decode cc (pc + 1) = .ok (.ifCond .eq off, 3)) (ht : ((pc + 1 : Nat) : Int) + off = (tgt : Int)) (kt : k_G θ κ cc nL ret own R Q L f k n tgt lv st) : k_G θ κ cc nL ret own R Q L f k n pc lv (.long x :: .long x :: st) :=
  fun E H locs ls hH hS hl => W.lcmp E.1 E.2.1 d0 (lv_if_eq E.1 E.2.1 dc ht (fun _ => kt E H locs ls hH hS hl) (fun q => absurd ((lg_cmp_eq x x).mpr rfl) q))
theorem k_dcmp {x y : UInt64} {op : CmpOp} (dc : decode cc pc = .ok (.dcmp op, 1)) (kk : k_G θ κ cc nL ret own R Q L f k n (pc + 1) lv (.int (Op.cmpValue (FP.dcmp x y) op) :: st)) : k_G θ κ cc nL ret own R Q L f k n pc lv (.double y :: .double x :: st) :=
  fun E H locs ls hH hS hl => lv_dcmp E.1 E.2.1 dc (kk E H locs ls hH hS hl)
theorem k_dload {x : UInt64} {i : Nat} (j : Nat) (dc : decode cc pc = .ok (.dload i, 2)) (hj : lv[j]? = some (i, .double x)) (kk : k_G θ κ cc nL ret own R Q L f k n (pc + 2) lv (.double x :: st)) : k_G θ κ cc nL ret own R Q L f k n pc lv st :=
  fun E H locs ls hH hS hl => lv_dload E.1 E.2.1 dc (lv_at hl j hj) (kk E H locs ls hH hS hl)
theorem k_dstore {x : UInt64} {i : Nat} (lv' : List (Nat × Value)) (dc : decode cc pc = .ok (.dstore i, 2)) (hn : i + 1 < nL) (he : (i, Value.double x) :: lv.filter (fun q => !(q.1 == i) && (!(q.1 == i + 1) && !(q.1 + 1 == i && q.2.category == 2))) = lv') (kk : k_G θ κ cc nL ret own R Q L f k n (pc + 2) lv' st) : k_G θ κ cc nL ret own R Q L f k n pc lv (.double x :: st) :=
  fun E H locs ls hH hS hl => lv_dstore E.1 E.2.1 dc hl hn he (fun ls' hl' => kk E H locs ls' hH hS hl')
end LawRows
/-! ===== what the law knows between its calls ===== -/
def OutR (κ : Kx) (L : List Nat) (f : Nat → wE) (ou : Nat) (g : Int) : Prop := ∃ G : Nat → Int, Cl L f ou (31, .inl (κ.2.2.1 1, 1, .inr (.inl (fun u9 => lI (G u9))))) ∧ G 0 = g
theorem OutR.fr {κ : Kx} {L L' : List Nat} {f f' : Nat → wE} {ou : Nat} {g : Int} {S : Nat → Bool} (h : OutR κ L f ou g) (hf : k_fr S L f L' f') (hS : S 31 = false) : OutR κ L' f' ou g := by
  obtain ⟨G, h1, h2⟩ := h
  exact ⟨G, h1.fr hf hS, h2⟩
def SO (v : Nat) : Bool := SC v || v == 31
theorem SO_SC : ∀ v, SO v = false → SC v = false := fun v h => (Bool.or_eq_false_iff.mp h).1
theorem SO_31 : ∀ v, SO v = false → (v == 31) = false := fun v h => (Bool.or_eq_false_iff.mp h).2
theorem idSO : ∀ v, SO v = false → SO v = false := fun _ h => h
