/-! ===== methods that may throw ===== -/
abbrev xN : List String := ["java/lang/RuntimeException", "java/lang/Exception"]
def x_ok (ik ic : Nat) (cls : String) : Bool := (Cond.classLink "TideTable" ik cls :: Cond.initialized cls :: vx_atS "TideTable" ic cls xN).all (fun w => decide (w ∈ lw_tbl) && (k_ok w && vx_ot w))
set_option maxRecDepth 100000 in
theorem x_IA : x_ok 41 45 "java/lang/IllegalArgumentException" = true := by decide +kernel
set_option maxRecDepth 100000 in
theorem x_IS : x_ok 59 63 "java/lang/IllegalStateException" = true := by decide +kernel
set_option maxRecDepth 100000 in
theorem x_IO : x_ok 77 81 "java/lang/IndexOutOfBoundsException" = true := by decide +kernel
def k_XC (κ : Kx) (P : String → List Nat → (Nat → wE) → Prop) : String → State → State → Prop := fun E st t => (∃ (L' : List Nat) (f' : Nat → wE), P E L' f' ∧ k_H κ L' f' t.heap) ∧ va_F (kA κ) st t
/-- the contract of a method that may throw: it comes back with post, or throws with P -/
def k_MX (l : Launch) (κ : Kx) (y : MethodName) (bytes : ByteArray) (maxL : Nat) (ret : Option FieldType) (d mc ms : Nat) (As : List Value) (L : List Nat) (f : Nat → wE) (post : Option Value → List Nat → (Nat → wE) → Prop) (P : String → List Nat → (Nat → wE) → Prop) : Prop :=
  vx_Met l y [Cond.code y bytes maxL ret] (k_rm d mc ms) (va_Pc As (k_I κ L f)) (k_Q κ post) (k_XC κ P) mc ms (kA κ)
def k_XMQ (θ : Kt) (κ : Kx) (post : Option Value → List Nat → (Nat → wE) → Prop) (P : String → List Nat → (Nat → wE) → Prop) (mc ms : Nat) : State → Prop := vx_MQ θ.2.2.2.2.2.2.1 (k_Q κ post) (k_XC κ P) θ.2.2.2.2.2.1 θ.2.2.2.1 mc ms (kA κ)
theorem k_headX {l : Launch} {κ : Kx} {y : MethodName} {cc : ByteArray} {nL : Nat} {ret : Option FieldType} {d mc ms : Nat} {As : List Value} {L : List Nat} {f : Nat → wE} {post : Option Value → List Nat → (Nat → wE) → Prop} {P : String → List Nat → (Nat → wE) → Prop} (own : String) (lv : List (Nat × Value)) (ho : y.cls = own) (hy : plainName own = true) (hsl : (lg_sl As).length ≤ nL) (hlv : lv_args 0 As = lv)
    (body : ∀ θ : Kt, θ.2.1 = l → (y.name = "<init>" → θ.2.2.2.2.2.2.2.1.name = "<init>") → (∀ x ∈ θ.2.2.2.2.2.2.2.2.exceptionTable.toList, False) → k_G θ κ cc nL ret own (k_rm d mc ms) (k_XMQ θ κ post P mc ms) L f 0 0 0 lv []) : k_MX l κ y cc nL ret d mc ms As L f post P := by
  subst ho
  refine vx_ofW (cc := cc) (maxL := nL) (ret := ret) hy rfl ?_
  intro p e s m args below meth c s₁ B hml ht hv
  obtain ⟨rfl, hH, hV, hZ, hb⟩ := hv
  have hE : k_E (p, l, e, s, m, As.toArray, below, meth, c) κ cc nL ret y.cls := ⟨B.exec, B.bytes, hml, findClass_of_methodNamed B.named, hV, hZ, hb, B.returns, B.notSynchronized⟩
  have hl := lv_entry As (n := nL) hsl
  rw [lg_entry_eq]
  rw [hlv] at hl
  exact body (p, l, e, s, m, As.toArray, below, meth, c) rfl (fun h => (name_of_methodNamed B.named B.method).1.trans h) ht hE s.heap [] _ hH va_S.rf hl
section Throws
variable {θ : Kt} {κ : Kx} {cc : ByteArray} {nL : Nat} {ret : Option FieldType} {own : String} {R : Room} {L : List Nat} {f : Nat → wE} {k n pc mc ms : Nat} {lv : List (Nat × Value)} {st : List Value} {post : Option Value → List Nat → (Nat → wE) → Prop} {P : String → List Nat → (Nat → wE) → Prop}
theorem k_xr (h : k_G θ κ cc nL ret own R (k_MQ θ κ post mc ms) L f k n pc lv st) : k_G θ κ cc nL ret own R (k_XMQ θ κ post P mc ms) L f k n pc lv st := fun E H locs ls hH hS hl => vx_ret (h E H locs ls hH hS hl)
theorem k_Hkeep {H H1 : Heap} (h : k_H κ L f H) (hk : ∀ q : Nat, q < H.size → H1[q]? = H[q]?) : k_H κ L f H1 := ⟨h.1.kept (fun _ _ hq => hk _ (vx_lt h.1 hq)), h.2⟩
theorem k_throw {ik is ic si : Nat} {cls text : String} (hts : θ.2.1.stackTraces = false) (hth : ∀ x ∈ θ.2.2.2.2.2.2.2.2.exceptionTable.toList, False) (hx : x_ok ik ic cls = true) (hfit : Bundle.fit cls = true) (hst : k_strs[si]? = some (is, text))
    (d0 : decode cc pc = .ok (.new ik, 3)) (d3 : decode cc (pc + 3) = .ok (.dup, 1)) (d4 : decode cc (pc + 4) = .ok (.ldc is, 2)) (d6 : decode cc (pc + 6) = .ok (.invokespecial ic, 3)) (d9 : decode cc (pc + 9) = .ok (.athrow, 1))
    (hR : 6 ≤ R.frames ∧ 90 ≤ R.locals ∧ k + 1 ≤ R.cells ∧ n + 6 ≤ R.slots) (hcat : (st.map fun v => v.category).sum ≤ 8) (hm : k + 1 ≤ mc ∧ n + 6 ≤ ms) (hp : P cls L f) : k_G θ κ cc nL ret "TideTable" R (k_XMQ θ κ post P mc ms) L f k n pc lv st := by
  intro E H locs ls hH hS hl
  have hall := List.all_eq_true.mp hx
  have hw : ∀ w ∈ Cond.classLink "TideTable" ik cls :: Cond.initialized cls :: vx_atS "TideTable" ic cls xN, w.before θ.2.2.2.2.2.1 θ.2.2.2.1 = true := fun w hw => by
    have h1 := hall w hw
    rw [Bool.and_eq_true, Bool.and_eq_true] at h1
    exact E.word (of_decide_eq_true h1.1) h1.2.1
  have hZ := E.2.2.2.2.2.1
  exact vx_throwS (names := xN) E.1 E.2.1 hts E.2.2.2.1 hfit (by decide) (hw _ List.mem_cons_self) (hw _ (List.mem_cons_of_mem _ List.mem_cons_self)) (E.2.2.2.2.1.2.2.1 si _ hst) (fun w h => hw w (List.mem_cons_of_mem _ (List.mem_cons_of_mem _ h)))
    (fun w h => by
      have h1 := hall w h
      rw [Bool.and_eq_true, Bool.and_eq_true] at h1
      exact h1.2.2)
    hZ.2.2.2.2.2.1 hZ.2.2.2.2.2.2 hS (hl.1.trans E.2.2.1.symm) d0 d3 d4 d6 d9 (fun x hx => (hth x hx).elim) (by show 5 < R.frames; omega) (by
      have := hR.2.1
      simp only [List.length_cons, List.length_nil]
      omega) hR.2.2.1 hR.2.2.2 E.2.2.2.2.2.2.2.2
    (fun t _ hsz hq => ⟨⟨L, f, hp, k_Hkeep hH hq⟩, Nat.le_trans hS.1 hsz, fun q h1 h2 => (hq q (Nat.lt_of_lt_of_le h1 hS.1)).trans (hS.2.1 q h1 h2)⟩) hS.2.2 hm.1 hm.2
theorem k_throwW {ik is ic si : Nat} {cls text : String} (hts : θ.2.1.stackTraces = false) (hth : ∀ x ∈ θ.2.2.2.2.2.2.2.2.exceptionTable.toList, False) (hx : x_ok ik ic cls = true) (hfit : Bundle.fit cls = true) (hst : k_strs[si]? = some (is, text))
    (d0 : decode cc pc = .ok (.new ik, 3)) (d3 : decode cc (pc + 3) = .ok (.dup, 1)) (d4 : decode cc (pc + 4) = .ok (.ldc_w is, 3)) (d7 : decode cc (pc + 7) = .ok (.invokespecial ic, 3)) (d10 : decode cc (pc + 10) = .ok (.athrow, 1))
    (hR : 6 ≤ R.frames ∧ 90 ≤ R.locals ∧ k + 1 ≤ R.cells ∧ n + 6 ≤ R.slots) (hcat : (st.map fun v => v.category).sum ≤ 8) (hm : k + 1 ≤ mc ∧ n + 6 ≤ ms) (hp : P cls L f) : k_G θ κ cc nL ret "TideTable" R (k_XMQ θ κ post P mc ms) L f k n pc lv st := by
  intro E H locs ls hH hS hl
  have hall := List.all_eq_true.mp hx
  have hw : ∀ w ∈ Cond.classLink "TideTable" ik cls :: Cond.initialized cls :: vx_atS "TideTable" ic cls xN, w.before θ.2.2.2.2.2.1 θ.2.2.2.1 = true := fun w hw => by
    have h1 := hall w hw
    rw [Bool.and_eq_true, Bool.and_eq_true] at h1
    exact E.word (of_decide_eq_true h1.1) h1.2.1
  have hZ := E.2.2.2.2.2.1
  exact vx_throwSW (names := xN) E.1 E.2.1 hts E.2.2.2.1 hfit (by decide) (hw _ List.mem_cons_self) (hw _ (List.mem_cons_of_mem _ List.mem_cons_self)) (E.2.2.2.2.1.2.2.1 si _ hst) (fun w h => hw w (List.mem_cons_of_mem _ (List.mem_cons_of_mem _ h)))
    (fun w h => by
      have h1 := hall w h
      rw [Bool.and_eq_true, Bool.and_eq_true] at h1
      exact h1.2.2)
    hZ.2.2.2.2.2.1 hZ.2.2.2.2.2.2 hS (hl.1.trans E.2.2.1.symm) d0 d3 d4 d7 d10 (fun x hx => (hth x hx).elim) (by show 5 < R.frames; omega) (by
      have := hR.2.1
      simp only [List.length_cons, List.length_nil]
      omega) hR.2.2.1 hR.2.2.2 E.2.2.2.2.2.2.2.2
    (fun t _ hsz hq => ⟨⟨L, f, hp, k_Hkeep hH hq⟩, Nat.le_trans hS.1 hsz, fun q h1 h2 => (hq q (Nat.lt_of_lt_of_le h1 hS.1)).trans (hS.2.1 q h1 h2)⟩) hS.2.2 hm.1 hm.2
end Throws
