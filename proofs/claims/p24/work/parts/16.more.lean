/-! ===== more rows: the JDK's lists ===== -/
section More
variable {θ : Kt} {κ : Kx} {cc : ByteArray} {nL : Nat} {ret : Option FieldType} {own : String} {R : Room} {Q : State → Prop} {L : List Nat} {f : Nat → wE} {k n pc : Nat} {lv : List (Nat × Value)} {st : List Value}
theorem k_acmp_eq {a b : Nat} {off : Int} (tgt : Nat) (d : decode cc pc = .ok (.if_acmp .eq off, 3)) (ht : (pc : Int) + off = (tgt : Int)) (kt : a = b → k_G θ κ cc nL ret own R Q L f k n tgt lv st) (kf : a ≠ b → k_G θ κ cc nL ret own R Q L f k n (pc + 3) lv st) : k_G θ κ cc nL ret own R Q L f k n pc lv (.ref b :: .ref a :: st) :=
  fun E H locs ls hH hS hl => lv_acmp_eq (rx := some a) (ry := some b) E.1 E.2.1 d ht (fun h => kt (Option.some.inj h) E H locs ls hH hS hl) (fun h => kf (fun z => h (congrArg some z)) E H locs ls hH hS hl)
theorem k_acmp_ne {a b : Nat} {off : Int} (tgt : Nat) (d : decode cc pc = .ok (.if_acmp .ne off, 3)) (ht : (pc : Int) + off = (tgt : Int)) (kt : a ≠ b → k_G θ κ cc nL ret own R Q L f k n tgt lv st) (kf : a = b → k_G θ κ cc nL ret own R Q L f k n (pc + 3) lv st) : k_G θ κ cc nL ret own R Q L f k n pc lv (.ref b :: .ref a :: st) :=
  fun E H locs ls hH hS hl => lv_acmp_ne (rx := some a) (ry := some b) E.1 E.2.1 d ht (fun h => kt (fun z => h (congrArg some z)) E H locs ls hH hS hl) (fun h => kf (Option.some.inj h) E H locs ls hH hS hl)
theorem k_ishr1 {x : Int} (j : Nat) (hx : x = (j : Int)) (hj : j < 2147483648) (d : decode cc pc = .ok (.ishr, 1)) (kk : k_G θ κ cc nL ret own R Q L f k n (pc + 1) lv (.int (iI ((j / 2 : Nat) : Int)) :: st)) : k_G θ κ cc nL ret own R Q L f k n pc lv (.int (iI 1) :: .int (iI x) :: st) :=
  fun E H locs ls hH hS hl => lv_ishr E.1 E.2.1 d (by
    have e : iI x >>> (iI 1 &&& 31) = iI ((j / 2 : Nat) : Int) := by
      subst hx
      rw [iI_nI, iI_nI]
      have h := pk_shrN (n := j) hj (iI 1 &&& 31) 1 (by decide)
      rw [Nat.pow_one] at h
      exact h
    rw [e]
    exact kk E H locs ls hH hS hl)
theorem k_getsD {i : Nat} (hq : Cond.fieldLink own i "java/util/ArrayList" "DEFAULTCAPACITY_EMPTY_ELEMENTDATA" "[Ljava/lang/Object;" ∈ lw_tbl) (dc : decode cc pc = .ok (.getstatic i, 3)) (kk : k_G θ κ cc nL ret own R Q L f k n (pc + 3) lv (.ref (κ.2.2.2 4) :: st)) : k_G θ κ cc nL ret own R Q L f k n pc lv st :=
  fun E H locs ls hH hS hl => va_gets E.1 E.2.1 E.2.2.2.2.2.1.2.2.2.2.1.1 hS E.2.2.2.1 (E.word hq rfl) (fun _ h => h) dc (kk E H locs ls hH hS hl)
theorem k_tlenD (dc : decode cc pc = .ok (.arraylength, 1)) (kk : k_G θ κ cc nL ret own R Q L f k n (pc + 1) lv (.int (iI 0) :: st)) : k_G θ κ cc nL ret own R Q L f k n pc lv (.ref (κ.2.2.2 4) :: st) :=
  fun E H locs ls hH hS hl => va_tlen E.1 E.2.1 E.2.2.2.2.2.1.2.2.2.2.1.2 hS (by decide) dc (kk E H locs ls hH hS hl)
theorem k_ldcM {i : Nat} (hq : Cond.classLink own i "[Ljava/lang/Object;" ∈ lw_tbl) (d : decode cc pc = .ok (.ldc i, 2)) (kk : k_G θ κ cc nL ret own R Q L f k n (pc + 2) lv (.ref (κ.2.2.2 5) :: st)) : k_G θ κ cc nL ret own R Q L f k n pc lv st :=
  fun E H locs ls hH hS hl => va_ldcM E.1 E.2.1 E.2.2.2.1 (E.word hq rfl) E.2.2.2.2.1.2.2.2.2 d (kk E H locs ls hH hS hl)
theorem k_oName {s : State} {cA : ClassId} (h : va_RA s cA (.object "java/lang/Object")) : s.vm.findClass "[Ljava/lang/Object;" = some cA := va_nmO h rfl
theorem k_orecv {a tg N : Nat} {G : Nat → Option Nat} (E : k_E θ κ cc nL ret own) {H : Heap} (hH : k_H κ L f H) (hc : Cl L f a (tg, .inl (κ.2.2.1 3, N, .inr (.inr (.inr (.inr G)))))) : ∃ cell : Cell, H[a]? = some cell ∧ cell.vm.isStatics = false ∧ θ.2.2.2.1.vm.findClass "[Ljava/lang/Object;" = some cell.cls := by
  obtain ⟨q0, hq0⟩ := k_pos hc
  refine ⟨_, hH.1 q0 _ hq0, rfl, ?_⟩
  exact k_oName (E.K.2 3 (κ.2.2.1 3, .object "java/lang/Object") rfl).2
theorem k_getC {a tg N i : Nat} {G : Nat → Option Nat} (h1 : Cond.methodLink own i ⟨"java/lang/Object", "getClass", "()Ljava/lang/Class;"⟩ ∈ lw_tbl) (h2 : Cond.declares ⟨"java/lang/Object", "getClass", "()Ljava/lang/Class;"⟩ ∈ lw_tbl) (h3 : Cond.selects "[Ljava/lang/Object;" ⟨"java/lang/Object", "getClass", "()Ljava/lang/Class;"⟩ ⟨"java/lang/Object", "getClass", "()Ljava/lang/Class;"⟩ ∈ lw_tbl) (h4 : Cond.instanceMethod ⟨"java/lang/Object", "getClass", "()Ljava/lang/Class;"⟩ ∈ lw_tbl) (h5 : Cond.native ⟨"java/lang/Object", "getClass", "()Ljava/lang/Class;"⟩ ∈ lw_tbl)
    (hc : Cl L f a (tg, .inl (κ.2.2.1 3, N, .inr (.inr (.inr (.inr G)))))) (hf : 1 ≤ R.frames) (hlo : (st.map fun v => v.category).sum + 14 ≤ R.locals) (d : decode cc pc = .ok (.invokevirtual i, 3)) (kk : k_G θ κ cc nL ret own R Q L f k n (pc + 3) lv (.ref (κ.2.2.2 5) :: st)) : k_G θ κ cc nL ret own R Q L f k n pc lv (.ref a :: st) :=
  fun E H locs ls hH hS hl => va_getC E.1 E.2.1 (by rw [E.2.2.1]; exact hl.1.symm) E.2.2.2.1 (E.word h1 rfl) (E.word h2 rfl) (E.word h3 rfl) (E.word h4 rfl) (E.word h5 rfl) E.2.2.2.2.1.2.2.2.2 (k_orecv E hH hc) hf hlo d (kk E H locs ls hH hS hl)
theorem k_castA {a tg N i : Nat} {G : Nat → Option Nat} (h1 : Cond.classLink own i "[Ljava/lang/Object;" ∈ lw_tbl) (hc : Cl L f a (tg, .inl (κ.2.2.1 3, N, .inr (.inr (.inr (.inr G)))))) (d : decode cc pc = .ok (.checkcast i, 3)) (kk : k_G θ κ cc nL ret own R Q L f k n (pc + 3) lv (.ref a :: st)) : k_G θ κ cc nL ret own R Q L f k n pc lv (.ref a :: st) := by
  intro E H locs ls hH hS hl
  obtain ⟨q0, hq0⟩ := k_pos hc
  exact va_castA E.1 E.2.1 E.2.2.2.1 (E.word h1 rfl) hH.1 q0 hq0 (k_oName (E.K.2 3 (κ.2.2.1 3, .object "java/lang/Object") rfl).2) d (kk E H locs ls hH hS hl)
/-- System.arraycopy(a0, 0, a, 0, j): the first j elements, objects of one class -/
theorem k_copyq {a0 a t0 t1 n0 n1 i ci : Nat} {g0 g1 : Nat → Option Nat} {r : vw_C} {x : Int} (j : Nat) (h1 : Cond.methodLink own i arraycopyName ∈ lw_tbl) (h2 : Cond.native arraycopyName ∈ lw_tbl) (h3 : Cond.static arraycopyName ∈ lw_tbl) (h4 : Cond.initialized "java/lang/System" ∈ lw_tbl)
    (hc0 : Cl L f a0 (t0, .inl (κ.2.2.1 3, n0, .inr (.inr (.inr (.inr g0)))))) (hc1 : Cl L f a (t1, .inl (κ.2.2.1 3, n1, .inr (.inr (.inr (.inr g1)))))) (hx : x = (j : Int)) (hj0 : j ≤ n0) (hj1 : j ≤ n1) (hjm : j < 2147483648) (hci : vwCl[ci]? = some r) (hq : Cond.castable r.1 "java/lang/Object" ∈ lw_tbl) (hel : ∀ m, m < j → ∀ y, g0 m = some y → ∃ (t : Nat) (fs : List Value), Cl L f y (t, .inr (ci, fs)))
    (hf : 1 ≤ R.frames) (hlo : (st.map fun v => v.category).sum + (nativeFrameWords "java/lang/System" "arraycopy" 5 + 11) ≤ R.locals) (d : decode cc pc = .ok (.invokestatic i, 3))
    (kk : ∀ (f' : Nat → wE) (g' : Nat → Option Nat), (∀ b, b ≠ a → f' b = f b) → Cl L f' a (t1, .inl (κ.2.2.1 3, n1, .inr (.inr (.inr (.inr g'))))) → (∀ m, m < j → g' m = g0 m) → k_G θ κ cc nL ret own R Q L f' k n (pc + 3) lv st) : k_G θ κ cc nL ret own R Q L f k n pc lv (.int (iI x) :: .int (iI 0) :: .ref a :: .int (iI 0) :: .ref a0 :: st) := by
  intro E H locs ls hH hS hl
  obtain ⟨p0, hp0⟩ := k_pos hc0
  obtain ⟨p1, hp1⟩ := k_pos hc1
  have e0 : (iI 0).toNatClampNeg = 0 := by decide
  have ej : (iI x).toNatClampNeg = j := iI_cl hx hjm
  have hnn : ¬ iI x < 0 := by rw [hx, iI_nI]; exact nI_pos hjm
  have h00 : ¬ iI 0 < 0 := by decide
  refine va_copyq (C := r.1) (E1 := "java/lang/Object") E.1 E.2.1 (by rw [E.2.2.1]; exact hl.1.symm) E.2.2.2.1 (E.word h1 rfl) (E.word h2 rfl) (E.word h3 rfl) (E.word h4 rfl) E.K hH.1 hH.2 hS p0 p1 3 3 hp0 hp1 rfl rfl h00 h00 hnn (by rw [e0, ej]; omega) (by rw [e0, ej]; omega) ?_ (fun comp c0 q1 q2 => vb_asgC (E.2.2.2.2.1.2.1 _ hq rfl) comp c0 q1 q2) hf hlo d (fun H1 locs1 q1 q2 q3 => ?_)
  · intro m hm y hy
    rw [ej] at hm
    rw [e0, Nat.zero_add] at hy
    obtain ⟨t, fs, hcy⟩ := hel m hm y hy
    obtain ⟨qy, hqy⟩ := k_pos hcy
    exact va_recv E.K hH.1 hci hqy
  · rw [e0, ej] at q1 q2
    obtain ⟨z1, z2, z3⟩ := k_Hset hH.2 hc1 hp1 q1 q2
    refine kk _ _ z2 z3 (fun m hm => ?_) E H1 locs1 ls z1 q3 hl
    rw [pk_cpy_in (by omega) (by omega)]
    rw [Nat.zero_add, Nat.sub_zero]
end More
/-! ===== an ArrayList: l with tag tl, its array with tag ta, n elements g ===== -/
def ListR (κ : Kx) (L : List Nat) (f : Nat → wE) (l tl ta n : Nat) (g : Nat → Nat) : Prop :=
  ∃ (md : Int) (E cap : Nat) (row : Nat → Option Nat), Cl L f l (tl, .inr (0, [.int (iI md), .ref E, .int (iI (n : Int))])) ∧
    ((E = κ.2.2.2 4 ∧ n = 0) ∨ (Cl L f E (ta, .inl (κ.2.2.1 3, cap, .inr (.inr (.inr (.inr row))))) ∧ n ≤ cap ∧ (10 ≤ cap ∧ cap ≤ 60) ∧ ∀ i, i < n → row i = some (g i)))
theorem ListR.fr {κ : Kx} {L L' : List Nat} {f f' : Nat → wE} {l tl ta n : Nat} {g : Nat → Nat} {S : Nat → Bool} (h : ListR κ L f l tl ta n g) (hf : k_fr S L f L' f') (hS : (S tl || S ta) = false) : ListR κ L' f' l tl ta n g := by
  obtain ⟨md, E, cap, row, h1, h2⟩ := h
  rw [Bool.or_eq_false_iff] at hS
  refine ⟨md, E, cap, row, h1.fr hf hS.1, ?_⟩
  rcases h2 with h2 | ⟨h2, h3⟩
  · exact Or.inl h2
  · exact Or.inr ⟨h2.fr hf hS.2, h3⟩
theorem ListR.le {κ : Kx} {L : List Nat} {f : Nat → wE} {l tl ta n : Nat} {g : Nat → Nat} (h : ListR κ L f l tl ta n g) : n ≤ 60 := by
  obtain ⟨md, E, cap, row, h1, h2⟩ := h
  rcases h2 with h2 | ⟨h2, h3⟩ <;> omega
theorem ListR.cl {κ : Kx} {L : List Nat} {f : Nat → wE} {l tl ta n : Nat} {g : Nat → Nat} (h : ListR κ L f l tl ta n g) : ∃ (md : Int) (E : Nat), Cl L f l (tl, .inr (0, [.int (iI md), .ref E, .int (iI (n : Int))])) := by
  obtain ⟨md, E, cap, row, h1, h2⟩ := h
  exact ⟨md, E, h1⟩
theorem k_widen {θ : Kt} {κ : Kx} {cc : ByteArray} {nL : Nat} {ret : Option FieldType} {own : String} {R : Room} {Q : State → Prop} {L : List Nat} {f : Nat → wE} {k n pc : Nat} {lv : List (Nat × Value)} {st : List Value} (k' n' : Nat) (hk : k ≤ k') (hn : n ≤ n') (kk : k_G θ κ cc nL ret own R Q L f k' n' pc lv st) : k_G θ κ cc nL ret own R Q L f k n pc lv st :=
  fun E H locs ls hH hS hl => W.widen hk hn (kk E H locs ls hH hS hl)
section Tops
variable {θ : Kt} {κ : Kx} {cc : ByteArray} {nL : Nat} {ret : Option FieldType} {own : String} {R : Room} {Q : State → Prop} {L : List Nat} {f : Nat → wE} {k n pc : Nat} {lv : List (Nat × Value)} {st : List Value}
theorem k_topi {x : Int} (y : Int) (h : x = y) (kk : k_G θ κ cc nL ret own R Q L f k n pc lv (.int (iI y) :: st)) : k_G θ κ cc nL ret own R Q L f k n pc lv (.int (iI x) :: st) := by rw [h]; exact kk
theorem k_topl {x : Int} (y : Int) (h : x = y) (kk : k_G θ κ cc nL ret own R Q L f k n pc lv (.long (lI y) :: st)) : k_G θ κ cc nL ret own R Q L f k n pc lv (.long (lI x) :: st) := by rw [h]; exact kk
theorem k_topb {x : Bool} (y : Bool) (h : x = y) (kk : k_G θ κ cc nL ret own R Q L f k n pc lv (.int (iI (bI y)) :: st)) : k_G θ κ cc nL ret own R Q L f k n pc lv (.int (iI (bI x)) :: st) := by rw [h]; exact kk
end Tops
theorem row_add {n v : Nat} {row : Nat → Option Nat} {g : Nat → Nat} (h : ∀ i, i < n → row i = some (g i)) : ∀ i, i < n + 1 → va_up row n (some v) i = some (va_up g n v i) := by
  intro i hi
  unfold va_up
  by_cases e : i = n
  · rw [if_pos e, if_pos e]
  · rw [if_neg e, if_neg e]
    exact h i (by omega)
theorem tag_ne {t u : Nat} (h : t ≠ u) : (fun v => v == u) t = false := beq_false_of_ne h
def S2 (t u : Nat) : Nat → Bool := fun v => v == t || v == u
theorem S2_l {t u : Nat} : ∀ v, S2 t u v = false → (v == t) = false := fun v h => (Bool.or_eq_false_iff.mp h).1
theorem S2_r {t u : Nat} : ∀ v, S2 t u v = false → (v == u) = false := fun v h => (Bool.or_eq_false_iff.mp h).2
