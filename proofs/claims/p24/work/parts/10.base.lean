/-! ===== numbers: machine ints as integers ===== -/
def iI (z : Int) : Int32 := Int32.ofInt z
def lI (z : Int) : Int64 := Int64.ofInt z
def bI (b : Bool) : Int := match b with
  | true => 1
  | false => 0
def inI (z : Int) : Prop := -2147483648 ≤ z ∧ z < 2147483648
def inL (z : Int) : Prop := -9223372036854775808 ≤ z ∧ z < 9223372036854775808
theorem inI_mk {z : Int} (h1 : -2147483648 ≤ z) (h2 : z < 2147483648) : inI z := ⟨h1, h2⟩
theorem iI_int {z : Int} (h : inI z) : (iI z).toInt = z := by
  have h1 := h.1
  have h2 := h.2
  exact Int32.toInt_ofInt_of_le (by omega) (by omega)
theorem lI_int {z : Int} (h : inL z) : (lI z).toInt = z := by
  have h1 := h.1
  have h2 := h.2
  exact Int64.toInt_ofInt_of_le (by omega) (by omega)
theorem iI_of (x : Int32) : x = iI x.toInt := (Int32.ofInt_toInt x).symm
theorem lI_of (x : Int64) : x = lI x.toInt := (Int64.ofInt_toInt x).symm
theorem inI_of (x : Int32) : inI x.toInt := by
  have h1 := Int32.le_toInt x
  have h2 := Int32.toInt_lt x
  constructor <;> omega
theorem inL_inI {z : Int} (h : inI z) : inL z := by
  have h1 := h.1
  have h2 := h.2
  constructor <;> omega
theorem iI_add (a b : Int) : iI a + iI b = iI (a + b) := (Int32.ofInt_add a b).symm
theorem iI_sub (a b : Int) : iI a - iI b = iI (a - b) := (Int32.ofInt_sub a b).symm
theorem iI_mul (a b : Int) : iI a * iI b = iI (a * b) := (Int32.ofInt_mul a b).symm
theorem iI_neg (a : Int) : -iI a = iI (-a) := (Int32.ofInt_neg a).symm
theorem lI_add (a b : Int) : lI a + lI b = lI (a + b) := (Int64.ofInt_add a b).symm
theorem lI_sub (a b : Int) : lI a - lI b = lI (a - b) := (Int64.ofInt_sub a b).symm
theorem lI_mul (a b : Int) : lI a * lI b = lI (a * b) := (Int64.ofInt_mul a b).symm
theorem lI_neg (a : Int) : -lI a = lI (-a) := (Int64.ofInt_neg a).symm
theorem iI_min : (Int32.minValue).toInt = -2147483648 := by decide
theorem iI_max : (Int32.maxValue).toInt = 2147483647 := by decide
theorem lI_min : (Int64.minValue).toInt = -9223372036854775808 := by decide
theorem lI_max : (Int64.maxValue).toInt = 9223372036854775807 := by decide
theorem iI_div {a b : Int} (ha : inI a) (hb : inI b) : iI a / iI b = iI (a.tdiv b) := by
  have h1 := ha.1
  have h2 := ha.2
  have h3 := hb.1
  have h4 := hb.2
  exact (Int32.ofInt_tdiv (by rw [iI_min]; omega) (by rw [iI_max]; omega) (by rw [iI_min]; omega) (by rw [iI_max]; omega)).symm
theorem lI_div {a b : Int} (ha : inL a) (hb : inL b) : lI a / lI b = lI (a.tdiv b) := by
  have h1 := ha.1
  have h2 := ha.2
  have h3 := hb.1
  have h4 := hb.2
  exact (Int64.ofInt_tdiv (by rw [lI_min]; omega) (by rw [lI_max]; omega) (by rw [lI_min]; omega) (by rw [lI_max]; omega)).symm
theorem iI_rem {a b : Int} (ha : inI a) (hb : inI b) : iI a - iI a / iI b * iI b = iI (a.tmod b) := by
  rw [iI_div ha hb, iI_mul, iI_sub, Int.tmod_def, Int.mul_comm]
theorem lI_rem {a b : Int} (ha : inL a) (hb : inL b) : lI a - lI a / lI b * lI b = lI (a.tmod b) := by
  rw [lI_div ha hb, lI_mul, lI_sub, Int.tmod_def, Int.mul_comm]
theorem iI_lt {a b : Int} (ha : inI a) (hb : inI b) : iI a < iI b ↔ a < b := by rw [Int32.lt_iff_toInt_lt, iI_int ha, iI_int hb]
theorem iI_le {a b : Int} (ha : inI a) (hb : inI b) : iI a ≤ iI b ↔ a ≤ b := by rw [Int32.le_iff_toInt_le, iI_int ha, iI_int hb]
theorem iI_eq {a b : Int} (ha : inI a) (hb : inI b) : iI a = iI b ↔ a = b := ⟨fun h => by rw [← iI_int ha, ← iI_int hb, h], fun h => by rw [h]⟩
theorem lI_lt {a b : Int} (ha : inL a) (hb : inL b) : lI a < lI b ↔ a < b := by rw [Int64.lt_iff_toInt_lt, lI_int ha, lI_int hb]
theorem lI_le {a b : Int} (ha : inL a) (hb : inL b) : lI a ≤ lI b ↔ a ≤ b := by rw [Int64.le_iff_toInt_le, lI_int ha, lI_int hb]
theorem lI_eq {a b : Int} (ha : inL a) (hb : inL b) : lI a = lI b ↔ a = b := ⟨fun h => by rw [← lI_int ha, ← lI_int hb, h], fun h => by rw [h]⟩
theorem iI_zero : (0 : Int32) = iI 0 := by decide
theorem lI_zero : (0 : Int64) = lI 0 := by decide
theorem inI_0 : inI 0 := ⟨by decide, by decide⟩
theorem inL_0 : inL 0 := ⟨by decide, by decide⟩
theorem iI_ne0 {a : Int} (ha : inI a) (h : a ≠ 0) : ¬ iI a = 0 := fun e => h ((iI_eq ha inI_0).mp (e.trans iI_zero))
theorem lI_ne0 {a : Int} (ha : inL a) (h : a ≠ 0) : ¬ lI a = 0 := fun e => h ((lI_eq ha inL_0).mp (e.trans lI_zero))
theorem iI_toL {a : Int} (ha : inI a) : (iI a).toInt64 = lI a := by
  have h1 := ha.1
  have h2 := ha.2
  exact Int32.toInt64_ofInt (by rw [iI_min]; omega) (by rw [iI_max]; omega)
theorem lI_toI (a : Int) : (lI a).toInt32 = iI a := Int64.toInt32_ofInt
theorem iI_nI (k : Nat) : iI (k : Int) = nI k := Int32.ofInt_eq_ofNat
theorem iI_clamp {k : Nat} (h : k < 2147483648) : (iI (k : Int)).toNatClampNeg = k := by rw [iI_nI]; exact nI_clamp h
theorem iI_in {z : Int} {k N : Nat} (hz : z = (k : Int)) (h : k < N) (hN : N < 2147483648) : vp_in (iI z) N := by
  subst hz
  rw [iI_nI]
  exact vp_in_nI h hN
theorem iI_cl {z : Int} {k : Nat} (hz : z = (k : Int)) (h : k < 2147483648) : (iI z).toNatClampNeg = k := by
  subst hz
  exact iI_clamp h
theorem iI_mx {a b : Int} (ha : inI a) (hb : inI b) : (if iI a < iI b then iI b else iI a) = iI (max a b) := by
  by_cases h : a < b
  · rw [if_pos ((iI_lt ha hb).mpr h), Int.max_eq_right (by omega)]
  · rw [if_neg (fun q => h ((iI_lt ha hb).mp q)), Int.max_eq_left (by omega)]
theorem iI_mn {a b : Int} (ha : inI a) (hb : inI b) : (if iI b < iI a then iI b else iI a) = iI (min a b) := by
  by_cases h : b < a
  · rw [if_pos ((iI_lt hb ha).mpr h), Int.min_eq_right (by omega)]
  · rw [if_neg (fun q => h ((iI_lt hb ha).mp q)), Int.min_eq_left (by omega)]
theorem iI_ab {a : Int} (ha : inI a) : (if 0 ≤ iI a then iI a else 0 - iI a) = iI (a.natAbs : Int) := by
  rw [iI_zero]
  by_cases h : 0 ≤ a
  · rw [if_pos ((iI_le inI_0 ha).mpr h)]
    congr 1
    omega
  · rw [if_neg (fun q => h ((iI_le inI_0 ha).mp q)), iI_sub]
    congr 1
    omega
theorem lI_mx {a b : Int} (ha : inL a) (hb : inL b) : (if lI b < lI a then lI a else lI b) = lI (max a b) := by
  by_cases h : b < a
  · rw [if_pos ((lI_lt hb ha).mpr h), Int.max_eq_left (by omega)]
  · rw [if_neg (fun q => h ((lI_lt hb ha).mp q)), Int.max_eq_right (by omega)]
theorem lI_ab {a : Int} (ha : inL a) : (if 0 < lI a then lI a else -lI a) = lI (a.natAbs : Int) := by
  rw [lI_zero]
  by_cases h : 0 < a
  · rw [if_pos ((lI_lt inL_0 ha).mpr h)]
    congr 1
    omega
  · rw [if_neg (fun q => h ((lI_lt inL_0 ha).mp q)), lI_neg]
    congr 1
    omega
/-! ===== the world: a pool of cells by a function, each with a tag of ours ===== -/
abbrev wE : Type := Nat × va_E
abbrev Kx : Type := va_G × Nat × (Nat → ClassId) × (Nat → Nat)
abbrev Kt : Type := Program × Launch × Env × State × MethodId × Array Value × List Frame × Method × Code
def kA (κ : Kx) : Nat → Prop := fun q => κ.2.1 ≤ q
def kf (f : Nat → wE) : Nat → va_E := fun a => (f a).2
def k_tys (κ : Kx) : List (ClassId × FieldType) := [(κ.2.2.1 0, .int), (κ.2.2.1 1, .int), (κ.2.2.1 2, .boolean), (κ.2.2.1 3, .object "java/lang/Object")]
def k_H (κ : Kx) (L : List Nat) (f : Nat → wE) (H : Heap) : Prop := va_P κ.1 vwCl (va_pl L (kf f)) H ∧ va_D (kA κ) (va_pl L (kf f))
def Cl (L : List Nat) (f : Nat → wE) (a : Nat) (e : wE) : Prop := a ∈ L ∧ f a = e
def k_nest : Cond → Bool
  | .fieldLinkNest .. => true
  | .methodLinkNest .. => true
  | .castable .. => true
  | .declares _ => true
  | _ => false
def k_ok (w : Cond) : Bool := goodWord w || k_nest w
def k_strs : List (Nat × String) := [(43, "range is not 0 to 5000"), (48, "period is not 60 to 20000"), (50, "offset is not 0 to period less 1"), (61, "there are 8 waves"), (98, "time is not 0 to 4319"), (105, "what is not 0 to 3"), (117, "there is no such water"), (128, "what is not 0 to 2"), (133, "what is not 0 to 4"), (138, "there are 6 ports"), (146, "there is no such port"), (148, "shift is not -300 to 300"), (150, "factor is not 0 to 300"), (164, "added is not -3000 to 3000"), (178, "the port is not in order"), (187, "there is no water on one side of the time")]
/-- what the tables say, and keep saying -/
def k_V (κ : Kx) (U : State) : Prop := va_K κ.1 vwCl (k_tys κ) U ∧ (∀ w ∈ lw_tbl, k_ok w = true → va_Nw w U) ∧ (∀ (i : Nat) (q : Nat × String), k_strs[i]? = some q → vk_R "TideTable" q.1 q.2 (κ.2.2.2 (10 + i)) U) ∧ va_AO "java/lang/Object" U ∧ va_Mi "[Ljava/lang/Object;" (κ.2.2.2 5) U
def k_arr (l : List Int) : Nat → Value := fun j => .int (iI (l.getD j 0))
/-- the script: nobody writes it -/
def k_S (κ : Kx) (U : State) (H : Heap) : Prop := ∃ (N : Nat) (xs : Nat → Int32), N < 2147483648 ∧ va_T .int (κ.2.2.2 2) N (fun j => .int (xs j)) (kA κ) U H
theorem k_S.moved {κ : Kx} {u U : State} {H : Heap} (hvm : u.vm.Alike U.vm) (h : k_S κ u H) : k_S κ U H := by
  obtain ⟨N, xs, h1, h2⟩ := h
  exact ⟨N, xs, h1, h2.moved hvm⟩
theorem k_S.kept {κ : Kx} {U : State} {H H1 : Heap} (h : k_S κ U H) (hq : ∀ a : Nat, a < H.size → ¬ kA κ a → H1[a]? = H[a]?) : k_S κ U H1 := by
  obtain ⟨N, xs, h1, h2⟩ := h
  exact ⟨N, xs, h1, h2.kept hq⟩
/-- the static fields that are read; nobody writes them -/
def k_Z (κ : Kx) (U : State) (H : Heap) : Prop :=
  (va_Z "TideTable" "TWELFTHS_OF_SIXTH" "[I" (.ref (κ.2.2.2 0)) (kA κ) U H ∧ va_T .int (κ.2.2.2 0) 6 (k_arr [1, 2, 3, 3, 2, 1]) (kA κ) U H) ∧
  (va_Z "TideTable" "TWELFTHS_AHEAD_OF_SIXTH" "[I" (.ref (κ.2.2.2 1)) (kA κ) U H ∧ va_T .int (κ.2.2.2 1) 6 (k_arr [0, 1, 3, 6, 9, 11]) (kA κ) U H) ∧
  k_S κ U H ∧
  True ∧
  (va_Z "java/util/ArrayList" "DEFAULTCAPACITY_EMPTY_ELEMENTDATA" "[Ljava/lang/Object;" (.ref (κ.2.2.2 4)) (kA κ) U H ∧ va_T (.object "java/lang/Object") (κ.2.2.2 4) 0 (fun _ => .null) (kA κ) U H) ∧
  vx_Zq Bundle.tN "UNASSIGNED_STACK" Bundle.steD (kA κ) U H ∧ vx_Zq Bundle.tN "SUPPRESSED_SENTINEL" Bundle.listD (kA κ) U H
theorem k_Z.moved {κ : Kx} {u U : State} {H : Heap} (hvm : u.vm.Alike U.vm) (h : k_Z κ u H) : k_Z κ U H := by
  obtain ⟨⟨a1, b1⟩, ⟨a2, b2⟩, h3, h4, ⟨a5, b5⟩, h6, h7⟩ := h
  exact ⟨⟨a1.moved hvm, b1.moved hvm⟩, ⟨a2.moved hvm, b2.moved hvm⟩, h3.moved hvm, h4, ⟨a5.moved hvm, b5.moved hvm⟩, h6.moved hvm, h7.moved hvm⟩
theorem k_Z.kept {κ : Kx} {U : State} {H H1 : Heap} (h : k_Z κ U H) (hq : ∀ a : Nat, a < H.size → ¬ kA κ a → H1[a]? = H[a]?) : k_Z κ U H1 := by
  obtain ⟨⟨a1, b1⟩, ⟨a2, b2⟩, h3, h4, ⟨a5, b5⟩, h6, h7⟩ := h
  exact ⟨⟨a1.kept hq, b1.kept hq⟩, ⟨a2.kept hq, b2.kept hq⟩, h3.kept hq, h4, ⟨a5.kept hq, b5.kept hq⟩, h6.kept hq, h7.kept hq⟩
theorem k_ok_warm {w : Cond} (hk : k_ok w = true) {s U : State} (hW : s.WarmedH U.vm) (h : va_Nw w s) : va_Nw w U := by
  simp only [k_ok, Bool.or_eq_true] at hk
  rcases hk with hg | hn
  · exact word_at hW (good_of_word hg) h
  · cases w <;> first | exact va_Nw.warmF hW h | exact va_Nw.warmM hW h | exact va_Nw.warmC hW h | exact va_Nw.warmD hW h | cases hn
theorem k_V.warm {κ : Kx} {s U : State} (hW : s.WarmedH U.vm) (h : k_V κ s) : k_V κ U := by
  obtain ⟨h1, h2, h3, h4, h5⟩ := h
  exact ⟨va_K.moved hW.alike h1, fun w hw hk => k_ok_warm hk hW (h2 w hw hk), fun i q hq => (h3 i q hq).warm hW, va_AO.moved hW.alike h4, va_Mi.moved hW.alike h5⟩
/-- what a method's start gives: the pool is in the heap, the tables and the statics are as they were -/
def k_I (κ : Kx) (L : List Nat) (f : Nat → wE) (U : State) : Prop := k_H κ L f U.heap ∧ k_V κ U ∧ k_Z κ U U.heap ∧ κ.2.1 ≤ U.heap.size
/-- a method's end: an answer, a new pool -/
def k_Q (κ : Kx) (post : Option Value → List Nat → (Nat → wE) → Prop) : Array Value → State → Outcome → State → Prop := fun _ st oc t => (∃ (v : Option Value) (L' : List Nat) (f' : Nat → wE), oc = .returned v ∧ post v L' f' ∧ k_H κ L' f' t.heap) ∧ va_F (kA κ) st t
theorem k_blind {κ : Kx} {L : List Nat} {f : Nat → wE} {As : List Value} : FrameBlind (va_Pc As (k_I κ L f)) := by
  intro a U g mk h
  obtain ⟨h1, h2, h3, h4, h5⟩ := h
  exact ⟨h1, h2, k_V.warm (State.WarmedH.refl U) h3, k_Z.moved (Vm.Alike.refl U.vm) h4, h5⟩
/-- what holds in a method's body: the machine, its code, the tables, the statics -/
def k_E (θ : Kt) (κ : Kx) (cc : ByteArray) (nL : Nat) (ret : Option FieldType) (own : String) : Prop :=
  θ.1.tables.exec = Jvm.exec ∧ θ.2.2.2.2.2.2.2.2.code = cc ∧ θ.2.2.2.2.2.2.2.2.maxLocals = nL ∧ θ.2.2.2.1.vm.findClass own = some θ.2.2.2.2.1.cls ∧ k_V κ θ.2.2.2.1 ∧ k_Z κ θ.2.2.2.1 θ.2.2.2.1.heap ∧ κ.2.1 ≤ θ.2.2.2.1.heap.size ∧ θ.2.2.2.2.2.2.2.1.sig.returnType = ret ∧ θ.2.2.2.2.2.2.2.1.locks = false
def k_W (θ : Kt) (R : Room) (H : Heap) (locs : List Loc) (k n : Nat) (Q : State → Prop) (pc : Nat) (ls : Array Slot) (st : List Value) : Prop :=
  W θ.1 θ.2.1 θ.2.2.1 R θ.2.2.2.1 θ.2.2.2.2.1 θ.2.2.2.2.2.1 θ.2.2.2.2.2.2.1 θ.2.2.2.2.2.2.2.1 θ.2.2.2.2.2.2.2.2 H locs k n Q (F0 θ.2.2.2.2.1 pc ls st)
/-- the walk: from here, with the pool (L, f), the locals lv and the stack st, the body comes to an end with Q -/
def k_G (θ : Kt) (κ : Kx) (cc : ByteArray) (nL : Nat) (ret : Option FieldType) (own : String) (R : Room) (Q : State → Prop) (L : List Nat) (f : Nat → wE) (k n pc : Nat) (lv : List (Nat × Value)) (st : List Value) : Prop :=
  k_E θ κ cc nL ret own → ∀ (H : Heap) (locs : List Loc) (ls : Array Slot), k_H κ L f H → va_S (kA κ) θ.2.2.2.1.heap H locs → lv_has ls nL lv → k_W θ R H locs k n Q pc ls st
section Words
variable {θ : Kt} {κ : Kx} {cc : ByteArray} {nL : Nat} {ret : Option FieldType} {own : String}
theorem k_E.word (E : k_E θ κ cc nL ret own) {w : Cond} (hw : w ∈ lw_tbl) (hk : k_ok w = true) : w.before θ.2.2.2.2.2.1 θ.2.2.2.1 = true := by
  have h := E.2.2.2.2.1.2.1 w hw hk
  simp only [k_ok, Bool.or_eq_true] at hk
  rcases hk with hg | hn
  · exact word_at (State.WarmedH.refl _) (good_of_word hg) h
  · refine va_Nw.use ?_ h
    cases w <;> first | rfl | cases hn
theorem k_E.K (E : k_E θ κ cc nL ret own) : va_K κ.1 vwCl (k_tys κ) θ.2.2.2.1 := E.2.2.2.2.1.1
theorem k_E.cls (E : k_E θ κ cc nL ret own) {C : String} {T : u_T} {N : Nat} (h : ∀ w ∈ u_ws C T N, w ∈ lw_tbl) : ∀ w ∈ u_ws C T N, w.before θ.2.2.2.2.2.1 θ.2.2.2.1 = true := by
  intro w hw
  refine E.word (h w hw) ?_
  obtain ⟨k, -, rfl⟩ := List.mem_map.mp hw
  unfold u_lay
  split <;> rfl
theorem k_pos {L : List Nat} {f : Nat → wE} {a : Nat} {e : wE} (h : Cl L f a e) : ∃ q0 : Nat, (va_pl L (kf f))[q0]? = some (a, e.2) := by
  obtain ⟨k, hk⟩ := va_pl_get (X := []) (f := kf f) h.1
  refine ⟨k, ?_⟩
  have e1 : kf f a = e.2 := by rw [kf, h.2]
  rw [e1] at hk
  exact hk
theorem k_set {A : Nat → Prop} {L : List Nat} {f : Nat → wE} {a q0 : Nat} {e : wE} {x : va_E} (hD : va_D A (va_pl L (kf f))) (h : Cl L f a e) (hq : (va_pl L (kf f))[q0]? = some (a, e.2)) : (va_pl L (kf f)).set q0 (a, x) = va_pl L (kf (va_up f a (e.1, x))) := by
  have e1 : kf f a = e.2 := by rw [kf, h.2]
  have h1 := va_pl_set (X := []) (f := kf f) (e := x) hD h.1 (by rw [e1]; exact hq)
  refine h1.trans ?_
  refine va_pl_congr fun b => ?_
  by_cases hb : b = a
  · subst hb
    simp [va_up, kf]
  · simp [va_up, kf, hb]
theorem k_push {A : Nat → Prop} {L : List Nat} {f : Nat → wE} {q : Nat} {x : va_E} (tg : Nat) (hD : va_D A (va_pl L (kf f) ++ [(q, x)])) : q ∉ L ∧ va_pl L (kf f) ++ [(q, x)] = va_pl (L ++ [q]) (kf (va_up f q (tg, x))) := by
  have h1 : q ∉ L := va_pl_fresh2 (X := []) (f := kf f) hD
  refine ⟨h1, (va_pl_push h1).trans (va_pl_congr fun b => ?_)⟩
  by_cases hb : b = q
  · subst hb
    simp [va_up, kf]
  · simp [va_up, kf, hb]
/-- another cell stays -/
theorem Cl.ne {L : List Nat} {f : Nat → wE} {a b t u : Nat} {x y : va_E} (ha : Cl L f a (t, x)) (hb : Cl L f b (u, y)) (h : t ≠ u) : a ≠ b := by
  intro e
  subst e
  have := ha.2.symm.trans hb.2
  exact h (congrArg Prod.fst this)
theorem Cl.put {L : List Nat} {f f' : Nat → wE} {a b t u : Nat} {x y : va_E} (hne : ∀ z, z ≠ a → f' z = f z) (ha : Cl L f a (t, x)) (hb : Cl L f b (u, y)) (h : u ≠ t) : Cl L f' b (u, y) := ⟨hb.1, (hne b (hb.ne ha h)).trans hb.2⟩
theorem Cl.put2 {L : List Nat} {f f' : Nat → wE} {a b : Nat} {e : wE} (hne : ∀ z, z ≠ a → f' z = f z) (hb : Cl L f b e) (h : b ≠ a) : Cl L f' b e := ⟨hb.1, (hne b h).trans hb.2⟩
theorem Cl.new {L L' : List Nat} {f f' : Nat → wE} {b : Nat} {e : wE} (hne : ∀ z ∈ L, z ∈ L' ∧ f' z = f z) (hb : Cl L f b e) : Cl L' f' b e := ⟨(hne b hb.1).1, (hne b hb.1).2.trans hb.2⟩
/-- outside the tags of S nothing changes -/
def k_fr (S : Nat → Bool) (L : List Nat) (f : Nat → wE) (L' : List Nat) (f' : Nat → wE) : Prop := ∀ z ∈ L, z ∈ L' ∧ (S (f z).1 = false → f' z = f z)
theorem Cl.fr {S : Nat → Bool} {L L' : List Nat} {f f' : Nat → wE} {b t : Nat} {x : va_E} (h : k_fr S L f L' f') (hb : Cl L f b (t, x)) (ht : S t = false) : Cl L' f' b (t, x) := ⟨(h b hb.1).1, ((h b hb.1).2 (by rw [hb.2]; exact ht)).trans hb.2⟩
end Words
