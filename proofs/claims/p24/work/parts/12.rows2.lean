section Branches
variable {θ : Kt} {κ : Kx} {cc : ByteArray} {nL : Nat} {ret : Option FieldType} {own : String} {R : Room} {Q : State → Prop} {L : List Nat} {f : Nat → wE} {k n pc : Nat} {lv : List (Nat × Value)} {st : List Value}
theorem k_icmp_lt {x y off : Int} (tgt : Nat) (d : decode cc pc = .ok (.if_icmp .lt off, 3)) (ht : (pc : Int) + off = (tgt : Int)) (hx : inI x) (hy : inI y) (kt : x < y → k_G θ κ cc nL ret own R Q L f k n tgt lv st) (kf : y ≤ x → k_G θ κ cc nL ret own R Q L f k n (pc + 3) lv st) : k_G θ κ cc nL ret own R Q L f k n pc lv (.int (iI y) :: .int (iI x) :: st) :=
  fun E H locs ls hH hS hl => lv_icmp_lt E.1 E.2.1 d ht (fun q => kt ((iI_lt hx hy).mp q) E H locs ls hH hS hl) (fun q => kf (Int.not_lt.mp (fun z => q ((iI_lt hx hy).mpr z))) E H locs ls hH hS hl)
theorem k_if_lt {x off : Int} (tgt : Nat) (d : decode cc pc = .ok (.ifCond .lt off, 3)) (ht : (pc : Int) + off = (tgt : Int)) (hx : inI x) (kt : x < 0 → k_G θ κ cc nL ret own R Q L f k n tgt lv st) (kf : 0 ≤ x → k_G θ κ cc nL ret own R Q L f k n (pc + 3) lv st) : k_G θ κ cc nL ret own R Q L f k n pc lv (.int (iI x) :: st) :=
  fun E H locs ls hH hS hl => lv_if_lt E.1 E.2.1 d ht (fun q => kt ((iI_lt hx inI_0).mp q) E H locs ls hH hS hl) (fun q => kf (Int.not_lt.mp (fun z => q ((iI_lt hx inI_0).mpr z))) E H locs ls hH hS hl)
theorem k_lcmp_lt {x y off : Int} (tgt : Nat) (d0 : decode cc pc = .ok (.lcmp, 1)) (d : decode cc (pc + 1) = .ok (.ifCond .lt off, 3)) (ht : ((pc + 1 : Nat) : Int) + off = (tgt : Int)) (hx : inL x) (hy : inL y) (kt : x < y → k_G θ κ cc nL ret own R Q L f k n tgt lv st) (kf : y ≤ x → k_G θ κ cc nL ret own R Q L f k n (pc + 1 + 3) lv st) : k_G θ κ cc nL ret own R Q L f k n pc lv (.long (lI y) :: .long (lI x) :: st) :=
  fun E H locs ls hH hS hl => W.lcmp E.1 E.2.1 d0 (lv_if_lt E.1 E.2.1 d ht (fun q => kt ((lI_lt hx hy).mp ((lg_cmp_lt (lI x) (lI y)).mp q)) E H locs ls hH hS hl) (fun q => kf (Int.not_lt.mp (fun z => q ((lg_cmp_lt (lI x) (lI y)).mpr ((lI_lt hx hy).mpr z)))) E H locs ls hH hS hl))
theorem k_icmp_ge {x y off : Int} (tgt : Nat) (d : decode cc pc = .ok (.if_icmp .ge off, 3)) (ht : (pc : Int) + off = (tgt : Int)) (hx : inI x) (hy : inI y) (kt : y ≤ x → k_G θ κ cc nL ret own R Q L f k n tgt lv st) (kf : x < y → k_G θ κ cc nL ret own R Q L f k n (pc + 3) lv st) : k_G θ κ cc nL ret own R Q L f k n pc lv (.int (iI y) :: .int (iI x) :: st) :=
  fun E H locs ls hH hS hl => lv_icmp_ge E.1 E.2.1 d ht (fun q => kt ((iI_le hy hx).mp q) E H locs ls hH hS hl) (fun q => kf (Int.not_le.mp (fun z => q ((iI_le hy hx).mpr z))) E H locs ls hH hS hl)
theorem k_if_ge {x off : Int} (tgt : Nat) (d : decode cc pc = .ok (.ifCond .ge off, 3)) (ht : (pc : Int) + off = (tgt : Int)) (hx : inI x) (kt : 0 ≤ x → k_G θ κ cc nL ret own R Q L f k n tgt lv st) (kf : x < 0 → k_G θ κ cc nL ret own R Q L f k n (pc + 3) lv st) : k_G θ κ cc nL ret own R Q L f k n pc lv (.int (iI x) :: st) :=
  fun E H locs ls hH hS hl => lv_if_ge E.1 E.2.1 d ht (fun q => kt ((iI_le inI_0 hx).mp q) E H locs ls hH hS hl) (fun q => kf (Int.not_le.mp (fun z => q ((iI_le inI_0 hx).mpr z))) E H locs ls hH hS hl)
theorem k_lcmp_ge {x y off : Int} (tgt : Nat) (d0 : decode cc pc = .ok (.lcmp, 1)) (d : decode cc (pc + 1) = .ok (.ifCond .ge off, 3)) (ht : ((pc + 1 : Nat) : Int) + off = (tgt : Int)) (hx : inL x) (hy : inL y) (kt : y ≤ x → k_G θ κ cc nL ret own R Q L f k n tgt lv st) (kf : x < y → k_G θ κ cc nL ret own R Q L f k n (pc + 1 + 3) lv st) : k_G θ κ cc nL ret own R Q L f k n pc lv (.long (lI y) :: .long (lI x) :: st) :=
  fun E H locs ls hH hS hl => W.lcmp E.1 E.2.1 d0 (lv_if_ge E.1 E.2.1 d ht (fun q => kt ((lI_le hy hx).mp ((lg_cmp_ge (lI x) (lI y)).mp q)) E H locs ls hH hS hl) (fun q => kf (Int.not_le.mp (fun z => q ((lg_cmp_ge (lI x) (lI y)).mpr ((lI_le hy hx).mpr z)))) E H locs ls hH hS hl))
theorem k_icmp_gt {x y off : Int} (tgt : Nat) (d : decode cc pc = .ok (.if_icmp .gt off, 3)) (ht : (pc : Int) + off = (tgt : Int)) (hx : inI x) (hy : inI y) (kt : y < x → k_G θ κ cc nL ret own R Q L f k n tgt lv st) (kf : x ≤ y → k_G θ κ cc nL ret own R Q L f k n (pc + 3) lv st) : k_G θ κ cc nL ret own R Q L f k n pc lv (.int (iI y) :: .int (iI x) :: st) :=
  fun E H locs ls hH hS hl => lv_icmp_gt E.1 E.2.1 d ht (fun q => kt ((iI_lt hy hx).mp q) E H locs ls hH hS hl) (fun q => kf (Int.not_lt.mp (fun z => q ((iI_lt hy hx).mpr z))) E H locs ls hH hS hl)
theorem k_if_gt {x off : Int} (tgt : Nat) (d : decode cc pc = .ok (.ifCond .gt off, 3)) (ht : (pc : Int) + off = (tgt : Int)) (hx : inI x) (kt : 0 < x → k_G θ κ cc nL ret own R Q L f k n tgt lv st) (kf : x ≤ 0 → k_G θ κ cc nL ret own R Q L f k n (pc + 3) lv st) : k_G θ κ cc nL ret own R Q L f k n pc lv (.int (iI x) :: st) :=
  fun E H locs ls hH hS hl => lv_if_gt E.1 E.2.1 d ht (fun q => kt ((iI_lt inI_0 hx).mp q) E H locs ls hH hS hl) (fun q => kf (Int.not_lt.mp (fun z => q ((iI_lt inI_0 hx).mpr z))) E H locs ls hH hS hl)
theorem k_lcmp_gt {x y off : Int} (tgt : Nat) (d0 : decode cc pc = .ok (.lcmp, 1)) (d : decode cc (pc + 1) = .ok (.ifCond .gt off, 3)) (ht : ((pc + 1 : Nat) : Int) + off = (tgt : Int)) (hx : inL x) (hy : inL y) (kt : y < x → k_G θ κ cc nL ret own R Q L f k n tgt lv st) (kf : x ≤ y → k_G θ κ cc nL ret own R Q L f k n (pc + 1 + 3) lv st) : k_G θ κ cc nL ret own R Q L f k n pc lv (.long (lI y) :: .long (lI x) :: st) :=
  fun E H locs ls hH hS hl => W.lcmp E.1 E.2.1 d0 (lv_if_gt E.1 E.2.1 d ht (fun q => kt ((lI_lt hy hx).mp ((lg_cmp_gt (lI x) (lI y)).mp q)) E H locs ls hH hS hl) (fun q => kf (Int.not_lt.mp (fun z => q ((lg_cmp_gt (lI x) (lI y)).mpr ((lI_lt hy hx).mpr z)))) E H locs ls hH hS hl))
theorem k_icmp_le {x y off : Int} (tgt : Nat) (d : decode cc pc = .ok (.if_icmp .le off, 3)) (ht : (pc : Int) + off = (tgt : Int)) (hx : inI x) (hy : inI y) (kt : x ≤ y → k_G θ κ cc nL ret own R Q L f k n tgt lv st) (kf : y < x → k_G θ κ cc nL ret own R Q L f k n (pc + 3) lv st) : k_G θ κ cc nL ret own R Q L f k n pc lv (.int (iI y) :: .int (iI x) :: st) :=
  fun E H locs ls hH hS hl => lv_icmp_le E.1 E.2.1 d ht (fun q => kt ((iI_le hx hy).mp q) E H locs ls hH hS hl) (fun q => kf (Int.not_le.mp (fun z => q ((iI_le hx hy).mpr z))) E H locs ls hH hS hl)
theorem k_if_le {x off : Int} (tgt : Nat) (d : decode cc pc = .ok (.ifCond .le off, 3)) (ht : (pc : Int) + off = (tgt : Int)) (hx : inI x) (kt : x ≤ 0 → k_G θ κ cc nL ret own R Q L f k n tgt lv st) (kf : 0 < x → k_G θ κ cc nL ret own R Q L f k n (pc + 3) lv st) : k_G θ κ cc nL ret own R Q L f k n pc lv (.int (iI x) :: st) :=
  fun E H locs ls hH hS hl => lv_if_le E.1 E.2.1 d ht (fun q => kt ((iI_le hx inI_0).mp q) E H locs ls hH hS hl) (fun q => kf (Int.not_le.mp (fun z => q ((iI_le hx inI_0).mpr z))) E H locs ls hH hS hl)
theorem k_lcmp_le {x y off : Int} (tgt : Nat) (d0 : decode cc pc = .ok (.lcmp, 1)) (d : decode cc (pc + 1) = .ok (.ifCond .le off, 3)) (ht : ((pc + 1 : Nat) : Int) + off = (tgt : Int)) (hx : inL x) (hy : inL y) (kt : x ≤ y → k_G θ κ cc nL ret own R Q L f k n tgt lv st) (kf : y < x → k_G θ κ cc nL ret own R Q L f k n (pc + 1 + 3) lv st) : k_G θ κ cc nL ret own R Q L f k n pc lv (.long (lI y) :: .long (lI x) :: st) :=
  fun E H locs ls hH hS hl => W.lcmp E.1 E.2.1 d0 (lv_if_le E.1 E.2.1 d ht (fun q => kt ((lI_le hx hy).mp ((lg_cmp_le (lI x) (lI y)).mp q)) E H locs ls hH hS hl) (fun q => kf (Int.not_le.mp (fun z => q ((lg_cmp_le (lI x) (lI y)).mpr ((lI_le hx hy).mpr z)))) E H locs ls hH hS hl))
theorem k_icmp_eq {x y off : Int} (tgt : Nat) (d : decode cc pc = .ok (.if_icmp .eq off, 3)) (ht : (pc : Int) + off = (tgt : Int)) (hx : inI x) (hy : inI y) (kt : x = y → k_G θ κ cc nL ret own R Q L f k n tgt lv st) (kf : x ≠ y → k_G θ κ cc nL ret own R Q L f k n (pc + 3) lv st) : k_G θ κ cc nL ret own R Q L f k n pc lv (.int (iI y) :: .int (iI x) :: st) :=
  fun E H locs ls hH hS hl => lv_icmp_eq E.1 E.2.1 d ht (fun q => kt ((iI_eq hx hy).mp q) E H locs ls hH hS hl) (fun q => kf (fun z => q ((iI_eq hx hy).mpr z)) E H locs ls hH hS hl)
theorem k_if_eq {x off : Int} (tgt : Nat) (d : decode cc pc = .ok (.ifCond .eq off, 3)) (ht : (pc : Int) + off = (tgt : Int)) (hx : inI x) (kt : x = 0 → k_G θ κ cc nL ret own R Q L f k n tgt lv st) (kf : x ≠ 0 → k_G θ κ cc nL ret own R Q L f k n (pc + 3) lv st) : k_G θ κ cc nL ret own R Q L f k n pc lv (.int (iI x) :: st) :=
  fun E H locs ls hH hS hl => lv_if_eq E.1 E.2.1 d ht (fun q => kt ((iI_eq hx inI_0).mp q) E H locs ls hH hS hl) (fun q => kf (fun z => q ((iI_eq hx inI_0).mpr z)) E H locs ls hH hS hl)
theorem k_lcmp_eq {x y off : Int} (tgt : Nat) (d0 : decode cc pc = .ok (.lcmp, 1)) (d : decode cc (pc + 1) = .ok (.ifCond .eq off, 3)) (ht : ((pc + 1 : Nat) : Int) + off = (tgt : Int)) (hx : inL x) (hy : inL y) (kt : x = y → k_G θ κ cc nL ret own R Q L f k n tgt lv st) (kf : x ≠ y → k_G θ κ cc nL ret own R Q L f k n (pc + 1 + 3) lv st) : k_G θ κ cc nL ret own R Q L f k n pc lv (.long (lI y) :: .long (lI x) :: st) :=
  fun E H locs ls hH hS hl => W.lcmp E.1 E.2.1 d0 (lv_if_eq E.1 E.2.1 d ht (fun q => kt ((lI_eq hx hy).mp ((lg_cmp_eq (lI x) (lI y)).mp q)) E H locs ls hH hS hl) (fun q => kf (fun z => q ((lg_cmp_eq (lI x) (lI y)).mpr ((lI_eq hx hy).mpr z))) E H locs ls hH hS hl))
theorem k_icmp_ne {x y off : Int} (tgt : Nat) (d : decode cc pc = .ok (.if_icmp .ne off, 3)) (ht : (pc : Int) + off = (tgt : Int)) (hx : inI x) (hy : inI y) (kt : x ≠ y → k_G θ κ cc nL ret own R Q L f k n tgt lv st) (kf : x = y → k_G θ κ cc nL ret own R Q L f k n (pc + 3) lv st) : k_G θ κ cc nL ret own R Q L f k n pc lv (.int (iI y) :: .int (iI x) :: st) :=
  fun E H locs ls hH hS hl => lv_icmp_ne E.1 E.2.1 d ht (fun q => kt (fun z => q ((iI_eq hx hy).mpr z)) E H locs ls hH hS hl) (fun q => kf ((iI_eq hx hy).mp q) E H locs ls hH hS hl)
theorem k_if_ne {x off : Int} (tgt : Nat) (d : decode cc pc = .ok (.ifCond .ne off, 3)) (ht : (pc : Int) + off = (tgt : Int)) (hx : inI x) (kt : x ≠ 0 → k_G θ κ cc nL ret own R Q L f k n tgt lv st) (kf : x = 0 → k_G θ κ cc nL ret own R Q L f k n (pc + 3) lv st) : k_G θ κ cc nL ret own R Q L f k n pc lv (.int (iI x) :: st) :=
  fun E H locs ls hH hS hl => lv_if_ne E.1 E.2.1 d ht (fun q => kt (fun z => q ((iI_eq hx inI_0).mpr z)) E H locs ls hH hS hl) (fun q => kf ((iI_eq hx inI_0).mp q) E H locs ls hH hS hl)
theorem k_lcmp_ne {x y off : Int} (tgt : Nat) (d0 : decode cc pc = .ok (.lcmp, 1)) (d : decode cc (pc + 1) = .ok (.ifCond .ne off, 3)) (ht : ((pc + 1 : Nat) : Int) + off = (tgt : Int)) (hx : inL x) (hy : inL y) (kt : x ≠ y → k_G θ κ cc nL ret own R Q L f k n tgt lv st) (kf : x = y → k_G θ κ cc nL ret own R Q L f k n (pc + 1 + 3) lv st) : k_G θ κ cc nL ret own R Q L f k n pc lv (.long (lI y) :: .long (lI x) :: st) :=
  fun E H locs ls hH hS hl => W.lcmp E.1 E.2.1 d0 (lv_if_ne E.1 E.2.1 d ht (fun q => kt (fun z => q ((lg_cmp_eq (lI x) (lI y)).mpr ((lI_eq hx hy).mpr z))) E H locs ls hH hS hl) (fun q => kf ((lI_eq hx hy).mp ((lg_cmp_eq (lI x) (lI y)).mp q)) E H locs ls hH hS hl))
theorem bI_eq0 {b : Bool} : bI b = 0 ↔ b = false := by cases b <;> decide
theorem bI_in (b : Bool) : inI (bI b) := by cases b <;> exact ⟨by decide, by decide⟩
theorem k_ifb_eq {b : Bool} {off : Int} (tgt : Nat) (d : decode cc pc = .ok (.ifCond .eq off, 3)) (ht : (pc : Int) + off = (tgt : Int)) (kt : b = false → k_G θ κ cc nL ret own R Q L f k n tgt lv st) (kf : b = true → k_G θ κ cc nL ret own R Q L f k n (pc + 3) lv st) : k_G θ κ cc nL ret own R Q L f k n pc lv (.int (iI (bI b)) :: st) :=
  k_if_eq tgt d ht (bI_in b) (fun q => kt (bI_eq0.mp q)) (fun q => kf (by cases b with | true => rfl | false => exact absurd rfl q))
theorem k_ifb_ne {b : Bool} {off : Int} (tgt : Nat) (d : decode cc pc = .ok (.ifCond .ne off, 3)) (ht : (pc : Int) + off = (tgt : Int)) (kt : b = true → k_G θ κ cc nL ret own R Q L f k n tgt lv st) (kf : b = false → k_G θ κ cc nL ret own R Q L f k n (pc + 3) lv st) : k_G θ κ cc nL ret own R Q L f k n pc lv (.int (iI (bI b)) :: st) :=
  k_if_ne tgt d ht (bI_in b) (fun q => kt (by cases b with | true => rfl | false => exact absurd rfl q)) (fun q => kf (bI_eq0.mp q))
/-- a switch: at the place of a number that it has, or beside them all -/
theorem k_swIn {x dflt lo hi off : Int} {offs : Array Int} {len : Nat} (z : Int) (tgt : Nat) (d : decode cc pc = .ok (.tableswitch dflt lo hi offs, len)) (hx : inI x) (hz : x = z) (h1 : lo ≤ z) (h2 : z ≤ hi) (ho : offs[(z - lo).toNat]? = some off) (ht : (pc : Int) + off = (tgt : Int)) (kk : k_G θ κ cc nL ret own R Q L f k n tgt lv st) : k_G θ κ cc nL ret own R Q L f k n pc lv (.int (iI x) :: st) :=
  fun E H locs ls hH hS hl => by
    subst hz
    exact lv_tableIn E.1 E.2.1 d (by rw [iI_int hx]; omega) (by rw [iI_int hx]; omega) (by rw [iI_int hx]; exact ho) ht (kk E H locs ls hH hS hl)
theorem k_swOut {x dflt lo hi : Int} {offs : Array Int} {len : Nat} (tgt : Nat) (d : decode cc pc = .ok (.tableswitch dflt lo hi offs, len)) (hx : inI x) (h : x < lo ∨ hi < x) (ht : (pc : Int) + dflt = (tgt : Int)) (kk : k_G θ κ cc nL ret own R Q L f k n tgt lv st) : k_G θ κ cc nL ret own R Q L f k n pc lv (.int (iI x) :: st) :=
  fun E H locs ls hH hS hl => lv_tableOut E.1 E.2.1 d (by rw [iI_int hx]; exact h) ht (kk E H locs ls hH hS hl)
end Branches
section Memory
variable {θ : Kt} {κ : Kx} {cc : ByteArray} {nL : Nat} {ret : Option FieldType} {own : String} {R : Room} {Q : State → Prop} {L : List Nat} {f : Nat → wE} {k n pc : Nat} {lv : List (Nat × Value)} {st : List Value} {a tg : Nat}
theorem k_get {C : String} {T : u_T} {N ci i : Nat} {fs : List Value} {v : Value} (j : Nat) (ic : ∀ w ∈ u_ws C T N, w ∈ lw_tbl) (hq : Cond.fieldLink own i (T j).1 (T j).2.1 (T j).2.2.1 ∈ lw_tbl) (hc : Cl L f a (tg, .inr (ci, fs))) (hci : vwCl[ci]? = some (C, T, N)) (hj : j < N) (hv : fs[j]? = some v) (d : decode cc pc = .ok (.getfield i, 3)) (kk : k_G θ κ cc nL ret own R Q L f k n (pc + 3) lv (v :: st)) : k_G θ κ cc nL ret own R Q L f k n pc lv (.ref a :: st) := by
  intro E H locs ls hH hS hl
  obtain ⟨q0, hq0⟩ := k_pos hc
  exact va_get E.1 E.2.1 (E.cls ic) (fun _ h => h) E.2.2.2.1 E.K hH.1 q0 hq0 hci j hj (E.word hq rfl) (fun _ h => h) hv d (kk E H locs ls hH hS hl)
theorem k_getN {C : String} {T : u_T} {N ci i : Nat} {fs : List Value} {v : Value} {host : String} (j : Nat) (ic : ∀ w ∈ u_ws C T N, w ∈ lw_tbl) (hq : Cond.fieldLinkNest own i (T j).1 (T j).2.1 (T j).2.2.1 host ∈ lw_tbl) (hc : Cl L f a (tg, .inr (ci, fs))) (hci : vwCl[ci]? = some (C, T, N)) (hj : j < N) (hv : fs[j]? = some v) (d : decode cc pc = .ok (.getfield i, 3)) (kk : k_G θ κ cc nL ret own R Q L f k n (pc + 3) lv (v :: st)) : k_G θ κ cc nL ret own R Q L f k n pc lv (.ref a :: st) := by
  intro E H locs ls hH hS hl
  obtain ⟨q0, hq0⟩ := k_pos hc
  exact va_getN E.1 E.2.1 (E.cls ic) (fun _ h => h) E.2.2.2.1 E.K hH.1 q0 hq0 hci j hj (E.word hq rfl) (fun _ h => h) hv d (kk E H locs ls hH hS hl)
/-- a field read through a class that inherits it -/
theorem k_getS {C ref : String} {T : u_T} {N ci i : Nat} {fs : List Value} {v : Value} (j : Nat) (ic : ∀ w ∈ u_ws C T N, w ∈ lw_tbl) (hq : Cond.fieldLink own i ref (T j).2.1 (T j).2.2.1 ∈ lw_tbl) (hs : Cond.sameField ref (T j).1 (T j).2.1 (T j).2.2.1 ∈ lw_tbl) (hc : Cl L f a (tg, .inr (ci, fs))) (hci : vwCl[ci]? = some (C, T, N)) (hj : j < N) (hv : fs[j]? = some v) (d : decode cc pc = .ok (.getfield i, 3)) (kk : k_G θ κ cc nL ret own R Q L f k n (pc + 3) lv (v :: st)) : k_G θ κ cc nL ret own R Q L f k n pc lv (.ref a :: st) := by
  intro E H locs ls hH hS hl
  obtain ⟨q0, hq0⟩ := k_pos hc
  exact va_get E.1 E.2.1 (E.cls ic) (fun _ h => h) E.2.2.2.1 E.K hH.1 q0 hq0 hci j hj (E.word hq rfl) (fun x h => u_same (E.word hs rfl) x h) hv d (kk E H locs ls hH hS hl)
theorem k_Hset {κ : Kx} {L : List Nat} {f : Nat → wE} {H : Heap} {a q0 tg : Nat} {x y : va_E} (hD : va_D (kA κ) (va_pl L (kf f))) (hc : Cl L f a (tg, x)) (hq0 : (va_pl L (kf f))[q0]? = some (a, x)) (p1 : va_P κ.1 vwCl ((va_pl L (kf f)).set q0 (a, y)) H) (p2 : va_D (kA κ) ((va_pl L (kf f)).set q0 (a, y))) :
    k_H κ L (va_up f a (tg, y)) H ∧ (∀ b, b ≠ a → va_up f a (tg, y) b = f b) ∧ Cl L (va_up f a (tg, y)) a (tg, y) := by
  rw [k_set (e := (tg, x)) (x := y) hD hc hq0] at p1 p2
  exact ⟨⟨p1, p2⟩, fun b hb => va_up_ne f _ hb, hc.1, va_up_self f a _⟩
theorem k_put {C : String} {T : u_T} {ty0 : Nat → FieldType} {N ci i : Nat} {fs : List Value} {v : Value} {ty : FieldType} (j : Nat) (fs' : List Value) (ic : ∀ w ∈ u_ws C T N, w ∈ lw_tbl) (ity : ∀ k, k < N → parseFieldDescriptor (T k).2.2.1 = some (ty0 k)) (inm : ∀ a, a < N → ∀ b, b < N → a ≠ b → (T a).2.1 ≠ (T b).2.1) (hq : Cond.fieldLink own i (T j).1 (T j).2.1 (T j).2.2.1 ∈ lw_tbl) (hc : Cl L f a (tg, .inr (ci, fs))) (hci : vwCl[ci]? = some (C, T, N)) (hj : j < N) (hfin : (T j).2.2.2 = false) (hty : ty0 j = ty) (hn : narrow ty v = v) (hfit : fits ty v = true) (hjl : j < fs.length) (hfs : fs.set j v = fs') (d : decode cc pc = .ok (.putfield i, 3))
    (kk : ∀ f' : Nat → wE, (∀ b, b ≠ a → f' b = f b) → Cl L f' a (tg, .inr (ci, fs')) → k_G θ κ cc nL ret own R Q L f' k n (pc + 3) lv st) : k_G θ κ cc nL ret own R Q L f k n pc lv (v :: .ref a :: st) := by
  intro E H locs ls hH hS hl
  obtain ⟨q0, hq0⟩ := k_pos hc
  refine va_put E.1 E.2.1 (E.cls ic) (fun _ h => h) ty0 ity inm E.2.2.2.1 E.K hH.1 hH.2 hS q0 hq0 hci j hj (E.word hq rfl) (fun _ h => h) hfin (by rw [ity j hj, hty]) hn hfit hjl d (fun H1 locs1 p1 p2 p3 => ?_)
  rw [hfs] at p1 p2
  obtain ⟨h1, h2, h3⟩ := k_Hset hH.2 hc hq0 p1 p2
  exact kk _ h2 h3 E H1 locs1 ls h1 p3 hl
theorem k_putN {C : String} {T : u_T} {ty0 : Nat → FieldType} {N ci i : Nat} {fs : List Value} {v : Value} {ty : FieldType} {host : String} (j : Nat) (fs' : List Value) (ic : ∀ w ∈ u_ws C T N, w ∈ lw_tbl) (ity : ∀ k, k < N → parseFieldDescriptor (T k).2.2.1 = some (ty0 k)) (inm : ∀ a, a < N → ∀ b, b < N → a ≠ b → (T a).2.1 ≠ (T b).2.1) (hq : Cond.fieldLinkNest own i (T j).1 (T j).2.1 (T j).2.2.1 host ∈ lw_tbl) (hc : Cl L f a (tg, .inr (ci, fs))) (hci : vwCl[ci]? = some (C, T, N)) (hj : j < N) (hfin : (T j).2.2.2 = false) (hty : ty0 j = ty) (hn : narrow ty v = v) (hfit : fits ty v = true) (hjl : j < fs.length) (hfs : fs.set j v = fs') (d : decode cc pc = .ok (.putfield i, 3))
    (kk : ∀ f' : Nat → wE, (∀ b, b ≠ a → f' b = f b) → Cl L f' a (tg, .inr (ci, fs')) → k_G θ κ cc nL ret own R Q L f' k n (pc + 3) lv st) : k_G θ κ cc nL ret own R Q L f k n pc lv (v :: .ref a :: st) := by
  intro E H locs ls hH hS hl
  obtain ⟨q0, hq0⟩ := k_pos hc
  refine va_putN E.1 E.2.1 (E.cls ic) (fun _ h => h) ty0 ity inm E.2.2.2.1 E.K hH.1 hH.2 hS q0 hq0 hci j hj (E.word hq rfl) (fun _ h => h) hfin (by rw [ity j hj, hty]) hn hfit hjl d (fun H1 locs1 p1 p2 p3 => ?_)
  rw [hfs] at p1 p2
  obtain ⟨h1, h2, h3⟩ := k_Hset hH.2 hc hq0 p1 p2
  exact kk _ h2 h3 E H1 locs1 ls h1 p3 hl
theorem k_putF {C : String} {T : u_T} {ty0 : Nat → FieldType} {N ci i : Nat} {fs : List Value} {v : Value} {ty : FieldType} (j : Nat) (fs' : List Value) (ic : ∀ w ∈ u_ws C T N, w ∈ lw_tbl) (ity : ∀ k, k < N → parseFieldDescriptor (T k).2.2.1 = some (ty0 k)) (inm : ∀ a, a < N → ∀ b, b < N → a ≠ b → (T a).2.1 ≠ (T b).2.1) (hq : Cond.fieldLink own i (T j).1 (T j).2.1 (T j).2.2.1 ∈ lw_tbl) (hc : Cl L f a (tg, .inr (ci, fs))) (hci : vwCl[ci]? = some (C, T, N)) (hj : j < N) (hfin : (T j).2.2.2 = true) (hin : θ.2.2.2.2.2.2.2.1.name = "<init>") (hdc : (T j).1 = own) (hty : ty0 j = ty) (hn : narrow ty v = v) (hfit : fits ty v = true) (hjl : j < fs.length) (hfs : fs.set j v = fs') (d : decode cc pc = .ok (.putfield i, 3))
    (kk : ∀ f' : Nat → wE, (∀ b, b ≠ a → f' b = f b) → Cl L f' a (tg, .inr (ci, fs')) → k_G θ κ cc nL ret own R Q L f' k n (pc + 3) lv st) : k_G θ κ cc nL ret own R Q L f k n pc lv (v :: .ref a :: st) := by
  intro E H locs ls hH hS hl
  obtain ⟨q0, hq0⟩ := k_pos hc
  refine va_putF E.1 E.2.1 (E.cls ic) (fun _ h => h) ty0 ity inm E.2.2.2.1 E.K hH.1 hH.2 hS q0 hq0 hci j hj (E.word hq rfl) (fun _ h => h) hfin hin hdc (by rw [ity j hj, hty]) hn hfit hjl d (fun H1 locs1 p1 p2 p3 => ?_)
  rw [hfs] at p1 p2
  obtain ⟨h1, h2, h3⟩ := k_Hset hH.2 hc hq0 p1 p2
  exact kk _ h2 h3 E H1 locs1 ls h1 p3 hl
theorem k_putS {C : String} {T : u_T} {ty0 : Nat → FieldType} {N ci i : Nat} {fs : List Value} {v : Value} {ty : FieldType} {ref : String} (j : Nat) (fs' : List Value) (ic : ∀ w ∈ u_ws C T N, w ∈ lw_tbl) (ity : ∀ k, k < N → parseFieldDescriptor (T k).2.2.1 = some (ty0 k)) (inm : ∀ a, a < N → ∀ b, b < N → a ≠ b → (T a).2.1 ≠ (T b).2.1) (hq : Cond.fieldLink own i ref (T j).2.1 (T j).2.2.1 ∈ lw_tbl) (hs : Cond.sameField ref (T j).1 (T j).2.1 (T j).2.2.1 ∈ lw_tbl) (hc : Cl L f a (tg, .inr (ci, fs))) (hci : vwCl[ci]? = some (C, T, N)) (hj : j < N) (hfin : (T j).2.2.2 = false) (hty : ty0 j = ty) (hn : narrow ty v = v) (hfit : fits ty v = true) (hjl : j < fs.length) (hfs : fs.set j v = fs') (d : decode cc pc = .ok (.putfield i, 3))
    (kk : ∀ f' : Nat → wE, (∀ b, b ≠ a → f' b = f b) → Cl L f' a (tg, .inr (ci, fs')) → k_G θ κ cc nL ret own R Q L f' k n (pc + 3) lv st) : k_G θ κ cc nL ret own R Q L f k n pc lv (v :: .ref a :: st) := by
  intro E H locs ls hH hS hl
  obtain ⟨q0, hq0⟩ := k_pos hc
  refine va_put E.1 E.2.1 (E.cls ic) (fun _ h => h) ty0 ity inm E.2.2.2.1 E.K hH.1 hH.2 hS q0 hq0 hci j hj (E.word hq rfl) (fun x h => u_same (E.word hs rfl) x h) hfin (by rw [ity j hj, hty]) hn hfit hjl d (fun H1 locs1 p1 p2 p3 => ?_)
  rw [hfs] at p1 p2
  obtain ⟨h1, h2, h3⟩ := k_Hset hH.2 hc hq0 p1 p2
  exact kk _ h2 h3 E H1 locs1 ls h1 p3 hl
theorem k_iald {N : Nat} {G : Nat → Int} {x : Int} (j : Nat) (hc : Cl L f a (tg, .inl (κ.2.2.1 0, N, .inl (fun i => iI (G i))))) (hx : x = (j : Int)) (hj : j < N) (hN : N < 2147483648) (d : decode cc pc = .ok (.iaload, 1)) (kk : k_G θ κ cc nL ret own R Q L f k n (pc + 1) lv (.int (iI (G j)) :: st)) : k_G θ κ cc nL ret own R Q L f k n pc lv (.int (iI x) :: .ref a :: st) := by
  intro E H locs ls hH hS hl
  obtain ⟨q0, hq0⟩ := k_pos hc
  refine va_iald E.1 E.2.1 E.K hH.1 q0 0 hq0 rfl (iI_in hx hj hN) d ?_
  rw [iI_cl hx (Nat.lt_trans hj hN)]
  exact kk E H locs ls hH hS hl
theorem k_iast {N : Nat} {G : Nat → Int} {x : Int} {z : Int} (j : Nat) (hc : Cl L f a (tg, .inl (κ.2.2.1 0, N, .inl (fun i => iI (G i))))) (hx : x = (j : Int)) (hj : j < N) (hN : N < 2147483648) (d : decode cc pc = .ok (.iastore, 1))
    (kk : ∀ f' : Nat → wE, (∀ b, b ≠ a → f' b = f b) → Cl L f' a (tg, .inl (κ.2.2.1 0, N, .inl (fun i => iI (va_up G j z i)))) → k_G θ κ cc nL ret own R Q L f' k n (pc + 1) lv st) : k_G θ κ cc nL ret own R Q L f k n pc lv (.int (iI z) :: .int (iI x) :: .ref a :: st) := by
  intro E H locs ls hH hS hl
  obtain ⟨q0, hq0⟩ := k_pos hc
  refine va_iast E.1 E.2.1 E.K hH.1 hH.2 hS q0 0 hq0 rfl (iI_in hx hj hN) d (fun H1 locs1 p1 p2 p3 => ?_)
  rw [iI_cl hx (Nat.lt_trans hj hN)] at p1 p2
  have e : upd (fun i => iI (G i)) j (iI z) = fun i => iI (va_up G j z i) := by
    funext i
    unfold upd va_up
    split
    · rfl
    · rfl
  rw [e] at p1 p2
  obtain ⟨h1, h2, h3⟩ := k_Hset hH.2 hc hq0 p1 p2
  exact kk _ h2 h3 E H1 locs1 ls h1 p3 hl
theorem k_zald {N : Nat} {G : Nat → Bool} {x : Int} (j : Nat) (hc : Cl L f a (tg, .inl (κ.2.2.1 2, N, .inl (fun i => iI (bI (G i)))))) (hx : x = (j : Int)) (hj : j < N) (hN : N < 2147483648) (d : decode cc pc = .ok (.baload, 1)) (kk : k_G θ κ cc nL ret own R Q L f k n (pc + 1) lv (.int (iI (bI (G j))) :: st)) : k_G θ κ cc nL ret own R Q L f k n pc lv (.int (iI x) :: .ref a :: st) := by
  intro E H locs ls hH hS hl
  obtain ⟨q0, hq0⟩ := k_pos hc
  refine va_zald E.1 E.2.1 E.K hH.1 q0 2 hq0 rfl (iI_in hx hj hN) d ?_
  rw [iI_cl hx (Nat.lt_trans hj hN)]
  exact kk E H locs ls hH hS hl
theorem k_zast {N : Nat} {G : Nat → Bool} {x : Int} {z : Bool} (j : Nat) (hc : Cl L f a (tg, .inl (κ.2.2.1 2, N, .inl (fun i => iI (bI (G i)))))) (hx : x = (j : Int)) (hj : j < N) (hN : N < 2147483648) (d : decode cc pc = .ok (.bastore, 1))
    (kk : ∀ f' : Nat → wE, (∀ b, b ≠ a → f' b = f b) → Cl L f' a (tg, .inl (κ.2.2.1 2, N, .inl (fun i => iI (bI (va_up G j z i))))) → k_G θ κ cc nL ret own R Q L f' k n (pc + 1) lv st) : k_G θ κ cc nL ret own R Q L f k n pc lv (.int (iI (bI z)) :: .int (iI x) :: .ref a :: st) := by
  intro E H locs ls hH hS hl
  obtain ⟨q0, hq0⟩ := k_pos hc
  refine va_zast E.1 E.2.1 E.K hH.1 hH.2 hS q0 2 hq0 rfl (iI_in hx hj hN) d (fun H1 locs1 p1 p2 p3 => ?_)
  rw [iI_cl hx (Nat.lt_trans hj hN)] at p1 p2
  have e : upd (fun i => iI (bI (G i))) j (vp_nar .boolean (iI (bI z))) = fun i => iI (bI (va_up G j z i)) := by
    funext i
    unfold upd va_up
    split
    · cases z <;> decide
    · rfl
  rw [e] at p1 p2
  obtain ⟨h1, h2, h3⟩ := k_Hset hH.2 hc hq0 p1 p2
  exact kk _ h2 h3 E H1 locs1 ls h1 p3 hl
theorem k_aald {N : Nat} {G : Nat → Option Nat} {x : Int} {y : Nat} (j : Nat) (hc : Cl L f a (tg, .inl (κ.2.2.1 3, N, .inr (.inr (.inr (.inr G)))))) (hx : x = (j : Int)) (hj : j < N) (hN : N < 2147483648) (hy : G j = some y) (d : decode cc pc = .ok (.aaload, 1)) (kk : k_G θ κ cc nL ret own R Q L f k n (pc + 1) lv (.ref y :: st)) : k_G θ κ cc nL ret own R Q L f k n pc lv (.int (iI x) :: .ref a :: st) := by
  intro E H locs ls hH hS hl
  obtain ⟨q0, hq0⟩ := k_pos hc
  refine va_aldq E.1 E.2.1 E.K hH.1 q0 3 hq0 rfl (iI_in hx hj hN) d ?_
  rw [iI_cl hx (Nat.lt_trans hj hN), hy]
  exact kk E H locs ls hH hS hl
theorem k_aast {N ci tv v : Nat} {G : Nat → Option Nat} {x : Int} {vs : List Value} {r : vw_C} (j : Nat) (hc : Cl L f a (tg, .inl (κ.2.2.1 3, N, .inr (.inr (.inr (.inr G)))))) (hv : Cl L f v (tv, .inr (ci, vs))) (hci : vwCl[ci]? = some r) (hq : Cond.castable r.1 "java/lang/Object" ∈ lw_tbl) (hx : x = (j : Int)) (hj : j < N) (hN : N < 2147483648) (d : decode cc pc = .ok (.aastore, 1))
    (kk : ∀ f' : Nat → wE, (∀ b, b ≠ a → f' b = f b) → Cl L f' a (tg, .inl (κ.2.2.1 3, N, .inr (.inr (.inr (.inr (va_up G j (some v))))))) → k_G θ κ cc nL ret own R Q L f' k n (pc + 1) lv st) : k_G θ κ cc nL ret own R Q L f k n pc lv (.ref v :: .int (iI x) :: .ref a :: st) := by
  intro E H locs ls hH hS hl
  obtain ⟨q0, hq0⟩ := k_pos hc
  obtain ⟨q1, hq1⟩ := k_pos hv
  refine va_astqO E.1 E.2.1 E.K hH.1 hH.2 hS q0 3 q1 ci hq0 rfl (E.2.2.2.2.1.2.1 _ hq rfl) hq1 hci (iI_in hx hj hN) d (fun H1 locs1 p1 p2 p3 => ?_)
  rw [iI_cl hx (Nat.lt_trans hj hN)] at p1 p2
  obtain ⟨h1, h2, h3⟩ := k_Hset hH.2 hc hq0 p1 p2
  exact kk _ h2 h3 E H1 locs1 ls h1 p3 hl
theorem k_aastN {N : Nat} {G : Nat → Option Nat} {x : Int} (j : Nat) (hc : Cl L f a (tg, .inl (κ.2.2.1 3, N, .inr (.inr (.inr (.inr G)))))) (hx : x = (j : Int)) (hj : j < N) (hN : N < 2147483648) (d : decode cc pc = .ok (.aastore, 1))
    (kk : ∀ f' : Nat → wE, (∀ b, b ≠ a → f' b = f b) → Cl L f' a (tg, .inl (κ.2.2.1 3, N, .inr (.inr (.inr (.inr (va_up G j none)))))) → k_G θ κ cc nL ret own R Q L f' k n (pc + 1) lv st) : k_G θ κ cc nL ret own R Q L f k n pc lv (.null :: .int (iI x) :: .ref a :: st) := by
  intro E H locs ls hH hS hl
  obtain ⟨q0, hq0⟩ := k_pos hc
  refine va_astqN E.1 E.2.1 E.K hH.1 hH.2 hS q0 3 hq0 rfl (iI_in hx hj hN) d (fun H1 locs1 p1 p2 p3 => ?_)
  rw [iI_cl hx (Nat.lt_trans hj hN)] at p1 p2
  obtain ⟨h1, h2, h3⟩ := k_Hset hH.2 hc hq0 p1 p2
  exact kk _ h2 h3 E H1 locs1 ls h1 p3 hl
theorem k_alen {N t0 : Nat} {cA : ClassId} {x : (Nat → Int32) ⊕ (Nat → Int64) ⊕ (Nat → UInt32) ⊕ (Nat → UInt64) ⊕ (Nat → Option Nat)} {ty : FieldType} (hc : Cl L f a (tg, .inl (cA, N, x))) (ht : (k_tys κ)[t0]? = some (cA, ty)) (d : decode cc pc = .ok (.arraylength, 1)) (kk : k_G θ κ cc nL ret own R Q L f k n (pc + 1) lv (.int (iI (N : Int)) :: st)) : k_G θ κ cc nL ret own R Q L f k n pc lv (.ref a :: st) := by
  intro E H locs ls hH hS hl
  obtain ⟨q0, hq0⟩ := k_pos hc
  exact va_alen E.1 E.2.1 E.K hH.1 q0 t0 hq0 ht (iI_nI N).symm d (kk E H locs ls hH hS hl)
theorem k_new {C : String} {T : u_T} {ty0 : Nat → FieldType} {N ci i : Nat} (tg : Nat) (fs : List Value) (ic : ∀ w ∈ u_ws C T N, w ∈ lw_tbl) (ity : ∀ k, k < N → parseFieldDescriptor (T k).2.2.1 = some (ty0 k)) (h1 : Cond.classLink own i C ∈ lw_tbl) (h2 : Cond.instantiable C N ∈ lw_tbl) (h3 : Cond.initialized C ∈ lw_tbl) (hci : vwCl[ci]? = some (C, T, N)) (hfs : ∀ j, j < N → defaultValue (ty0 j) = vp_V fs j) (hk : k + 1 ≤ R.cells) (hn : n + N ≤ R.slots) (d : decode cc pc = .ok (.new i, 3))
    (kk : ∀ (q : Nat) (L' : List Nat) (f' : Nat → wE), (∀ z ∈ L, z ∈ L' ∧ f' z = f z) → q ∉ L → Cl L' f' q (tg, .inr (ci, fs)) → k_G θ κ cc nL ret own R Q L' f' (k + 1) (n + N) (pc + 3) lv (.ref q :: st)) : k_G θ κ cc nL ret own R Q L f k n pc lv st := by
  intro E H locs ls hH hS hl
  refine va_new E.1 E.2.1 (E.cls ic) (fun _ h => h) ty0 ity E.2.2.2.1 (E.word h1 rfl) (E.word h2 rfl) (E.word h3 rfl) E.K hH.1 hH.2 hS (fun q hq => Nat.le_trans E.2.2.2.2.2.2.1 hq) hci hfs hk hn d (fun q H1 p1 p2 p3 => ?_)
  obtain ⟨g1, g2⟩ := k_push tg p2
  rw [g2] at p1 p2
  exact kk q _ _ (fun z hz => ⟨List.mem_append_left _ hz, va_up_ne f _ (fun e => g1 (by rw [← e]; exact hz))⟩) g1 ⟨List.mem_append_right _ (List.mem_singleton.mpr rfl), va_up_self f q _⟩ E H1 locs ls ⟨p1, p2⟩ p3 hl
theorem k_newai {x : Int} (tg N : Nat) (h1 : Cond.arrayClass .int ∈ lw_tbl) (hx : x = (N : Int)) (hN : N ≤ 60000) (hk : k + 1 ≤ R.cells) (hn : n + N ≤ R.slots) (d : decode cc pc = .ok (.newarray .int, 2))
    (kk : ∀ (q : Nat) (L' : List Nat) (f' : Nat → wE), (∀ z ∈ L, z ∈ L' ∧ f' z = f z) → q ∉ L → Cl L' f' q (tg, .inl (κ.2.2.1 0, N, .inl (fun _ => iI 0))) → k_G θ κ cc nL ret own R Q L' f' (k + 1) (n + N) (pc + 2) lv (.ref q :: st)) : k_G θ κ cc nL ret own R Q L f k n pc lv (.int (iI x) :: st) := by
  intro E H locs ls hH hS hl
  refine va_newa (atype := .int) (ty := .int) (N' := N) (a0 := (N, .inl (fun _ => iI 0))) E.1 E.2.1 (E.word h1 rfl) rfl E.K hH.1 hH.2 hS (fun q hq => Nat.le_trans E.2.2.2.2.2.2.1 hq) (fun cA => rfl) (by rw [hx, iI_nI]; exact nI_pos (by omega)) (iI_cl hx (by omega)) (by show N * 4 ≤ 536870912; omega) hk hn d (fun q cA H1 p0 p1 p2 p3 => ?_)
  have e : cA = κ.2.2.1 0 := by
    have e1 := va_nm_int (p0.2 4 (cA, .int) rfl).2
    have e2 := va_nm_int (E.K.2 0 (κ.2.2.1 0, .int) rfl).2
    exact Option.some.inj (e1.symm.trans e2)
  subst e
  obtain ⟨g1, g2⟩ := k_push tg p2
  rw [g2] at p1 p2
  exact kk q _ _ (fun z hz => ⟨List.mem_append_left _ hz, va_up_ne f _ (fun e => g1 (by rw [← e]; exact hz))⟩) g1 ⟨List.mem_append_right _ (List.mem_singleton.mpr rfl), va_up_self f q _⟩ E H1 locs ls ⟨p1, p2⟩ p3 hl
theorem k_newaz {x : Int} (tg N : Nat) (h1 : Cond.arrayClass .boolean ∈ lw_tbl) (hx : x = (N : Int)) (hN : N ≤ 60000) (hk : k + 1 ≤ R.cells) (hn : n + N ≤ R.slots) (d : decode cc pc = .ok (.newarray .boolean, 2))
    (kk : ∀ (q : Nat) (L' : List Nat) (f' : Nat → wE), (∀ z ∈ L, z ∈ L' ∧ f' z = f z) → q ∉ L → Cl L' f' q (tg, .inl (κ.2.2.1 2, N, .inl (fun _ => iI (bI false)))) → k_G θ κ cc nL ret own R Q L' f' (k + 1) (n + N) (pc + 2) lv (.ref q :: st)) : k_G θ κ cc nL ret own R Q L f k n pc lv (.int (iI x) :: st) := by
  intro E H locs ls hH hS hl
  refine va_newa (atype := .boolean) (ty := .boolean) (N' := N) (a0 := (N, .inl (fun _ => iI (bI false)))) E.1 E.2.1 (E.word h1 rfl) rfl E.K hH.1 hH.2 hS (fun q hq => Nat.le_trans E.2.2.2.2.2.2.1 hq) (fun cA => rfl) (by rw [hx, iI_nI]; exact nI_pos (by omega)) (iI_cl hx (by omega)) (by show N * 1 ≤ 536870912; omega) hk hn d (fun q cA H1 p0 p1 p2 p3 => ?_)
  have e : cA = κ.2.2.1 2 := by
    have e1 := va_nm_boolean (p0.2 4 (cA, .boolean) rfl).2
    have e2 := va_nm_boolean (E.K.2 2 (κ.2.2.1 2, .boolean) rfl).2
    exact Option.some.inj (e1.symm.trans e2)
  subst e
  obtain ⟨g1, g2⟩ := k_push tg p2
  rw [g2] at p1 p2
  exact kk q _ _ (fun z hz => ⟨List.mem_append_left _ hz, va_up_ne f _ (fun e => g1 (by rw [← e]; exact hz))⟩) g1 ⟨List.mem_append_right _ (List.mem_singleton.mpr rfl), va_up_self f q _⟩ E H1 locs ls ⟨p1, p2⟩ p3 hl
theorem k_newq {x : Int} {i : Nat} (tg N : Nat) (h1 : Cond.classLink own i "java/lang/Object" ∈ lw_tbl) (hx : x = (N : Int)) (hN : N ≤ 60000) (hk : k + 1 ≤ R.cells) (hn : n + N ≤ R.slots) (d : decode cc pc = .ok (.anewarray i, 3))
    (kk : ∀ (q : Nat) (L' : List Nat) (f' : Nat → wE), (∀ z ∈ L, z ∈ L' ∧ f' z = f z) → q ∉ L → Cl L' f' q (tg, .inl (κ.2.2.1 3, N, .inr (.inr (.inr (.inr (fun _ => none)))))) → k_G θ κ cc nL ret own R Q L' f' (k + 1) (n + N) (pc + 3) lv (.ref q :: st)) : k_G θ κ cc nL ret own R Q L f k n pc lv (.int (iI x) :: st) := by
  intro E H locs ls hH hS hl
  refine va_newq (N' := N) E.1 E.2.1 E.2.2.2.1 (E.word h1 rfl) E.2.2.2.2.1.2.2.2.1 E.K hH.1 hH.2 hS (fun q hq => Nat.le_trans E.2.2.2.2.2.2.1 hq) (by rw [hx, iI_nI]; exact nI_pos (by omega)) (iI_cl hx (by omega)) (by omega) hk hn d (fun q cA H1 p0 p1 p2 p3 => ?_)
  have e : cA = κ.2.2.1 3 := by
    have e1 := va_nmO (p0.2 4 (cA, .object "java/lang/Object") rfl).2 rfl
    have e2 := va_nmO (E.K.2 3 (κ.2.2.1 3, .object "java/lang/Object") rfl).2 rfl
    exact Option.some.inj (e1.symm.trans e2)
  subst e
  obtain ⟨g1, g2⟩ := k_push tg p2
  rw [g2] at p1 p2
  exact kk q _ _ (fun z hz => ⟨List.mem_append_left _ hz, va_up_ne f _ (fun e => g1 (by rw [← e]; exact hz))⟩) g1 ⟨List.mem_append_right _ (List.mem_singleton.mpr rfl), va_up_self f q _⟩ E H1 locs ls ⟨p1, p2⟩ p3 hl
theorem k_castS {nm : String} {T : u_T} {N ci i : Nat} {fs : List Value} (h1 : Cond.classLink own i nm ∈ lw_tbl) (hc : Cl L f a (tg, .inr (ci, fs))) (hci : vwCl[ci]? = some (nm, T, N)) (d : decode cc pc = .ok (.checkcast i, 3)) (kk : k_G θ κ cc nL ret own R Q L f k n (pc + 3) lv (.ref a :: st)) : k_G θ κ cc nL ret own R Q L f k n pc lv (.ref a :: st) := by
  intro E H locs ls hH hS hl
  obtain ⟨q0, hq0⟩ := k_pos hc
  exact va_castS E.1 E.2.1 E.2.2.2.1 (E.word h1 rfl) (E.K.1 ci _ hci).2 (va_recv E.K hH.1 hci hq0) d (kk E H locs ls hH hS hl)
end Memory
