/-! ===== the world at the start ===== -/
def st_ad (t0 t1 t2 t3 t4 t5 : Nat) (g : Nat → Nat) : Nat → Nat
  | 0 => t0
  | 1 => t1
  | 2 => t2
  | 3 => t3
  | 4 => t4
  | 5 => t5
  | j + 6 => g (j - 4)
def st_cl (c0 c1 c2 c3 : ClassId) : Nat → ClassId
  | 0 => c0
  | 1 => c1
  | 2 => c2
  | _ => c3
theorem st_ad_g {t0 t1 t2 t3 t4 t5 : Nat} {g : Nat → Nat} (i : Nat) : st_ad t0 t1 t2 t3 t4 t5 g (10 + i) = g i := by
  rw [Nat.add_comm]
  show g (i + 4 - 4) = g i
  rw [Nat.add_sub_cancel]
theorem st_arr {args : Array Value} {s : State} {A : Nat → Prop} (C nm : String) (l : List Int) (h1 : (Cond.laysStatic C nm "[I").before args s = true) (h2 : (Cond.initialized C).before args s = true) (h3 : (Cond.arrayOf (.static C nm "[I") .int).before args s = true) (h4 : (Cond.eq (.length (.static C nm "[I")) (.int 6)).before args s = true) (h5 : ∀ j : Nat, j < 6 → (Cond.eq (.elem (.static C nm "[I") (.int (Int32.ofNat j))) (.int (iI (l.getD j 0)))).before args s = true) (hA : ∀ a : Nat, a < s.heap.size → ¬ A a) : ∃ t : Nat, va_Z C nm "[I" (.ref t) A s s.heap ∧ va_T .int t 6 (k_arr l) A s s.heap := by
  obtain ⟨t, ht, hT⟩ := va_Tof (N := 6) (f := k_arr l) (by decide) h3 (va_eqt h4) (fun j hj => va_eqt (h5 j hj)) hA
  exact ⟨t, va_Zref h1 h2 ht hA, hT⟩
theorem st_arrK {args : Array Value} {s : State} {t : FieldType} (h : (Cond.arrayClass t).before args s = true) : ∃ c : ClassId, ArrOfT s c t ∧ s.vm.findClass ("[" ++ t.toString) = some c := by
  obtain ⟨c, k, comp, h1, h2, h3⟩ := Cond.arrayClass_spec h
  exact ⟨c, fun n z => ⟨fun k h => (by cases h), k, h2, comp, h3⟩, h1⟩
theorem st_strs_ok : (k_strs.all fun q => decide (Cond.stringRef "TideTable" q.1 q.2 ∈ lw_tbl)) = true := by decide +kernel
theorem st_str {args : Array Value} {s : State} {cur : ClassId} (hts : ∀ w ∈ lw_tbl, w.before args s = true) (hcur : s.vm.findClass "TideTable" = some cur) : ∃ g : Nat → Nat, ∀ (i : Nat) (q : Nat × String), k_strs[i]? = some q → vk_R "TideTable" q.1 q.2 (g i) s := by
  have h : ∀ i : Nat, ∃ a : Nat, ∀ q : Nat × String, k_strs[i]? = some q → vk_R "TideTable" q.1 q.2 a s := by
    intro i
    cases hq : k_strs[i]? with
    | none => exact ⟨0, fun q h => by cases h⟩
    | some q0 =>
      have hm : q0 ∈ k_strs := List.mem_of_getElem? hq
      have h1 := hts _ (of_decide_eq_true (List.all_eq_true.mp st_strs_ok q0 hm))
      obtain ⟨k, cf, j, a, -, -, -, -, -, h2⟩ := Cond.stringRef_spec hcur h1
      refine ⟨a, fun q h => ?_⟩
      cases h
      exact vk_R.of h1 h2
  exact ⟨fun i => Classical.choose (h i), fun i => Classical.choose_spec (h i)⟩
theorem st_nw {args : Array Value} {s : State} {w : Cond} (hk : k_ok w = true) (h : w.before args s = true) : va_Nw w s := by
  simp only [k_ok, Bool.or_eq_true] at hk
  rcases hk with hg | hn
  · exact word_at (State.WarmedH.refl s) (good_of_word hg) h
  · refine va_Nw.of ?_ h
    cases w <;> first | rfl | cases hn
theorem st_e0 : ∀ j : Nat, j < 6 → Cond.eq (.elem (.static "TideTable" "TWELFTHS_OF_SIXTH" "[I") (.int (Int32.ofNat j))) (.int (iI (List.getD [1, 2, 3, 3, 2, 1] j 0))) ∈ flatC (Jvm.Cond.and given_1 narrow_1) := by decide +kernel
theorem st_e1 : ∀ j : Nat, j < 6 → Cond.eq (.elem (.static "TideTable" "TWELFTHS_AHEAD_OF_SIXTH" "[I") (.int (Int32.ofNat j))) (.int (iI (List.getD [0, 1, 3, 6, 9, 11] j 0))) ∈ flatC (Jvm.Cond.and given_1 narrow_1) := by decide +kernel
set_option maxHeartbeats 4000000 in
set_option maxRecDepth 100000 in
/-- what the Statement gives of the start, in our words -/
theorem st_world {args : Array Value} {s : State} {b N : Nat} {xs : Nat → Int32} (hts : ∀ w ∈ lw_tbl, w.before args s = true) (hgv : (Jvm.Cond.and given_1 narrow_1).before args s = true) (hX : va_X b N xs s s.heap) (hbl : b < s.heap.size) (hN : N < 2147483648) : ∃ κ : Kx, κ.2.1 = s.heap.size ∧ κ.2.2.2 2 = b ∧ k_V κ s ∧ k_Z κ s s.heap := by
  have hfl : ∀ w ∈ flatC (Jvm.Cond.and given_1 narrow_1), w.before args s = true := flat_of_before _ hgv
  obtain ⟨c0, iS0, hKn0⟩ := u_known (C := RJx4a65c) (T := TJx4a65c) (N := 3) (n := 3) hts i_Jx4a65c (hts _ q_51)
  obtain ⟨c1, iS1, hKn1⟩ := u_known (C := RX0) (T := TX0) (N := 2) (n := 2) hts i_X0 (hts _ q_374)
  obtain ⟨c2, iS2, hKn2⟩ := u_known (C := RX1) (T := TX1) (N := 3) (n := 3) hts i_X1 (hts _ q_368)
  obtain ⟨c3, iS3, hKn3⟩ := u_known (C := RX0) (T := TX0) (N := 2) (n := 2) hts i_X0 (hts _ q_374)
  obtain ⟨c4, iS4, hKn4⟩ := u_known (C := RX3) (T := TX3) (N := 5) (n := 5) hts i_X3 (hts _ q_85)
  obtain ⟨c5, iS5, hKn5⟩ := u_known (C := RX0) (T := TX0) (N := 2) (n := 2) hts i_X0 (hts _ q_374)
  obtain ⟨c6, iS6, hKn6⟩ := u_known (C := RX5) (T := TX5) (N := 2) (n := 2) hts i_X5 (hts _ q_45)
  obtain ⟨c7, iS7, hKn7⟩ := u_known (C := RX6) (T := TX6) (N := 3) (n := 3) hts i_X6 (hts _ q_548)
  obtain ⟨c8, iS8, hKn8⟩ := u_known (C := RX7) (T := TX7) (N := 5) (n := 5) hts i_X7 (hts _ q_37)
  obtain ⟨dC, dI, hKc⟩ : ∃ (dC : Nat → ClassId) (dI : Nat → Nat → Nat), ∀ (k : Nat) (q : vw_C), vwCl[k]? = some q → u_Kn s q.1 q.2.1 q.2.2 (dC k) (dI k) := by
    refine ⟨fun k => if k = 0 then c0 else if k = 1 then c1 else if k = 2 then c2 else if k = 3 then c3 else if k = 4 then c4 else if k = 5 then c5 else if k = 6 then c6 else if k = 7 then c7 else c8, fun k => if k = 0 then iS0 else if k = 1 then iS1 else if k = 2 then iS2 else if k = 3 then iS3 else if k = 4 then iS4 else if k = 5 then iS5 else if k = 6 then iS6 else if k = 7 then iS7 else iS8, ?_⟩
    intro k q hq
    match k, hq with
    | 0, hq => cases hq; exact hKn0
    | 1, hq => cases hq; exact hKn1
    | 2, hq => cases hq; exact hKn2
    | 3, hq => cases hq; exact hKn3
    | 4, hq => cases hq; exact hKn4
    | 5, hq => cases hq; exact hKn5
    | 6, hq => cases hq; exact hKn6
    | 7, hq => cases hq; exact hKn7
    | 8, hq => cases hq; exact hKn8
    | k + 9, hq => simp [vwCl] at hq
  obtain ⟨cI, hI1, hI2⟩ := st_arrK (hts (.arrayClass .int) (by decide +kernel))
  obtain ⟨cZ, hZ1, hZ2⟩ := st_arrK (hts (.arrayClass .boolean) (by decide +kernel))
  have hAO : (Cond.arrayOver (.object "java/lang/Object")).before args s = true := hts _ (by decide +kernel)
  obtain ⟨comp, cO, kO, g1, -, g2, g3, g4⟩ := Cond.arrayOver_spec hAO
  obtain ⟨mi, hmi⟩ := va_Mi.of (hfl (.isRef (.mirror "[Ljava/lang/Object;")) (by decide +kernel))
  obtain ⟨g, hg⟩ := st_str hts hKn8.2.1
  have hA : ∀ a : Nat, a < s.heap.size → ¬ (fun q : Nat => s.heap.size ≤ q) a := fun a h => Nat.not_le.mpr h
  obtain ⟨t0, hz0, ht0⟩ := st_arr (A := fun q : Nat => s.heap.size ≤ q) "TideTable" "TWELFTHS_OF_SIXTH" [1, 2, 3, 3, 2, 1] (hts _ (by decide +kernel)) (hts _ (by decide +kernel)) (hfl _ (by decide +kernel)) (hfl _ (by decide +kernel)) (fun j hj => hfl _ (st_e0 j hj)) hA
  obtain ⟨t1, hz1, ht1⟩ := st_arr (A := fun q : Nat => s.heap.size ≤ q) "TideTable" "TWELFTHS_AHEAD_OF_SIXTH" [0, 1, 3, 6, 9, 11] (hts _ (by decide +kernel)) (hts _ (by decide +kernel)) (hfl _ (by decide +kernel)) (hfl _ (by decide +kernel)) (fun j hj => hfl _ (st_e1 j hj)) hA
  obtain ⟨t4, e4, ht4⟩ := va_Tof (tm := .static "java/util/ArrayList" "DEFAULTCAPACITY_EMPTY_ELEMENTDATA" "[Ljava/lang/Object;") (ty := .object "java/lang/Object") (N := 0) (f := fun _ => Value.null) (A := fun q : Nat => s.heap.size ≤ q) (by decide) (hfl _ (by decide +kernel)) (va_eqt (hfl (.eq (.length (.static "java/util/ArrayList" "DEFAULTCAPACITY_EMPTY_ELEMENTDATA" "[Ljava/lang/Object;")) (.int 0)) (by decide +kernel))) (fun j hj => absurd hj (Nat.not_lt_zero j)) hA
  have hz4 := va_Zref (A := fun q : Nat => s.heap.size ≤ q) (hts (.laysStatic "java/util/ArrayList" "DEFAULTCAPACITY_EMPTY_ELEMENTDATA" "[Ljava/lang/Object;") (by decide +kernel)) (hts (.initialized "java/util/ArrayList") (by decide +kernel)) e4 hA
  have hu := vx_Zqof (A := fun q : Nat => s.heap.size ≤ q) (hts (.laysStatic Bundle.tN "UNASSIGNED_STACK" Bundle.steD) (by decide +kernel)) (hts (.initialized Bundle.tN) (by decide +kernel)) (hfl (.isRef (.static Bundle.tN "UNASSIGNED_STACK" Bundle.steD)) (by decide +kernel)) hA
  have hv := vx_Zqof (A := fun q : Nat => s.heap.size ≤ q) (hts (.laysStatic Bundle.tN "SUPPRESSED_SENTINEL" Bundle.listD) (by decide +kernel)) (hts (.initialized Bundle.tN) (by decide +kernel)) (hfl (.isRef (.static Bundle.tN "SUPPRESSED_SENTINEL" Bundle.listD)) (by decide +kernel)) hA
  obtain ⟨scr, x1, x2, x3, x4, x5⟩ := hX
  refine ⟨((dC, dI), s.heap.size, st_cl cI cI cZ cO, st_ad t0 t1 b 0 t4 mi g), rfl, rfl, ⟨⟨hKc, ?_⟩, fun w hw hk => st_nw hk (hts w hw), fun i q hq => ?_, va_AO.of hAO, hmi⟩, ⟨⟨hz0, ht0⟩, ⟨hz1, ht1⟩, ⟨N, xs, hN, scr, x1, x2, x3, Nat.le_of_eq x4.symm, by rw [x4], x5, hA b hbl⟩, trivial, ⟨hz4, ht4⟩, hu, hv⟩⟩
  · intro k q hq
    match k, hq with
    | 0, hq => cases hq; exact ⟨hI1, hI2⟩
    | 1, hq => cases hq; exact ⟨hI1, hI2⟩
    | 2, hq => cases hq; exact ⟨hZ1, hZ2⟩
    | 3, hq => cases hq; exact ⟨fun n z => ⟨fun k h => (by cases h), kO, g2, comp, g3⟩, kO, comp, g2, g3, g1, g4⟩
    | k + 4, hq => simp [k_tys] at hq
  · show vk_R "TideTable" q.1 q.2 (st_ad t0 t1 b 0 t4 mi g (10 + i)) s
    rw [st_ad_g]
    exact hg i q hq
