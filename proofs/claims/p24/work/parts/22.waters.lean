/-! ===== finding the waters by the changes of the height ===== -/
theorem bI_inj {a b : Bool} (h : bI a = bI b) : a = b := by
  cases a <;> cases b <;> first | rfl | exact absurd h (by decide)
theorem nxt_run (h : Nat → Int) (v : Int) {e : Nat} (he : e ≤ 4320) (hend : e = 4320 ∨ h e ≠ v) : ∀ (m j : Nat), j ≤ e → e - j ≤ m → (∀ x, j ≤ x → x < e → h x = v) → nxt h v m j = e
  | 0, j, h1, h2, _ => by
    have : j = e := by omega
    subst this
    rfl
  | m + 1, j, h1, h2, h3 => by
    simp only [nxt]
    rcases Nat.lt_or_ge j e with q | q
    · rw [if_pos ⟨by omega, h3 j (Nat.le_refl _) q⟩]
      exact nxt_run h v he hend m (j + 1) (by omega) (by omega) (fun x hx1 hx2 => h3 x (by omega) hx2)
    · have : j = e := by omega
      subst this
      rw [if_neg]
      rintro ⟨q1, q2⟩
      rcases hend with e1 | e1
      · omega
      · exact e1 q2
theorem const_run {h : Nat → Int} {c i : Nat} (hc : ∀ j, c < j → j < i → h j = h (j - 1)) : ∀ d : Nat, c + d < i → h (c + d) = h c
  | 0, _ => rfl
  | d + 1, hd => by
    have h1 := hc (c + (d + 1)) (by omega) hd
    rw [show c + (d + 1) - 1 = c + d by omega] at h1
    rw [h1]
    exact const_run hc d (by omega)
theorem const_at {h : Nat → Int} {c i j : Nat} (hc : ∀ j, c < j → j < i → h j = h (j - 1)) (h1 : c ≤ j) (h2 : j < i) : h j = h c := by
  have := const_run hc (j - c) (by omega)
  rwa [show c + (j - c) = j by omega] at this
theorem isW_chg {h : Nat → Int} {t : Nat} (ht : isW h t = true) : h t ≠ h (t - 1) := by
  have := (of_decide_eq_true ht).2.2
  omega
theorem wc_run {h : Nat → Int} {a : Nat} : ∀ {b : Nat}, a ≤ b → (∀ j, a ≤ j → j < b → h j = h (j - 1)) → wc h b = wc h a
  | 0, hab, _ => by
    have : a = 0 := by omega
    subst this
    rfl
  | b + 1, hab, hn => by
    rcases Nat.lt_or_ge b a with q | q
    · have : a = b + 1 := by omega
      subst this
      rfl
    · rw [wc_no (fun e => isW_chg e (hn b q (by omega)))]
      exact wc_run q (fun j h1 h2 => hn j h1 (by omega))
def FW (h : Nat → Int) (i c n : Nat) (r : Bool) (WT WH : Nat → Int) (WI : Nat → Bool) : Prop := c < i ∧ (c = 0 ∨ (h c ≠ h (c - 1) ∧ r = decide (h (c - 1) < h c))) ∧ (∀ j, c < j → j < i → h j = h (j - 1)) ∧ n = wc h c ∧ ∀ k, k < n → WT k = (tm h k : Int) ∧ WH k = h (tm h k) ∧ WI k = hi h k
theorem FW.same {h : Nat → Int} {i c n : Nat} {r : Bool} {WT WH : Nat → Int} {WI : Nat → Bool} (F : FW h i c n r WT WH WI) (e : h i = h (i - 1)) : FW h (i + 1) c n r WT WH WI := by
  obtain ⟨h1, h2, h3, h4, h5⟩ := F
  refine ⟨by omega, h2, fun j hj1 hj2 => ?_, h4, h5⟩
  rcases Nat.lt_or_ge j i with q | q
  · exact h3 j hj1 q
  · have : j = i := by omega
    subst this
    exact e
theorem FW.nxc {h : Nat → Int} {i c n : Nat} {r : Bool} {WT WH : Nat → Int} {WI : Nat → Bool} (F : FW h i c n r WT WH WI) (hi4 : i ≤ 4320) (e : i = 4320 ∨ h i ≠ h (i - 1)) : nx h c = i := by
  obtain ⟨h1, h2, h3, h4, h5⟩ := F
  unfold nx
  refine nxt_run h (h c) hi4 (e.imp id (fun q q2 => q ?_)) 4320 (c + 1) (by omega) (by omega) (fun x hx1 hx2 => const_at h3 (by omega) hx2)
  rw [q2]
  exact (const_at h3 (by omega) (by omega)).symm
theorem FW.isw {h : Nat → Int} {i c n : Nat} {r : Bool} {WT WH : Nat → Int} {WI : Nat → Bool} (F : FW h i c n r WT WH WI) (hi4 : i < 4320) (e : h i ≠ h (i - 1)) : isW h c = true ↔ 0 < c ∧ r ≠ decide (h (i - 1) < h i) := by
  have hnx := F.nxc (Nat.le_of_lt hi4) (Or.inr e)
  obtain ⟨h1, h2, h3, h4, h5⟩ := F
  have hc : h (i - 1) = h c := const_at h3 (by omega) (by omega)
  unfold isW
  rw [decide_eq_true_iff, hnx, hc]
  rw [hc] at e
  constructor
  · rintro ⟨a1, a2, a3⟩
    refine ⟨by omega, ?_⟩
    rcases h2 with h2 | ⟨h2, hr⟩
    · omega
    · rw [hr]
      rcases a3 with ⟨b1, b2⟩ | ⟨b1, b2⟩
      · rw [decide_eq_true b1, decide_eq_false (by omega)]
        decide
      · rw [decide_eq_false (by omega), decide_eq_true (by omega)]
        decide
  · rintro ⟨a1, a2⟩
    refine ⟨by omega, hi4, ?_⟩
    rcases h2 with h2 | ⟨h2, hr⟩
    · omega
    · rw [hr] at a2
      rcases Int.lt_or_gt_of_ne h2 with q | q
      · refine Or.inr ⟨q, ?_⟩
        rw [decide_eq_false (by omega)] at a2
        have a3 := of_decide_eq_true ((Bool.not_eq_false _).mp (fun x => a2 x.symm))
        exact a3
      · refine Or.inl ⟨q, ?_⟩
        rw [decide_eq_true q] at a2
        have a3 := of_decide_eq_false ((Bool.not_eq_true _).mp (fun x => a2 x.symm))
        omega
theorem FW.no {h : Nat → Int} {i c n : Nat} {r : Bool} {WT WH : Nat → Int} {WI : Nat → Bool} (F : FW h i c n r WT WH WI) (hi4 : i < 4320) (e : h i ≠ h (i - 1)) (hno : ¬ (0 < c ∧ r ≠ decide (h (i - 1) < h i))) : FW h (i + 1) i n (decide (h (i - 1) < h i)) WT WH WI := by
  have hw := F.isw hi4 e
  obtain ⟨h1, h2, h3, h4, h5⟩ := F
  refine ⟨by omega, Or.inr ⟨e, rfl⟩, fun j hj1 hj2 => by omega, ?_, h5⟩
  rw [h4, wc_run (h := h) (a := c + 1) (b := i) (by omega) (fun j hj1 hj2 => h3 j (by omega) hj2), wc_no (fun q => hno (hw.mp q))]
theorem FW.yes {h : Nat → Int} {i c n : Nat} {r : Bool} {WT WH : Nat → Int} {WI : Nat → Bool} (F : FW h i c n r WT WH WI) (hi4 : i < 4320) (e : h i ≠ h (i - 1)) (hyes : 0 < c ∧ r ≠ decide (h (i - 1) < h i)) : FW h (i + 1) i (n + 1) (decide (h (i - 1) < h i)) (va_up WT n (c : Int)) (va_up WH n (h (i - 1))) (va_up WI n r) := by
  have hw := (F.isw hi4 e).mpr hyes
  obtain ⟨h1, h2, h3, h4, h5⟩ := F
  have hc : h (i - 1) = h c := const_at h3 (by omega) (by omega)
  have htm : tm h n = c := by
    rw [h4]
    exact tm_of hw (by omega)
  refine ⟨by omega, Or.inr ⟨e, rfl⟩, fun j hj1 hj2 => by omega, ?_, fun k hk => ?_⟩
  · rw [h4, wc_run (h := h) (a := c + 1) (b := i) (by omega) (fun j hj1 hj2 => h3 j (by omega) hj2), wc_yes hw]
  · by_cases q : k = n
    · subst q
      rw [va_up_self, va_up_self, va_up_self, htm]
      refine ⟨rfl, hc, ?_⟩
      unfold hi
      rw [htm]
      rcases h2 with h2 | ⟨h2, hr⟩
      · omega
      · exact hr
    · rw [va_up_ne WT _ q, va_up_ne WH _ q, va_up_ne WI _ q]
      exact h5 k (by omega)
theorem FW.fin {h : Nat → Int} {c n : Nat} {r : Bool} {WT WH : Nat → Int} {WI : Nat → Bool} (F : FW h 4320 c n r WT WH WI) : n = nW h ∧ ∀ k, k < nW h → WT k = (tm h k : Int) ∧ WH k = h (tm h k) ∧ WI k = hi h k := by
  have hnx := F.nxc (Nat.le_refl _) (Or.inl rfl)
  obtain ⟨h1, h2, h3, h4, h5⟩ := F
  have e : n = nW h := by
    unfold nW
    rw [h4, wc_run (h := h) (a := c + 1) (b := 4320) (by omega) (fun j hj1 hj2 => h3 j (by omega) hj2), wc_no]
    intro q
    have := (of_decide_eq_true q).2.1
    omega
  rw [← e]
  exact ⟨rfl, h5⟩
theorem mxh_bd {h : Nat → Int} (hb : ∀ t, -50000 ≤ h t ∧ h t ≤ 50000) : ∀ n, -50000 ≤ mxh h n ∧ mxh h n ≤ 50000
  | 0 => hb 0
  | n + 1 => by
    have h1 := mxh_bd hb n
    have h2 := hb n
    simp only [mxh]
    omega
theorem mnh_bd {h : Nat → Int} (hb : ∀ t, -50000 ≤ h t ∧ h t ≤ 50000) : ∀ n, -50000 ≤ mnh h n ∧ mnh h n ≤ 50000
  | 0 => hb 0
  | n + 1 => by
    have h1 := mnh_bd hb n
    have h2 := hb n
    simp only [mnh]
    omega
theorem sumW_bd {h : Nat → Int} (hb : ∀ t, -50000 ≤ h t ∧ h t ≤ 50000) (b : Bool) : ∀ n : Nat, -50000 * (n : Int) ≤ sumW h b n ∧ sumW h b n ≤ 50000 * (n : Int)
  | 0 => ⟨by simp only [sumW]; omega, by simp only [sumW]; omega⟩
  | n + 1 => by
    have h1 := sumW_bd hb b n
    have h2 := hb (tm h n)
    simp only [sumW]
    split <;> omega
theorem cntW_bd {h : Nat → Int} (b : Bool) : ∀ n : Nat, 0 ≤ cntW h b n ∧ cntW h b n ≤ (n : Int)
  | 0 => ⟨by simp only [cntW]; omega, by simp only [cntW]; omega⟩
  | n + 1 => by
    have h1 := cntW_bd (h := h) b n
    simp only [cntW]
    split <;> omega
theorem difW_bd {h : Nat → Int} (hb : ∀ t, -50000 ≤ h t ∧ h t ≤ 50000) : ∀ n : Nat, 0 ≤ difW h n ∧ difW h n ≤ 100000
  | 0 => ⟨by simp only [difW]; omega, by simp only [difW]; omega⟩
  | n + 1 => by
    have h1 := difW_bd hb n
    have h2 := hb (tm h n)
    have h3 := hb (tm h (n + 1))
    simp only [difW]
    omega
def ST (v : Nat) : Bool := v == 3 || (v == 7 || (v == 8 || (v == 9 || v == 10)))
theorem ST_3 : ∀ v, ST v = false → (v == 3) = false := fun v h => (Bool.or_eq_false_iff.mp h).1
theorem ST_7 : ∀ v, ST v = false → (v == 7) = false := fun v h => (Bool.or_eq_false_iff.mp (Bool.or_eq_false_iff.mp h).2).1
theorem ST_8 : ∀ v, ST v = false → (v == 8) = false := fun v h => (Bool.or_eq_false_iff.mp (Bool.or_eq_false_iff.mp (Bool.or_eq_false_iff.mp h).2).2).1
theorem ST_9 : ∀ v, ST v = false → (v == 9) = false := fun v h => (Bool.or_eq_false_iff.mp (Bool.or_eq_false_iff.mp (Bool.or_eq_false_iff.mp (Bool.or_eq_false_iff.mp h).2).2).2).1
theorem ST_10 : ∀ v, ST v = false → (v == 10) = false := fun v h => (Bool.or_eq_false_iff.mp (Bool.or_eq_false_iff.mp (Bool.or_eq_false_iff.mp (Bool.or_eq_false_iff.mp h).2).2).2).2
theorem TideR.cl {κ : Kx} {L : List Nat} {f : Nat → wE} {td : Nat} {τ : Td} (h : TideR κ L f td τ) : ∃ wl : Nat, Cl L f td (2, .inr (6, [.ref wl, .int (iI τ.1)])) := by
  obtain ⟨wl, wv, h1, h2⟩ := h
  exact ⟨wl, h1⟩
theorem idf : ∀ {S : Nat → Bool} v, S v = false → S v = false := fun _ h => h
