/-! ===== the waters take turns; between them the height goes one way ===== -/
theorem nx_at {h : Nat → Int} {c i : Nat} (h1 : c < i) (hi4 : i ≤ 4320) (h3 : ∀ j, c < j → j < i → h j = h (j - 1)) (e : i = 4320 ∨ h i ≠ h (i - 1)) : nx h c = i := by
  unfold nx
  refine nxt_run h (h c) hi4 (e.imp id (fun q q2 => q ?_)) 4320 (c + 1) (by omega) (by omega) (fun x hx1 hx2 => const_at h3 (by omega) hx2)
  rw [q2]
  exact (const_at h3 (by omega) (by omega)).symm
theorem isW_up {h : Nat → Int} {c i : Nat} (hc : 1 ≤ c) (h0 : h (c - 1) < h c) (h1 : c < i) (hi4 : i < 4320) (h3 : ∀ j, c < j → j < i → h j = h (j - 1)) (e : h i < h (i - 1)) : isW h c = true := by
  have hn := nx_at h1 (Nat.le_of_lt hi4) h3 (Or.inr (by omega))
  have h4 : h (i - 1) = h c := const_at h3 (by omega) (by omega)
  unfold isW
  rw [decide_eq_true_iff, hn]
  exact ⟨hc, hi4, Or.inl ⟨h0, by omega⟩⟩
theorem isW_dn {h : Nat → Int} {c i : Nat} (hc : 1 ≤ c) (h0 : h c < h (c - 1)) (h1 : c < i) (hi4 : i < 4320) (h3 : ∀ j, c < j → j < i → h j = h (j - 1)) (e : h (i - 1) < h i) : isW h c = true := by
  have hn := nx_at h1 (Nat.le_of_lt hi4) h3 (Or.inr (by omega))
  have h4 : h (i - 1) = h c := const_at h3 (by omega) (by omega)
  unfold isW
  rw [decide_eq_true_iff, hn]
  exact ⟨hc, hi4, Or.inr ⟨h0, by omega⟩⟩
theorem nxt_spec {h : Nat → Int} {v : Int} : ∀ (m j : Nat), j ≤ nxt h v m j ∧ ∀ x, j ≤ x → x < nxt h v m j → h x = v
  | 0, j => by
    rw [nxt]
    exact ⟨Nat.le_refl _, fun x a b => by omega⟩
  | m + 1, j => by
    rw [nxt]
    split
    · rename_i e
      obtain ⟨a, b⟩ := nxt_spec (h := h) (v := v) m (j + 1)
      refine ⟨by omega, fun x hx1 hx2 => ?_⟩
      rcases Nat.lt_or_ge j x with q | q
      · exact b x (by omega) hx2
      · have e2 : x = j := by omega
        rw [e2]
        exact e.2
    · exact ⟨Nat.le_refl _, fun x a b => by omega⟩
theorem isW_spec {h : Nat → Int} {t : Nat} (ht : isW h t = true) : 1 ≤ t ∧ t < nx h t ∧ nx h t < 4320 ∧ (∀ j, t < j → j < nx h t → h j = h (j - 1)) ∧ h (nx h t - 1) = h t ∧ ((h (t - 1) < h t ∧ h (nx h t) < h t) ∨ (h t < h (t - 1) ∧ h t < h (nx h t))) := by
  obtain ⟨a, b, c⟩ := of_decide_eq_true ht
  obtain ⟨d, e⟩ := nxt_spec (h := h) (v := h t) 4320 (t + 1)
  have d2 : t + 1 ≤ nx h t := d
  have e2 : ∀ x, t + 1 ≤ x → x < nx h t → h x = h t := e
  have g : ∀ j, t ≤ j → j < nx h t → h j = h t := fun j h1 h2 => by
    rcases Nat.lt_or_ge t j with q | q
    · exact e2 j q h2
    · rw [show j = t by omega]
  exact ⟨a, d2, b, fun j h1 h2 => (g j (by omega) h2).trans (g (j - 1) (by omega) (by omega)).symm, g _ (by omega) (by omega), c⟩
theorem up_run {h : Nat → Int} {a b : Nat} (ha : 1 ≤ a) (h0 : h (a - 1) < h a) (hb : b < 4320) (hn : ∀ j, a ≤ j → j < b → ¬ isW h j = true) : ∀ d : Nat, a + d ≤ b → (∃ c, a ≤ c ∧ c ≤ a + d ∧ h (c - 1) < h c ∧ ∀ j, c < j → j < a + d + 1 → h j = h (j - 1)) ∧ ∀ j, a ≤ j → j ≤ a + d → h (j - 1) ≤ h j
  | 0, _ => ⟨⟨a, Nat.le_refl _, by omega, h0, fun j h1 h2 => by omega⟩, fun j h1 h2 => by
    rw [show j = a by omega]
    omega⟩
  | d + 1, hd => by
    obtain ⟨⟨c, c1, c2, c3, c4⟩, g⟩ := up_run ha h0 hb hn d (by omega)
    have hx : h (a + d) ≤ h (a + (d + 1)) := by
      rcases Int.lt_or_le (h (a + (d + 1))) (h (a + d)) with q | q
      · exact absurd (isW_up (i := a + d + 1) (by omega) c3 (by omega) (by omega) c4 (by rw [show a + d + 1 - 1 = a + d by omega]; exact q)) (hn c c1 (by omega))
      · exact q
    refine ⟨?_, fun j h1 h2 => ?_⟩
    · by_cases e : h (a + (d + 1)) = h (a + d)
      · refine ⟨c, c1, by omega, c3, fun j h1 h2 => ?_⟩
        rcases Nat.lt_or_ge j (a + d + 1) with q | q
        · exact c4 j h1 q
        · rw [show j = a + (d + 1) by omega, show a + (d + 1) - 1 = a + d by omega]
          exact e
      · refine ⟨a + (d + 1), by omega, Nat.le_refl _, ?_, fun j h1 h2 => by omega⟩
        rw [show a + (d + 1) - 1 = a + d by omega]
        omega
    · rcases Nat.lt_or_ge j (a + (d + 1)) with q | q
      · exact g j h1 (by omega)
      · rw [show j = a + (d + 1) by omega, show a + (d + 1) - 1 = a + d by omega]
        exact hx
theorem dn_run {h : Nat → Int} {a b : Nat} (ha : 1 ≤ a) (h0 : h a < h (a - 1)) (hb : b < 4320) (hn : ∀ j, a ≤ j → j < b → ¬ isW h j = true) : ∀ d : Nat, a + d ≤ b → (∃ c, a ≤ c ∧ c ≤ a + d ∧ h c < h (c - 1) ∧ ∀ j, c < j → j < a + d + 1 → h j = h (j - 1)) ∧ ∀ j, a ≤ j → j ≤ a + d → h j ≤ h (j - 1)
  | 0, _ => ⟨⟨a, Nat.le_refl _, by omega, h0, fun j h1 h2 => by omega⟩, fun j h1 h2 => by
    rw [show j = a by omega]
    omega⟩
  | d + 1, hd => by
    obtain ⟨⟨c, c1, c2, c3, c4⟩, g⟩ := dn_run ha h0 hb hn d (by omega)
    have hx : h (a + (d + 1)) ≤ h (a + d) := by
      rcases Int.lt_or_le (h (a + d)) (h (a + (d + 1))) with q | q
      · exact absurd (isW_dn (i := a + d + 1) (by omega) c3 (by omega) (by omega) c4 (by rw [show a + d + 1 - 1 = a + d by omega]; exact q)) (hn c c1 (by omega))
      · exact q
    refine ⟨?_, fun j h1 h2 => ?_⟩
    · by_cases e : h (a + (d + 1)) = h (a + d)
      · refine ⟨c, c1, by omega, c3, fun j h1 h2 => ?_⟩
        rcases Nat.lt_or_ge j (a + d + 1) with q | q
        · exact c4 j h1 q
        · rw [show j = a + (d + 1) by omega, show a + (d + 1) - 1 = a + d by omega]
          exact e
      · refine ⟨a + (d + 1), by omega, Nat.le_refl _, ?_, fun j h1 h2 => by omega⟩
        rw [show a + (d + 1) - 1 = a + d by omega]
        omega
    · rcases Nat.lt_or_ge j (a + (d + 1)) with q | q
      · exact g j h1 (by omega)
      · rw [show j = a + (d + 1) by omega, show a + (d + 1) - 1 = a + d by omega]
        exact hx
theorem tm_next {h : Nat → Int} {k : Nat} (hk : k + 1 < nW h) : tm h k < tm h (k + 1) ∧ ∀ j, tm h k < j → j < tm h (k + 1) → ¬ isW h j = true := by
  obtain ⟨a1, a2, a3, a4⟩ := tm_spec (h := h) (k := k) (by omega)
  obtain ⟨b1, b2, b3, b4⟩ := tm_spec hk
  refine ⟨?_, fun j h1 h2 hw => ?_⟩
  · rcases Nat.lt_or_ge (tm h k) (tm h (k + 1)) with q | q
    · exact q
    · have := wc_mono h q
      omega
  · have e1 := wc_yes a2
    have e2 := wc_mono h (show tm h k + 1 ≤ j from h1)
    have e3 := wc_yes hw
    have e4 := wc_mono h (show j + 1 ≤ tm h (k + 1) from h2)
    omega
theorem mono_le {h : Nat → Int} {a : Nat} : ∀ d : Nat, (∀ j, a < j → j ≤ a + d → h j ≤ h (j - 1)) → h (a + d) ≤ h a
  | 0, _ => Int.le_refl _
  | d + 1, g => by
    have h1 := mono_le d (fun j q1 q2 => g j q1 (by omega))
    have h2 := g (a + (d + 1)) (by omega) (by omega)
    rw [show a + (d + 1) - 1 = a + d by omega] at h2
    omega
theorem mono_ge {h : Nat → Int} {a : Nat} : ∀ d : Nat, (∀ j, a < j → j ≤ a + d → h (j - 1) ≤ h j) → h a ≤ h (a + d)
  | 0, _ => Int.le_refl _
  | d + 1, g => by
    have h1 := mono_ge d (fun j q1 q2 => g j q1 (by omega))
    have h2 := g (a + (d + 1)) (by omega) (by omega)
    rw [show a + (d + 1) - 1 = a + d by omega] at h2
    omega
theorem wat_hi {h : Nat → Int} {k : Nat} (hk : k + 1 < nW h) (hh : hi h k = true) : hi h (k + 1) = false ∧ h (tm h (k + 1)) < h (tm h k) ∧ ∀ j, tm h k < j → j ≤ tm h (k + 1) → h j ≤ h (j - 1) := by
  obtain ⟨a1, a2, a3, a4⟩ := tm_spec (h := h) (k := k) (by omega)
  obtain ⟨b1, b2, b3, b4⟩ := tm_spec hk
  obtain ⟨c1, c2⟩ := tm_next hk
  obtain ⟨d1, d2, d3, d4, d5, d6⟩ := isW_spec a2
  have hh2 : h (tm h k - 1) < h (tm h k) := of_decide_eq_true hh
  have d7 : h (nx h (tm h k)) < h (tm h k) := by
    rcases d6 with q | q
    · exact q.2
    · omega
  have d8 : nx h (tm h k) ≤ tm h (k + 1) := by
    rcases Nat.lt_or_ge (tm h (k + 1)) (nx h (tm h k)) with q | q
    · exact absurd (d4 _ c1 q) (isW_chg b2)
    · exact q
  have hm : ∀ j, tm h k < j → j ≤ tm h (k + 1) → h j ≤ h (j - 1) := fun j h1 h2 => by
    rcases Nat.lt_or_ge j (nx h (tm h k)) with q | q
    · exact Int.le_of_eq (d4 j h1 q)
    · exact (dn_run (h := h) (a := nx h (tm h k)) (b := tm h (k + 1)) (by omega) (by rw [d5]; exact d7) b1 (fun i i1 i2 => c2 i (by omega) i2) (tm h (k + 1) - nx h (tm h k)) (by omega)).2 j q (by omega)
  refine ⟨?_, ?_, hm⟩
  · show decide (h (tm h (k + 1) - 1) < h (tm h (k + 1))) = false
    exact decide_eq_false (fun q => by
      have := hm _ c1 (Nat.le_refl _)
      omega)
  · have e := mono_le (h := h) (a := nx h (tm h k)) (tm h (k + 1) - nx h (tm h k)) (fun j q1 q2 => hm j (by omega) (by omega))
    rw [show nx h (tm h k) + (tm h (k + 1) - nx h (tm h k)) = tm h (k + 1) by omega] at e
    omega
theorem wat_lo {h : Nat → Int} {k : Nat} (hk : k + 1 < nW h) (hh : hi h k = false) : hi h (k + 1) = true ∧ h (tm h k) < h (tm h (k + 1)) ∧ ∀ j, tm h k < j → j ≤ tm h (k + 1) → h (j - 1) ≤ h j := by
  obtain ⟨a1, a2, a3, a4⟩ := tm_spec (h := h) (k := k) (by omega)
  obtain ⟨b1, b2, b3, b4⟩ := tm_spec hk
  obtain ⟨c1, c2⟩ := tm_next hk
  obtain ⟨d1, d2, d3, d4, d5, d6⟩ := isW_spec a2
  have hh2 : ¬ h (tm h k - 1) < h (tm h k) := of_decide_eq_false hh
  have d7 : h (tm h k) < h (nx h (tm h k)) := by
    rcases d6 with q | q
    · omega
    · exact q.2
  have d8 : nx h (tm h k) ≤ tm h (k + 1) := by
    rcases Nat.lt_or_ge (tm h (k + 1)) (nx h (tm h k)) with q | q
    · exact absurd (d4 _ c1 q) (isW_chg b2)
    · exact q
  have hm : ∀ j, tm h k < j → j ≤ tm h (k + 1) → h (j - 1) ≤ h j := fun j h1 h2 => by
    rcases Nat.lt_or_ge j (nx h (tm h k)) with q | q
    · exact Int.le_of_eq (d4 j h1 q).symm
    · exact (up_run (h := h) (a := nx h (tm h k)) (b := tm h (k + 1)) (by omega) (by rw [d5]; exact d7) b1 (fun i i1 i2 => c2 i (by omega) i2) (tm h (k + 1) - nx h (tm h k)) (by omega)).2 j q (by omega)
  have e := mono_ge (h := h) (a := nx h (tm h k)) (tm h (k + 1) - nx h (tm h k)) (fun j q1 q2 => hm j (by omega) (by omega))
  rw [show nx h (tm h k) + (tm h (k + 1) - nx h (tm h k)) = tm h (k + 1) by omega] at e
  refine ⟨?_, by omega, hm⟩
  show decide (h (tm h (k + 1) - 1) < h (tm h (k + 1))) = true
  have g1 := hm _ c1 (Nat.le_refl _)
  have g2 := isW_chg b2
  exact decide_eq_true (by omega)
theorem hi_alt {h : Nat → Int} {k : Nat} (hk : k + 1 < nW h) : hi h (k + 1) = !(hi h k) := by
  cases e : hi h k with
  | true => exact (wat_hi hk e).1
  | false => exact (wat_lo hk e).1
theorem tm_lt {h : Nat → Int} {i k : Nat} (hik : i < k) (hk : k < nW h) : tm h i < tm h k := by
  obtain ⟨a1, a2, a3, a4⟩ := tm_spec (h := h) (k := i) (by omega)
  obtain ⟨b1, b2, b3, b4⟩ := tm_spec hk
  rcases Nat.lt_or_ge (tm h i) (tm h k) with q | q
  · exact q
  · have := wc_mono h q
    omega
theorem tmF_lt (h : Nat → Int) (k : Nat) : ∀ n : Nat, tmF h k n ≤ n
  | 0 => Nat.le_refl _
  | n + 1 => by
    rw [tmF]
    split
    · omega
    · exact Nat.le_succ_of_le (tmF_lt h k n)
theorem tm_le (h : Nat → Int) (k : Nat) : tm h k ≤ 4320 := tmF_lt h k 4320
/-! the first water of a sort -/
theorem nextW_at {h : Nat → Int} {t : Int} {b : Bool} {k : Nat} (hk : k < nW h) (h1 : t ≤ (tm h k : Int)) (h2 : hi h k = b) : ∀ (m j : Nat), j ≤ k → k - j < m → (∀ i, j ≤ i → i < k → (tm h i : Int) < t) → nextW h t b m j = (k : Int)
  | 0, j, _, hm, _ => absurd hm (Nat.not_lt_zero _)
  | m + 1, j, hj, hm, g => by
    rw [nextW, if_pos (by omega)]
    rcases Nat.lt_or_ge j k with q | q
    · rw [if_neg (fun z => by
        have z1 := z.1
        have z2 := g j (Nat.le_refl _) q
        omega)]
      exact nextW_at hk h1 h2 m (j + 1) q (by omega) (fun i i1 i2 => g i (by omega) i2)
    · have e : j = k := by omega
      rw [e, if_pos ⟨h1, h2⟩]
theorem next_same {h : Nat → Int} {k : Nat} (hk : k < nW h) : nextW h (tm h k : Int) (hi h k) 4320 0 = (k : Int) := by
  have hn := nW_le h
  exact nextW_at hk (Int.le_refl _) rfl 4320 0 (Nat.zero_le _) (by omega) (fun i _ i2 => by
    have := tm_lt i2 hk
    omega)
theorem next_other {h : Nat → Int} {k : Nat} (hk : k + 1 < nW h) : nextW h ((tm h k : Int) + 1) (!(hi h k)) 4320 0 = ((k + 1 : Nat) : Int) := by
  have hn := nW_le h
  have h1 := (tm_next hk).1
  exact nextW_at hk (by omega) (hi_alt hk) 4320 0 (Nat.zero_le _) (by omega) (fun i _ i2 => by
    rcases Nat.lt_or_ge i k with q | q
    · have := tm_lt q (show k < nW h by omega)
      omega
    · rw [show i = k by omega]
      omega)
/-! ahead of the first water -/
def fstW (h : Nat → Int) : Nat := if nW h = 0 then 4319 else tm h 0
theorem fstW_lt (h : Nat → Int) : fstW h < 4320 := by
  unfold fstW
  split
  · omega
  · exact (tm_spec (h := h) (k := 0) (by omega)).1
theorem fstW_no {h : Nat → Int} {j : Nat} (hj : j < fstW h) : ¬ isW h j = true := by
  intro hw
  have e1 := wc_yes hw
  unfold fstW at hj
  split at hj
  · rename_i q
    have e2 := wc_mono h (show j + 1 ≤ 4320 by omega)
    have e3 : wc h 4320 = 0 := q
    omega
  · rename_i q
    obtain ⟨b1, b2, b3, b4⟩ := tm_spec (h := h) (k := 0) (by omega)
    have e2 := wc_mono h (show j + 1 ≤ tm h 0 from hj)
    omega
theorem first_chg (h : Nat → Int) : ∀ d : Nat, (∀ j, 0 < j → j ≤ d → h j = h (j - 1)) ∨ ∃ a, 0 < a ∧ a ≤ d ∧ (∀ j, 0 < j → j < a → h j = h (j - 1)) ∧ h a ≠ h (a - 1)
  | 0 => Or.inl (fun j h1 h2 => by omega)
  | d + 1 => by
    rcases first_chg h d with g | ⟨a, a1, a2, a3, a4⟩
    · by_cases e : h (d + 1) = h d
      · refine Or.inl (fun j h1 h2 => ?_)
        rcases Nat.lt_or_ge d j with q | q
        · rw [show j = d + 1 by omega, Nat.add_sub_cancel]
          exact e
        · exact g j h1 q
      · exact Or.inr ⟨d + 1, by omega, Nat.le_refl _, fun j h1 h2 => g j h1 (by omega), by rw [Nat.add_sub_cancel]; exact e⟩
    · exact Or.inr ⟨a, a1, by omega, a3, a4⟩
theorem head_run {h : Nat → Int} {f : Nat} (hf : f < 4320) (hn : ∀ j, j < f → ¬ isW h j = true) : (∀ j, 0 < j → j ≤ f → h (j - 1) ≤ h j) ∨ (∀ j, 0 < j → j ≤ f → h j ≤ h (j - 1)) := by
  rcases first_chg h f with g | ⟨a, a1, a2, a3, a4⟩
  · exact Or.inl (fun j h1 h2 => Int.le_of_eq (g j h1 h2).symm)
  · rcases Int.lt_or_gt_of_ne a4 with q | q
    · refine Or.inr (fun j h1 h2 => ?_)
      rcases Nat.lt_or_ge j a with e | e
      · exact Int.le_of_eq (a3 j h1 e)
      · exact (dn_run (h := h) (a := a) (b := f) a1 q hf (fun i _ i2 => hn i i2) (f - a) (by omega)).2 j e (by omega)
    · refine Or.inl (fun j h1 h2 => ?_)
      rcases Nat.lt_or_ge j a with e | e
      · exact Int.le_of_eq (a3 j h1 e).symm
      · exact (up_run (h := h) (a := a) (b := f) a1 q hf (fun i _ i2 => hn i i2) (f - a) (by omega)).2 j e (by omega)
/-- Integer.compare -/
def cmpI (a b : Int) : Int := if a < b then -1 else if a = b then 0 else 1
theorem cmpI_bd (a b : Int) : -1 ≤ cmpI a b ∧ cmpI a b ≤ 1 := by
  unfold cmpI
  repeat' split
  all_goals omega
theorem cmpI_ge {a b : Int} (q : b ≤ a) : 0 ≤ cmpI a b := by
  unfold cmpI
  repeat' split
  all_goals omega
theorem cmpI_le {a b : Int} (q : a ≤ b) : cmpI a b ≤ 0 := by
  unfold cmpI
  repeat' split
  all_goals omega
theorem head_sgn {h : Nat → Int} {m : Nat} (h1 : 1 ≤ m) (h2 : m ≤ fstW h) : 0 ≤ cmpI (h m) (h (m - 1)) * cmpI (h (fstW h)) (h 0) := by
  have hf := fstW_lt h
  rcases head_run hf (fun j hj => fstW_no hj) with g | g
  · have e := mono_ge (h := h) (a := 0) (fstW h) (fun j q1 q2 => g j q1 (by omega))
    rw [Nat.zero_add] at e
    exact Int.mul_nonneg (cmpI_ge (g m h1 h2)) (cmpI_ge e)
  · have e := mono_le (h := h) (a := 0) (fstW h) (fun j q1 q2 => g j q1 (by omega))
    rw [Nat.zero_add] at e
    have e1 := cmpI_le (g m h1 h2)
    have e2 := cmpI_le e
    exact Int.mul_nonneg_of_nonpos_of_nonpos e1 e2
/-! datums -/
theorem mxh_ge {h : Nat → Int} : ∀ n j : Nat, j < n → h j ≤ mxh h n
  | 0, j, hj => absurd hj (Nat.not_lt_zero _)
  | n + 1, j, hj => by
    rw [mxh]
    rcases Nat.lt_or_ge j n with q | q
    · have := mxh_ge (h := h) n j q
      omega
    · rw [show j = n by omega]
      omega
theorem mnh_le {h : Nat → Int} : ∀ n j : Nat, j < n → mnh h n ≤ h j
  | 0, j, hj => absurd hj (Nat.not_lt_zero _)
  | n + 1, j, hj => by
    rw [mnh]
    rcases Nat.lt_or_ge j n with q | q
    · have := mnh_le (h := h) n j q
      omega
    · rw [show j = n by omega]
      omega
theorem difW_le {h : Nat → Int} : ∀ k : Nat, k < nW h ∨ k = 0 → difW h k ≤ mxh h 4320 - mnh h 4320
  | 0, _ => by
    have h1 := mxh_ge (h := h) 4320 0 (by omega)
    have h2 := mnh_le (h := h) 4320 0 (by omega)
    rw [difW]
    omega
  | k + 1, hk => by
    have h0 := difW_le (h := h) k (Or.inl (by omega))
    have a1 := (tm_spec (h := h) (k := k) (by omega)).1
    have a2 := (tm_spec (h := h) (k := k + 1) (by omega)).1
    have b1 := mxh_ge (h := h) 4320 _ a1
    have b2 := mnh_le (h := h) 4320 _ a1
    have b3 := mxh_ge (h := h) 4320 _ a2
    have b4 := mnh_le (h := h) 4320 _ a2
    rw [difW]
    omega
theorem dat_01 (h : Nat → Int) : dat h 1 ≤ dat h 0 := by
  have h1 := mxh_ge (h := h) 4320 0 (by omega)
  have h2 := mnh_le (h := h) 4320 0 (by omega)
  have e0 : dat h 0 = mxh h 4320 := by
    unfold dat
    rw [if_pos rfl]
  have e1 : dat h 1 = mnh h 4320 := by
    unfold dat
    rw [if_neg (by decide), if_pos rfl]
  rw [e0, e1]
  omega
theorem dat_4 (h : Nat → Int) : dat h 4 ≤ dat h 0 - dat h 1 := by
  have e0 : dat h 0 = mxh h 4320 := by
    unfold dat
    rw [if_pos rfl]
  have e1 : dat h 1 = mnh h 4320 := by
    unfold dat
    rw [if_neg (by decide), if_pos rfl]
  have e4 : dat h 4 = difW h (nW h - 1) := by
    unfold dat
    rw [if_neg (by decide), if_neg (by decide), if_neg (by decide), if_neg (by decide)]
  rw [e0, e1, e4]
  refine difW_le _ ?_
  omega
/-! the twelfths -/
theorem tw_lin {e d : Int} (h0 : 0 ≤ e) (h1 : e < d) : (gone e d = 6 * e ∧ 6 * e ≤ d) ∨ (gone e d = d + 2 * (6 * e - d) ∧ d ≤ 6 * e ∧ 6 * e ≤ 2 * d) ∨ (gone e d = 3 * d + 3 * (6 * e - 2 * d) ∧ 2 * d ≤ 6 * e ∧ 6 * e ≤ 3 * d) ∨ (gone e d = 6 * d + 3 * (6 * e - 3 * d) ∧ 3 * d ≤ 6 * e ∧ 6 * e ≤ 4 * d) ∨ (gone e d = 9 * d + 2 * (6 * e - 4 * d) ∧ 4 * d ≤ 6 * e ∧ 6 * e ≤ 5 * d) ∨ (gone e d = 11 * d + (6 * e - 5 * d) ∧ 5 * d ≤ 6 * e ∧ 6 * e ≤ 6 * d) := by
  obtain ⟨a1, a2, a3, a4⟩ := sx_bd h0 h1
  unfold gone
  generalize (6 * e).tdiv d = s at a1 a2 a3 a4 ⊢
  rcases (by omega : s = 0 ∨ s = 1 ∨ s = 2 ∨ s = 3 ∨ s = 4 ∨ s = 5) with q | q | q | q | q | q <;> subst q
  · have e1 : twA 0 = 0 := by decide
    have e2 : twI 0 = 1 := by decide
    rw [e1, e2]
    exact Or.inl ⟨by omega, by omega⟩
  · have e1 : twA 1 = 1 := by decide
    have e2 : twI 1 = 2 := by decide
    rw [e1, e2]
    exact Or.inr (Or.inl ⟨by omega, by omega, by omega⟩)
  · have e1 : twA 2 = 3 := by decide
    have e2 : twI 2 = 3 := by decide
    rw [e1, e2]
    exact Or.inr (Or.inr (Or.inl ⟨by omega, by omega, by omega⟩))
  · have e1 : twA 3 = 6 := by decide
    have e2 : twI 3 = 3 := by decide
    rw [e1, e2]
    exact Or.inr (Or.inr (Or.inr (Or.inl ⟨by omega, by omega, by omega⟩)))
  · have e1 : twA 4 = 9 := by decide
    have e2 : twI 4 = 2 := by decide
    rw [e1, e2]
    exact Or.inr (Or.inr (Or.inr (Or.inr (Or.inl ⟨by omega, by omega, by omega⟩))))
  · have e1 : twA 5 = 11 := by decide
    have e2 : twI 5 = 1 := by decide
    rw [e1, e2]
    exact Or.inr (Or.inr (Or.inr (Or.inr (Or.inr ⟨by omega, by omega, by omega⟩))))
theorem gone_nn {e d : Int} (h0 : 0 ≤ e) (h1 : e < d) : 0 ≤ gone e d ∧ gone e d ≤ 12 * d := by
  rcases tw_lin h0 h1 with q | q | q | q | q | q <;> omega
theorem gone_0 {d : Int} (h1 : 0 < d) : gone 0 d = 0 := by
  rcases tw_lin (Int.le_refl 0) h1 with q | q | q | q | q | q <;> omega
theorem gone_mono {e e2 d : Int} (h0 : 0 ≤ e) (h1 : e ≤ e2) (h2 : e2 < d) : gone e d ≤ gone e2 d := by
  have h3 := tw_lin h0 (show e < d by omega)
  have h4 := tw_lin (show 0 ≤ e2 by omega) h2
  rcases h3 with q | q | q | q | q | q <;> rcases h4 with r | r | r | r | r | r <;> omega
theorem fr_le {c g g2 N : Int} (hc : 0 ≤ c) (h0 : 0 ≤ g) (h1 : g ≤ g2) (h2 : g2 ≤ N) (hN : 0 < N) : 0 ≤ (c * g).tdiv N ∧ (c * g).tdiv N ≤ (c * g2).tdiv N ∧ (c * g2).tdiv N ≤ c := by
  have e0 : 0 ≤ c * g := Int.mul_nonneg hc h0
  have e1 : c * g ≤ c * g2 := Int.mul_le_mul_of_nonneg_left h1 hc
  have e2 : c * g2 ≤ c * N := Int.mul_le_mul_of_nonneg_left h2 hc
  rw [Int.tdiv_eq_ediv_of_nonneg e0, Int.tdiv_eq_ediv_of_nonneg (Int.le_trans e0 e1)]
  refine ⟨Int.ediv_nonneg e0 (by omega), Int.ediv_le_ediv hN e1, ?_⟩
  have e3 := Int.ediv_le_ediv hN e2
  rwa [Int.mul_ediv_cancel c (by omega)] at e3
theorem fr_neg (c g N : Int) : (-c * g).tdiv N = -((c * g).tdiv N) := by rw [Int.neg_mul, Int.neg_tdiv]
theorem fr_ge {c g g2 N : Int} (hc : c ≤ 0) (h0 : 0 ≤ g) (h1 : g ≤ g2) (h2 : g2 ≤ N) (hN : 0 < N) : (c * g).tdiv N ≤ 0 ∧ (c * g2).tdiv N ≤ (c * g).tdiv N ∧ c ≤ (c * g2).tdiv N := by
  obtain ⟨a, b, d⟩ := fr_le (c := -c) (by omega) h0 h1 h2 hN
  have e1 := fr_neg c g N
  have e2 := fr_neg c g2 N
  omega
theorem pT_mono0 {h : Nat → Int} {q : Pt} (ho : ord h q = true) {i : Nat} : ∀ d : Nat, i + d < nW h → pT h q i ≤ pT h q (i + d)
  | 0, _ => Int.le_refl _
  | d + 1, hd => by
    have h1 := pT_mono0 ho d (show i + d < nW h by omega)
    have h2 := ord_lt (j := i + d) ho hd
    exact Int.le_trans h1 (Int.le_of_lt h2)
theorem pT_mono {h : Nat → Int} {q : Pt} (ho : ord h q = true) {i k : Nat} (hik : i ≤ k) (hk : k < nW h) : pT h q i ≤ pT h q k := by
  have h1 := pT_mono0 (i := i) ho (k - i) (by omega)
  rwa [show i + (k - i) = k by omega] at h1
theorem lat_at {h : Nat → Int} {q : Pt} {t : Int} {k : Nat} (ho : ord h q = true) (hk : k + 1 < nW h) (h1 : pT h q k ≤ t) (h2 : t < pT h q (k + 1)) : lat h q t 0 = k + 1 := by
  obtain ⟨a1, a2, a3, a4⟩ := lat_spec (h := h) (q := q) (t := t) (x := 0) (Nat.zero_le _)
  rcases Nat.lt_trichotomy (lat h q t 0) (k + 1) with e | e | e
  · exact absurd ⟨by omega, Int.le_trans (pT_mono ho (by omega) (by omega)) h1⟩ a4
  · exact e
  · have := a3 (k + 1) (Nat.zero_le _) e
    omega
theorem btw_eq (h : Nat → Int) (q : Pt) (k : Nat) (t : Int) : btw h q (k + 1) t = pH h q k + ((pH h q (k + 1) - pH h q k) * gone (t - pT h q k) (pT h q (k + 1) - pT h q k)).tdiv (12 * (pT h q (k + 1) - pT h q k)) := by
  unfold btw
  rw [Nat.add_sub_cancel]
theorem btw_up {h : Nat → Int} {q : Pt} {k : Nat} {t t2 : Int} (h1 : pT h q k ≤ t) (h2 : t ≤ t2) (h3 : t2 < pT h q (k + 1)) (hle : pH h q k ≤ pH h q (k + 1)) : pH h q k ≤ btw h q (k + 1) t ∧ btw h q (k + 1) t ≤ btw h q (k + 1) t2 ∧ btw h q (k + 1) t2 ≤ pH h q (k + 1) := by
  have a1 := gone_nn (e := t - pT h q k) (d := pT h q (k + 1) - pT h q k) (by omega) (by omega)
  have a2 := gone_nn (e := t2 - pT h q k) (d := pT h q (k + 1) - pT h q k) (by omega) (by omega)
  have a3 := gone_mono (e := t - pT h q k) (e2 := t2 - pT h q k) (d := pT h q (k + 1) - pT h q k) (by omega) (by omega) (by omega)
  have a4 := fr_le (c := pH h q (k + 1) - pH h q k) (N := 12 * (pT h q (k + 1) - pT h q k)) (by omega) a1.1 a3 a2.2 (by omega)
  rw [btw_eq, btw_eq]
  omega
theorem btw_dn {h : Nat → Int} {q : Pt} {k : Nat} {t t2 : Int} (h1 : pT h q k ≤ t) (h2 : t ≤ t2) (h3 : t2 < pT h q (k + 1)) (hle : pH h q (k + 1) ≤ pH h q k) : btw h q (k + 1) t ≤ pH h q k ∧ btw h q (k + 1) t2 ≤ btw h q (k + 1) t ∧ pH h q (k + 1) ≤ btw h q (k + 1) t2 := by
  have a1 := gone_nn (e := t - pT h q k) (d := pT h q (k + 1) - pT h q k) (by omega) (by omega)
  have a2 := gone_nn (e := t2 - pT h q k) (d := pT h q (k + 1) - pT h q k) (by omega) (by omega)
  have a3 := gone_mono (e := t - pT h q k) (e2 := t2 - pT h q k) (d := pT h q (k + 1) - pT h q k) (by omega) (by omega) (by omega)
  have a4 := fr_ge (c := pH h q (k + 1) - pH h q k) (N := 12 * (pT h q (k + 1) - pT h q k)) (by omega) a1.1 a3 a2.2 (by omega)
  rw [btw_eq, btw_eq]
  omega
theorem btw_0 {h : Nat → Int} {q : Pt} {k : Nat} (h1 : pT h q k < pT h q (k + 1)) : btw h q (k + 1) (pT h q k) = pH h q k := by
  rw [btw_eq, Int.sub_self, gone_0 (by omega), Int.mul_zero, Int.zero_tdiv, Int.add_zero]
