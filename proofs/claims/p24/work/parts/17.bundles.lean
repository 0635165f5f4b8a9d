/-! ===== waters: counting and finding ===== -/
theorem wc_le (h : Nat → Int) : ∀ n, wc h n ≤ n
  | 0 => Nat.le_refl 0
  | n + 1 => by
    have := wc_le h n
    simp only [wc]
    split <;> omega
theorem wc_mono (h : Nat → Int) {n : Nat} : ∀ {m : Nat}, n ≤ m → wc h n ≤ wc h m
  | 0, hm => by
    have : n = 0 := by omega
    subst this
    exact Nat.le_refl _
  | m + 1, hm => by
    rcases Nat.lt_or_ge m n with q | q
    · have : n = m + 1 := by omega
      subst this
      exact Nat.le_refl _
    · have := wc_mono h q
      simp only [wc]
      omega
theorem wc_yes {h : Nat → Int} {n : Nat} (hn : isW h n = true) : wc h (n + 1) = wc h n + 1 := by simp only [wc, if_pos hn]
theorem wc_no {h : Nat → Int} {n : Nat} (hn : ¬ isW h n = true) : wc h (n + 1) = wc h n := by simp only [wc, if_neg hn, Nat.add_zero]
theorem wc_kth {h : Nat → Int} {k : Nat} : ∀ {n : Nat}, k < wc h n → ∃ t, t < n ∧ isW h t = true ∧ wc h t = k
  | 0, hk => absurd hk (Nat.not_lt_zero _)
  | n + 1, hk => by
    by_cases hn : isW h n = true
    · rw [wc_yes hn] at hk
      rcases Nat.lt_or_ge k (wc h n) with q | q
      · obtain ⟨t, h1, h2⟩ := wc_kth q
        exact ⟨t, by omega, h2⟩
      · exact ⟨n, by omega, hn, by omega⟩
    · rw [wc_no hn] at hk
      obtain ⟨t, h1, h2⟩ := wc_kth hk
      exact ⟨t, by omega, h2⟩
theorem tmF_of {h : Nat → Int} {t : Nat} (ht : isW h t = true) : ∀ {n : Nat}, t < n → tmF h (wc h t) n = t
  | 0, hn => absurd hn (Nat.not_lt_zero _)
  | n + 1, hn => by
    simp only [tmF]
    by_cases e : t = n
    · subst e
      rw [if_pos ⟨ht, rfl⟩]
    · have h1 : wc h (t + 1) ≤ wc h n := wc_mono h (by omega)
      rw [wc_yes ht] at h1
      rw [if_neg (fun q => by have := q.2; omega)]
      exact tmF_of ht (by omega)
theorem tm_of {h : Nat → Int} {t : Nat} (ht : isW h t = true) (h1 : t < 4320) : tm h (wc h t) = t := tmF_of ht h1
theorem isW_pos {h : Nat → Int} {t : Nat} (ht : isW h t = true) : 1 ≤ t := (of_decide_eq_true ht).1
theorem tm_spec {h : Nat → Int} {k : Nat} (hk : k < nW h) : tm h k < 4320 ∧ isW h (tm h k) = true ∧ wc h (tm h k) = k ∧ 1 ≤ tm h k := by
  obtain ⟨t, h1, h2, h3⟩ := wc_kth hk
  have e : tm h k = t := by rw [← h3]; exact tm_of h2 h1
  rw [e]
  exact ⟨h1, h2, h3, isW_pos h2⟩
theorem nW_le (h : Nat → Int) : nW h ≤ 4320 := wc_le h 4320
/-! ===== what the objects of the class hold ===== -/
def TideR (κ : Kx) (L : List Nat) (f : Nat → wE) (td : Nat) (τ : Td) : Prop := ∃ (wl : Nat) (wv : Nat → Nat), Cl L f td (2, .inr (6, [.ref wl, .int (iI τ.1)])) ∧ ListR κ L f wl 6 11 τ.2.1 wv ∧ (∀ i, i < τ.2.1 → Cl L f (wv i) (14, .inr (7, [.int (iI (τ.2.2.1 i)), .int (iI (τ.2.2.2.1 i)), .int (iI (τ.2.2.2.2 i))]))) ∧ (∀ i j, i < τ.2.1 → j < τ.2.1 → wv i = wv j → i = j)
theorem TideR.fr {κ : Kx} {L L' : List Nat} {f f' : Nat → wE} {td : Nat} {τ : Td} {S : Nat → Bool} (h : TideR κ L f td τ) (hf : k_fr S L f L' f') (hS : (S 2 || (S 6 || S 11) || S 14) = false) : TideR κ L' f' td τ := by
  obtain ⟨wl, wv, h1, h2, h3, h4⟩ := h
  rw [Bool.or_eq_false_iff, Bool.or_eq_false_iff] at hS
  exact ⟨wl, wv, h1.fr hf hS.1.1, h2.fr hf hS.1.2, fun i hi => (h3 i hi).fr hf hS.2, h4⟩
/-- the table's cells, whatever they hold -/
def TblA (κ : Kx) (L : List Nat) (f : Nat → wE) (tb hs wt wh wi : Nat) (n : Int) (HH WT WH : Nat → Int) (WI : Nat → Bool) : Prop :=
  Cl L f tb (3, .inr (4, [.ref hs, .ref wt, .ref wh, .ref wi, .int (iI n)])) ∧ Cl L f hs (7, .inl (κ.2.2.1 0, 4320, .inl (fun i => iI (HH i)))) ∧ Cl L f wt (8, .inl (κ.2.2.1 0, 4320, .inl (fun i => iI (WT i)))) ∧ Cl L f wh (9, .inl (κ.2.2.1 0, 4320, .inl (fun i => iI (WH i)))) ∧ Cl L f wi (10, .inl (κ.2.2.1 2, 4320, .inl (fun i => iI (bI (WI i)))))
theorem TblA.fr {κ : Kx} {L L' : List Nat} {f f' : Nat → wE} {tb hs wt wh wi : Nat} {n : Int} {HH WT WH : Nat → Int} {WI : Nat → Bool} {S : Nat → Bool} (h : TblA κ L f tb hs wt wh wi n HH WT WH WI) (hf : k_fr S L f L' f') (hS : (S 3 || S 7 || S 8 || S 9 || S 10) = false) : TblA κ L' f' tb hs wt wh wi n HH WT WH WI := by
  obtain ⟨h1, h2, h3, h4, h5⟩ := h
  simp only [Bool.or_eq_false_iff] at hS
  exact ⟨h1.fr hf hS.1.1.1.1, h2.fr hf hS.1.1.1.2, h3.fr hf hS.1.1.2, h4.fr hf hS.1.2, h5.fr hf hS.2⟩
def TblX (κ : Kx) (L : List Nat) (f : Nat → wE) (tb : Nat) : Prop := ∃ (hs wt wh wi : Nat) (n : Int) (HH WT WH : Nat → Int) (WI : Nat → Bool), TblA κ L f tb hs wt wh wi n HH WT WH WI
theorem TblX.fr {κ : Kx} {L L' : List Nat} {f f' : Nat → wE} {tb : Nat} {S : Nat → Bool} (h : TblX κ L f tb) (hf : k_fr S L f L' f') (hS : (S 3 || S 7 || S 8 || S 9 || S 10) = false) : TblX κ L' f' tb := by
  obtain ⟨hs, wt, wh, wi, n, HH, WT, WH, WI, h1⟩ := h
  exact ⟨hs, wt, wh, wi, n, HH, WT, WH, WI, h1.fr hf hS⟩
/-- the arrays hold the heights h and their waters -/
def TblOk (h : Nat → Int) (HH WT WH : Nat → Int) (WI : Nat → Bool) : Prop := (∀ t, t < 4320 → HH t = h t) ∧ ∀ k, k < nW h → WT k = (tm h k : Int) ∧ WH k = h (tm h k) ∧ WI k = hi h k
def TblR (κ : Kx) (L : List Nat) (f : Nat → wE) (tb : Nat) (h : Nat → Int) : Prop := ∃ (hs wt wh wi : Nat) (HH WT WH : Nat → Int) (WI : Nat → Bool), TblA κ L f tb hs wt wh wi (nW h : Int) HH WT WH WI ∧ TblOk h HH WT WH WI
theorem TblR.fr {κ : Kx} {L L' : List Nat} {f f' : Nat → wE} {tb : Nat} {h : Nat → Int} {S : Nat → Bool} (hT : TblR κ L f tb h) (hf : k_fr S L f L' f') (hS : (S 3 || S 7 || S 8 || S 9 || S 10) = false) : TblR κ L' f' tb h := by
  obtain ⟨hs, wt, wh, wi, HH, WT, WH, WI, h1, h2⟩ := hT
  exact ⟨hs, wt, wh, wi, HH, WT, WH, WI, h1.fr hf hS, h2⟩
theorem TblR.x {κ : Kx} {L : List Nat} {f : Nat → wE} {tb : Nat} {h : Nat → Int} (hT : TblR κ L f tb h) : TblX κ L f tb := by
  obtain ⟨hs, wt, wh, wi, HH, WT, WH, WI, h1, h2⟩ := hT
  exact ⟨hs, wt, wh, wi, _, HH, WT, WH, WI, h1⟩
theorem TblR.cl {κ : Kx} {L : List Nat} {f : Nat → wE} {tb : Nat} {h : Nat → Int} (hT : TblR κ L f tb h) : ∃ hs wt wh wi : Nat, Cl L f tb (3, .inr (4, [.ref hs, .ref wt, .ref wh, .ref wi, .int (iI (nW h : Int))])) := by
  obtain ⟨hs, wt, wh, wi, HH, WT, WH, WI, h1, h2⟩ := hT
  exact ⟨hs, wt, wh, wi, h1.1⟩
/-- a port: pt, with its two follows -/
def PortR (L : List Nat) (f : Nat → wE) (pt : Nat) (q : Pt) : Prop := ∃ ph po : Nat, Cl L f pt (15, .inr (2, [.ref ph, .ref po, .int (iI q.2.2.2.2)])) ∧ Cl L f ph (16, .inr (1, [.int (iI q.1), .int (iI q.2.1)])) ∧ Cl L f po (17, .inr (1, [.int (iI q.2.2.1), .int (iI q.2.2.2.1)]))
theorem PortR.fr {L L' : List Nat} {f f' : Nat → wE} {pt : Nat} {q : Pt} {S : Nat → Bool} (h : PortR L f pt q) (hf : k_fr S L f L' f') (hS : (S 15 || S 16 || S 17) = false) : PortR L' f' pt q := by
  obtain ⟨ph, po, h1, h2, h3⟩ := h
  simp only [Bool.or_eq_false_iff] at hS
  exact ⟨ph, po, h1.fr hf hS.1.1, h2.fr hf hS.1.2, h3.fr hf hS.2⟩
theorem PortR.cl {L : List Nat} {f : Nat → wE} {pt : Nat} {q : Pt} (h : PortR L f pt q) : ∃ ph po : Nat, Cl L f pt (15, .inr (2, [.ref ph, .ref po, .int (iI q.2.2.2.2)])) := by
  obtain ⟨ph, po, h1, h2, h3⟩ := h
  exact ⟨ph, po, h1⟩
