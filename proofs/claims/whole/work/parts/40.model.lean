/-! ===== the model: what its object holds ===== -/
def MSA (κ : Kx) (L : List Nat) (f : Nat → wE) (mm : Nat) (A : Nat → Nat) (thr lev : Int) (nw np nr : Nat) (fr : Bool) (wts : Int) (RA PE OF TA RT RH HS TI : Nat → Int) : Prop := Cl L f mm (21, .inr (9, [.int (iI thr), .int (iI (nw : Int)), .ref (A 0), .ref (A 1), .ref (A 2), .int (iI lev), .int (iI (np : Int)), .ref (A 3), .int (iI (nr : Int)), .ref (A 4), .ref (A 5), .int (iI (bI fr)), .ref (A 6), .int (iI wts), .ref (A 7)])) ∧ Cl L f (A 0) (22, .inl (κ.2.2.1 0, 8, .inl (fun u9 => iI (RA u9)))) ∧ Cl L f (A 1) (23, .inl (κ.2.2.1 0, 8, .inl (fun u9 => iI (PE u9)))) ∧ Cl L f (A 2) (24, .inl (κ.2.2.1 0, 8, .inl (fun u9 => iI (OF u9)))) ∧ Cl L f (A 3) (25, .inl (κ.2.2.1 0, 30, .inl (fun u9 => iI (TA u9)))) ∧ Cl L f (A 4) (26, .inl (κ.2.2.1 0, 40, .inl (fun u9 => iI (RT u9)))) ∧ Cl L f (A 5) (27, .inl (κ.2.2.1 0, 40, .inl (fun u9 => iI (RH u9)))) ∧ Cl L f (A 6) (28, .inl (κ.2.2.1 1, 4320, .inr (.inl (fun u9 => lI (HS u9))))) ∧ Cl L f (A 7) (29, .inl (κ.2.2.1 0, 4320, .inl (fun u9 => iI (TI u9))))
theorem MSA.fr {κ : Kx} {L L' : List Nat} {f f' : Nat → wE} {mm : Nat} {A : Nat → Nat} {thr lev : Int} {nw np nr : Nat} {fr : Bool} {wts : Int} {RA PE OF TA RT RH HS TI : Nat → Int} {S : Nat → Bool} (h : MSA κ L f mm A thr lev nw np nr fr wts RA PE OF TA RT RH HS TI) (hf : k_fr S L f L' f') (hS : (S 21 || (S 22 || (S 23 || (S 24 || (S 25 || (S 26 || (S 27 || (S 28 || (S 29))))))))) = false) : MSA κ L' f' mm A thr lev nw np nr fr wts RA PE OF TA RT RH HS TI := by
  obtain ⟨h0, h1, h2, h3, h4, h5, h6, h7, h8⟩ := h
  simp only [Bool.or_eq_false_iff] at hS
  obtain ⟨s21, s22, s23, s24, s25, s26, s27, s28, s29⟩ := hS
  exact ⟨h0.fr hf s21, h1.fr hf s22, h2.fr hf s23, h3.fr hf s24, h4.fr hf s25, h5.fr hf s26, h6.fr hf s27, h7.fr hf s28, h8.fr hf s29⟩
def MFacts (σ : Sg) (RA PE OF TA RT RH : Nat → Int) : Prop := (∀ i, i < σ.1.2.1 → RA i = σ.1.2.2.1 i ∧ PE i = σ.1.2.2.2.1 i ∧ OF i = σ.1.2.2.2.2 i) ∧ (∀ p, p < σ.2.1 → TA (5 * p) = (σ.2.2.1 p).2.2.1 ∧ TA (5 * p + 1) = (σ.2.2.1 p).2.2.2.1 ∧ TA (5 * p + 2) = (σ.2.2.1 p).1 ∧ TA (5 * p + 3) = (σ.2.2.1 p).2.1 ∧ TA (5 * p + 4) = (σ.2.2.1 p).2.2.2.2) ∧ (∀ j, 5 * σ.2.1 ≤ j → TA j = 0) ∧ ∀ i, i < σ.2.2.2.1 → RT i = (σ.2.2.2.2.1 i : Int) ∧ RH i = σ.2.2.2.2.2 i
def MFr (h : Nat → Int) (HS TI : Nat → Int) : Prop := (∀ t, t < 4320 → HS t = h t) ∧ ∀ k, k < nW h → TI k = (tm h k : Int)
def MS (κ : Kx) (L : List Nat) (f : Nat → wE) (mm : Nat) (thr : Int) (σ : Sg) : Prop := ∃ (A : Nat → Nat) (fr : Bool) (wts : Int) (RA PE OF TA RT RH HS TI : Nat → Int), MSA κ L f mm A thr σ.1.1 σ.1.2.1 σ.2.1 σ.2.2.2.1 fr wts RA PE OF TA RT RH HS TI ∧ MFacts σ RA PE OF TA RT RH ∧ (fr = true → wts = (nW (hT σ.1) : Int) ∧ MFr (hT σ.1) HS TI)
def MSf (κ : Kx) (L : List Nat) (f : Nat → wE) (mm : Nat) (thr : Int) (σ : Sg) : Prop := ∃ (A : Nat → Nat) (RA PE OF TA RT RH HS TI : Nat → Int), MSA κ L f mm A thr σ.1.1 σ.1.2.1 σ.2.1 σ.2.2.2.1 true (nW (hT σ.1) : Int) RA PE OF TA RT RH HS TI ∧ MFacts σ RA PE OF TA RT RH ∧ MFr (hT σ.1) HS TI
theorem MS.fr {κ : Kx} {L L' : List Nat} {f f' : Nat → wE} {mm : Nat} {thr : Int} {σ : Sg} {S : Nat → Bool} (h : MS κ L f mm thr σ) (hf : k_fr S L f L' f') (hS : (S 21 || (S 22 || (S 23 || (S 24 || (S 25 || (S 26 || (S 27 || (S 28 || (S 29))))))))) = false) : MS κ L' f' mm thr σ := by
  obtain ⟨A, fr, wts, RA, PE, OF, TA, RT, RH, HS, TI, h1, h2, h3⟩ := h
  exact ⟨A, fr, wts, RA, PE, OF, TA, RT, RH, HS, TI, h1.fr hf hS, h2, h3⟩
theorem MSf.fr {κ : Kx} {L L' : List Nat} {f f' : Nat → wE} {mm : Nat} {thr : Int} {σ : Sg} {S : Nat → Bool} (h : MSf κ L f mm thr σ) (hf : k_fr S L f L' f') (hS : (S 21 || (S 22 || (S 23 || (S 24 || (S 25 || (S 26 || (S 27 || (S 28 || (S 29))))))))) = false) : MSf κ L' f' mm thr σ := by
  obtain ⟨A, RA, PE, OF, TA, RT, RH, HS, TI, h1, h2, h3⟩ := h
  exact ⟨A, RA, PE, OF, TA, RT, RH, HS, TI, h1.fr hf hS, h2, h3⟩
theorem MSf.ms {κ : Kx} {L : List Nat} {f : Nat → wE} {mm : Nat} {thr : Int} {σ : Sg} (h : MSf κ L f mm thr σ) : MS κ L f mm thr σ := by
  obtain ⟨A, RA, PE, OF, TA, RT, RH, HS, TI, h1, h2, h3⟩ := h
  exact ⟨A, true, _, RA, PE, OF, TA, RT, RH, HS, TI, h1, h2, fun _ => ⟨rfl, h3⟩⟩
theorem MSf.cl {κ : Kx} {L : List Nat} {f : Nat → wE} {mm : Nat} {thr : Int} {σ : Sg} (h : MSf κ L f mm thr σ) : ∃ fs : List Value, Cl L f mm (21, .inr (9, fs)) := by
  obtain ⟨A, RA, PE, OF, TA, RT, RH, HS, TI, h1, h2, h3⟩ := h
  exact ⟨_, h1.1⟩
theorem MS.cl {κ : Kx} {L : List Nat} {f : Nat → wE} {mm : Nat} {thr : Int} {σ : Sg} (h : MS κ L f mm thr σ) : ∃ fs : List Value, Cl L f mm (21, .inr (9, fs)) := by
  obtain ⟨A, fr, wts, RA, PE, OF, TA, RT, RH, HS, TI, h1, h2, h3⟩ := h
  exact ⟨_, h1.1⟩
def SM (v : Nat) : Bool := Nat.ble 21 v && Nat.ble v 30
theorem SM_of {t : Nat} (ht : (Nat.ble 21 t && Nat.ble t 30) = true) : ∀ v, SM v = false → (v == t) = false := fun v h => beq_false_of_ne (fun e => by subst e; rw [SM, ht] at h; exact Bool.noConfusion h)
/-! the scan of the waters -/
theorem nx_of {h : Nat → Int} {t e : Nat} (ht : t < e) (he : e ≤ 4320) (hr : ∀ x, t + 1 ≤ x → x < e → h x = h t) (hend : e = 4320 ∨ h e ≠ h t) : nx h t = e := nxt_run h (h t) he hend 4320 (t + 1) ht (by omega) hr
theorem isW_of {h : Nat → Int} {t e : Nat} (h1 : 1 ≤ t) (hn : nx h t = e) (he : e < 4320) : isW h t = true ↔ ((h (t - 1) < h t ∧ h e < h t) ∨ (h t < h (t - 1) ∧ h t < h e)) := by
  unfold isW
  rw [decide_eq_true_iff, hn]
  exact ⟨fun a => a.2.2, fun a => ⟨h1, he, a⟩⟩
theorem isW_last {h : Nat → Int} {t : Nat} (hn : nx h t = 4320) : ¬ isW h t = true := fun e => by
  have := (of_decide_eq_true e).2.1
  omega
theorem nx_tail {h : Nat → Int} {t : Nat} (hr : ∀ x, t + 1 ≤ x → x < 4320 → h x = h t) {j : Nat} (h1 : t ≤ j) (h2 : j < 4320) : nx h j = 4320 := by
  refine nx_of h2 (Nat.le_refl _) (fun x hx1 hx2 => ?_) (Or.inl rfl)
  have a := hr x (by omega) hx2
  rcases Nat.lt_or_ge t j with q | q
  · rw [a, hr j (by omega) h2]
  · rw [a, show j = t by omega]
theorem wc_none {h : Nat → Int} {a : Nat} : ∀ {b : Nat}, a ≤ b → (∀ j, a ≤ j → j < b → ¬ isW h j = true) → wc h b = wc h a
  | 0, hab, _ => by
    have : a = 0 := by omega
    subst this
    rfl
  | b + 1, hab, hn => by
    rcases Nat.lt_or_ge b a with q | q
    · have : a = b + 1 := by omega
      subst this
      rfl
    · rw [wc_no (hn b q (by omega))]
      exact wc_none q (fun j h1 h2 => hn j h1 (by omega))
def SW (h : Nat → Int) (t n : Nat) (TI : Nat → Int) : Prop := n = wc h t ∧ ∀ k, k < n → TI k = (tm h k : Int)
theorem SW.no {h : Nat → Int} {t n : Nat} {TI : Nat → Int} (F : SW h t n TI) (hw : ¬ isW h t = true) : SW h (t + 1) n TI := ⟨by rw [F.1, wc_no hw], F.2⟩
theorem SW.yes {h : Nat → Int} {t n : Nat} {TI : Nat → Int} (F : SW h t n TI) (hw : isW h t = true) (h4 : t < 4320) : SW h (t + 1) (n + 1) (va_up TI n (t : Int)) := by
  refine ⟨by rw [F.1, wc_yes hw], fun k hk => ?_⟩
  by_cases q : k = n
  · subst q
    rw [va_up_self, F.1, tm_of hw h4]
  · rw [va_up_ne _ _ q]
    exact F.2 k (by omega)
theorem SW.fin {h : Nat → Int} {t n : Nat} {TI : Nat → Int} (F : SW h t n TI) (ht : t < 4320) (hr : ∀ x, t + 1 ≤ x → x < 4320 → h x = h t) : n = nW h ∧ ∀ k, k < nW h → TI k = (tm h k : Int) := by
  have e : n = nW h := by
    unfold nW
    rw [F.1, wc_none (h := h) (a := t) (b := 4320) (by omega) (fun j h1 h2 => isW_last (nx_tail hr h1 h2))]
  rw [← e]
  exact ⟨rfl, F.2⟩
