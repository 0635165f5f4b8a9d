/-! ===== the class's whole state ===== -/
abbrev Sg : Type := Td × Nat × (Nat → Pt) × Rd
def SgOk (σ : Sg) : Prop := TdOk σ.1 ∧ (σ.2.1 ≤ 6 ∧ ∀ i, i < σ.2.1 → PtOk (σ.2.2.1 i)) ∧ RdOk σ.2.2.2
def PortsR (κ : Kx) (L : List Nat) (f : Nat → wE) (pl n : Nat) (qs : Nat → Pt) : Prop := ∃ pv hv ov : Nat → Nat, ListR κ L f pl 4 12 n pv ∧ (∀ i, i < n → Cl L f (pv i) (15, .inr (2, [.ref (hv i), .ref (ov i), .int (iI (qs i).2.2.2.2)])) ∧ Cl L f (hv i) (16, .inr (1, [.int (iI (qs i).1), .int (iI (qs i).2.1)])) ∧ Cl L f (ov i) (17, .inr (1, [.int (iI (qs i).2.2.1), .int (iI (qs i).2.2.2.1)]))) ∧ (∀ i j, i < n → j < n → i ≠ j → pv i ≠ pv j ∧ hv i ≠ hv j ∧ ov i ≠ ov j)
theorem PortsR.fr {κ : Kx} {L L' : List Nat} {f f' : Nat → wE} {pl n : Nat} {qs : Nat → Pt} {S : Nat → Bool} (h : PortsR κ L f pl n qs) (hf : k_fr S L f L' f') (hS : (S 4 || (S 12 || (S 15 || (S 16 || S 17)))) = false) : PortsR κ L' f' pl n qs := by
  obtain ⟨pv, hv, ov, h1, h2, h3⟩ := h
  simp only [Bool.or_eq_false_iff] at hS
  obtain ⟨s1, s2, s3, s4, s5⟩ := hS
  exact ⟨pv, hv, ov, h1.fr hf (by rw [s1, s2]; rfl), fun i hi => ⟨(h2 i hi).1.fr hf s3, (h2 i hi).2.1.fr hf s4, (h2 i hi).2.2.fr hf s5⟩, h3⟩
def ReadsR (κ : Kx) (L : List Nat) (f : Nat → wE) (rl : Nat) (ρ : Rd) : Prop := ∃ rv : Nat → Nat, ListR κ L f rl 5 13 ρ.1 rv ∧ ∀ i, i < ρ.1 → Cl L f (rv i) (18, .inr (3, [.int (iI (ρ.2.1 i : Int)), .int (iI (ρ.2.2 i))]))
theorem ReadsR.fr {κ : Kx} {L L' : List Nat} {f f' : Nat → wE} {rl : Nat} {ρ : Rd} {S : Nat → Bool} (h : ReadsR κ L f rl ρ) (hf : k_fr S L f L' f') (hS : (S 5 || (S 13 || S 18)) = false) : ReadsR κ L' f' rl ρ := by
  obtain ⟨rv, h1, h2⟩ := h
  simp only [Bool.or_eq_false_iff] at hS
  obtain ⟨s1, s2, s3⟩ := hS
  exact ⟨rv, h1.fr hf (by rw [s1, s2]; rfl), fun i hi => (h2 i hi).fr hf s3⟩
def CSF (κ : Kx) (L : List Nat) (f : Nat → wE) (tt td tb pl rl : Nat) (old : Bool) (σ : Sg) : Prop := Cl L f tt (1, .inr (8, [.ref td, .ref tb, .ref pl, .ref rl, .int (iI (bI old))])) ∧ TideR κ L f td σ.1 ∧ (TblX κ L f tb ∧ (old = false → TblR κ L f tb (hT σ.1))) ∧ PortsR κ L f pl σ.2.1 σ.2.2.1 ∧ ReadsR κ L f rl σ.2.2.2
theorem CSF.fr {κ : Kx} {L L' : List Nat} {f f' : Nat → wE} {tt td tb pl rl : Nat} {old : Bool} {σ : Sg} {S : Nat → Bool} (h : CSF κ L f tt td tb pl rl old σ) (hf : k_fr S L f L' f') (hS : (S 1 || (S 2 || (S 3 || (S 4 || (S 5 || (S 6 || (S 7 || (S 8 || (S 9 || (S 10 || (S 11 || (S 12 || (S 13 || (S 14 || (S 15 || (S 16 || (S 17 || (S 18)))))))))))))))))) = false) : CSF κ L' f' tt td tb pl rl old σ := by
  obtain ⟨h1, h2, h3, h4, h5⟩ := h
  simp only [Bool.or_eq_false_iff] at hS
  obtain ⟨s1, s2, s3, s4, s5, s6, s7, s8, s9, s10, s11, s12, s13, s14, s15, s16, s17, s18⟩ := hS
  exact ⟨h1.fr hf s1, h2.fr hf (by rw [s2, s6, s11, s14]; rfl), ⟨h3.1.fr hf (by rw [s3, s7, s8, s9, s10]; rfl), fun e => (h3.2 e).fr hf (by rw [s3, s7, s8, s9, s10]; rfl)⟩, h4.fr hf (by rw [s4, s12, s15, s16, s17]; rfl), h5.fr hf (by rw [s5, s13, s18]; rfl)⟩
def CS (κ : Kx) (L : List Nat) (f : Nat → wE) (tt : Nat) (σ : Sg) : Prop := ∃ (td tb pl rl : Nat) (old : Bool), CSF κ L f tt td tb pl rl old σ
theorem CS.fr {κ : Kx} {L L' : List Nat} {f f' : Nat → wE} {tt : Nat} {σ : Sg} {S : Nat → Bool} (h : CS κ L f tt σ) (hf : k_fr S L f L' f') (hS : (S 1 || (S 2 || (S 3 || (S 4 || (S 5 || (S 6 || (S 7 || (S 8 || (S 9 || (S 10 || (S 11 || (S 12 || (S 13 || (S 14 || (S 15 || (S 16 || (S 17 || (S 18)))))))))))))))))) = false) : CS κ L' f' tt σ := by
  obtain ⟨td, tb, pl, rl, old, h1⟩ := h
  exact ⟨td, tb, pl, rl, old, h1.fr hf hS⟩
theorem CSF.cs {κ : Kx} {L : List Nat} {f : Nat → wE} {tt td tb pl rl : Nat} {old : Bool} {σ : Sg} (h : CSF κ L f tt td tb pl rl old σ) : CS κ L f tt σ := ⟨td, tb, pl, rl, old, h⟩
def SC (v : Nat) : Bool := Nat.ble v 19
theorem SC_of {t : Nat} (ht : Nat.ble t 19 = true) : ∀ v, SC v = false → (v == t) = false := fun v h => beq_false_of_ne (fun e => by subst e; rw [SC, ht] at h; exact Bool.noConfusion h)
theorem SC_ST : ∀ v, SC v = false → ST v = false := fun v h => by
  unfold ST
  rw [SC_of rfl v h, SC_of (t := 7) rfl v h, SC_of (t := 8) rfl v h, SC_of (t := 9) rfl v h, SC_of (t := 10) rfl v h]
  rfl
def SU (v : Nat) : Bool := v == 1 || ST v
theorem SU_1 : ∀ v, SU v = false → (v == 1) = false := fun v h => (Bool.or_eq_false_iff.mp h).1
theorem SU_ST : ∀ v, SU v = false → ST v = false := fun v h => (Bool.or_eq_false_iff.mp h).2
theorem SC_SU : ∀ v, SC v = false → SU v = false := fun v h => by
  unfold SU
  rw [SC_of (t := 1) rfl v h, SC_ST v h]
  rfl
theorem SC_S2 {a b : Nat} (ha : Nat.ble a 19 = true) (hb : Nat.ble b 19 = true) : ∀ v, SC v = false → S2 a b v = false := fun v h => by
  unfold S2
  rw [SC_of ha v h, SC_of hb v h]
  rfl
/-- the number that count, or the checksum, asks for -/
def numS (σ : Sg) (what : Int) : Int := if what = 0 then (σ.1.2.1 : Int) else if what = 1 then (nW (hT σ.1) : Int) else if what = 2 then (σ.2.1 : Int) else (σ.2.2.2.1 : Int)
theorem wAt_spec {h : Nat → Int} {q : Pt} {a : Nat} : ∀ m : Nat, wAt h q a m ≤ nW h ∧ ∀ y, y < wAt h q a m → pT h q y < ((a + m : Nat) : Int)
  | 0 => ⟨Nat.zero_le _, fun y hy => absurd hy (Nat.not_lt_zero _)⟩
  | m + 1 => by
    obtain ⟨h1, h2⟩ := wAt_spec (h := h) (q := q) (a := a) m
    obtain ⟨a1, a2, a3, a4⟩ := lat_spec (h := h) (q := q) (t := ((a + m : Nat) : Int)) h1
    rw [wAt]
    refine ⟨a2, fun y hy => ?_⟩
    rcases Nat.lt_or_ge y (wAt h q a m) with e | e
    · have := h2 y e
      omega
    · have := a3 y e hy
      omega
theorem wAt_end {h : Nat → Int} {q : Pt} {a m : Nat} (e : wAt h q a (m + 1) < nW h) : ((a + m : Nat) : Int) < pT h q (wAt h q a (m + 1)) := by
  obtain ⟨h1, h2⟩ := wAt_spec (h := h) (q := q) (a := a) m
  obtain ⟨a1, a2, a3, a4⟩ := lat_spec (h := h) (q := q) (t := ((a + m : Nat) : Int)) h1
  rw [wAt] at e ⊢
  exact Int.not_le.mp (fun hx => a4 ⟨e, hx⟩)
theorem tlC_in {h : Nat → Int} {lev : Int} {a : Nat} : ∀ m : Nat, a + m ≤ 4320 → TlIn (m : Int) (tlC h lev a m)
  | 0, _ => by
    rw [tlC]
    exact ⟨⟨by decide, by decide⟩, ⟨by decide, by decide⟩, by decide, by decide⟩
  | m + 1, hm => by
    have h1 := tlC_in (h := h) (lev := lev) (a := a) m (by omega)
    rw [tlC]
    exact tlS_in h1 (by omega) (by omega)
theorem tlP_in {h : Nat → Int} {q : Pt} {lev : Int} {a : Nat} : ∀ m : Nat, a + m ≤ 4320 → TlIn (m : Int) (tlP h q lev a m)
  | 0, _ => by
    rw [tlP]
    exact ⟨⟨by decide, by decide⟩, ⟨by decide, by decide⟩, by decide, by decide⟩
  | m + 1, hm => by
    have h1 := tlP_in (h := h) (q := q) (lev := lev) (a := a) m (by omega)
    rw [tlP]
    exact tlS_in h1 (by omega) (by omega)
theorem dif_bd {τ : Td} {ρ : Rd} (ht : TdOk τ) (hr : RdOk ρ) {i : Nat} (hi : i < ρ.1) : -100000 ≤ dif (hT τ) ρ i ∧ dif (hT τ) ρ i ≤ 100000 := by
  have h1 := hr.2 i hi
  have h2 := hT_bd ht (ρ.2.1 i)
  unfold dif
  omega
theorem sumD_bd {τ : Td} {ρ : Rd} (ht : TdOk τ) (hr : RdOk ρ) : ∀ n : Nat, n ≤ ρ.1 → -100000 * (n : Int) ≤ sumD (hT τ) ρ n ∧ sumD (hT τ) ρ n ≤ 100000 * (n : Int)
  | 0, _ => by
    simp only [sumD]
    omega
  | n + 1, hn => by
    have h1 := sumD_bd ht hr n (by omega)
    have h2 := dif_bd ht hr (i := n) (by omega)
    simp only [sumD]
    omega
def WI (h : Nat → Int) (ρ : Rd) (i : Nat) (w b : Int) : Prop := w = wst h ρ i ∧ ((w = -1 ∧ b = -1) ∨ ((0 ≤ w ∧ w < (i : Int)) ∧ b = ((dif h ρ w.toNat).natAbs : Int)))
theorem WI.pos {h : Nat → Int} {ρ : Rd} {i : Nat} {w b : Int} (H : WI h ρ i w b) (hl : b < ((dif h ρ i).natAbs : Int)) : WI h ρ (i + 1) (i : Int) ((dif h ρ i).natAbs : Int) := by
  obtain ⟨h1, h2⟩ := H
  refine ⟨?_, Or.inr ⟨⟨by omega, by omega⟩, rfl⟩⟩
  rw [wst, if_pos]
  rw [← h1]
  rcases h2 with ⟨a, c⟩ | ⟨a, c⟩
  · exact Or.inl a
  · exact Or.inr (by omega)
theorem WI.neg {h : Nat → Int} {ρ : Rd} {i : Nat} {w b : Int} (H : WI h ρ i w b) (hl : ((dif h ρ i).natAbs : Int) ≤ b) : WI h ρ (i + 1) w b := by
  obtain ⟨h1, h2⟩ := H
  rcases h2 with ⟨a, c⟩ | ⟨a, c⟩
  · omega
  · refine ⟨?_, Or.inr ⟨⟨by omega, by omega⟩, c⟩⟩
    rw [wst, if_neg, ← h1]
    rw [← h1]
    intro q
    omega
def mixN (σ : Sg) : Nat → Int
  | 0 => 313
  | k + 1 => mixN σ k * 31 + numS σ (k : Int)
def digS (σ : Sg) : Int := mixD (hT σ.1) (mixP (hT σ.1) σ.2.2.1 (mixW (hT σ.1) (mixN σ 4 * 31 + σ.1.1) (nW (hT σ.1))) σ.2.1) 5
def sg0 : Sg := ((0, 0, fun _ => 0, fun _ => 0, fun _ => 0), 0, fun _ => (0, 100, 0, 100, 0), 0, fun _ => 0, fun _ => 0)
theorem datum_bd {h : Nat → Int} (hb : ∀ t, -50000 ≤ h t ∧ h t ≤ 50000) (what : Int) : -250000000 ≤ dat h what ∧ dat h what ≤ 250000000 := by
  have h1 := mxh_bd hb 4320
  have h2 := mnh_bd hb 4320
  have h3 := difW_bd hb (nW h - 1)
  have hm : ∀ b, -250000000 ≤ meanW h b ∧ meanW h b ≤ 250000000 := fun b => by
    have a1 := sumW_bd hb b (nW h)
    have a2 := cntW_bd (h := h) b (nW h)
    have a3 := nW_le h
    unfold meanW
    split
    · omega
    · have a4 := Int.natAbs_tdiv_le_natAbs (sumW h b (nW h)) (cntW h b (nW h))
      omega
  have h4 := hm true
  have h5 := hm false
  unfold dat
  repeat' split
  all_goals omega
