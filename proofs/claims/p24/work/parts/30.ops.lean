/-! ===== what each call throws, answers, leaves ===== -/
abbrev cIA : String := "java/lang/IllegalArgumentException"
abbrev cIS : String := "java/lang/IllegalStateException"
abbrev cIO : String := "java/lang/IndexOutOfBoundsException"
def xAddWave (σ : Sg) (r p o : Int) : Option String := if 0 ≤ r ∧ r ≤ 5000 then (if 60 ≤ p ∧ p ≤ 20000 then (if 0 ≤ o ∧ o ≤ p - 1 then (if (σ.1.2.1 : Int) < 8 then none else some cIS) else some cIA) else some cIA) else some cIA
def sAddWave (σ : Sg) (r p o : Int) : Sg := ((σ.1.1, σ.1.2.1 + 1, va_up σ.1.2.2.1 σ.1.2.1 r, va_up σ.1.2.2.2.1 σ.1.2.1 p, va_up σ.1.2.2.2.2 σ.1.2.1 o), σ.2)
def xSetRange (σ : Sg) (w r : Int) : Option String := if 0 ≤ w ∧ w < (σ.1.2.1 : Int) then (if 0 ≤ r ∧ r ≤ 5000 then none else some cIA) else some cIO
def sSetRange (σ : Sg) (w r : Int) : Sg := ((σ.1.1, σ.1.2.1, va_up σ.1.2.2.1 w.toNat r, σ.1.2.2.2), σ.2)
def xSetLevel (v : Int) : Option String := if -10000 ≤ v ∧ v ≤ 10000 then none else some cIA
def sSetLevel (σ : Sg) (v : Int) : Sg := ((v, σ.1.2), σ.2)
def xHeight (t : Int) : Option String := if 0 ≤ t ∧ t ≤ 4319 then none else some cIA
def xWaveHeight (σ : Sg) (w t : Int) : Option String := if 0 ≤ w ∧ w < (σ.1.2.1 : Int) then (if 0 ≤ t ∧ t ≤ 4319 then none else some cIA) else some cIO
def xCount (what : Int) : Option String := if 0 ≤ what ∧ what ≤ 3 then none else some cIO
def xWater (σ : Sg) (w what : Int) : Option String := if 0 ≤ w ∧ w < (nW (hT σ.1) : Int) then (if 0 ≤ what ∧ what ≤ 2 then none else some cIO) else some cIO
def aWater (h : Nat → Int) (k : Nat) (what : Int) : Int := if what = 0 then (tm h k : Int) else if what = 1 then h (tm h k) else bI (hi h k)
def xDatum (what : Int) : Option String := if 0 ≤ what ∧ what ≤ 4 then none else some cIO
def xAddPort (σ : Sg) : Option String := if (σ.2.1 : Int) < 6 then none else some cIS
def sAddPort (σ : Sg) : Sg := (σ.1, σ.2.1 + 1, va_up σ.2.2.1 σ.2.1 (0, 100, 0, 100, 0), σ.2.2.2)
def xSetPort (σ : Sg) (p s f : Int) : Option String := if 0 ≤ p ∧ p < (σ.2.1 : Int) then (if -300 ≤ s ∧ s ≤ 300 then (if 0 ≤ f ∧ f ≤ 300 then none else some cIA) else some cIA) else some cIO
def qSet (q : Pt) (b : Bool) (s f : Int) : Pt := if b = true then (s, f, q.2.2) else (q.1, q.2.1, s, f, q.2.2.2.2)
def sSetPort (σ : Sg) (p : Int) (b : Bool) (s f : Int) : Sg := (σ.1, σ.2.1, va_up σ.2.2.1 p.toNat (qSet (σ.2.2.1 p.toNat) b s f), σ.2.2.2)
def aSetPort (q : Pt) (b : Bool) : Int := if b = true then q.2.1 else q.2.2.2.1
def xSetAdd (σ : Sg) (p v : Int) : Option String := if 0 ≤ p ∧ p < (σ.2.1 : Int) then (if -3000 ≤ v ∧ v ≤ 3000 then none else some cIA) else some cIO
def qAdd (q : Pt) (v : Int) : Pt := (q.1, q.2.1, q.2.2.1, q.2.2.2.1, v)
def sSetAdd (σ : Sg) (p v : Int) : Sg := (σ.1, σ.2.1, va_up σ.2.2.1 p.toNat (qAdd (σ.2.2.1 p.toNat) v), σ.2.2.2)
def xPort (σ : Sg) (p : Int) : Option String := if 0 ≤ p ∧ p < (σ.2.1 : Int) then none else some cIO
def xPortWater (σ : Sg) (p w : Int) : Option String := if 0 ≤ p ∧ p < (σ.2.1 : Int) then (if 0 ≤ w ∧ w < (nW (hT σ.1) : Int) then none else some cIO) else some cIO
def aPortWater (h : Nat → Int) (q : Pt) (k : Nat) (b : Bool) : Int := if b = true then pT h q k else pH h q k
def xPortHeight (σ : Sg) (p t : Int) : Option String := if 0 ≤ p ∧ p < (σ.2.1 : Int) then (if 0 ≤ t ∧ t ≤ 4319 then (if ord (hT σ.1) (σ.2.2.1 p.toNat) = true then (if 0 ≤ ((lat (hT σ.1) (σ.2.2.1 p.toNat) t 0 : Nat) : Int) - 1 ∧ ((lat (hT σ.1) (σ.2.2.1 p.toNat) t 0 : Nat) : Int) - 1 < (nW (hT σ.1) : Int) - 1 then none else some cIS) else some cIS) else some cIA) else some cIO
def aPortHeight (σ : Sg) (p t : Int) : Int := btw (hT σ.1) (σ.2.2.1 p.toNat) (lat (hT σ.1) (σ.2.2.1 p.toNat) t 0) t
def xWindows (σ : Sg) (p a b what : Int) : Option String := if p = -1 ∨ (0 ≤ p ∧ p < (σ.2.1 : Int)) then (if 0 ≤ what ∧ what ≤ 3 then (if 0 ≤ a ∧ a ≤ b ∧ b < 4320 then none else some cIA) else some cIO) else some cIO
def aWindows (σ : Sg) (p lev a b what : Int) : Int := if p = -1 then tlA (tlC (hT σ.1) lev a.toNat (b.toNat + 1 - a.toNat)) what else tlA (if ord (hT σ.1) (σ.2.2.1 p.toNat) = true then tlP (hT σ.1) (σ.2.2.1 p.toNat) lev a.toNat (b.toNat + 1 - a.toNat) else tl0) what
def xRead (σ : Sg) (t v : Int) : Option String := if 0 ≤ t ∧ t ≤ 4319 then (if -50000 ≤ v ∧ v ≤ 50000 then (if (σ.2.2.2.1 : Int) < 40 then none else some cIS) else some cIA) else some cIA
def sRead (σ : Sg) (t v : Int) : Sg := (σ.1, σ.2.1, σ.2.2.1, σ.2.2.2.1 + 1, va_up σ.2.2.2.2.1 σ.2.2.2.1 t.toNat, va_up σ.2.2.2.2.2 σ.2.2.2.1 v)
def raised (σ : Sg) : Int := (sumD (hT σ.1) σ.2.2.2 σ.2.2.2.1).tdiv (σ.2.2.2.1 : Int)
def xAdjust (σ : Sg) : Option String := if σ.2.2.2.1 = 0 then some cIS else (if -10000 ≤ σ.1.1 + raised σ ∧ σ.1.1 + raised σ ≤ 10000 then none else some cIS)
def sAdjust (σ : Sg) : Sg := ((σ.1.1 + raised σ, σ.1.2), σ.2.1, σ.2.2.1, 0, σ.2.2.2.2)
theorem raised_bd {σ : Sg} (hs : SgOk σ) : -4000000 ≤ raised σ ∧ raised σ ≤ 4000000 := by
  have h1 := sumD_bd hs.1 hs.2.2 σ.2.2.2.1 (Nat.le_refl _)
  have h2 := hs.2.2.1
  have h3 := Int.natAbs_tdiv_le_natAbs (sumD (hT σ.1) σ.2.2.2 σ.2.2.2.1) (σ.2.2.2.1 : Int)
  unfold raised
  omega
/-! the states that come of a change are good -/
theorem sAddWave_ok {σ : Sg} {r p o : Int} (hs : SgOk σ) (h : xAddWave σ r p o = none) : SgOk (sAddWave σ r p o) := by
  obtain ⟨⟨h1, h2, h3⟩, h4, h5⟩ := hs
  unfold xAddWave at h
  split at h
  · rename_i a1
    split at h
    · rename_i a2
      split at h
      · rename_i a3
        split at h
        · rename_i a4
          refine ⟨⟨h1, by show σ.1.2.1 + 1 ≤ 8; omega, fun i hi => ?_⟩, h4, h5⟩
          show wvOk (va_up σ.1.2.2.1 σ.1.2.1 r i) (va_up σ.1.2.2.2.1 σ.1.2.1 p i) (va_up σ.1.2.2.2.2 σ.1.2.1 o i)
          by_cases e : i = σ.1.2.1
          · subst e
            rw [va_up_self, va_up_self, va_up_self]
            exact ⟨a1, a2, a3.1, by omega⟩
          · rw [va_up_ne _ _ e, va_up_ne _ _ e, va_up_ne _ _ e]
            exact h3 i (by have hi2 : i < σ.1.2.1 + 1 := hi; omega)
        · exact nomatch h
      · exact nomatch h
    · exact nomatch h
  · exact nomatch h
theorem sSetRange_ok {σ : Sg} {w r : Int} (hs : SgOk σ) (h : xSetRange σ w r = none) : SgOk (sSetRange σ w r) := by
  obtain ⟨⟨h1, h2, h3⟩, h4, h5⟩ := hs
  unfold xSetRange at h
  split at h
  · rename_i a1
    split at h
    · rename_i a2
      refine ⟨⟨h1, h2, fun i hi => ?_⟩, h4, h5⟩
      show wvOk (va_up σ.1.2.2.1 w.toNat r i) (σ.1.2.2.2.1 i) (σ.1.2.2.2.2 i)
      have h6 := h3 i hi
      by_cases e : i = w.toNat
      · subst e
        rw [va_up_self]
        exact ⟨a2, h6.2⟩
      · rw [va_up_ne _ _ e]
        exact h6
    · exact nomatch h
  · exact nomatch h
theorem sSetLevel_ok {σ : Sg} {v : Int} (hs : SgOk σ) (h : xSetLevel v = none) : SgOk (sSetLevel σ v) := by
  obtain ⟨⟨h1, h2, h3⟩, h4, h5⟩ := hs
  unfold xSetLevel at h
  split at h
  · rename_i a1
    exact ⟨⟨a1, h2, h3⟩, h4, h5⟩
  · exact nomatch h
theorem sAddPort_ok {σ : Sg} (hs : SgOk σ) (h : xAddPort σ = none) : SgOk (sAddPort σ) := by
  obtain ⟨h1, ⟨h2, h3⟩, h5⟩ := hs
  unfold xAddPort at h
  split at h
  · rename_i a1
    refine ⟨h1, ⟨by show σ.2.1 + 1 ≤ 6; omega, fun i hi => ?_⟩, h5⟩
    show PtOk (va_up σ.2.2.1 σ.2.1 (0, 100, 0, 100, 0) i)
    by_cases e : i = σ.2.1
    · subst e
      rw [va_up_self]
      unfold PtOk
      refine ⟨⟨?_, ?_⟩, ⟨?_, ?_⟩, ⟨?_, ?_⟩, ⟨?_, ?_⟩, ?_, ?_⟩ <;> simp only [] <;> omega
    · rw [va_up_ne _ _ e]
      exact h3 i (by have hi2 : i < σ.2.1 + 1 := hi; omega)
  · exact nomatch h
theorem sSetPort_ok {σ : Sg} {p s f : Int} {b : Bool} (hs : SgOk σ) (h : xSetPort σ p s f = none) : SgOk (sSetPort σ p b s f) := by
  obtain ⟨h1, ⟨h2, h3⟩, h5⟩ := hs
  unfold xSetPort at h
  split at h
  · rename_i a1
    split at h
    · rename_i a2
      split at h
      · rename_i a3
        refine ⟨h1, ⟨h2, fun i hi => ?_⟩, h5⟩
        show PtOk (va_up σ.2.2.1 p.toNat (qSet (σ.2.2.1 p.toNat) b s f) i)
        by_cases e : i = p.toNat
        · rw [← e, va_up_self]
          obtain ⟨b1, b2, b3, b4, b5⟩ := h3 i hi
          unfold qSet
          cases b with
          | true => exact ⟨a2, a3, b3, b4, b5⟩
          | false => exact ⟨b1, b2, a2, a3, b5⟩
        · rw [va_up_ne _ _ e]
          exact h3 i hi
      · exact nomatch h
    · exact nomatch h
  · exact nomatch h
theorem sSetAdd_ok {σ : Sg} {p v : Int} (hs : SgOk σ) (h : xSetAdd σ p v = none) : SgOk (sSetAdd σ p v) := by
  obtain ⟨h1, ⟨h2, h3⟩, h5⟩ := hs
  unfold xSetAdd at h
  split at h
  · rename_i a1
    split at h
    · rename_i a2
      refine ⟨h1, ⟨h2, fun i hi => ?_⟩, h5⟩
      show PtOk (va_up σ.2.2.1 p.toNat (qAdd (σ.2.2.1 p.toNat) v) i)
      by_cases e : i = p.toNat
      · rw [← e, va_up_self]
        obtain ⟨b1, b2, b3, b4, b5⟩ := h3 i hi
        exact ⟨b1, b2, b3, b4, a2⟩
      · rw [va_up_ne _ _ e]
        exact h3 i hi
    · exact nomatch h
  · exact nomatch h
theorem sRead_ok {σ : Sg} {t v : Int} (hs : SgOk σ) (h : xRead σ t v = none) : SgOk (sRead σ t v) := by
  obtain ⟨h1, h2, h4, h5⟩ := hs
  unfold xRead at h
  split at h
  · rename_i a1
    split at h
    · rename_i a2
      split at h
      · rename_i a3
        refine ⟨h1, h2, by show σ.2.2.2.1 + 1 ≤ 40; omega, fun i hi => ?_⟩
        show va_up σ.2.2.2.2.1 σ.2.2.2.1 t.toNat i < 4320 ∧ (-50000 ≤ va_up σ.2.2.2.2.2 σ.2.2.2.1 v i ∧ va_up σ.2.2.2.2.2 σ.2.2.2.1 v i ≤ 50000)
        by_cases e : i = σ.2.2.2.1
        · subst e
          rw [va_up_self, va_up_self]
          exact ⟨by omega, a2⟩
        · rw [va_up_ne _ _ e, va_up_ne _ _ e]
          exact h5 i (by have hi2 : i < σ.2.2.2.1 + 1 := hi; omega)
      · exact nomatch h
    · exact nomatch h
  · exact nomatch h
theorem sAdjust_ok {σ : Sg} (hs : SgOk σ) (h : xAdjust σ = none) : SgOk (sAdjust σ) := by
  obtain ⟨⟨h1, h2, h3⟩, h4, h5⟩ := hs
  unfold xAdjust at h
  split at h
  · exact nomatch h
  · split at h
    · rename_i a1
      exact ⟨⟨a1, h2, h3⟩, h4, Nat.zero_le _, fun i hi => absurd hi (Nat.not_lt_zero _)⟩
    · exact nomatch h
theorem sg0_ok : SgOk sg0 := ⟨⟨⟨by decide, by decide⟩, Nat.zero_le _, fun i hi => absurd hi (Nat.not_lt_zero _)⟩, ⟨Nat.zero_le _, fun i hi => absurd hi (Nat.not_lt_zero _)⟩, Nat.zero_le _, fun i hi => absurd hi (Nat.not_lt_zero _)⟩
/-! representation behind a change -/
theorem TideR.setR {κ : Kx} {L : List Nat} {f f' : Nat → wE} {td wl k : Nat} {wv : Nat → Nat} {τ : Td} {r : Int} (ctd : Cl L f' td (2, .inr (6, [.ref wl, .int (iI τ.1)]))) (hL : ListR κ L f' wl 6 11 τ.2.1 wv) (hW : ∀ i, i < τ.2.1 → Cl L f (wv i) (14, .inr (7, [.int (iI (τ.2.2.1 i)), .int (iI (τ.2.2.2.1 i)), .int (iI (τ.2.2.2.2 i))]))) (hk : k < τ.2.1)
    (hne : ∀ z, z ≠ wv k → f' z = f z) (cw : Cl L f' (wv k) (14, .inr (7, [.int (iI r), .int (iI (τ.2.2.2.1 k)), .int (iI (τ.2.2.2.2 k))]))) (hi : ∀ i j, i < τ.2.1 → j < τ.2.1 → wv i = wv j → i = j) : TideR κ L f' td (τ.1, τ.2.1, va_up τ.2.2.1 k r, τ.2.2.2) := by
  refine ⟨wl, wv, ctd, hL, fun i hi2 => ?_, hi⟩
  show Cl L f' (wv i) (14, .inr (7, [.int (iI (va_up τ.2.2.1 k r i)), .int (iI (τ.2.2.2.1 i)), .int (iI (τ.2.2.2.2 i))]))
  by_cases e : i = k
  · subst e
    rw [va_up_self]
    exact cw
  · rw [va_up_ne _ _ e]
    exact Cl.put2 hne (hW i hi2) (fun q => e (hi i k hi2 hk q))
theorem TideR.add {κ : Kx} {L L1 : List Nat} {f f1 : Nat → wE} {td wl w : Nat} {wv : Nat → Nat} {τ : Td} {r p o : Int} (hW : ∀ i, i < τ.2.1 → Cl L f (wv i) (14, .inr (7, [.int (iI (τ.2.2.1 i)), .int (iI (τ.2.2.2.1 i)), .int (iI (τ.2.2.2.2 i))]))) (hW1 : ∀ i, i < τ.2.1 → Cl L1 f1 (wv i) (14, .inr (7, [.int (iI (τ.2.2.1 i)), .int (iI (τ.2.2.2.1 i)), .int (iI (τ.2.2.2.2 i))]))) (hn : w ∉ L)
    (ctd : Cl L1 f1 td (2, .inr (6, [.ref wl, .int (iI τ.1)]))) (hL : ListR κ L1 f1 wl 6 11 (τ.2.1 + 1) (va_up wv τ.2.1 w)) (cw : Cl L1 f1 w (14, .inr (7, [.int (iI r), .int (iI p), .int (iI o)]))) (hi : ∀ i j, i < τ.2.1 → j < τ.2.1 → wv i = wv j → i = j) : TideR κ L1 f1 td (τ.1, τ.2.1 + 1, va_up τ.2.2.1 τ.2.1 r, va_up τ.2.2.2.1 τ.2.1 p, va_up τ.2.2.2.2 τ.2.1 o) := by
  refine ⟨wl, va_up wv τ.2.1 w, ctd, hL, fun i hi2 => ?_, fun i j hi2 hj2 => ?_⟩
  · show Cl L1 f1 (va_up wv τ.2.1 w i) (14, .inr (7, [.int (iI (va_up τ.2.2.1 τ.2.1 r i)), .int (iI (va_up τ.2.2.2.1 τ.2.1 p i)), .int (iI (va_up τ.2.2.2.2 τ.2.1 o i))]))
    by_cases e : i = τ.2.1
    · subst e
      rw [va_up_self, va_up_self, va_up_self, va_up_self]
      exact cw
    · rw [va_up_ne _ _ e, va_up_ne _ _ e, va_up_ne _ _ e, va_up_ne _ _ e]
      exact hW1 i (by have hi3 : i < τ.2.1 + 1 := hi2; omega)
  · have hi3 : i < τ.2.1 + 1 := hi2
    have hj3 : j < τ.2.1 + 1 := hj2
    by_cases e1 : i = τ.2.1
    · by_cases e2 : j = τ.2.1
      · intro _
        rw [e1, e2]
      · rw [e1, va_up_self, va_up_ne _ _ e2]
        intro q
        exact absurd (by rw [q]; exact (hW j (by omega)).1) hn
    · by_cases e2 : j = τ.2.1
      · rw [e2, va_up_self, va_up_ne _ _ e1]
        intro q
        exact absurd (by rw [← q]; exact (hW i (by omega)).1) hn
      · rw [va_up_ne _ _ e1, va_up_ne _ _ e2]
        exact hi i j (by omega) (by omega)
