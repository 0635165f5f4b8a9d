/-! ===== a quotient of whole numbers is no NaN ===== -/
def fd_ok (d : FP.Core.Datum) : Prop := (∃ (s : Bool) (c : Nat) (q : Int), d = .fin s c q ∧ c < 9007199254740992 ∧ q ≤ 971) ∨ ∃ s : Bool, d = .inf s
theorem fd_rr (s : Bool) (num den : Nat) (e : Int) : fd_ok (FP.Core.roundRatio FP.Core.b64 s num den e) := by
  unfold FP.Core.roundRatio
  split
  · exact Or.inl ⟨s, 0, _, rfl, by decide, by decide⟩
  · unfold FP.Core.roundAt FP.Core.settle FP.Core.bound
    split
    · rename_i h1
      split
      · rename_i h2
        exact Or.inl ⟨s, _, _, rfl, h1, h2⟩
      · exact Or.inr ⟨s, rfl⟩
    · split
      · rename_i h2
        exact Or.inl ⟨s, _, _, rfl, by decide, h2⟩
      · exact Or.inr ⟨s, rfl⟩
theorem fd_encF (s : Bool) (c : Nat) (q : Int) : FP.Core.encode FP.Core.b64 (.fin s c q) = if c < FP.Core.b64.tails then FP.Core.assemble FP.Core.b64 s 0 c else FP.Core.assemble FP.Core.b64 s ((q - FP.Core.b64.qmin).toNat + 1) (c - FP.Core.b64.tails) := rfl
theorem fd_encI (s : Bool) : FP.Core.encode FP.Core.b64 (.inf s) = FP.Core.assemble FP.Core.b64 s (FP.Core.b64.exps - 1) 0 := rfl
theorem fd_enc {d : FP.Core.Datum} (h : fd_ok d) : FP.Core.encode FP.Core.b64 d < 18446744073709551616 ∧ FP.Core.encode FP.Core.b64 d % 9223372036854775808 ≤ 9218868437227405312 := by
  rcases h with ⟨s, c, q, rfl, h1, h2⟩ | ⟨s, rfl⟩
  · rw [fd_encF]
    unfold FP.Core.assemble
    have e1 : FP.Core.b64.tails = 4503599627370496 := by decide
    have e2 : FP.Core.b64.exps = 2048 := by decide
    have e3 : FP.Core.b64.qmin = -1074 := by decide
    rw [e1, e2, e3]
    have e4 : s.toNat = 0 ∨ s.toNat = 1 := by cases s <;> simp
    split
    · rcases e4 with e4 | e4 <;> rw [e4] <;> omega
    · have e5 : (q - -1074).toNat ≤ 2045 := by omega
      rcases e4 with e4 | e4 <;> rw [e4] <;> omega
  · rw [fd_encI]
    unfold FP.Core.assemble
    have e1 : FP.Core.b64.tails = 4503599627370496 := by decide
    have e2 : FP.Core.b64.exps = 2048 := by decide
    rw [e1, e2]
    have e4 : s.toNat = 0 ∨ s.toNat = 1 := by cases s <;> simp
    rcases e4 with e4 | e4 <;> rw [e4] <;> omega
theorem fd_vf {d : FP.Core.Datum} (h : fd_ok d) : vf_n64 (UInt64.ofNat (FP.Core.encode FP.Core.b64 d)) := by
  obtain ⟨h1, h2⟩ := fd_enc h
  unfold vf_n64
  rw [UInt64.le_iff_toNat_le, UInt64.toNat_and]
  have e1 : (0x7fffffffffffffff : UInt64).toNat = 2 ^ 63 - 1 := by decide
  have e2 : (0x7ff0000000000000 : UInt64).toNat = 9218868437227405312 := by decide
  rw [e1, e2, Nat.and_two_pow_sub_one_eq_mod, UInt64.toNat_ofNat_of_lt' h1]
  exact h2
/-- finite ones of not too great an exponent -/
theorem fd_fin {s : Bool} {num : Nat} (hn : num < 18446744073709551616) : ∃ (t : Bool) (c : Nat) (q : Int), FP.Core.roundRatio FP.Core.b64 s num 1 0 = .fin t c q ∧ c < 9007199254740992 ∧ q ≤ 970 := by
  unfold FP.Core.roundRatio
  split
  · exact ⟨s, 0, _, rfl, by decide, by decide⟩
  · rename_i h0
    have hq : FP.Core.quantum FP.Core.b64 num 1 0 ≤ 12 := by
      have hl : num.log2 < 64 := (Nat.log2_lt h0).mpr hn
      have h1 : FP.Core.leading num 1 ≤ 63 := by
        unfold FP.Core.leading
        have e9 : (1 : Nat).log2 = 0 := by decide
        simp only [e9]
        split <;> omega
      unfold FP.Core.quantum
      have e3 : FP.Core.b64.qmin = -1074 := by decide
      have e4 : (FP.Core.b64.p : Int) = 53 := by decide
      rw [e3, e4]
      omega
    have em : FP.Core.b64.qmax = 971 := by decide
    unfold FP.Core.roundAt FP.Core.settle FP.Core.bound
    split
    · rename_i h1
      rw [if_pos (by omega)]
      exact ⟨s, _, _, rfl, h1, by omega⟩
    · rw [if_pos (by omega)]
      exact ⟨s, _, _, rfl, by decide, by omega⟩
theorem fd_dec {s : Bool} {c : Nat} {q : Int} (h1 : c < 9007199254740992) (h2 : q ≤ 970) : ∃ (t : Bool) (c9 : Nat) (q9 : Int), FP.Core.decode FP.Core.b64 (UInt64.ofNat (FP.Core.encode FP.Core.b64 (.fin s c q))).toNat = .fin t c9 q9 := by
  obtain ⟨h3, -⟩ := fd_enc (d := .fin s c q) (Or.inl ⟨s, c, q, rfl, h1, by omega⟩)
  rw [UInt64.toNat_ofNat_of_lt' h3]
  have hE : FP.Core.fieldE FP.Core.b64 (FP.Core.encode FP.Core.b64 (.fin s c q)) ≠ FP.Core.b64.exps - 1 := by
    rw [fd_encF]
    unfold FP.Core.fieldE FP.Core.assemble
    have e1 : FP.Core.b64.tails = 4503599627370496 := by decide
    have e2 : FP.Core.b64.exps = 2048 := by decide
    have e3 : FP.Core.b64.qmin = -1074 := by decide
    rw [e1, e2, e3]
    have e4 : s.toNat = 0 ∨ s.toNat = 1 := by cases s <;> simp
    split
    · rcases e4 with e4 | e4 <;> rw [e4] <;> omega
    · have e5 : (q - -1074).toNat ≤ 2044 := by omega
      rcases e4 with e4 | e4 <;> rw [e4] <;> omega
  unfold FP.Core.decode
  rw [if_neg hE]
  split
  · exact ⟨_, _, _, rfl⟩
  · exact ⟨_, _, _, rfl⟩
theorem fd_l2d (x : Int64) : ∃ (t : Bool) (c9 : Nat) (q9 : Int), FP.Core.decode FP.Core.b64 (FP.l2d x).toNat = .fin t c9 q9 := by
  have hx : x.toInt.natAbs < 18446744073709551616 := by
    have a1 := Int64.minValue_le_toInt x
    have a2 := Int64.toInt_lt x
    rw [lI_min] at a1
    omega
  obtain ⟨t, c, q, h1, h2, h3⟩ := fd_fin (s := decide (x.toInt < 0)) hx
  have e : FP.l2d x = UInt64.ofNat (FP.Core.encode FP.Core.b64 (FP.Core.roundRatio FP.Core.b64 (decide (x.toInt < 0)) x.toInt.natAbs 1 0)) := rfl
  rw [e, h1]
  exact fd_dec h2 h3
def fd_nz (d : FP.Core.Datum) : Bool := match d with
  | .fin _ c _ => decide (c ≠ 0)
  | _ => false
theorem fd_i2d : ∀ n : Nat, n < 41 → n ≠ 0 → fd_nz (FP.Core.decode FP.Core.b64 (FP.i2d (iI (n : Int))).toNat) = true := by decide +kernel
theorem fd_div {x : Int64} {n : Nat} (h0 : n ≠ 0) (h1 : n < 41) : vf_n64 (FP.ddiv (FP.l2d x) (FP.i2d (iI (n : Int)))) := by
  obtain ⟨t, c, q, hx⟩ := fd_l2d x
  have hy := fd_i2d n h1 h0
  have e : FP.ddiv (FP.l2d x) (FP.i2d (iI (n : Int))) = UInt64.ofNat (FP.Core.encode FP.Core.b64 (FP.Core.quotient FP.Core.b64 (FP.Core.decode FP.Core.b64 (FP.l2d x).toNat) (FP.Core.decode FP.Core.b64 (FP.i2d (iI (n : Int))).toNat))) := rfl
  rw [e, hx]
  cases hd : FP.Core.decode FP.Core.b64 (FP.i2d (iI (n : Int))).toNat with
  | nan => rw [hd] at hy; exact Bool.noConfusion hy
  | inf s => rw [hd] at hy; exact Bool.noConfusion hy
  | fin s d r =>
    rw [hd] at hy
    have hd0 : d ≠ 0 := of_decide_eq_true hy
    refine fd_vf ?_
    have e8 : FP.Core.quotient FP.Core.b64 (.fin t c q) (.fin s d r) = if d = 0 then (if c = 0 then .nan else .inf (t != s)) else FP.Core.roundRatio FP.Core.b64 (t != s) c d (q - r) := rfl
    rw [e8, if_neg hd0]
    exact fd_rr _ _ _ _
