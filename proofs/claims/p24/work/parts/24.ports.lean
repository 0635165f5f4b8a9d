/-! ===== ports and tallies: bounds ===== -/
theorem mul_bd {a b A B : Int} (h1 : -A ≤ a) (h2 : a ≤ A) (h3 : 0 ≤ b) (h4 : b ≤ B) : -(A * B) ≤ a * b ∧ a * b ≤ A * B := by
  have hA : 0 ≤ A := by omega
  have e1 : A * b ≤ A * B := Int.mul_le_mul_of_nonneg_left h4 hA
  have e2 : a * b ≤ A * b := Int.mul_le_mul_of_nonneg_right h2 h3
  have e3 : -A * b ≤ a * b := Int.mul_le_mul_of_nonneg_right h1 h3
  rw [Int.neg_mul] at e3
  omega
theorem sx_bd {e d : Int} (h0 : 0 ≤ e) (h1 : e < d) : 0 ≤ (6 * e).tdiv d ∧ (6 * e).tdiv d < 6 ∧ 0 ≤ 6 * e - (6 * e).tdiv d * d ∧ 6 * e - (6 * e).tdiv d * d ≤ d := by
  have hd : 0 < d := by omega
  rw [Int.tdiv_eq_ediv_of_nonneg (by omega)]
  have e1 := Int.emod_def (6 * e) d
  have e2 := Int.emod_nonneg (6 * e) (show d ≠ 0 by omega)
  have e3 := Int.emod_lt_of_pos (6 * e) hd
  rw [Int.mul_comm d] at e1
  refine ⟨Int.ediv_nonneg (by omega) (by omega), Int.ediv_lt_of_lt_mul hd (by omega), by omega, by omega⟩
theorem tw_get {k : Nat} (h : k < 6) : twA (k : Int) = List.getD [0, 1, 3, 6, 9, 11] k 0 ∧ twI (k : Int) = List.getD [1, 2, 3, 3, 2, 1] k 0 := by
  rcases (by omega : k = 0 ∨ k = 1 ∨ k = 2 ∨ k = 3 ∨ k = 4 ∨ k = 5) with h | h | h | h | h | h <;> subst h <;> decide
theorem twA_bd (s : Int) : 0 ≤ twA s ∧ twA s ≤ 11 := by
  unfold twA
  repeat' split
  all_goals omega
theorem twI_bd (s : Int) : 0 ≤ twI s ∧ twI s ≤ 3 := by
  unfold twI
  repeat' split
  all_goals omega
theorem gone_bd {e d : Int} (h0 : 0 ≤ e) (h1 : e < d) : 0 ≤ gone e d ∧ gone e d ≤ 14 * d := by
  obtain ⟨a1, a2, a3, a4⟩ := sx_bd h0 h1
  have b1 := twA_bd ((6 * e).tdiv d)
  have b2 := twI_bd ((6 * e).tdiv d)
  have hd : 0 ≤ d := by omega
  unfold gone
  have c1 : twA ((6 * e).tdiv d) * d ≤ 11 * d := Int.mul_le_mul_of_nonneg_right b1.2 hd
  have c2 : 0 ≤ twA ((6 * e).tdiv d) * d := Int.mul_nonneg b1.1 hd
  have c3 : twI ((6 * e).tdiv d) * (6 * e - (6 * e).tdiv d * d) ≤ 3 * d := Int.mul_le_mul b2.2 a4 a3 (by omega)
  have c4 : 0 ≤ twI ((6 * e).tdiv d) * (6 * e - (6 * e).tdiv d * d) := Int.mul_nonneg b2.1 a3
  omega
theorem pT_bd {h : Nat → Int} {q : Pt} (ok : PtOk q) {k : Nat} (hk : k < nW h) : -300 ≤ pT h q k ∧ pT h q k ≤ 4620 := by
  have h1 := (tm_spec hk).1
  obtain ⟨a, b, c, d, e⟩ := ok
  unfold pT
  split <;> omega
theorem tdiv100 {a A : Int} (h1 : -(100 * A) ≤ a) (h2 : a ≤ 100 * A) : -A ≤ a.tdiv 100 ∧ a.tdiv 100 ≤ A := by
  rcases Int.le_total 0 a with q | q
  · rw [Int.tdiv_eq_ediv_of_nonneg q]
    omega
  · have e : a.tdiv 100 = -((-a) / 100) := by
      rw [← Int.tdiv_eq_ediv_of_nonneg (by omega), Int.neg_tdiv, Int.neg_neg]
    rw [e]
    omega
theorem pH_bd {h : Nat → Int} {q : Pt} (ok : PtOk q) (hb : ∀ t, -50000 ≤ h t ∧ h t ≤ 50000) (k : Nat) : -153000 ≤ pH h q k ∧ pH h q k ≤ 153000 := by
  obtain ⟨a, b, c, d, e⟩ := ok
  have hh := hb (tm h k)
  have f0 : 0 ≤ (if hi h k = true then q.2.1 else q.2.2.2.1) ∧ (if hi h k = true then q.2.1 else q.2.2.2.1) ≤ 300 := by split <;> omega
  have f1 := mul_bd (A := 50000) (B := 300) hh.1 hh.2 f0.1 f0.2
  have f2 := tdiv100 (A := 150000) (a := h (tm h k) * (if hi h k = true then q.2.1 else q.2.2.2.1)) (by omega) (by omega)
  unfold pH
  omega
theorem ordF_lt {h : Nat → Int} {q : Pt} : ∀ {n j : Nat}, ordF h q n = true → j < n → pT h q j < pT h q (j + 1)
  | 0, j, _, hj => absurd hj (Nat.not_lt_zero _)
  | n + 1, j, ho, hj => by
    rw [ordF, Bool.and_eq_true] at ho
    rcases Nat.lt_or_ge j n with q1 | q1
    · exact ordF_lt ho.1 q1
    · have : j = n := by omega
      subst this
      exact of_decide_eq_true ho.2
theorem ord_lt {h : Nat → Int} {q : Pt} {j : Nat} (ho : ord h q = true) (hj : j + 1 < nW h) : pT h q j < pT h q (j + 1) := ordF_lt ho (by omega)
theorem ord_no {h : Nat → Int} {q : Pt} {j : Nat} (hj : j + 1 < nW h) (hlt : ¬ pT h q j < pT h q (j + 1)) : ord h q = false := by
  cases e : ord h q with
  | false => rfl
  | true => exact absurd (ord_lt e hj) hlt
theorem lat_go {h : Nat → Int} {q : Pt} {t : Int} {x : Nat} (h1 : x < nW h) (h2 : pT h q x ≤ t) : lat h q t x = lat h q t (x + 1) := by
  unfold lat
  rw [show nW h - x = (nW h - (x + 1)) + 1 by omega, latF, if_pos ⟨h1, h2⟩]
theorem lat_stop {h : Nat → Int} {q : Pt} {t : Int} {x : Nat} (h1 : ¬ (x < nW h ∧ pT h q x ≤ t)) : lat h q t x = x := by
  unfold lat
  cases e : nW h - x with
  | zero => rfl
  | succ m => rw [latF, if_neg h1]
theorem latF_spec {h : Nat → Int} {q : Pt} {t : Int} : ∀ (m x : Nat), x ≤ nW h → nW h - x ≤ m → x ≤ latF h q t m x ∧ latF h q t m x ≤ nW h ∧ (∀ y, x ≤ y → y < latF h q t m x → pT h q y ≤ t) ∧ ¬ (latF h q t m x < nW h ∧ pT h q (latF h q t m x) ≤ t)
  | 0, x, h1, h2 => by
    rw [latF]
    exact ⟨Nat.le_refl _, h1, fun y a b => absurd b (by omega), fun a => by omega⟩
  | m + 1, x, h1, h2 => by
    rw [latF]
    split
    · rename_i e
      obtain ⟨a, b, c, d⟩ := latF_spec (h := h) (q := q) (t := t) m (x + 1) (by omega) (by omega)
      refine ⟨by omega, b, fun y hy1 hy2 => ?_, d⟩
      rcases Nat.lt_or_ge x y with q1 | q1
      · exact c y (by omega) hy2
      · have : y = x := by omega
        subst this
        exact e.2
    · rename_i e
      exact ⟨Nat.le_refl _, h1, fun y a b => absurd b (by omega), e⟩
theorem lat_spec {h : Nat → Int} {q : Pt} {t : Int} {x : Nat} (h1 : x ≤ nW h) : x ≤ lat h q t x ∧ lat h q t x ≤ nW h ∧ (∀ y, x ≤ y → y < lat h q t x → pT h q y ≤ t) ∧ ¬ (lat h q t x < nW h ∧ pT h q (lat h q t x) ≤ t) := latF_spec _ x h1 (Nat.le_refl _)
theorem btw_bd {h : Nat → Int} {q : Pt} (ok : PtOk q) (hb : ∀ t, -50000 ≤ h t ∧ h t ≤ 50000) {k : Nat} {t : Int} (h1 : k + 1 < nW h) (h2 : pT h q k ≤ t) (h3 : t < pT h q (k + 1)) : -8000000000 * 4 ≤ (pH h q (k + 1) - pH h q k) * gone (t - pT h q k) (pT h q (k + 1) - pT h q k) ∧ (pH h q (k + 1) - pH h q k) * gone (t - pT h q k) (pT h q (k + 1) - pT h q k) ≤ 8000000000 * 4 := by
  have a1 := pH_bd ok hb k
  have a2 := pH_bd ok hb (k + 1)
  have a3 := pT_bd ok (show k < nW h by omega)
  have a4 := pT_bd ok h1
  have a5 := gone_bd (e := t - pT h q k) (d := pT h q (k + 1) - pT h q k) (by omega) (by omega)
  have a6 := mul_bd (a := pH h q (k + 1) - pH h q k) (b := gone (t - pT h q k) (pT h q (k + 1) - pT h q k)) (A := 306000) (B := 70000) (by omega) (by omega) a5.1 (by omega)
  omega
/-- what a tally holds -/
def TallyR (L : List Nat) (f : Nat → wE) (ta : Nat) (x : Tl) : Prop := Cl L f ta (19, .inr (5, [.int (iI x.1), .int (iI x.2.1), .int (iI x.2.2.1), .int (iI x.2.2.2.1), .int (iI x.2.2.2.2)]))
theorem TallyR.fr {L L' : List Nat} {f f' : Nat → wE} {ta : Nat} {x : Tl} {S : Nat → Bool} (h : TallyR L f ta x) (hf : k_fr S L f L' f') (hS : S 19 = false) : TallyR L' f' ta x := Cl.fr hf h hS
def TlIn (n : Int) (x : Tl) : Prop := (0 ≤ x.2.2.2.2 ∧ x.2.2.2.2 ≤ n) ∧ (0 ≤ x.2.2.2.1 ∧ x.2.2.2.1 ≤ n) ∧ (-1 ≤ x.2.2.1 ∧ x.2.2.1 ≤ 4319)
theorem tlS_in {n m : Int} {x : Tl} {b : Bool} (h : TlIn n x) (h0 : 0 ≤ m) (h1 : m ≤ 4319) : TlIn (n + 1) (tlS x m b) := by
  obtain ⟨⟨a1, a2⟩, ⟨b1, b2⟩, ⟨c1, c2⟩⟩ := h
  unfold tlS TlIn
  cases b with
  | false =>
    rw [if_neg (by decide)]
    refine ⟨⟨?_, ?_⟩, ⟨?_, ?_⟩, ⟨?_, ?_⟩⟩ <;> simp only [] <;> omega
  | true =>
    rw [if_pos rfl]
    refine ⟨⟨?_, ?_⟩, ⟨?_, ?_⟩, ⟨?_, ?_⟩⟩ <;> simp only [] <;> first | omega | (split <;> omega)
