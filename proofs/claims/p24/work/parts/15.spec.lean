/-! ===== what the document says, over integers ===== -/
def wvH (r p o t : Int) : Int :=
  if 2 * ((t + o).tmod p) < p then (4 * r * (2 * ((t + o).tmod p)) * (p - 2 * ((t + o).tmod p))).tdiv (p * p)
  else -((4 * r * (2 * ((t + o).tmod p) - p) * (p - (2 * ((t + o).tmod p) - p))).tdiv (p * p))
def wvOk (r p o : Int) : Prop := (0 ≤ r ∧ r ≤ 5000) ∧ (60 ≤ p ∧ p ≤ 20000) ∧ (0 ≤ o ∧ o < p)
theorem arch_pos {r p v : Int} (hr : 0 ≤ r) (hp : 0 < p) (h0 : 0 ≤ v) (h1 : v ≤ p) : 0 ≤ 4 * r * v * (p - v) ∧ 4 * r * v * (p - v) ≤ r * (p * p) := by
  have h2 : 0 ≤ p - v := by omega
  have h3 : 0 ≤ v * (p - v) := Int.mul_nonneg h0 h2
  have h4 : 4 * (v * (p - v)) ≤ p * p := by
    have h5 : 0 ≤ (p - 2 * v) * (p - 2 * v) := by
      rcases Int.le_total 0 (p - 2 * v) with h | h
      · exact Int.mul_nonneg h h
      · have := Int.mul_nonneg (Int.neg_nonneg.mpr h) (Int.neg_nonneg.mpr h)
        rwa [Int.neg_mul_neg] at this
    have e : (p - 2 * v) * (p - 2 * v) = p * p - 4 * (v * (p - v)) := by
      rw [Int.sub_mul, Int.mul_sub, Int.mul_sub, Int.mul_sub]
      have e1 : p * (2 * v) = 2 * (v * p) := by rw [Int.mul_left_comm, Int.mul_comm p v]
      have e2 : 2 * v * p = 2 * (v * p) := Int.mul_assoc 2 v p
      have e3 : 2 * v * (2 * v) = 4 * (v * v) := by rw [Int.mul_assoc, Int.mul_left_comm v 2 v, ← Int.mul_assoc]; rfl
      rw [e1, e2, e3]
      omega
    omega
  have e2 : 4 * r * v * (p - v) = r * (4 * (v * (p - v))) := by
    simp only [Int.mul_assoc, Int.mul_left_comm]
  rw [e2]
  exact ⟨Int.mul_nonneg hr (by omega), Int.mul_le_mul_of_nonneg_left h4 hr⟩
theorem arch_bd {r p v : Int} (hr : 0 ≤ r) (hp : 0 < p) (h0 : 0 ≤ v) (h1 : v ≤ p) : 0 ≤ (4 * r * v * (p - v)).tdiv (p * p) ∧ (4 * r * v * (p - v)).tdiv (p * p) ≤ r := by
  obtain ⟨h2, h3⟩ := arch_pos hr hp h0 h1
  have hpp : 0 < p * p := Int.mul_pos hp hp
  rw [Int.tdiv_eq_ediv_of_nonneg h2]
  refine ⟨Int.ediv_nonneg h2 (by omega), ?_⟩
  have h5 : (4 * r * v * (p - v)) / (p * p) ≤ (r * (p * p)) / (p * p) := Int.ediv_le_ediv hpp h3
  rwa [Int.mul_ediv_cancel r (by omega)] at h5
theorem tm_bd {a p : Int} (ha : 0 ≤ a) (hp : 0 < p) : 0 ≤ a.tmod p ∧ a.tmod p < p := by
  rw [Int.tmod_eq_emod_of_nonneg ha]
  exact ⟨Int.emod_nonneg a (by omega), Int.emod_lt_of_pos a hp⟩
theorem wvH_bd {r p o t : Int} (h : wvOk r p o) (ht : 0 ≤ t) : -5000 ≤ wvH r p o t ∧ wvH r p o t ≤ 5000 := by
  obtain ⟨⟨h1, h2⟩, ⟨h3, h4⟩, ⟨h5, h6⟩⟩ := h
  obtain ⟨h7, h8⟩ := tm_bd (a := t + o) (p := p) (by omega) (by omega)
  unfold wvH
  split
  · obtain ⟨a, b⟩ := arch_bd (v := 2 * ((t + o).tmod p)) h1 (show 0 < p by omega) (by omega) (by omega)
    omega
  · obtain ⟨a, b⟩ := arch_bd (v := 2 * ((t + o).tmod p) - p) h1 (show 0 < p by omega) (by omega) (by omega)
    omega
/-- the tide: mean level, number of waves, ranges, periods, offsets -/
abbrev Td : Type := Int × Nat × (Nat → Int) × (Nat → Int) × (Nat → Int)
def htw (τ : Td) (t : Int) : Nat → Int
  | 0 => τ.1
  | n + 1 => htw τ t n + wvH (τ.2.2.1 n) (τ.2.2.2.1 n) (τ.2.2.2.2 n) t
def hT (τ : Td) (t : Nat) : Int := htw τ (t : Int) τ.2.1
def TdOk (τ : Td) : Prop := (-10000 ≤ τ.1 ∧ τ.1 ≤ 10000) ∧ τ.2.1 ≤ 8 ∧ ∀ i, i < τ.2.1 → wvOk (τ.2.2.1 i) (τ.2.2.2.1 i) (τ.2.2.2.2 i)
theorem htw_bd {τ : Td} (h : TdOk τ) {t : Int} (ht : 0 ≤ t) : ∀ n : Nat, n ≤ τ.2.1 → -10000 - 5000 * (n : Int) ≤ htw τ t n ∧ htw τ t n ≤ 10000 + 5000 * (n : Int)
  | 0, _ => by
    have := h.1
    simp only [htw]
    omega
  | n + 1, hn => by
    have h1 := htw_bd h ht n (by omega)
    have h2 := wvH_bd (h.2.2 n (by omega)) ht
    simp only [htw]
    omega
theorem hT_bd {τ : Td} (h : TdOk τ) (t : Nat) : -50000 ≤ hT τ t ∧ hT τ t ≤ 50000 := by
  have h1 := htw_bd h (t := (t : Int)) (by omega) τ.2.1 (Nat.le_refl _)
  have h2 := h.2.1
  unfold hT
  omega
/-! waters: h is the height of each minute -/
def nxt (h : Nat → Int) (v : Int) : Nat → Nat → Nat
  | 0, j => j
  | m + 1, j => if j < 4320 ∧ h j = v then nxt h v m (j + 1) else j
def nx (h : Nat → Int) (t : Nat) : Nat := nxt h (h t) 4320 (t + 1)
def isW (h : Nat → Int) (t : Nat) : Bool := decide (1 ≤ t ∧ nx h t < 4320 ∧ ((h (t - 1) < h t ∧ h (nx h t) < h t) ∨ (h t < h (t - 1) ∧ h t < h (nx h t))))
def wc (h : Nat → Int) : Nat → Nat
  | 0 => 0
  | n + 1 => wc h n + (if isW h n = true then 1 else 0)
def tmF (h : Nat → Int) (k : Nat) : Nat → Nat
  | 0 => 0
  | n + 1 => if isW h n = true ∧ wc h n = k then n else tmF h k n
def tm (h : Nat → Int) (k : Nat) : Nat := tmF h k 4320
def nW (h : Nat → Int) : Nat := wc h 4320
def hi (h : Nat → Int) (k : Nat) : Bool := decide (h (tm h k - 1) < h (tm h k))
def nextW (h : Nat → Int) (t : Int) (b : Bool) : Nat → Nat → Int
  | 0, _ => -1
  | m + 1, k => if k < nW h then (if t ≤ (tm h k : Int) ∧ hi h k = b then (k : Int) else nextW h t b m (k + 1)) else -1
def mxh (h : Nat → Int) : Nat → Int
  | 0 => h 0
  | n + 1 => max (mxh h n) (h n)
def mnh (h : Nat → Int) : Nat → Int
  | 0 => h 0
  | n + 1 => min (mnh h n) (h n)
def sumW (h : Nat → Int) (b : Bool) : Nat → Int
  | 0 => 0
  | k + 1 => if hi h k = b then sumW h b k + h (tm h k) else sumW h b k
def cntW (h : Nat → Int) (b : Bool) : Nat → Int
  | 0 => 0
  | k + 1 => if hi h k = b then cntW h b k + 1 else cntW h b k
def meanW (h : Nat → Int) (b : Bool) : Int := if cntW h b (nW h) = 0 then 0 else (sumW h b (nW h)).tdiv (cntW h b (nW h))
def difW (h : Nat → Int) : Nat → Int
  | 0 => 0
  | k + 1 => max (difW h k) ((h (tm h (k + 1)) - h (tm h k)).natAbs : Int)
def dat (h : Nat → Int) (what : Int) : Int :=
  if what = 0 then mxh h 4320 else if what = 1 then mnh h 4320 else if what = 2 then meanW h true else if what = 3 then meanW h false else difW h (nW h - 1)
/-- a port: shift and factor for highs, for lows, the addition -/
abbrev Pt : Type := Int × Int × Int × Int × Int
def PtOk (q : Pt) : Prop := (-300 ≤ q.1 ∧ q.1 ≤ 300) ∧ (0 ≤ q.2.1 ∧ q.2.1 ≤ 300) ∧ (-300 ≤ q.2.2.1 ∧ q.2.2.1 ≤ 300) ∧ (0 ≤ q.2.2.2.1 ∧ q.2.2.2.1 ≤ 300) ∧ (-3000 ≤ q.2.2.2.2 ∧ q.2.2.2.2 ≤ 3000)
def pT (h : Nat → Int) (q : Pt) (k : Nat) : Int := (tm h k : Int) + (if hi h k = true then q.1 else q.2.2.1)
def pH (h : Nat → Int) (q : Pt) (k : Nat) : Int := (h (tm h k) * (if hi h k = true then q.2.1 else q.2.2.2.1)).tdiv 100 + q.2.2.2.2
def ordF (h : Nat → Int) (q : Pt) : Nat → Bool
  | 0 => true
  | k + 1 => ordF h q k && decide (pT h q k < pT h q (k + 1))
def ord (h : Nat → Int) (q : Pt) : Bool := ordF h q (nW h - 1)
/-- the first water, from w on, that is behind t -/
def latF (h : Nat → Int) (q : Pt) (t : Int) : Nat → Nat → Nat
  | 0, w => w
  | m + 1, w => if w < nW h ∧ pT h q w ≤ t then latF h q t m (w + 1) else w
def lat (h : Nat → Int) (q : Pt) (t : Int) (w : Nat) : Nat := latF h q t (nW h - w) w
def twI (s : Int) : Int := if s = 0 then 1 else if s = 1 then 2 else if s = 2 then 3 else if s = 3 then 3 else if s = 4 then 2 else 1
def twA (s : Int) : Int := if s = 0 then 0 else if s = 1 then 1 else if s = 2 then 3 else if s = 3 then 6 else if s = 4 then 9 else 11
def gone (e d : Int) : Int := twA ((6 * e).tdiv d) * d + twI ((6 * e).tdiv d) * (6 * e - (6 * e).tdiv d * d)
/-- the height at t, between the waters w - 1 and w -/
def btw (h : Nat → Int) (q : Pt) (w : Nat) (t : Int) : Int :=
  pH h q (w - 1) + ((pH h q w - pH h q (w - 1)) * gone (t - pT h q (w - 1)) (pT h q w - pT h q (w - 1))).tdiv (12 * (pT h q w - pT h q (w - 1)))
/-- windows: how many, minutes, first, longest, the run of now -/
abbrev Tl : Type := Int × Int × Int × Int × Int
def tl0 : Tl := (0, 0, -1, 0, 0)
def tlS (x : Tl) (m : Int) (b : Bool) : Tl :=
  if b = true then (if x.2.2.2.2 = 0 then x.1 + 1 else x.1, x.2.1 + 1, if x.2.2.1 < 0 then m else x.2.2.1, max x.2.2.2.1 (x.2.2.2.2 + 1), x.2.2.2.2 + 1) else (x.1, x.2.1, x.2.2.1, x.2.2.2.1, 0)
def tlA (x : Tl) (what : Int) : Int := if what = 0 then x.1 else if what = 1 then x.2.1 else if what = 2 then x.2.2.1 else x.2.2.2.1
def tlC (h : Nat → Int) (lev : Int) (a : Nat) : Nat → Tl
  | 0 => tl0
  | m + 1 => tlS (tlC h lev a m) ((a + m : Nat) : Int) (decide (lev ≤ h (a + m)))
/-- how many waters are at or ahead of the minute a + m - 1, taken one behind the other -/
def wAt (h : Nat → Int) (q : Pt) (a : Nat) : Nat → Nat
  | 0 => 0
  | m + 1 => lat h q ((a + m : Nat) : Int) (wAt h q a m)
def tlP (h : Nat → Int) (q : Pt) (lev : Int) (a : Nat) : Nat → Tl
  | 0 => tl0
  | m + 1 => tlS (tlP h q lev a m) ((a + m : Nat) : Int) (decide (1 ≤ wAt h q a (m + 1) ∧ wAt h q a (m + 1) < nW h ∧ lev ≤ btw h q (wAt h q a (m + 1)) ((a + m : Nat) : Int)))
/-- readings: how many, times, heights -/
abbrev Rd : Type := Nat × (Nat → Nat) × (Nat → Int)
def RdOk (ρ : Rd) : Prop := ρ.1 ≤ 40 ∧ ∀ i, i < ρ.1 → ρ.2.1 i < 4320 ∧ (-50000 ≤ ρ.2.2 i ∧ ρ.2.2 i ≤ 50000)
def dif (h : Nat → Int) (ρ : Rd) (i : Nat) : Int := ρ.2.2 i - h (ρ.2.1 i)
def sumD (h : Nat → Int) (ρ : Rd) : Nat → Int
  | 0 => 0
  | n + 1 => sumD h ρ n + dif h ρ n
def wst (h : Nat → Int) (ρ : Rd) : Nat → Int
  | 0 => -1
  | n + 1 => if wst h ρ n = -1 ∨ (dif h ρ (wst h ρ n).toNat).natAbs < (dif h ρ n).natAbs then (n : Int) else wst h ρ n
/-- the checksum -/
def mixW (h : Nat → Int) (d : Int) : Nat → Int
  | 0 => d
  | k + 1 => ((mixW h d k * 31 + (tm h k : Int)) * 31 + h (tm h k)) * 31 + bI (hi h k)
def mixQ (h : Nat → Int) (q : Pt) (d : Int) : Nat → Int
  | 0 => d * 31 + bI (ord h q)
  | k + 1 => (mixQ h q d k * 31 + pT h q k) * 31 + pH h q k
def mixP (h : Nat → Int) (qs : Nat → Pt) (d : Int) : Nat → Int
  | 0 => d
  | k + 1 => mixQ h (qs k) (mixP h qs d k) (nW h)
def mixD (h : Nat → Int) (d : Int) : Nat → Int
  | 0 => d
  | k + 1 => mixD h d k * 31 + dat h (k : Int)
