/-! the numbers that both sides answer: costs of pairs, hulls, bounds -/
def sqd (q r : Nat → Int) (i j : Nat) : Int := (q i - r j) * (q i - r j)
abbrev inb (w i j : Nat) : Prop := i ≤ j + w ∧ j ≤ i + w
def cst (w : Nat) (q r : Nat → Int) (i j : Nat) : Int :=
  match i, j with
  | 0, 0 => sqd q r 0 0
  | 0, j + 1 => sqd q r 0 (j + 1) + (if inb w 0 j then cst w q r 0 j else 1000000000)
  | i + 1, 0 => sqd q r (i + 1) 0 + (if inb w i 0 then cst w q r i 0 else 1000000000)
  | i + 1, j + 1 => sqd q r (i + 1) (j + 1) + min (if inb w i j then cst w q r i j else 1000000000) (min (if inb w i (j + 1) then cst w q r i (j + 1) else 1000000000) (if inb w (i + 1) j then cst w q r (i + 1) j else 1000000000))
termination_by i + j
theorem sq_bd {d : Int} {k : Nat} (h : -(k : Int) ≤ d ∧ d ≤ (k : Int)) : 0 ≤ d * d ∧ d * d ≤ ((k * k : Nat) : Int) := by
  have h1 : d.natAbs ≤ k := by omega
  have h2 : d.natAbs * d.natAbs ≤ k * k := Nat.mul_le_mul h1 h1
  have h3 : ((d.natAbs * d.natAbs : Nat) : Int) = d * d := Int.natAbs_mul_self
  have h4 : ((d.natAbs * d.natAbs : Nat) : Int) ≤ ((k * k : Nat) : Int) := Int.ofNat_le.mpr h2
  have h5 : (0 : Int) ≤ ((d.natAbs * d.natAbs : Nat) : Int) := Int.natCast_nonneg _
  rw [h3] at h4 h5
  exact ⟨h5, h4⟩
theorem sqd_bd {q r : Nat → Int} {i j : Nat} (h : -1000 ≤ q i ∧ q i ≤ 1000) (h' : -1000 ≤ r j ∧ r j ≤ 1000) : 0 ≤ sqd q r i j ∧ sqd q r i j ≤ 4000000 := by
  have h1 := sq_bd (d := q i - r j) (k := 2000) (by omega)
  exact h1
/-- numbers of the document's range, the first n of them -/
def vals (n : Nat) (q : Nat → Int) : Prop := ∀ a, a < n → -1000 ≤ q a ∧ q a ≤ 1000
theorem cst_bd {n w : Nat} {q r : Nat → Int} (hq : vals n q) (hr : vals n r) : ∀ (k i j : Nat), i + j ≤ k → i < n → j < n → inb w i j → 0 ≤ cst w q r i j ∧ cst w q r i j ≤ 4000000 * ((i + j + 1 : Nat) : Int) := by
  intro k
  induction k with
  | zero =>
    intro i j h hi hj hb
    have h1 : i = 0 := by omega
    have h2 : j = 0 := by omega
    subst h1; subst h2
    rw [cst]
    have := sqd_bd (hq 0 hi) (hr 0 hj)
    omega
  | succ k ih =>
    intro i j h hi hj hb
    have hs := sqd_bd (hq i hi) (hr j hj)
    cases i with
    | zero =>
      cases j with
      | zero =>
        rw [cst]
        omega
      | succ j =>
        rw [cst]
        have h1 := ih 0 j (by omega) (by omega) (by omega) (by omega)
        rw [if_pos (by omega)]
        omega
    | succ i =>
      cases j with
      | zero =>
        rw [cst]
        have h1 := ih i 0 (by omega) (by omega) (by omega) (by omega)
        rw [if_pos (by omega)]
        omega
      | succ j =>
        rw [cst]
        have h1 : inb w i j := by omega
        have h2 := ih i j (by omega) (by omega) (by omega) h1
        rw [if_pos h1]
        by_cases h3 : inb w i (j + 1)
        · have h4 := ih i (j + 1) (by omega) (by omega) (by omega) h3
          rw [if_pos h3]
          by_cases h5 : inb w (i + 1) j
          · have h6 := ih (i + 1) j (by omega) (by omega) (by omega) h5
            rw [if_pos h5]
            omega
          · rw [if_neg h5]
            omega
        · rw [if_neg h3]
          by_cases h5 : inb w (i + 1) j
          · have h6 := ih (i + 1) j (by omega) (by omega) (by omega) h5
            rw [if_pos h5]
            omega
          · rw [if_neg h5]
            omega
theorem cst_rg {n w : Nat} {q r : Nat → Int} (hq : vals n q) (hr : vals n r) (hn : n ≤ 16) {i j : Nat} (hi : i < n) (hj : j < n) (hb : inb w i j) : 0 ≤ cst w q r i j ∧ cst w q r i j ≤ 124000000 := by
  have := cst_bd hq hr (i + j) i j (Nat.le_refl _) hi hj hb
  omega
/-- a cell of a line of costs, as the class reads it: far where there is no pair of the band -/
def gAt (w : Nat) (G : Nat → Int) (i j : Int) : Int := if 0 ≤ i ∧ 0 ≤ j ∧ i - j ≤ (w : Int) ∧ j - i ≤ (w : Int) then G (16 * i + j).toNat else 1000000000
def gBef (w : Nat) (G : Nat → Int) (i j : Int) : Int := if i = 0 ∧ j = 0 then 0 else min (gAt w G (i - 1) (j - 1)) (min (gAt w G (i - 1) j) (gAt w G i (j - 1)))
theorem gAt_in {w : Nat} {G : Nat → Int} {i j : Int} (a b : Nat) (h : i = (a : Int) ∧ j = (b : Int)) (hb : inb w a b) : gAt w G i j = G (16 * a + b) := by
  unfold gAt
  rw [if_pos (by omega)]
  congr 1
  omega
theorem gAt_out {w : Nat} {G : Nat → Int} {i j : Int} (h : i < 0 ∨ j < 0 ∨ (w : Int) < i - j ∨ (w : Int) < j - i) : gAt w G i j = 1000000000 := by
  unfold gAt
  rw [if_neg (by omega)]
def rgA (G : Nat → Int) : Prop := ∀ k, -2147483648 ≤ G k ∧ G k ≤ 2147483647
theorem gAt_rg {w : Nat} {G : Nat → Int} (hG : rgA G) (i j : Int) : -2147483648 ≤ gAt w G i j ∧ gAt w G i j ≤ 2147483647 := by
  unfold gAt
  split
  · exact hG _
  · omega
theorem rgA_u {G : Nat → Int} {k : Nat} {z : Int} (hG : rgA G) (hz : -2147483648 ≤ z ∧ z ≤ 2147483647) : rgA (zU G k z) := by
  intro j
  by_cases h : j = k
  · subst h; rw [zU_s]; exact hz
  · rw [zU_n h]; exact hG j
/-- a pair's cost out of the costs before it -/
theorem cst_eq {n w : Nat} {q r G : Nat → Int} (hq : vals n q) (hr : vals n r) (hn : n ≤ 16) {i j : Nat} (hi : i < n) (hj : j < n) (hb : inb w i j)
    (h1 : ∀ b, b ≤ j → 0 < i → inb w (i - 1) b → G (16 * (i - 1) + b) = cst w q r (i - 1) b) (h2 : 0 < j → inb w i (j - 1) → G (16 * i + (j - 1)) = cst w q r i (j - 1)) :
    gBef w G i j + sqd q r i j = cst w q r i j := by
  cases i with
  | zero =>
    cases j with
    | zero =>
      rw [cst]
      simp [gBef]
    | succ j =>
      have hb2 : inb w 0 j := by omega
      have h3 := cst_rg hq hr hn hi (j := j) (by omega) hb2
      have h4 := h2 (by omega) (by simpa using hb2)
      have e1 : gAt w G (((0 : Nat) : Int) - 1) (((j + 1 : Nat) : Int) - 1) = 1000000000 := gAt_out (by omega)
      have e2 : gAt w G (((0 : Nat) : Int) - 1) ((j + 1 : Nat) : Int) = 1000000000 := gAt_out (by omega)
      have e3 : gAt w G ((0 : Nat) : Int) (((j + 1 : Nat) : Int) - 1) = cst w q r 0 j := by
        rw [gAt_in 0 j (by omega) hb2]
        simpa using h4
      unfold gBef
      rw [if_neg (by omega), e1, e2, e3, cst, if_pos hb2]
      omega
  | succ i =>
    cases j with
    | zero =>
      have hb2 : inb w i 0 := by omega
      have h3 := cst_rg hq hr hn (i := i) (by omega) hj hb2
      have h4 := h1 0 (by omega) (by omega) (by simpa using hb2)
      have e1 : gAt w G (((i + 1 : Nat) : Int) - 1) (((0 : Nat) : Int) - 1) = 1000000000 := gAt_out (by omega)
      have e2 : gAt w G ((i + 1 : Nat) : Int) (((0 : Nat) : Int) - 1) = 1000000000 := gAt_out (by omega)
      have e3 : gAt w G (((i + 1 : Nat) : Int) - 1) ((0 : Nat) : Int) = cst w q r i 0 := by
        rw [gAt_in i 0 (by omega) hb2]
        simpa using h4
      unfold gBef
      rw [if_neg (by omega), e1, e2, e3, cst, if_pos hb2]
      omega
    | succ j =>
      have hb2 : inb w i j := by omega
      have e1 : gAt w G (((i + 1 : Nat) : Int) - 1) (((j + 1 : Nat) : Int) - 1) = cst w q r i j := by
        rw [gAt_in i j (by omega) hb2]
        have h4 := h1 j (by omega) (by omega) (by simpa using hb2)
        simpa using h4
      have e2 : gAt w G (((i + 1 : Nat) : Int) - 1) ((j + 1 : Nat) : Int) = (if inb w i (j + 1) then cst w q r i (j + 1) else 1000000000) := by
        by_cases h5 : inb w i (j + 1)
        · rw [if_pos h5, gAt_in i (j + 1) (by omega) h5]
          have h4 := h1 (j + 1) (by omega) (by omega) (by simpa using h5)
          simpa using h4
        · rw [if_neg h5]
          exact gAt_out (by omega)
      have e3 : gAt w G ((i + 1 : Nat) : Int) (((j + 1 : Nat) : Int) - 1) = (if inb w (i + 1) j then cst w q r (i + 1) j else 1000000000) := by
        by_cases h5 : inb w (i + 1) j
        · rw [if_pos h5, gAt_in (i + 1) j (by omega) h5]
          have h4 := h2 (by omega) (by simpa using h5)
          simpa using h4
        · rw [if_neg h5]
          exact gAt_out (by omega)
      unfold gBef
      rw [if_neg (by omega), e1, e2, e3, cst, if_pos hb2]
      omega
/-- the whole line i is not below the limit, for some line -/
def givesUp (n w : Nat) (q r : Nat → Int) (lim : Int) : Prop := ∃ i, i < n ∧ ∀ j, j < n → inb w i j → lim ≤ cst w q r i j
/-- the hull -/
def hlo (w : Nat) (h : Nat → Int) (i : Nat) : Nat → Int
  | 0 => 1000
  | p + 1 => if inb w p i then min (hlo w h i p) (h p) else hlo w h i p
def hhi (w : Nat) (h : Nat → Int) (i : Nat) : Nat → Int
  | 0 => -1000
  | p + 1 => if inb w p i then max (hhi w h i p) (h p) else hhi w h i p
def gapz (v low high : Int) : Int := if v < low then low - v else if high < v then v - high else 0
def hbd (n w : Nat) (h x : Nat → Int) : Nat → Int
  | 0 => 0
  | k + 1 => hbd n w h x k + gapz (x k) (hlo w h k n) (hhi w h k n) * gapz (x k) (hlo w h k n) (hhi w h k n)
def lbd (n w : Nat) (q r : Nat → Int) (which : Int) : Int :=
  if which = 0 then sqd q r 0 0 + sqd q r (n - 1) (n - 1) else if which = 1 then hbd n w q r n else hbd n w r q n
theorem hlo_le {w : Nat} {h : Nat → Int} {i : Nat} : ∀ (k p : Nat), p < k → inb w p i → hlo w h i k ≤ h p := by
  intro k
  induction k with
  | zero => intro p hp; omega
  | succ k ih =>
    intro p hp hb
    rw [hlo]
    by_cases e : p = k
    · subst e
      rw [if_pos hb]
      omega
    · have := ih p (by omega) hb
      split <;> omega
theorem hlo_ex {w : Nat} {h : Nat → Int} {i : Nat} : ∀ k : Nat, hlo w h i k = 1000 ∨ ∃ p, p < k ∧ inb w p i ∧ hlo w h i k = h p := by
  intro k
  induction k with
  | zero => exact Or.inl rfl
  | succ k ih =>
    rw [hlo]
    by_cases hb : inb w k i
    · rw [if_pos hb]
      by_cases g : h k ≤ hlo w h i k
      · exact Or.inr ⟨k, by omega, hb, by omega⟩
      · rcases ih with e | ⟨p, h1, h2, h3⟩
        · exact Or.inl (by omega)
        · exact Or.inr ⟨p, by omega, h2, by omega⟩
    · rw [if_neg hb]
      rcases ih with e | ⟨p, h1, h2, h3⟩
      · exact Or.inl e
      · exact Or.inr ⟨p, by omega, h2, h3⟩
theorem hhi_le {w : Nat} {h : Nat → Int} {i : Nat} : ∀ (k p : Nat), p < k → inb w p i → h p ≤ hhi w h i k := by
  intro k
  induction k with
  | zero => intro p hp; omega
  | succ k ih =>
    intro p hp hb
    rw [hhi]
    by_cases e : p = k
    · subst e
      rw [if_pos hb]
      omega
    · have := ih p (by omega) hb
      split <;> omega
theorem hhi_ex {w : Nat} {h : Nat → Int} {i : Nat} : ∀ k : Nat, hhi w h i k = -1000 ∨ ∃ p, p < k ∧ inb w p i ∧ hhi w h i k = h p := by
  intro k
  induction k with
  | zero => exact Or.inl rfl
  | succ k ih =>
    rw [hhi]
    by_cases hb : inb w k i
    · rw [if_pos hb]
      by_cases g : hhi w h i k ≤ h k
      · exact Or.inr ⟨k, by omega, hb, by omega⟩
      · rcases ih with e | ⟨p, h1, h2, h3⟩
        · exact Or.inl (by omega)
        · exact Or.inr ⟨p, by omega, h2, by omega⟩
    · rw [if_neg hb]
      rcases ih with e | ⟨p, h1, h2, h3⟩
      · exact Or.inl e
      · exact Or.inr ⟨p, by omega, h2, h3⟩
theorem hlo_rg {w n : Nat} {h : Nat → Int} (hh : vals n h) {i : Nat} (k : Nat) (hk : k ≤ n) : -1000 ≤ hlo w h i k ∧ hlo w h i k ≤ 1000 := by
  rcases hlo_ex (w := w) (h := h) (i := i) k with e | ⟨p, h1, h2, h3⟩
  · omega
  · have := hh p (by omega)
    omega
theorem hhi_rg {w n : Nat} {h : Nat → Int} (hh : vals n h) {i : Nat} (k : Nat) (hk : k ≤ n) : -1000 ≤ hhi w h i k ∧ hhi w h i k ≤ 1000 := by
  rcases hhi_ex (w := w) (h := h) (i := i) k with e | ⟨p, h1, h2, h3⟩
  · omega
  · have := hh p (by omega)
    omega
theorem gap_rg {v low high : Int} (h1 : -1000 ≤ v ∧ v ≤ 1000) (h2 : -1000 ≤ low ∧ low ≤ 1000) (h3 : -1000 ≤ high ∧ high ≤ 1000) : 0 ≤ gapz v low high ∧ gapz v low high ≤ 2000 := by
  unfold gapz
  split
  · omega
  · split <;> omega
theorem gap_sq {v low high : Int} (h1 : -1000 ≤ v ∧ v ≤ 1000) (h2 : -1000 ≤ low ∧ low ≤ 1000) (h3 : -1000 ≤ high ∧ high ≤ 1000) : 0 ≤ gapz v low high * gapz v low high ∧ gapz v low high * gapz v low high ≤ 4000000 := by
  have h4 := gap_rg h1 h2 h3
  exact sq_bd (k := 2000) (by omega)
theorem hbd_rg {n w : Nat} {h x : Nat → Int} (hh : vals n h) (hx : vals n x) : ∀ k : Nat, k ≤ n → 0 ≤ hbd n w h x k ∧ hbd n w h x k ≤ 4000000 * (k : Int) := by
  intro k
  induction k with
  | zero => intro _; simp [hbd]
  | succ k ih =>
    intro hk
    have h1 := ih (by omega)
    have h2 := gap_sq (hx k (by omega)) (hlo_rg hh (w := w) (i := k) n (Nat.le_refl _)) (hhi_rg hh (w := w) (i := k) n (Nat.le_refl _))
    rw [hbd]
    omega
/-- least and greatest, told by what they are -/
theorem hlo_is {n w : Nat} {h : Nat → Int} (hh : vals n h) {i : Nat} (hi : i < n) {low : Int} (h1 : ∀ p, p < n → inb w p i → low ≤ h p) (h2 : ∃ p, p < n ∧ inb w p i ∧ low = h p) : low = hlo w h i n := by
  obtain ⟨p, g1, g2, g3⟩ := h2
  have a1 := hlo_le (w := w) (h := h) n p g1 g2
  rcases hlo_ex (w := w) (h := h) (i := i) n with e | ⟨t, t1, t2, t3⟩
  · have := hh p g1
    omega
  · have := h1 t t1 t2
    omega
theorem hhi_is {n w : Nat} {h : Nat → Int} (hh : vals n h) {i : Nat} (hi : i < n) {high : Int} (h1 : ∀ p, p < n → inb w p i → h p ≤ high) (h2 : ∃ p, p < n ∧ inb w p i ∧ high = h p) : high = hhi w h i n := by
  obtain ⟨p, g1, g2, g3⟩ := h2
  have a1 := hhi_le (w := w) (h := h) n p g1 g2
  rcases hhi_ex (w := w) (h := h) (i := i) n with e | ⟨t, t1, t2, t3⟩
  · have := hh p g1
    omega
  · have := h1 t t1 t2
    omega
