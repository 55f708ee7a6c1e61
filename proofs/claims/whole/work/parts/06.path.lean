/-! the best path, from its end: the pair before a pair; where it ends -/
def bdI (w : Nat) (q r : Nat → Int) (i j : Int) : Int := if 0 ≤ i ∧ 0 ≤ j ∧ i - j ≤ (w : Int) ∧ j - i ≤ (w : Int) then cst w q r i.toNat j.toNat else 1000000000
def pnx (w : Nat) (q r : Nat → Int) (x : Int × Int) : Int × Int :=
  if bdI w q r (x.1 - 1) (x.2 - 1) ≤ bdI w q r (x.1 - 1) x.2 ∧ bdI w q r (x.1 - 1) (x.2 - 1) ≤ bdI w q r x.1 (x.2 - 1) then (x.1 - 1, x.2 - 1)
  else if bdI w q r (x.1 - 1) x.2 ≤ bdI w q r x.1 (x.2 - 1) then (x.1 - 1, x.2) else (x.1, x.2 - 1)
def pseq (w n : Nat) (q r : Nat → Int) : Nat → Int × Int
  | 0 => ((n : Int) - 1, (n : Int) - 1)
  | t + 1 => pnx w q r (pseq w n q r t)
def isMany (w n : Nat) (q r : Nat → Int) (M : Nat) : Prop := 1 ≤ M ∧ pseq w n q r (M - 1) = (0, 0) ∧ ∀ u, u < M - 1 → pseq w n q r u ≠ (0, 0)
theorem isMany_one {w n : Nat} {q r : Nat → Int} {M M' : Nat} (h : isMany w n q r M) (h' : isMany w n q r M') : M = M' := by
  obtain ⟨a1, a2, a3⟩ := h
  obtain ⟨b1, b2, b3⟩ := h'
  rcases Nat.lt_trichotomy M M' with g | g | g
  · exact absurd a2 (b3 (M - 1) (by omega))
  · exact g
  · exact absurd b2 (a3 (M' - 1) (by omega))
theorem bdI_in {w : Nat} {q r : Nat → Int} {i j : Int} (h : 0 ≤ i ∧ 0 ≤ j ∧ i - j ≤ (w : Int) ∧ j - i ≤ (w : Int)) : bdI w q r i j = cst w q r i.toNat j.toNat := if_pos h
theorem bdI_out {w : Nat} {q r : Nat → Int} {i j : Int} (h : i < 0 ∨ j < 0 ∨ (w : Int) < i - j ∨ (w : Int) < j - i) : bdI w q r i j = 1000000000 := if_neg (by omega)
theorem bdI_rg {n w : Nat} {q r : Nat → Int} (hq : vals n q) (hr : vals n r) (hn : n ≤ 16) {i j : Int} (hi : i < n) (hj : j < n) : (bdI w q r i j = 1000000000 ∧ (i < 0 ∨ j < 0 ∨ (w : Int) < i - j ∨ (w : Int) < j - i)) ∨ (0 ≤ bdI w q r i j ∧ bdI w q r i j ≤ 124000000 ∧ 0 ≤ i ∧ 0 ≤ j ∧ i - j ≤ (w : Int) ∧ j - i ≤ (w : Int)) := by
  by_cases h : 0 ≤ i ∧ 0 ≤ j ∧ i - j ≤ (w : Int) ∧ j - i ≤ (w : Int)
  · refine Or.inr ?_
    rw [bdI_in h]
    have := cst_rg hq hr hn (w := w) (i := i.toNat) (j := j.toNat) (by omega) (by omega) (by omega)
    omega
  · exact Or.inl ⟨if_neg h, by omega⟩
theorem gAt_bd {n w : Nat} {q r G : Nat → Int} (hG : ∀ a b, a < n → b < n → inb w a b → G (16 * a + b) = cst w q r a b) {i j : Int} (hi : i < n) (hj : j < n) : gAt w G i j = bdI w q r i j := by
  by_cases h : 0 ≤ i ∧ 0 ≤ j ∧ i - j ≤ (w : Int) ∧ j - i ≤ (w : Int)
  · rw [bdI_in h, gAt_in i.toNat j.toNat (by omega) (by omega)]
    exact hG _ _ (by omega) (by omega) (by omega)
  · rw [bdI_out (by omega), gAt_out (by omega)]
theorem pnx_1 {w : Nat} {q r : Nat → Int} {i j : Int} (h1 : bdI w q r (i - 1) (j - 1) ≤ bdI w q r (i - 1) j) (h2 : bdI w q r (i - 1) (j - 1) ≤ bdI w q r i (j - 1)) : pnx w q r (i, j) = (i - 1, j - 1) := if_pos ⟨h1, h2⟩
theorem pnx_2 {w : Nat} {q r : Nat → Int} {i j : Int} (h1 : bdI w q r (i - 1) j < bdI w q r (i - 1) (j - 1) ∨ bdI w q r i (j - 1) < bdI w q r (i - 1) (j - 1)) (h2 : bdI w q r (i - 1) j ≤ bdI w q r i (j - 1)) : pnx w q r (i, j) = (i - 1, j) := by
  unfold pnx
  rw [if_neg (fun h => by have := h.1; have := h.2; dsimp only at *; omega), if_pos h2]
theorem pnx_3 {w : Nat} {q r : Nat → Int} {i j : Int} (h1 : bdI w q r (i - 1) j < bdI w q r (i - 1) (j - 1) ∨ bdI w q r i (j - 1) < bdI w q r (i - 1) (j - 1)) (h2 : bdI w q r i (j - 1) < bdI w q r (i - 1) j) : pnx w q r (i, j) = (i, j - 1) := by
  unfold pnx
  rw [if_neg (fun h => by have := h.1; have := h.2; dsimp only at *; omega), if_neg (Int.not_le.mpr h2)]
/-- where the walk back stands: on a pair of the band, or it has stepped out of (0, 0) -/
def trA (w n : Nat) (q r : Nat → Int) (t : Nat) (i j : Int) : Prop := 0 ≤ i ∧ 0 ≤ j ∧ i - j ≤ (w : Int) ∧ j - i ≤ (w : Int) ∧ i + j + (t : Int) ≤ 2 * ((n : Int) - 1) ∧ i < (n : Int) ∧ j < (n : Int) ∧ ∀ u, u < t → pseq w n q r u ≠ (0, 0)
def trS (w n : Nat) (q r : Nat → Int) (t : Nat) (i j : Int) : Prop := trA w n q r t i j ∨ (i = -1 ∧ j = -1 ∧ isMany w n q r t)
theorem tr_start {w n : Nat} {q r : Nat → Int} (hn : 1 ≤ n) : trA w n q r 0 ((n : Int) - 1) ((n : Int) - 1) := ⟨by omega, by omega, by omega, by omega, by omega, by omega, by omega, fun u h => absurd h (Nat.not_lt_zero _)⟩
/-- not at (0, 0): one step on, on a pair of the band -/
theorem tr_on {w n : Nat} {q r : Nat → Int} (hq : vals n q) (hr : vals n r) (hn : n ≤ 16) {t : Nat} {i j i' j' : Int} (h : trA w n q r t i j) (hij : pseq w n q r t = (i, j)) (h0 : ¬ (i = 0 ∧ j = 0)) (he : pnx w q r (i, j) = (i', j')) : trA w n q r (t + 1) i' j' := by
  obtain ⟨a1, a2, a3, a4, a5, a6, a7, a8⟩ := h
  have b1 := bdI_rg (w := w) hq hr hn (i := i - 1) (j := j - 1) (by omega) (by omega)
  have b2 := bdI_rg (w := w) hq hr hn (i := i - 1) (j := j) (by omega) (by omega)
  have b3 := bdI_rg (w := w) hq hr hn (i := i) (j := j - 1) (by omega) (by omega)
  have hne : ∀ u, u < t + 1 → pseq w n q r u ≠ (0, 0) := by
    intro u hu
    by_cases g : u = t
    · subst g
      rw [hij]
      intro q9
      injection q9 with q1 q2
      exact h0 ⟨q1, q2⟩
    · exact a8 u (by omega)
  unfold pnx at he
  dsimp only at he
  generalize bdI w q r (i - 1) (j - 1) = both at *
  generalize bdI w q r (i - 1) j = up at *
  generalize bdI w q r i (j - 1) = back at *
  split at he
  · injection he with e1 e2
    subst e1; subst e2
    exact ⟨by omega, by omega, by omega, by omega, by push_cast; omega, by omega, by omega, hne⟩
  · split at he
    · injection he with e1 e2
      subst e1; subst e2
      exact ⟨by omega, by omega, by omega, by omega, by push_cast; omega, by omega, by omega, hne⟩
    · injection he with e1 e2
      subst e1; subst e2
      exact ⟨by omega, by omega, by omega, by omega, by push_cast; omega, by omega, by omega, hne⟩
theorem tr_next {w n : Nat} {q r : Nat → Int} (hq : vals n q) (hr : vals n r) (hn : n ≤ 16) {t : Nat} {i j i' j' : Int} (h : trA w n q r t i j) (hij : pseq w n q r t = (i, j)) (he : pnx w q r (i, j) = (i', j')) : trS w n q r (t + 1) i' j' := by
  by_cases h0 : i = 0 ∧ j = 0
  · obtain ⟨e1, e2⟩ := h0
    subst e1; subst e2
    rw [pnx_1 (by rw [bdI_out (by omega), bdI_out (by omega)]; omega) (by rw [bdI_out (by omega), bdI_out (by omega)]; omega)] at he
    injection he with e1 e2
    exact Or.inr ⟨by omega, by omega, by omega, hij, h.2.2.2.2.2.2.2⟩
  · exact Or.inl (tr_on hq hr hn h hij h0 he)
theorem tr_many {w n : Nat} {q r : Nat → Int} {t : Nat} {i j : Int} (h : trS w n q r t i j) (hx : i < 0 ∨ j < 0) : isMany w n q r t := by
  rcases h with h | h
  · have := h.1
    have := h.2.1
    omega
  · exact h.2.2
