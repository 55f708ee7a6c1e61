/-! the reference's reading of the same costs: -1 where there is no pair of the band -/
def lsr (a b : Int) : Int := if a < 0 then b else if b < 0 ∨ a < b then a else b
def mAt (n w : Nat) (G : Nat → Int) (i j : Int) : Int := if 0 ≤ i ∧ i < (n : Int) ∧ 0 ≤ j ∧ j < (n : Int) ∧ i - j ≤ (w : Int) ∧ j - i ≤ (w : Int) then G (16 * i + j).toNat else -1
theorem mAt_bd {n w : Nat} {q r G : Nat → Int} (hq : vals n q) (hr : vals n r) (hn : n ≤ 16) {i j : Int} (hi : i < n) (hj : j < n)
    (hG : 0 ≤ i → 0 ≤ j → inb w i.toNat j.toNat → G (16 * i.toNat + j.toNat) = cst w q r i.toNat j.toNat) : (mAt n w G i j = -1 ∧ bdI w q r i j = 1000000000 ∧ (i < 0 ∨ j < 0 ∨ (w : Int) < i - j ∨ (w : Int) < j - i)) ∨ (mAt n w G i j = bdI w q r i j ∧ 0 ≤ bdI w q r i j ∧ bdI w q r i j ≤ 124000000 ∧ 0 ≤ i ∧ 0 ≤ j ∧ i - j ≤ (w : Int) ∧ j - i ≤ (w : Int)) := by
  by_cases h : 0 ≤ i ∧ 0 ≤ j ∧ i - j ≤ (w : Int) ∧ j - i ≤ (w : Int)
  · refine Or.inr ?_
    have h1 := cst_rg hq hr hn (w := w) (i := i.toNat) (j := j.toNat) (by omega) (by omega) (by omega)
    have h2 : mAt n w G i j = cst w q r i.toNat j.toNat := by
      unfold mAt
      rw [if_pos (by omega), show (16 * i + j).toNat = 16 * i.toNat + j.toNat by omega]
      exact hG (by omega) (by omega) (by omega)
    rw [h2, bdI_in h]
    omega
  · refine Or.inl ⟨?_, bdI_out (by omega), by omega⟩
    unfold mAt
    rw [if_neg (by omega)]
theorem lsr3 {x y z x' y' z' : Int} (hx : (x = -1 ∧ x' = 1000000000) ∨ (x = x' ∧ 0 ≤ x' ∧ x' ≤ 124000000)) (hy : (y = -1 ∧ y' = 1000000000) ∨ (y = y' ∧ 0 ≤ y' ∧ y' ≤ 124000000)) (hz : (z = -1 ∧ z' = 1000000000) ∨ (z = z' ∧ 0 ≤ z' ∧ z' ≤ 124000000)) :
    (lsr x (lsr y z) = -1 ∧ x = -1 ∧ y = -1 ∧ z = -1) ∨ (lsr x (lsr y z) = min x' (min y' z') ∧ 0 ≤ lsr x (lsr y z) ∧ lsr x (lsr y z) ≤ 124000000) := by
  have e1 : lsr y z = if y < 0 then z else if z < 0 ∨ y < z then y else z := rfl
  have e2 : lsr x (lsr y z) = if x < 0 then lsr y z else if lsr y z < 0 ∨ x < lsr y z then x else lsr y z := rfl
  generalize lsr x (lsr y z) = v at *
  generalize lsr y z = u at *
  by_cases h1 : y < 0
  · rw [if_pos h1] at e1
    by_cases h3 : x < 0
    · rw [if_pos h3] at e2; omega
    · rw [if_neg h3] at e2
      by_cases h4 : u < 0 ∨ x < u
      · rw [if_pos h4] at e2; omega
      · rw [if_neg h4] at e2; omega
  · rw [if_neg h1] at e1
    by_cases h2 : z < 0 ∨ y < z
    · rw [if_pos h2] at e1
      by_cases h3 : x < 0
      · rw [if_pos h3] at e2; omega
      · rw [if_neg h3] at e2
        by_cases h4 : u < 0 ∨ x < u
        · rw [if_pos h4] at e2; omega
        · rw [if_neg h4] at e2; omega
    · rw [if_neg h2] at e1
      by_cases h3 : x < 0
      · rw [if_pos h3] at e2; omega
      · rw [if_neg h3] at e2
        by_cases h4 : u < 0 ∨ x < u
        · rw [if_pos h4] at e2; omega
        · rw [if_neg h4] at e2; omega
/-- a pair's cost out of the costs before it, by the neighbours -/
theorem cst_nb {n w : Nat} {q r : Nat → Int} (hq : vals n q) (hr : vals n r) (hn : n ≤ 16) {i j : Nat} (hi : i < n) (hj : j < n) (hb : inb w i j) (h0 : ¬ (i = 0 ∧ j = 0)) :
    cst w q r i j = sqd q r i j + min (bdI w q r ((i : Int) - 1) ((j : Int) - 1)) (min (bdI w q r ((i : Int) - 1) (j : Int)) (bdI w q r (i : Int) ((j : Int) - 1))) := by
  have h := cst_eq (G := fun k => cst w q r (k / 16) (k % 16)) hq hr hn hi hj hb (fun b h1 h2 h3 => by
      have e1 : (16 * (i - 1) + b) / 16 = i - 1 := by omega
      have e2 : (16 * (i - 1) + b) % 16 = b := by omega
      show cst w q r ((16 * (i - 1) + b) / 16) ((16 * (i - 1) + b) % 16) = _
      rw [e1, e2]) (fun h1 h2 => by
      have e1 : (16 * i + (j - 1)) / 16 = i := by omega
      have e2 : (16 * i + (j - 1)) % 16 = j - 1 := by omega
      show cst w q r ((16 * i + (j - 1)) / 16) ((16 * i + (j - 1)) % 16) = _
      rw [e1, e2])
  have hG : ∀ a b, a < n → b < n → inb w a b → (fun k => cst w q r (k / 16) (k % 16)) (16 * a + b) = cst w q r a b := by
    intro a b h1 h2 h3
    have e1 : (16 * a + b) / 16 = a := by omega
    have e2 : (16 * a + b) % 16 = b := by omega
    show cst w q r ((16 * a + b) / 16) ((16 * a + b) % 16) = _
    rw [e1, e2]
  unfold gBef at h
  rw [if_neg (by omega), gAt_bd hG (by omega) (by omega), gAt_bd hG (by omega) (by omega), gAt_bd hG (by omega) (by omega)] at h
  omega
/-- .. as the reference has it -/
theorem cst_m {n w : Nat} {q r G : Nat → Int} (hq : vals n q) (hr : vals n r) (hn : n ≤ 16) {i j : Nat} (hi : i < n) (hj : j < n) (hb : inb w i j) (h0 : ¬ (i = 0 ∧ j = 0))
    (h1 : ∀ a b : Nat, a < n → b < n → a ≤ i → b ≤ j → ¬ (a = i ∧ b = j) → inb w a b → G (16 * a + b) = cst w q r a b) :
    sqd q r i j + lsr (mAt n w G ((i : Int) - 1) ((j : Int) - 1)) (lsr (mAt n w G ((i : Int) - 1) (j : Int)) (mAt n w G (i : Int) ((j : Int) - 1))) = cst w q r i j := by
  have b1 := mAt_bd (G := G) (w := w) hq hr hn (i := (i : Int) - 1) (j := (j : Int) - 1) (by omega) (by omega) (fun a1 a2 a3 => h1 _ _ (by omega) (by omega) (by omega) (by omega) (by omega) a3)
  have b2 := mAt_bd (G := G) (w := w) hq hr hn (i := (i : Int) - 1) (j := (j : Int)) (by omega) (by omega) (fun a1 a2 a3 => h1 _ _ (by omega) (by omega) (by omega) (by omega) (by omega) a3)
  have b3 := mAt_bd (G := G) (w := w) hq hr hn (i := (i : Int)) (j := (j : Int) - 1) (by omega) (by omega) (fun a1 a2 a3 => h1 _ _ (by omega) (by omega) (by omega) (by omega) (by omega) a3)
  have e := cst_nb hq hr hn hi hj hb h0
  have l := lsr3 (x := mAt n w G ((i : Int) - 1) ((j : Int) - 1)) (y := mAt n w G ((i : Int) - 1) (j : Int)) (z := mAt n w G (i : Int) ((j : Int) - 1)) (x' := bdI w q r ((i : Int) - 1) ((j : Int) - 1)) (y' := bdI w q r ((i : Int) - 1) (j : Int)) (z' := bdI w q r (i : Int) ((j : Int) - 1)) (by omega) (by omega) (by omega)
  omega
theorem lsr_rg {a b : Int} (ha : -2147483648 ≤ a ∧ a ≤ 2147483647) (hb : -2147483648 ≤ b ∧ b ≤ 2147483647) : -2147483648 ≤ lsr a b ∧ lsr a b ≤ 2147483647 := by
  unfold lsr
  split
  · exact hb
  · split
    · exact ha
    · exact hb
theorem mAt_rg {n w : Nat} {G : Nat → Int} (hG : rgA G) (i j : Int) : -2147483648 ≤ mAt n w G i j ∧ mAt n w G i j ≤ 2147483647 := by
  unfold mAt
  split
  · exact hG _
  · omega
