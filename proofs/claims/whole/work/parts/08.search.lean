/-! only the first n numbers count -/
def agr (n : Nat) (q q' : Nat → Int) : Prop := ∀ a, a < n → q a = q' a
theorem agr.symm {n : Nat} {q q' : Nat → Int} (h : agr n q q') : agr n q' q := fun a ha => (h a ha).symm
theorem agr.rfl' {n : Nat} {q : Nat → Int} : agr n q q := fun _ _ => rfl
theorem agr.vals {n : Nat} {q q' : Nat → Int} (h : agr n q q') (hq : vals n q) : vals n q' := fun a ha => by rw [← h a ha]; exact hq a ha
theorem cst_congr {n w : Nat} {q r q' r' : Nat → Int} (hq : agr n q q') (hr : agr n r r') : ∀ (k i j : Nat), i + j ≤ k → i < n → j < n → cst w q r i j = cst w q' r' i j := by
  intro k
  induction k with
  | zero =>
    intro i j h hi hj
    have h1 : i = 0 := by omega
    have h2 : j = 0 := by omega
    subst h1; subst h2
    simp only [cst, sqd, hq 0 hi, hr 0 hj]
  | succ k ih =>
    intro i j h hi hj
    have es : sqd q r i j = sqd q' r' i j := by simp only [sqd, hq i hi, hr j hj]
    cases i with
    | zero =>
      cases j with
      | zero => simp only [cst, es]
      | succ j =>
        have e1 := ih 0 j (by omega) (by omega) (by omega)
        simp only [cst, es, e1]
    | succ i =>
      cases j with
      | zero =>
        have e1 := ih i 0 (by omega) (by omega) (by omega)
        simp only [cst, es, e1]
      | succ j =>
        have e1 := ih i j (by omega) (by omega) (by omega)
        have e2 := ih i (j + 1) (by omega) (by omega) (by omega)
        have e3 := ih (i + 1) j (by omega) (by omega) (by omega)
        rw [cst.eq_4 w q r i j, cst.eq_4 w q' r' i j, es, e1, e2, e3]
theorem cst_cg {n w : Nat} {q r q' r' : Nat → Int} (hq : agr n q q') (hr : agr n r r') {i j : Nat} (hi : i < n) (hj : j < n) : cst w q r i j = cst w q' r' i j := cst_congr hq hr (i + j) i j (Nat.le_refl _) hi hj
theorem hlo_cg {n w : Nat} {h h' : Nat → Int} (e : agr n h h') {i : Nat} : ∀ k, k ≤ n → hlo w h i k = hlo w h' i k := by
  intro k
  induction k with
  | zero => intro _; rfl
  | succ k ih =>
    intro hk
    simp only [hlo, ih (by omega), e k (by omega)]
theorem hhi_cg {n w : Nat} {h h' : Nat → Int} (e : agr n h h') {i : Nat} : ∀ k, k ≤ n → hhi w h i k = hhi w h' i k := by
  intro k
  induction k with
  | zero => intro _; rfl
  | succ k ih =>
    intro hk
    simp only [hhi, ih (by omega), e k (by omega)]
theorem hbd_cg {n w : Nat} {h x h' x' : Nat → Int} (e : agr n h h') (f : agr n x x') : ∀ k, k ≤ n → hbd n w h x k = hbd n w h' x' k := by
  intro k
  induction k with
  | zero => intro _; rfl
  | succ k ih =>
    intro hk
    simp only [hbd, ih (by omega), f k (by omega), hlo_cg e n (Nat.le_refl _), hhi_cg e n (Nat.le_refl _)]
theorem lbd_cg {n w : Nat} {q r q' r' : Nat → Int} (hn : 1 ≤ n) (hq : agr n q q') (hr : agr n r r') (which : Int) : lbd n w q r which = lbd n w q' r' which := by
  simp only [lbd, sqd, hq 0 (by omega), hr 0 (by omega), hq (n - 1) (by omega), hr (n - 1) (by omega), hbd_cg hq hr n (Nat.le_refl _), hbd_cg hr hq n (Nat.le_refl _)]
theorem gu_cg {n w : Nat} {q r q' r' : Nat → Int} (hq : agr n q q') (hr : agr n r r') (lim : Int) : givesUp n w q r lim = givesUp n w q' r' lim := by
  apply propext
  constructor
  · intro ⟨i, h1, h2⟩
    exact ⟨i, h1, fun j h3 h4 => by rw [← cst_cg hq hr h1 h3]; exact h2 j h3 h4⟩
  · intro ⟨i, h1, h2⟩
    exact ⟨i, h1, fun j h3 h4 => by rw [cst_cg hq hr h1 h3]; exact h2 j h3 h4⟩
theorem bdI_cg {n w : Nat} {q r q' r' : Nat → Int} (hq : agr n q q') (hr : agr n r r') {i j : Int} (hi : i < n) (hj : j < n) : bdI w q r i j = bdI w q' r' i j := by
  unfold bdI
  by_cases h : 0 ≤ i ∧ 0 ≤ j ∧ i - j ≤ (w : Int) ∧ j - i ≤ (w : Int)
  · rw [if_pos h, if_pos h]
    exact cst_cg hq hr (by omega) (by omega)
  · rw [if_neg h, if_neg h]
theorem pseq_cg {n w : Nat} {q r q' r' : Nat → Int} (hq : agr n q q') (hr : agr n r r') : ∀ t, pseq w n q r t = pseq w n q' r' t ∧ (pseq w n q r t).1 < n ∧ (pseq w n q r t).2 < n := by
  intro t
  induction t with
  | zero => exact ⟨rfl, by simp only [pseq]; omega, by simp only [pseq]; omega⟩
  | succ t ih =>
    obtain ⟨e, h1, h2⟩ := ih
    rw [pseq, pseq, ← e]
    generalize pseq w n q r t = x at h1 h2
    obtain ⟨i, j⟩ := x
    dsimp only at h1 h2
    have e1 := bdI_cg (w := w) hq hr (i := i - 1) (j := j - 1) (by omega) (by omega)
    have e2 := bdI_cg (w := w) hq hr (i := i - 1) (j := j) (by omega) (by omega)
    have e3 := bdI_cg (w := w) hq hr (i := i) (j := j - 1) (by omega) (by omega)
    refine ⟨by simp only [pnx, e1, e2, e3], ?_, ?_⟩
    · unfold pnx
      split
      · dsimp only; omega
      · split <;> (dsimp only; omega)
    · unfold pnx
      split
      · dsimp only; omega
      · split <;> (dsimp only; omega)
theorem isMany_cg {n w : Nat} {q r q' r' : Nat → Int} (hq : agr n q q') (hr : agr n r r') {M : Nat} (h : isMany w n q r M) : isMany w n q' r' M := by
  obtain ⟨h1, h2, h3⟩ := h
  exact ⟨h1, by rw [← (pseq_cg hq hr (M - 1)).1]; exact h2, fun u hu => by rw [← (pseq_cg hq hr u).1]; exact h3 u hu⟩
/-! a search: one row after another -/
noncomputable def guB (n w : Nat) (q r : Nat → Int) (lim : Int) : Bool := @decide (givesUp n w q r lim) (Classical.propDecidable _)
theorem guB_t {n w : Nat} {q r : Nat → Int} {lim : Int} (h : givesUp n w q r lim) : guB n w q r lim = true := by
  unfold guB
  exact @decide_eq_true _ (Classical.propDecidable _) h
theorem guB_f {n w : Nat} {q r : Nat → Int} {lim : Int} (h : ¬ givesUp n w q r lim) : guB n w q r lim = false := by
  unfold guB
  exact @decide_eq_false _ (Classical.propDecidable _) h
def pas (n w : Nat) (q r : Nat → Int) (lim : Int) : Int := if lim ≤ lbd n w q r 0 then 0 else if lim ≤ lbd n w q r 1 then 1 else if lim ≤ lbd n w q r 2 then 2 else -1
def bmp (T : Nat → Int) (k : Nat) : Nat → Int := zU T k (T k + 1)
abbrev Lst : Type := Nat × (Nat → Int) × (Nat → Int) × (Nat → Int)
noncomputable def wgh (n w : Nat) (q r : Nat → Int) (wt : Nat) (pl : Int) (x : Lst) : Lst :=
  if x.1 = wt ∧ pas n w q r (x.2.2.1 (x.1 - 1)) ≠ -1 then (x.1, x.2.1, x.2.2.1, bmp x.2.2.2 (pas n w q r (x.2.2.1 (x.1 - 1))).toNat)
  else if x.1 = wt ∧ guB n w q r (x.2.2.1 (x.1 - 1)) = true then (x.1, x.2.1, x.2.2.1, bmp (bmp x.2.2.2 3) 4)
  else if x.1 = wt ∧ x.2.2.1 (x.1 - 1) ≤ cst w q r (n - 1) (n - 1) then (x.1, x.2.1, x.2.2.1, bmp x.2.2.2 3)
  else (min (x.1 + 1) wt, insF x.2.1 (scn x.2.2.1 (cst w q r (n - 1) (n - 1)) (min x.1 (wt - 1))) (min x.1 (wt - 1)) pl, insF x.2.2.1 (scn x.2.2.1 (cst w q r (n - 1) (n - 1)) (min x.1 (wt - 1))) (min x.1 (wt - 1)) (cst w q r (n - 1) (n - 1)), bmp x.2.2.2 3)
theorem wgh_cg {n w : Nat} {q r q' r' : Nat → Int} (hn : 1 ≤ n) (hq : agr n q q') (hr : agr n r r') (wt : Nat) (pl : Int) (x : Lst) : wgh n w q r wt pl x = wgh n w q' r' wt pl x := by
  have e1 : ∀ lim, pas n w q r lim = pas n w q' r' lim := fun lim => by simp only [pas, lbd_cg hn hq hr]
  have e2 : ∀ lim, guB n w q r lim = guB n w q' r' lim := fun lim => by unfold guB; rw [gu_cg hq hr]
  have e3 : cst w q r (n - 1) (n - 1) = cst w q' r' (n - 1) (n - 1) := cst_cg hq hr (by omega) (by omega)
  simp only [wgh, e1, e2, e3]
noncomputable def srch (n w : Nat) (q : Nat → Int) (rf : Nat → Nat → Int) (wt : Nat) (x : Lst) : Nat → Lst
  | 0 => x
  | k + 1 => wgh n w q (rf k) wt (k : Int) (srch n w q rf wt x k)
/-- what a list keeps: it is no longer than what is wanted; its distances are distances -/
def lok (wt : Nat) (x : Lst) : Prop := x.1 ≤ wt ∧ rgA x.2.2.1 ∧ ∀ k, k < x.1 → 0 ≤ x.2.2.1 k
theorem rgA_ins {F : Nat → Int} {a st : Nat} {v : Int} (hF : rgA F) (hv : -2147483648 ≤ v ∧ v ≤ 2147483647) : rgA (insF F a st v) := by
  intro k
  unfold insF
  split
  · exact hF _
  · split
    · exact hv
    · split
      · exact hF _
      · exact hF _
theorem lok_wgh {n w wt : Nat} {q r : Nat → Int} {pl : Int} {x : Lst} (hwt : 1 ≤ wt) (hc : 0 ≤ cst w q r (n - 1) (n - 1) ∧ cst w q r (n - 1) (n - 1) ≤ 124000000) (h : lok wt x) : lok wt (wgh n w q r wt pl x) := by
  obtain ⟨h1, h2, h3⟩ := h
  unfold wgh
  split
  · exact ⟨h1, h2, h3⟩
  · split
    · exact ⟨h1, h2, h3⟩
    · split
      · exact ⟨h1, h2, h3⟩
      · refine ⟨by dsimp only; omega, rgA_ins h2 (by omega), fun k hk => ?_⟩
        dsimp only at hk ⊢
        have hs := scn_le x.2.2.1 (cst w q r (n - 1) (n - 1)) (min x.1 (wt - 1))
        unfold insF
        split
        · exact h3 k (by omega)
        · split
          · omega
          · split
            · exact h3 (k - 1) (by omega)
            · exact absurd hk (by omega)
section WGH
variable {n w wt m : Nat} {q r P D T : Nat → Int} {pl lim z : Int}
theorem wgh_1 (hm : m = wt) (hd : D (m - 1) = lim) (hz : pas n w q r lim = z) (h : z ≠ -1) : wgh n w q r wt pl (m, P, D, T) = (m, P, D, bmp T z.toNat) := by
  subst hd; subst hz
  unfold wgh
  dsimp only
  rw [if_pos ⟨hm, h⟩]
theorem wgh_2 (hm : m = wt) (hd : D (m - 1) = lim) (hz : pas n w q r lim = -1) (hg : givesUp n w q r lim) : wgh n w q r wt pl (m, P, D, T) = (m, P, D, bmp (bmp T 3) 4) := by
  subst hd
  unfold wgh
  dsimp only
  rw [if_neg (fun h => h.2 hz), if_pos ⟨hm, guB_t hg⟩]
theorem wgh_3 (hm : m = wt) (hd : D (m - 1) = lim) (hz : pas n w q r lim = -1) (hg : ¬ givesUp n w q r lim) (hc : lim ≤ cst w q r (n - 1) (n - 1)) : wgh n w q r wt pl (m, P, D, T) = (m, P, D, bmp T 3) := by
  subst hd
  unfold wgh
  dsimp only
  rw [if_neg (fun h => h.2 hz), if_neg (fun h => by rw [guB_f hg] at h; exact absurd h.2 (by decide)), if_pos ⟨hm, hc⟩]
theorem wgh_4 (h : m ≠ wt ∨ (pas n w q r (D (m - 1)) = -1 ∧ ¬ givesUp n w q r (D (m - 1)) ∧ cst w q r (n - 1) (n - 1) < D (m - 1))) : wgh n w q r wt pl (m, P, D, T) = (min (m + 1) wt, insF P (scn D (cst w q r (n - 1) (n - 1)) (min m (wt - 1))) (min m (wt - 1)) pl, insF D (scn D (cst w q r (n - 1) (n - 1)) (min m (wt - 1))) (min m (wt - 1)) (cst w q r (n - 1) (n - 1)), bmp T 3) := by
  unfold wgh
  dsimp only
  rcases h with h | ⟨h1, h2, h3⟩
  · rw [if_neg (fun g => h g.1), if_neg (fun g => h g.1), if_neg (fun g => h g.1)]
  · rw [if_neg (fun g => g.2 h1), if_neg (fun g => by rw [guB_f h2] at g; exact absurd g.2 (by decide)), if_neg (fun g => by have := g.2; omega)]
end WGH
theorem pas_rg (n w : Nat) (q r : Nat → Int) (lim : Int) : pas n w q r lim = -1 ∨ (0 ≤ pas n w q r lim ∧ pas n w q r lim ≤ 2) := by
  unfold pas
  split
  · omega
  · split
    · omega
    · split <;> omega
/-- the copied numbers are the source's -/
theorem agr_c {x q : Nat → Int} {n f0 : Nat} : agr n (zC x q f0 0 n) (fun j => x (f0 + j)) := by
  intro a ha
  unfold zC
  rw [if_pos (by omega)]
  simp
theorem agr_0 {x q : Nat → Int} {n : Nat} : agr n (zC x q 0 0 n) x := by
  intro a ha
  unfold zC
  rw [if_pos (by omega)]
  simp
theorem lbd_rg {n w : Nat} {q r : Nat → Int} (hn : 1 ≤ n ∧ n ≤ 16) (hq : vals n q) (hr : vals n r) (which : Int) : 0 ≤ lbd n w q r which ∧ lbd n w q r which ≤ 128000000 := by
  unfold lbd
  have h1 := sqd_bd (hq 0 (by omega)) (hr 0 (by omega))
  have h2 := sqd_bd (hq (n - 1) (by omega)) (hr (n - 1) (by omega))
  have h3 := hbd_rg (w := w) hq hr n (Nat.le_refl _)
  have h4 := hbd_rg (w := w) hr hq n (Nat.le_refl _)
  split
  · omega
  · split <;> omega
theorem vals_c {X R : Nat → Int} {N n f0 : Nat} (hX : vals N X) (h : f0 + n ≤ N) : vals n (zC X R f0 0 n) := by
  intro a ha
  unfold zC
  rw [if_pos (by omega)]
  exact hX _ (by omega)
theorem vals.le {n N : Nat} {X : Nat → Int} (h : vals N X) (hn : n ≤ N) : vals n X := fun a ha => h a (by omega)
