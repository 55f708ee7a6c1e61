/-! two lists that show the same -/
def lsim (x y : Lst) : Prop := x.1 = y.1 ∧ (∀ k, k < x.1 → x.2.1 k = y.2.1 k) ∧ (∀ k, k < x.1 → x.2.2.1 k = y.2.2.1 k) ∧ ∀ k, k < 5 → x.2.2.2 k = y.2.2.2 k
theorem lsim.rfl' {x : Lst} : lsim x x := ⟨rfl, fun _ _ => rfl, fun _ _ => rfl, fun _ _ => rfl⟩
theorem lsim.trans' {x y z : Lst} (h : lsim x y) (h' : lsim y z) : lsim x z := by
  obtain ⟨a1, a2, a3, a4⟩ := h
  obtain ⟨b1, b2, b3, b4⟩ := h'
  exact ⟨a1.trans b1, fun k hk => (a2 k hk).trans (b2 k (by omega)), fun k hk => (a3 k hk).trans (b3 k (by omega)), fun k hk => (a4 k hk).trans (b4 k hk)⟩
theorem lsim.symm' {x y : Lst} (h : lsim x y) : lsim y x := by
  obtain ⟨a1, a2, a3, a4⟩ := h
  exact ⟨a1.symm, fun k hk => (a2 k (by omega)).symm, fun k hk => (a3 k (by omega)).symm, fun k hk => (a4 k hk).symm⟩
theorem scn_cg {D D' : Nat → Int} {d : Int} : ∀ a, (∀ k, k < a → D k = D' k) → scn D d a = scn D' d a := by
  intro a
  induction a with
  | zero => intro _; rfl
  | succ a ih =>
    intro h
    rw [scn, scn, h a (by omega), ih (fun k hk => h k (by omega))]
theorem insF_cg {F F' : Nat → Int} {a st m : Nat} {v : Int} (h : ∀ k, k < m → F k = F' k) (hst : st ≤ m) {k : Nat} (hk : k ≤ st) (ha : a ≤ st) : insF F a st v k = insF F' a st v k := by
  unfold insF
  split
  · exact h k (by omega)
  · split
    · rfl
    · try rw [if_pos hk]
      exact h (k - 1) (by omega)
theorem bmp_cg {T T' : Nat → Int} (h : ∀ k, k < 5 → T k = T' k) {j : Nat} (hj : j < 5) : ∀ k, k < 5 → bmp T j k = bmp T' j k := by
  intro k hk
  unfold bmp
  by_cases e : k = j
  · subst e
    rw [zU_s, zU_s, h k hk]
  · rw [zU_n e, zU_n e]
    exact h k hk
theorem lsim_wgh {n w wt : Nat} {q r : Nat → Int} {pl : Int} {x y : Lst} (hwt : 1 ≤ wt) (hx : x.1 ≤ wt) (h : lsim x y) : lsim (wgh n w q r wt pl x) (wgh n w q r wt pl y) := by
  obtain ⟨m, P, D, T⟩ := x
  obtain ⟨m', P', D', T'⟩ := y
  obtain ⟨h1, h2, h3, h4⟩ := h
  dsimp only at hx h1 h2 h3 h4
  subst h1
  have hd : m = wt → D (m - 1) = D' (m - 1) := fun e => h3 (m - 1) (by omega)
  by_cases c0 : m = wt
  · have hd := hd c0
    rcases pas_rg n w q r (D (m - 1)) with hp | hp
    · by_cases hg : givesUp n w q r (D (m - 1))
      · rw [wgh_2 c0 rfl hp hg, wgh_2 c0 hd.symm hp hg]
        exact ⟨rfl, h2, h3, bmp_cg (bmp_cg h4 (by omega)) (by omega)⟩
      · by_cases hc : D (m - 1) ≤ cst w q r (n - 1) (n - 1)
        · rw [wgh_3 c0 rfl hp hg hc, wgh_3 c0 hd.symm hp hg hc]
          exact ⟨rfl, h2, h3, bmp_cg h4 (by omega)⟩
        · rw [wgh_4 (Or.inr ⟨hp, hg, by omega⟩), wgh_4 (Or.inr ⟨by rw [← hd]; exact hp, by rw [← hd]; exact hg, by omega⟩)]
          have hs := scn_le D (cst w q r (n - 1) (n - 1)) (min m (wt - 1))
          have e := scn_cg (D := D) (D' := D') (d := cst w q r (n - 1) (n - 1)) (min m (wt - 1)) (fun k hk => h3 k (by omega))
          refine ⟨rfl, fun k hk => ?_, fun k hk => ?_, bmp_cg h4 (by omega)⟩
          · dsimp only at hk ⊢
            rw [← e]
            exact insF_cg h2 (by omega) (by omega) hs
          · dsimp only at hk ⊢
            rw [← e]
            exact insF_cg h3 (by omega) (by omega) hs
    · have hp2 : pas n w q r (D (m - 1)) ≠ -1 := by omega
      rw [wgh_1 c0 rfl rfl hp2, wgh_1 c0 hd.symm rfl hp2]
      exact ⟨rfl, h2, h3, bmp_cg h4 (by omega)⟩
  · rw [wgh_4 (Or.inl c0), wgh_4 (Or.inl c0)]
    have hs := scn_le D (cst w q r (n - 1) (n - 1)) (min m (wt - 1))
    have e := scn_cg (D := D) (D' := D') (d := cst w q r (n - 1) (n - 1)) (min m (wt - 1)) (fun k hk => h3 k (by omega))
    refine ⟨rfl, fun k hk => ?_, fun k hk => ?_, bmp_cg h4 (by omega)⟩
    · dsimp only at hk ⊢
      rw [← e]
      exact insF_cg h2 (by omega) (by omega) hs
    · dsimp only at hk ⊢
      rw [← e]
      exact insF_cg h3 (by omega) (by omega) hs
/-- the reference's insertion shows the same -/
theorem ins_sim {n w wt m : Nat} {q r P D T : Nat → Int} {pl : Int} (hwt : 1 ≤ wt) (hm : m ≤ wt) (h : m ≠ wt ∨ (pas n w q r (D (m - 1)) = -1 ∧ ¬ givesUp n w q r (D (m - 1)) ∧ cst w q r (n - 1) (n - 1) < D (m - 1))) :
    lsim (min (m + 1) wt, insF P (scn D (cst w q r (n - 1) (n - 1)) m) m pl, insF D (scn D (cst w q r (n - 1) (n - 1)) m) m (cst w q r (n - 1) (n - 1)), bmp T 3) (wgh n w q r wt pl (m, P, D, T)) := by
  rw [wgh_4 h]
  by_cases c0 : m = wt
  · have hc : cst w q r (n - 1) (n - 1) < D (m - 1) := by
      rcases h with h | h
      · exact absurd c0 h
      · exact h.2.2
    have e1 : min m (wt - 1) = m - 1 := by omega
    have e2 : scn D (cst w q r (n - 1) (n - 1)) m = scn D (cst w q r (n - 1) (n - 1)) (m - 1) := scn_on (by omega) hc
    have hs := scn_le D (cst w q r (n - 1) (n - 1)) (m - 1)
    rw [e1, e2]
    have key : ∀ (F : Nat → Int) (v : Int) (k : Nat), k < min (m + 1) wt → insF F (scn D (cst w q r (n - 1) (n - 1)) (m - 1)) m v k = insF F (scn D (cst w q r (n - 1) (n - 1)) (m - 1)) (m - 1) v k := by
      intro F v k hk
      unfold insF
      split
      · rfl
      · split
        · rfl
        · rw [if_pos (by omega), if_pos (by omega)]
    exact ⟨rfl, fun k hk => key _ _ k hk, fun k hk => key _ _ k hk, fun _ _ => rfl⟩
  · have e1 : min m (wt - 1) = m := by omega
    rw [e1]
    exact lsim.rfl'
theorem lok_ins {wt m : Nat} {P D T : Nat → Int} {d pl : Int} (h : lok wt (m, P, D, T)) (hd : 0 ≤ d ∧ d ≤ 124000000) {P' T' : Nat → Int} : lok wt (min (m + 1) wt, P', insF D (scn D d m) m d, T') := by
  obtain ⟨h1, h2, h3⟩ := h
  refine ⟨by dsimp only; omega, rgA_ins h2 (by omega), fun k hk => ?_⟩
  dsimp only at hk h1 h3 ⊢
  have hs := scn_le D d m
  unfold insF
  split
  · exact h3 k (by omega)
  · split
    · exact hd.1
    · split
      · exact h3 (k - 1) (by omega)
      · exact absurd hk (by omega)
theorem lsim_srch {n w wt : Nat} {q : Nat → Int} {rf : Nat → Nat → Int} {x y : Lst} (hwt : 1 ≤ wt) (hx : ∀ k, (srch n w q rf wt x k).1 ≤ wt) (h : lsim x y) : ∀ k, lsim (srch n w q rf wt x k) (srch n w q rf wt y k) := by
  intro k
  induction k with
  | zero => exact h
  | succ k ih => exact lsim_wgh hwt (hx k) ih
/-! votes for labels -/
def vot (la P : Nat → Int) (lab : Int) : Nat → Int
  | 0 => 0
  | k + 1 => if la (P k).toNat = lab then vot la P lab k + 1 else vot la P lab k
def gss (la P : Nat → Int) (m : Nat) (b0 : Int) : Nat → Int × Int
  | 0 => (b0, 0)
  | k + 1 => if (gss la P m b0 k).2 < vot la P (la (P k).toNat) m then (la (P k).toNat, vot la P (la (P k).toNat) m) else gss la P m b0 k
theorem vot_rg {la P : Nat → Int} {lab : Int} : ∀ k : Nat, 0 ≤ vot la P lab k ∧ vot la P lab k ≤ (k : Int) := by
  intro k
  induction k with
  | zero => simp [vot]
  | succ k ih =>
    rw [vot]
    split <;> omega
theorem vot_pos {la P : Nat → Int} {lab : Int} : ∀ k j : Nat, j < k → la (P j).toNat = lab → 1 ≤ vot la P lab k := by
  intro k
  induction k with
  | zero => intro j h; omega
  | succ k ih =>
    intro j h e
    have h2 := vot_rg (la := la) (P := P) (lab := lab) k
    rw [vot]
    by_cases g : j = k
    · subst g
      rw [if_pos e]
      omega
    · have := ih j (by omega) e
      split <;> omega
theorem vot_cg {la la' P P' : Nat → Int} {lab : Int} {m : Nat} (hP : ∀ k, k < m → P k = P' k ∧ 0 ≤ P k ∧ P k < 12) (hl : agr 12 la la') : ∀ k, k ≤ m → vot la P lab k = vot la' P' lab k := by
  intro k
  induction k with
  | zero => intro _; rfl
  | succ k ih =>
    intro hk
    have h1 := hP k (by omega)
    have h2 : la (P k).toNat = la' (P' k).toNat := by
      rw [← h1.1]
      exact hl _ (by omega)
    rw [vot, vot, ih (by omega), h2]
theorem gss_cg {la la' P P' : Nat → Int} {m : Nat} {b0 : Int} (hP : ∀ k, k < m → P k = P' k ∧ 0 ≤ P k ∧ P k < 12) (hl : agr 12 la la') : ∀ k, k ≤ m → gss la P m b0 k = gss la' P' m b0 k := by
  intro k
  induction k with
  | zero => intro _; rfl
  | succ k ih =>
    intro hk
    have h1 := hP k (by omega)
    have h2 : la (P k).toNat = la' (P' k).toNat := by
      rw [← h1.1]
      exact hl _ (by omega)
    rw [gss, gss, ih (by omega), h2, vot_cg hP hl m (Nat.le_refl _)]
theorem gss_b {la P : Nat → Int} {m : Nat} {b0 b1 : Int} : ∀ k, 1 ≤ k → k ≤ m → gss la P m b0 k = gss la P m b1 k := by
  intro k
  induction k with
  | zero => intro h; omega
  | succ k ih =>
    intro _ hk
    by_cases g : k = 0
    · subst g
      have := vot_pos (la := la) (P := P) (lab := la (P 0).toNat) m 0 (by omega) rfl
      have e0 : ∀ b : Int, gss la P m b (0 + 1) = (la (P 0).toNat, vot la P (la (P 0).toNat) m) := fun b => by
        rw [gss]
        exact if_pos (show (0 : Int) < vot la P (la (P 0).toNat) m by omega)
      rw [e0, e0]
    · rw [gss, gss, ih (by omega) (by omega)]
theorem gss_rg {la P : Nat → Int} {m : Nat} {b0 : Int} (hm : m ≤ 12) : ∀ k : Nat, 0 ≤ (gss la P m b0 k).2 ∧ (gss la P m b0 k).2 ≤ 12 := by
  intro k
  induction k with
  | zero => simp [gss]
  | succ k ih =>
    have h2 := vot_rg (la := la) (P := P) (lab := la (P k).toNat) m
    rw [gss]
    split
    · dsimp only; omega
    · exact ih
/-- the places of a list are among the first K -/
def plk (K : Nat) (x : Lst) : Prop := ∀ k, k < x.1 → 0 ≤ x.2.1 k ∧ x.2.1 k < (K : Int)
theorem plk_wgh {n w wt K : Nat} {q r : Nat → Int} {x : Lst} (h : plk K x) : plk (K + 1) (wgh n w q r wt (K : Int) x) := by
  have h0 : plk (K + 1) x := fun k hk => by have := h k hk; omega
  unfold wgh
  split
  · exact h0
  · split
    · exact h0
    · split
      · exact h0
      · intro k hk
        dsimp only at hk ⊢
        have hs := scn_le x.2.2.1 (cst w q r (n - 1) (n - 1)) (min x.1 (wt - 1))
        unfold insF
        split
        · exact h0 k (by omega)
        · split
          · omega
          · split
            · exact h0 (k - 1) (by omega)
            · exact absurd hk (by omega)
theorem srch_all {n w wt : Nat} {q : Nat → Int} {rf : Nat → Nat → Int} {x : Lst} (hn : 2 ≤ n ∧ n ≤ 16) (hwt : 1 ≤ wt) (hq : vals n q) (h0 : x.1 = 0) (hl : lok wt x) (many : Nat) (hr : ∀ p, p < many → vals n (rf p)) : ∀ k, k ≤ many → lok wt (srch n w q rf wt x k) ∧ plk k (srch n w q rf wt x k) ∧ (1 ≤ k → 1 ≤ (srch n w q rf wt x k).1) := by
  intro k
  induction k with
  | zero => intro _; exact ⟨hl, fun k hk => by rw [srch, h0] at hk; omega, fun h => by omega⟩
  | succ k ih =>
    intro hk
    obtain ⟨h1, h2, h3⟩ := ih (by omega)
    have hc := cst_rg hq (hr k (by omega)) hn.2 (w := w) (i := n - 1) (j := n - 1) (by omega) (by omega) (by omega)
    rw [srch]
    refine ⟨lok_wgh hwt hc h1, plk_wgh h2, fun _ => ?_⟩
    generalize srch n w q rf wt x k = y at h1 h2 h3
    unfold wgh
    split
    · rename_i g; dsimp only; omega
    · split
      · rename_i g; dsimp only; omega
      · split
        · rename_i g; dsimp only; omega
        · dsimp only; omega
