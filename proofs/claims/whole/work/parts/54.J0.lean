/-! what the law's loop keeps between the class and the reference -/
abbrev Mg : Type := (Int × Nat × Nat × Nat × Nat × Nat × Nat) × (Fn × Fn × Fn × Fn × Fn × Fn × Fn × Fn × Fn × Fn)
def sL (σ : Sg) : Lst := (σ.2.2.2.1, σ.2.2.2.2.2.1, σ.2.2.2.2.2.2.1, σ.2.2.2.2.2.2.2)
def mL (μ : Mg) : Lst := (μ.1.2.2.2.2.2.2, μ.2.2.2.2.2.2.2.2.1, μ.2.2.2.2.2.2.2.2.2.1, μ.2.2.2.2.2.2.2.2.2.2)
def J (σ : Sg) (μ : Mg) : Prop := okS σ ∧ (μ.1.2.1 = σ.1.1 ∧ μ.1.2.2.1 = σ.1.2.1 ∧ μ.1.2.2.2.1 = σ.1.2.2.1 ∧ μ.1.2.2.2.2.1 = σ.1.2.2.2) ∧ (agr 16 σ.2.1.1 μ.2.1 ∧ agr 192 σ.2.1.2.1 μ.2.2.1 ∧ agr 12 σ.2.1.2.2.1 μ.2.2.2.1 ∧ agr 64 σ.2.1.2.2.2 μ.2.2.2.2.1) ∧ lsim (sL σ) (mL μ) ∧ (rgA μ.2.2.2.2.2.2.1 ∧ rgA μ.2.2.2.2.2.2.2.2.2.1 ∧ rgA μ.2.2.2.1)
theorem J_s {σ : Sg} {μ : Mg} {u : Sg × (Nat → Int64)} (hJ : J σ μ) (h : scr σ u) : J u.1 μ := by
  obtain ⟨⟨⟨A, B, C, D⟩, g⟩, h1, h2, h3, h4⟩ : ∃ u' : Sg × (Nat → Int64), u'.1.1 = σ.1 ∧ u'.1.2.1 = σ.2.1 ∧ u'.1.2.2.2 = σ.2.2.2 ∧ rgA u'.1.2.2.1.2.2.2.2.2.1 ∧ u' = u := ⟨u, h.1, h.2.1, h.2.2.1, h.2.2.2, rfl⟩
  obtain ⟨h4, rfl⟩ := h4
  dsimp only at h1 h2 h3 h4
  subst h1; subst h2; subst h3
  obtain ⟨⟨o1, o2, o3, o4, o5⟩, j2, j3, j4, j5⟩ := hJ
  exact ⟨⟨o1, o2, h4, o4, o5⟩, j2, j3, j4, j5⟩
theorem J_m {σ : Sg} {μ : Mg} (hJ : J σ μ) (cd : Int) (r G P : Fn) (hG : rgA G) : J σ ((cd, μ.1.2), (μ.2.1, μ.2.2.1, μ.2.2.2.1, μ.2.2.2.2.1, r, G, P, μ.2.2.2.2.2.2.2.2)) := by
  obtain ⟨j1, j2, j3, j4, j5⟩ := hJ
  exact ⟨j1, j2, j3, j4, ⟨hG, j5.2⟩⟩
theorem agr.le {n N : Nat} {q q' : Nat → Int} (h : agr N q q') (hn : n ≤ N) : agr n q q' := fun a ha => h a (by omega)
theorem agr_u {N : Nat} {q q' : Nat → Int} (h : agr N q q') (k : Nat) (v : Int) : agr N (zU q k v) (zU q' k v) := by
  intro a ha
  by_cases e : a = k
  · subst e
    rw [zU_s, zU_s]
  · rw [zU_n e, zU_n e]
    exact h a ha
theorem agr_F {N : Nat} {q q' : Nat → Int} (h : agr N q q') (k : Nat) (v : Int) : agr N (zF q k v) (zF q' k v) := by
  intro a ha
  unfold zF
  split
  · rfl
  · exact h a ha
theorem agr_C {N M : Nat} {F F' G G' : Nat → Int} (hF : agr M F F') (hG : agr N G G') {sp dp n : Nat} (h : sp + n ≤ M) : agr N (zC F G sp dp n) (zC F' G' sp dp n) := by
  intro a ha
  unfold zC
  split
  · exact hF _ (by omega)
  · exact hG a ha
theorem agr_rw {X X' r : Nat → Int} {k n : Nat} (h : agr 192 X X') (hk : 16 * k + n ≤ 192) : agr n (fun j9 => X (16 * k + j9)) (zC X' r (16 * k) 0 n) := by
  intro a ha
  have h1 := (agr_c (x := X') (q := r) (n := n) (f0 := 16 * k)) a ha
  rw [h1]
  exact h _ (by omega)
theorem vals_u {N : Nat} {q : Nat → Int} (h : vals N q) {k : Nat} {v : Int} (hv : -1000 ≤ v ∧ v ≤ 1000) : vals N (zU q k v) := by
  intro a ha
  by_cases e : a = k
  · subst e
    rw [zU_s]
    exact hv
  · rw [zU_n e]
    exact h a ha
theorem vals_F {N : Nat} {q : Nat → Int} (h : vals N q) (k : Nat) : vals N (zF q k 0) := by
  intro a ha
  unfold zF
  split
  · omega
  · exact h a ha
theorem vals_C {N M : Nat} {F G : Nat → Int} (hF : vals M F) (hG : vals N G) {sp dp n : Nat} (h : sp + n ≤ M) : vals N (zC F G sp dp n) := by
  intro a ha
  unfold zC
  split
  · exact hF _ (by omega)
  · exact hG a ha
theorem srch_sim {n w wt : Nat} {q q' : Nat → Int} {rf rf' : Nat → Nat → Int} {x y : Lst} (hn : 2 ≤ n ∧ n ≤ 16) (hwt : 1 ≤ wt) (hvq : vals n q) (many : Nat) (hvr : ∀ p, p < many → vals n (rf p)) (hq : agr n q q') (hr : ∀ p, p < many → agr n (rf p) (rf' p)) (h0 : x.1 = 0) (hl : lok wt x) (h : lsim x y) : ∀ k, k ≤ many → lsim (srch n w q rf wt x k) (srch n w q' rf' wt y k) := by
  intro k
  induction k with
  | zero => intro _; exact h
  | succ k ih =>
    intro hk
    have h1 := ih (by omega)
    have h2 := (srch_all (w := w) hn hwt hvq h0 hl many hvr k (by omega)).1.1
    rw [srch, srch, ← wgh_cg (by omega) hq (hr k (by omega))]
    exact lsim_wgh hwt h2 h1
