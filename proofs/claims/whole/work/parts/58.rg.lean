theorem R_rg_begin {σ : Sg} {p0 z : Int} {u : Sg × (Nat → Int64)} (h : R_begin σ p0 z u) : 0 ≤ z ∧ z ≤ 2 := by
  unfold R_begin at h
  rcases h with h | h <;> (have h1 := h.1; clear h; omega)
theorem R_rg_ask {σ : Sg} {p0 p1 z : Int} {u : Sg × (Nat → Int64)} (h : R_ask σ p0 p1 z u) : 0 ≤ z ∧ z ≤ 2 := by
  unfold R_ask at h
  rcases h with h | h | h <;> (have h1 := h.1; clear h; omega)
theorem R_rg_keep {σ : Sg} {p0 z : Int} {u : Sg × (Nat → Int64)} (h : R_keep σ p0 z u) : 0 ≤ z ∧ z ≤ 2 := by
  unfold R_keep at h
  rcases h with h | h | h <;> (have h1 := h.1; clear h; omega)
theorem R_rg_recall {σ : Sg} {p0 z : Int} {u : Sg × (Nat → Int64)} (h : R_recall σ p0 z u) : 0 ≤ z ∧ z ≤ 2 := by
  unfold R_recall at h
  rcases h with h | h <;> (have h1 := h.1; clear h; omega)
theorem R_rg_band {σ : Sg} {p0 z : Int} {u : Sg × (Nat → Int64)} (h : R_band σ p0 z u) : 0 ≤ z ∧ z ≤ 2 := by
  unfold R_band at h
  rcases h with h | h <;> (have h1 := h.1; clear h; omega)
theorem R_rg_distance {σ : Sg} {p0 z : Int} {u : Sg × (Nat → Int64)} (h : R_distance σ p0 z u) : 0 ≤ z ∧ z ≤ 2 := by
  unfold R_distance at h
  rcases h with h | h <;> (have h1 := h.1; clear h; omega)
theorem R_rg_bound {σ : Sg} {p0 p1 z : Int} {u : Sg × (Nat → Int64)} (h : R_bound σ p0 p1 z u) : 0 ≤ z ∧ z ≤ 2 := by
  unfold R_bound at h
  rcases h with h | h | h <;> (have h1 := h.1; clear h; omega)
theorem R_rg_steps {σ : Sg} {p0 z : Int} {u : Sg × (Nat → Int64)} (h : R_steps σ p0 z u) : 0 ≤ z ∧ z ≤ 2 := by
  unfold R_steps at h
  rcases h with h | h <;> (have h1 := h.1; clear h; omega)
theorem R_rg_pair {σ : Sg} {p0 p1 z : Int} {u : Sg × (Nat → Int64)} (h : R_pair σ p0 p1 z u) : 0 ≤ z ∧ z ≤ 2 := by
  unfold R_pair at h
  rcases h with h | h <;> (have h1 := h.1; clear h; omega)
theorem R_rg_search {σ : Sg} {p0 z : Int} {u : Sg × (Nat → Int64)} (h : R_search σ p0 z u) : 0 ≤ z ∧ z ≤ 2 := by
  unfold R_search at h
  rcases h with h | h | h <;> (have h1 := h.1; clear h; omega)
theorem R_rg_found {σ : Sg} {p0 b9 z : Int} {u : Sg × (Nat → Int64)} (h : R_found σ p0 b9 z u) : 0 ≤ z ∧ z ≤ 2 := by
  unfold R_found at h
  rcases h with h | h <;> (have h1 := h.1; clear h; omega)
theorem R_rg_guess {σ : Sg} {p0 z : Int} {u : Sg × (Nat → Int64)} (h : R_guess σ p0 z u) : 0 ≤ z ∧ z ≤ 2 := by
  unfold R_guess at h
  rcases h with h | h | h <;> (have h1 := h.1; clear h; omega)
theorem R_rg_count {σ : Sg} {p0 z : Int} {u : Sg × (Nat → Int64)} (h : R_count σ p0 z u) : 0 ≤ z ∧ z ≤ 2 := by
  unfold R_count at h
  rcases h with h | h <;> (have h1 := h.1; clear h; omega)
theorem R_rg_push {σ : Sg} {p0 z : Int} {u : Sg × (Nat → Int64)} (h : R_push σ p0 z u) : 0 ≤ z ∧ z ≤ 2 := by
  unfold R_push at h
  rcases h with h | h | h <;> (have h1 := h.1; clear h; omega)
theorem R_rg_scan {σ : Sg} {p0 z : Int} {u : Sg × (Nat → Int64)} (h : R_scan σ p0 z u) : 0 ≤ z ∧ z ≤ 2 := by
  unfold R_scan at h
  rcases h with h | h | h <;> (have h1 := h.1; clear h; omega)
theorem R_rg_shift {σ : Sg} {p0 z : Int} {u : Sg × (Nat → Int64)} (h : R_shift σ p0 z u) : 0 ≤ z ∧ z ≤ 2 := by
  unfold R_shift at h
  rcases h with h | h <;> (have h1 := h.1; clear h; omega)
