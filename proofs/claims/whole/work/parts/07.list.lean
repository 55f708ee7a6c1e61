/-! the list of a search: where a cost goes in, what the rows are then -/
def scn (D : Nat → Int) (d : Int) : Nat → Nat
  | 0 => 0
  | a + 1 => if d < D a then scn D d a else a + 1
def shf (F : Nat → Int) (a st : Nat) : Nat → Int := fun k => if k ≤ a then F k else if k ≤ st then F (k - 1) else F k
def insF (F : Nat → Int) (a st : Nat) (v : Int) : Nat → Int := fun k => if k < a then F k else if k = a then v else if k ≤ st then F (k - 1) else F k
theorem shf_0 (F : Nat → Int) (st : Nat) : shf F st st = F := by
  funext k
  unfold shf
  split
  · rfl
  · rfl
theorem shf_step {F : Nat → Int} {a st : Nat} (h1 : 1 ≤ a) (h2 : a ≤ st) : zU (shf F a st) a (shf F a st (a - 1)) = shf F (a - 1) st := by
  funext k
  unfold zU
  by_cases e : k = a
  · subst e
    rw [if_pos rfl]
    unfold shf
    rw [if_pos (by omega), if_neg (by omega), if_pos (by omega)]
  · rw [if_neg e]
    unfold shf
    by_cases g : k ≤ a
    · rw [if_pos g, if_pos (show k ≤ a - 1 by omega)]
    · rw [if_neg g, if_neg (show ¬ k ≤ a - 1 by omega)]
theorem shf_end {F : Nat → Int} {a st : Nat} {v : Int} : zU (shf F a st) a v = insF F a st v := by
  funext k
  unfold zU insF
  by_cases e : k = a
  · subst e
    rw [if_pos rfl, if_neg (by omega), if_pos rfl]
  · rw [if_neg e]
    unfold shf
    by_cases g : k < a
    · rw [if_pos (by omega), if_pos g]
    · rw [if_neg (by omega), if_neg g, if_neg e]
theorem shf_at {F : Nat → Int} {a st : Nat} (h : 1 ≤ a) : shf F a st (a - 1) = F (a - 1) := by
  unfold shf
  rw [if_pos (by omega)]
theorem scn_le (D : Nat → Int) (d : Int) : ∀ a, scn D d a ≤ a := by
  intro a
  induction a with
  | zero => exact Nat.le_refl _
  | succ a ih =>
    rw [scn]
    split
    · omega
    · exact Nat.le_refl _
theorem scn_on {D : Nat → Int} {d : Int} {a : Nat} (h1 : 1 ≤ a) (h : d < D (a - 1)) : scn D d a = scn D d (a - 1) := by
  cases a with
  | zero => omega
  | succ a =>
    rw [scn, if_pos (by simpa using h)]
    rfl
theorem scn_stop {D : Nat → Int} {d : Int} {a : Nat} (h : a = 0 ∨ D (a - 1) ≤ d) : scn D d a = a := by
  cases a with
  | zero => rfl
  | succ a =>
    rw [scn, if_neg]
    rcases h with h | h
    · omega
    · have h2 : D a ≤ d := by simpa using h
      omega
/-! copies and fills, a place at a time -/
def zF (F : Nat → Int) (n : Nat) (v : Int) : Nat → Int := fun k => if k < n then v else F k
theorem zF_0 (F : Nat → Int) (v : Int) : zF F 0 v = F := by
  funext k
  simp [zF]
theorem zF_step {F : Nat → Int} {i : Nat} {v : Int} : zU (zF F i v) i v = zF F (i + 1) v := by
  funext k
  unfold zU zF
  by_cases e : k = i
  · rw [if_pos e, if_pos (by omega)]
  · rw [if_neg e]
    by_cases g : k < i
    · rw [if_pos g, if_pos (by omega)]
    · rw [if_neg g, if_neg (by omega)]
theorem zC_0 (F G : Nat → Int) (sp dp : Nat) : zC F G sp dp 0 = G := by
  funext k
  unfold zC
  rw [if_neg (by omega)]
theorem zC_step0 {F G : Nat → Int} {sp i : Nat} : zU (zC F G sp 0 i) i (F (sp + i)) = zC F G sp 0 (i + 1) := by
  funext k
  unfold zU zC
  by_cases e : k = i
  · subst e
    rw [if_pos rfl, if_pos (by omega)]
    rfl
  · rw [if_neg e]
    by_cases g : k < i
    · rw [if_pos (by omega), if_pos (by omega)]
    · rw [if_neg (by omega), if_neg (by omega)]
theorem zC_stepD {F G : Nat → Int} {dp i : Nat} : zU (zC F G 0 dp i) (dp + i) (F i) = zC F G 0 dp (i + 1) := by
  funext k
  unfold zU zC
  by_cases e : k = dp + i
  · subst e
    rw [if_pos rfl, if_pos (by omega)]
    congr 1
    omega
  · rw [if_neg e]
    by_cases g : dp ≤ k ∧ k < dp + i
    · rw [if_pos g, if_pos (by omega)]
    · rw [if_neg g, if_neg (by omega)]
/-- one array, copied down in itself -/
theorem zC_self {F : Nat → Int} {sp i : Nat} : zC F F sp 0 i (i + sp) = F (sp + i) := by
  unfold zC
  by_cases g : i + sp < i
  · omega
  · rw [if_neg (by omega)]
    congr 1
    omega
