/-! the law's own rows -/
abbrev wsL_law : List Cond := .tt :: WA
theorem lg_cmp_s {x y : Int64} (h : x = y) : lg_cmp x y = 0 := by
  subst h
  unfold lg_cmp
  have h1 : ¬ x > x := by
    rw [gt_iff_lt, Int64.lt_iff_toInt_lt]
    omega
  rw [if_neg h1, if_pos rfl]
theorem J_facts {σ : Sg} {μ : Mg} (hJ : J σ μ) : ((2 ≤ μ.1.2.1 ∧ μ.1.2.1 ≤ 16) ∧ μ.1.2.2.1 ≤ 15 ∧ μ.1.2.2.2.1 ≤ 12 ∧ μ.1.2.2.2.2.1 ≤ 64 ∧ μ.1.2.2.2.2.2.2 ≤ 12) ∧ (vals 16 μ.2.1 ∧ vals 192 μ.2.2.1 ∧ vals 64 μ.2.2.2.2.1) ∧ (rgA μ.2.2.2.2.2.2.1 ∧ rgA μ.2.2.2.2.2.2.2.2.2.1 ∧ rgA μ.2.2.2.1) := by
  obtain ⟨⟨⟨o1, o2, o3, o4⟩, ⟨v1, v2, v3, v4⟩, og, ol, ow⟩, ⟨e1, e2, e3, e4⟩, ⟨a1, a2, a3, a4⟩, hl, hg⟩ := hJ
  have h1 : σ.2.2.2.1 ≤ σ.2.2.2.2.1 := ol.1
  have h2 : σ.2.2.2.1 = μ.1.2.2.2.2.2.2 := hl.1
  exact ⟨⟨by omega, by omega, by omega, by omega, by omega⟩, ⟨a1.vals v1, a2.vals v2, a4.vals v4⟩, hg⟩
section ZLW
variable {p : Program} {l : Launch} {e : Env} {R : Room} {s : State} {m : MethodId} {args : Array Value} {below : List Frame} {meth : Method} {c : Code} {H : Heap} {locs : List Loc} {cells slots : Nat} {Q : State → Prop} {cc : ByteArray} {pc : Nat} {ls : Array Slot} {rest : List Value} {A : Nat → Prop} {H0 : Heap} {b L : Nat} {xs : Nat → Int32}
theorem z_sld (hx : p.tables.exec = Jvm.exec) (hb : c.code = cc) (hXs : va_X b L xs s H0) (hbl : b < H0.size) (hbA : ¬ A b) (hS : va_S A H0 H locs) {z v : Int} (k : Nat) (h : z = (k : Int) ∧ k < L ∧ L ≤ 2147483647) (hv : xs k = iI v) (hdg : decode cc pc = .ok (.iaload, 1))
    (kk : W p l e R s m args below meth c H locs cells slots Q (F0 m (pc + 1) ls (.int (iI v) :: rest))) : W p l e R s m args below meth c H locs cells slots Q (F0 m pc ls (.int (iI z) :: .ref b :: rest)) :=
  va_sld hx hb hXs hbl hbA hS (iI_in h) hdg (by rw [iI_cl h.1 (by omega), hv]; exact kk)
theorem z_slen (hx : p.tables.exec = Jvm.exec) (hb : c.code = cc) (hXs : va_X b L xs s H0) (hbl : b < H0.size) (hbA : ¬ A b) (hS : va_S A H0 H locs) (hdg : decode cc pc = .ok (.arraylength, 1))
    (kk : W p l e R s m args below meth c H locs cells slots Q (F0 m (pc + 1) ls (.int (iI (L : Int)) :: rest))) : W p l e R s m args below meth c H locs cells slots Q (F0 m pc ls (.ref b :: rest)) :=
  va_slen hx hb hXs hbl hbA hS hdg (by rw [iI_nat]; exact kk)
theorem z_lcmp (hx : p.tables.exec = Jvm.exec) (hb : c.code = cc) {x y : Int64} (h : x = y) (hdg : decode cc pc = .ok (.lcmp, 1))
    (k : W p l e R s m args below meth c H locs cells slots Q (F0 m (pc + 1) ls (.int (iI 0) :: rest))) : W p l e R s m args below meth c H locs cells slots Q (F0 m pc ls (.long y :: .long x :: rest)) :=
  W.lcmp hx hb hdg (by rw [lg_cmp_s h]; exact k)
end ZLW
