/-! the state of the class as a whole, and of the reference; what the law keeps -/
abbrev Fn : Type := Nat → Int
/-- (n, w, rows, numbers in the stream), (question, rows, labels, stream), the comparison's own, the list and the counts -/
abbrev Sg : Type := (Nat × Nat × Nat × Nat) × (Fn × Fn × Fn × Fn) × (Int × Nat × Nat × Fn × Fn × Fn × Fn) × (Nat × Nat × Fn × Fn × Fn)
def okS (σ : Sg) : Prop := ((2 ≤ σ.1.1 ∧ σ.1.1 ≤ 16) ∧ σ.1.2.1 ≤ 15 ∧ σ.1.2.2.1 ≤ 12 ∧ σ.1.2.2.2 ≤ 64) ∧ (vals 16 σ.2.1.1 ∧ vals 192 σ.2.1.2.1 ∧ rgA σ.2.1.2.2.1 ∧ vals 64 σ.2.1.2.2.2) ∧ rgA σ.2.2.1.2.2.2.2.2.1 ∧ lok σ.2.2.2.2.1 (σ.2.2.2.1, σ.2.2.2.2.2.1, σ.2.2.2.2.2.2.1, σ.2.2.2.2.2.2.2) ∧ (1 ≤ σ.2.2.2.2.1 ∧ σ.2.2.2.2.1 ≤ 12)
def zNc (U : State) : Prop := va_Nc xIA xIO U ∧ va_Nc xIS xIA U
theorem zNc.moved {u U : State} (h : u.vm.Alike U.vm) (hZ : zNc u) : zNc U := ⟨va_Nc.moved h hZ.1, va_Nc.moved h hZ.2⟩
def wlP (dC : Nat → ClassId) (dI : Nat → Nat → Nat) (tys : List (ClassId × FieldType)) (ws : va_W) (sz : Nat) (av : List Value) : Array Value → State → Prop :=
  va_Pc av (fun U => U.heap.size = sz ∧ va_P (dC, dI) vwCl ws U.heap ∧ va_K (dC, dI) vwCl tys U ∧ va_D (fun _ => True) ws ∧ zX (va_A ws sz) U ∧ zNc U)
theorem wl_fb {dC : Nat → ClassId} {dI : Nat → Nat → Nat} {tys : List (ClassId × FieldType)} {ws : va_W} {sz : Nat} {av : List Value} : FrameBlind (wlP dC dI tys ws sz av) := by
  intro a U g mk q
  obtain ⟨q0, q1, qP, qK, qD, qN, qC⟩ := q
  exact ⟨q0, q1, qP, va_K.moved (u := U) (U := U.calling g mk a) (Vm.Alike.refl U.vm) qK, qD, qN.calling, zNc.moved (u := U) (U := U.calling g mk a) (Vm.Alike.refl U.vm) qC⟩
theorem wl_preS {dC : Nat → ClassId} {dI : Nat → Nat → Nat} {tys : List (ClassId × FieldType)} {ws wc : va_W} {H : Heap} {s : State} {As : List Value} {A : Nat → Prop} {locs : List Loc} (hX : zX A s) (hC6 : zNc s) (hP : va_P (dC, dI) vwCl ws H) (hK : va_K (dC, dI) vwCl tys s) (hD : va_D A ws) (hS : va_S A s.heap H locs) (hA : ∀ q, s.heap.size ≤ q → A q) (isC : List Nat) (hn : va_nd isC = true) (hC : isC.filterMap (fun i => ws[i]?) = wc) (hC2 : isC.map (fun i => ws[i]?) = wc.map some) : PreS s H (wlP dC dI tys wc H.size As) As :=
  ⟨wl_fb, fun U hU hW => ⟨rfl, by rw [hU], by rw [hU]; exact hP.sub isC hC, va_K.moved hW.alike hK, (hD.sub isC hn hC2).weaken (fun _ _ _ _ => trivial), hX.go hW hU hS (va_free hD hS hA isC hC2), zNc.moved hW.alike hC6⟩⟩
theorem ga_W {x : Cond} {own : String} {index : Nat} {y : MethodName} {cc : ByteArray} {n : Nat} {r : Option FieldType} {hh : List (Nat × Nat × Nat × Nat)} (h2 : Cond.methodLink own index y ∈ WA) (h3 : Cond.static y ∈ WA) (h1 : Cond.initialized y.cls ∈ WA) (h5 : Cond.codeWith y cc n r hh ∈ WA) : GoodIn (x :: WA) (va_wsS own index y (.codeWith y cc n r hh :: WA)) := by
  have key : ∀ w ∈ va_wsS own index y (.codeWith y cc n r hh :: WA), w ∈ WA := by
    intro w hw
    simp only [va_wsS, List.mem_append, List.mem_cons, List.not_mem_nil, or_false] at hw
    rcases hw with (rfl | rfl | rfl) | rfl | hw
    · exact h2
    · exact h3
    · exact h1
    · exact h5
    · exact hw
  exact fun w hw => ⟨List.mem_cons_of_mem _ (key w hw), wa_good (key w hw)⟩
section ZLG
variable {p : Program} {l : Launch} {e : Env} {R : Room} {s : State} {m : MethodId} {args : Array Value} {below : List Frame} {meth : Method} {c : Code} {H : Heap} {locs : List Loc} {cells slots : Nat} {Q : State → Prop} {cc : ByteArray} {pc : Nat} {ls : Array Slot} {rest : List Value}
variable {D : va_G} {cl : List vw_C} {tys : List (ClassId × FieldType)} {ws : va_W} {A : Nat → Prop} {H0 : Heap} {a : Nat} {cA : ClassId} {n : Nat} {f : Nat → Int64}
theorem z_last (hx : p.tables.exec = Jvm.exec) (hb : c.code = cc) (hK : va_K D cl tys s) (hP : va_P D cl ws H) (hD : va_D A ws) (hS : va_S A H0 H locs) (q0 t0 : Nat) (ha : ws[q0]? = some (a, .inl (cA, n, .inr (.inl f)))) (ht : tys[t0]? = some (cA, .long)) {z : Int} {x : Int64} (k : Nat) (h : z = (k : Int) ∧ k < n ∧ n ≤ 2147483647) (hdg : decode cc pc = .ok (.lastore, 1))
    (kk : ∀ (H1 : Heap) (locs1 : List Loc), va_P D cl (ws.set q0 (a, .inl (cA, n, .inr (.inl (vp_updL f k x))))) H1 → va_D A (ws.set q0 (a, .inl (cA, n, .inr (.inl (vp_updL f k x))))) → va_S A H0 H1 locs1 → W p l e R s m args below meth c H1 locs1 cells slots Q (F0 m (pc + 1) ls rest)) : W p l e R s m args below meth c H locs cells slots Q (F0 m pc ls (.long x :: .int (iI z) :: .ref a :: rest)) :=
  va_last hx hb hK hP hD hS q0 t0 ha ht (iI_in h) hdg (by rw [iI_cl h.1 (by omega)]; exact kk)
theorem z_lald (hx : p.tables.exec = Jvm.exec) (hb : c.code = cc) (hK : va_K D cl tys s) (hP : va_P D cl ws H) (q0 t0 : Nat) (ha : ws[q0]? = some (a, .inl (cA, n, .inr (.inl f)))) (ht : tys[t0]? = some (cA, .long)) {z : Int} (k : Nat) (h : z = (k : Int) ∧ k < n ∧ n ≤ 2147483647) (hdg : decode cc pc = .ok (.laload, 1))
    (kk : W p l e R s m args below meth c H locs cells slots Q (F0 m (pc + 1) ls (.long (f k) :: rest))) : W p l e R s m args below meth c H locs cells slots Q (F0 m pc ls (.int (iI z) :: .ref a :: rest)) :=
  va_lald hx hb hK hP q0 t0 ha ht (iI_in h) hdg (by rw [iI_cl h.1 (by omega)]; exact kk)
end ZLG
theorem upL_s {f : Nat → Int64} {k : Nat} {x : Int64} : vp_updL f k x k = x := by simp [vp_updL]
