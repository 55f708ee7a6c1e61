/-! makings: arrays of ints, objects; the private constructors of the nest -/
def zZ : Nat → Int := fun _ => 0
theorem zZ_v (k : Nat) : zZ k = 0 := rfl
theorem iA_Z : iA zZ = fun _ => 0 := rfl
theorem ga_C {x : Cond} {y : MethodName} {cc : ByteArray} {n : Nat} {r : Option FieldType} (h5 : Cond.code y cc n r ∈ WA) : GoodIn (x :: WA) (.code y cc n r :: WA) := by
  intro w hw
  rcases List.mem_cons.mp hw with rfl | hw
  · exact ⟨List.mem_cons_of_mem _ h5, wa_good h5⟩
  · exact ⟨List.mem_cons_of_mem _ hw, wa_good hw⟩
def zM (U : State) : Prop := va_Nw (.methodLinkNest "WarpSearch" 37 ⟨"WarpSearch$Comparison", "<init>", "()V"⟩ "WarpSearch") U ∧ va_Nw (.methodLinkNest "WarpSearch" 44 ⟨"WarpSearch$Nearest", "<init>", "()V"⟩ "WarpSearch") U
theorem zM.same {u U : State} (h : u.vm = U.vm) (hZ : zM u) : zM U := ⟨va_Nw.same rfl h hZ.1, va_Nw.same rfl h hZ.2⟩
theorem zM.warm {s U : State} (hW : s.WarmedH U.vm) (hZ : zM s) : zM U := ⟨va_Nw.warmM hW hZ.1, va_Nw.warmM hW hZ.2⟩
def wmP (dC : Nat → ClassId) (dI : Nat → Nat → Nat) (tys : List (ClassId × FieldType)) (ws : va_W) (sz : Nat) (av : List Value) : Array Value → State → Prop :=
  va_Pc av (fun U => U.heap.size = sz ∧ va_P (dC, dI) vwCl ws U.heap ∧ va_K (dC, dI) vwCl tys U ∧ va_D (fun _ => True) ws ∧ zM U)
theorem wm_fb {dC : Nat → ClassId} {dI : Nat → Nat → Nat} {tys : List (ClassId × FieldType)} {ws : va_W} {sz : Nat} {av : List Value} : FrameBlind (wmP dC dI tys ws sz av) := by
  intro a U g mk q
  obtain ⟨q0, q1, qP, qK, qD, qN⟩ := q
  exact ⟨q0, q1, qP, va_K.moved (u := U) (U := U.calling g mk a) (Vm.Alike.refl U.vm) qK, qD, zM.same (u := U) rfl qN⟩
theorem wm_preS {dC : Nat → ClassId} {dI : Nat → Nat → Nat} {tys : List (ClassId × FieldType)} {ws wc : va_W} {H : Heap} {s : State} {As : List Value} {A : Nat → Prop} (hM : zM s) (hP : va_P (dC, dI) vwCl ws H) (hK : va_K (dC, dI) vwCl tys s) (hD : va_D A ws) (isC : List Nat) (hn : va_nd isC = true) (hC : isC.filterMap (fun i => ws[i]?) = wc) (hC2 : isC.map (fun i => ws[i]?) = wc.map some) : PreS s H (wmP dC dI tys wc H.size As) As :=
  ⟨wm_fb, fun U hU hW => ⟨rfl, by rw [hU], by rw [hU]; exact hP.sub isC hC, va_K.moved hW.alike hK, (hD.sub isC hn hC2).weaken (fun _ _ _ _ => trivial), hM.warm hW⟩⟩
section ZNEW
variable {p : Program} {l : Launch} {e : Env} {R : Room} {s : State} {m : MethodId} {args : Array Value} {below : List Frame} {meth : Method} {c : Code} {H : Heap} {locs : List Loc} {cells slots : Nat} {Q : State → Prop} {cc : ByteArray} {pc : Nat} {ls : Array Slot} {rest : List Value}
variable {D : va_G} {cl : List vw_C} {tys : List (ClassId × FieldType)} {ws : va_W} {A : Nat → Prop} {H0 : Heap} {cI : ClassId}
theorem z_newa {t0 : Nat} (hx : p.tables.exec = Jvm.exec) (hb : c.code = cc) (harr : (Cond.arrayClass .int).before args s = true) (hK : va_K D cl tys s) (ht : tys[t0]? = some (cI, .int)) (hP : va_P D cl ws H) (hD : va_D A ws) (hS : va_S A H0 H locs) (hA : ∀ q, H0.size ≤ q → A q) {z : Int} (N : Nat) (hz : z = (N : Int)) (hN : N ≤ 1000) (hcells : cells + 1 ≤ R.cells) (hslots : slots + N ≤ R.slots) (hdg : decode cc pc = .ok (.newarray .int, 2))
    (kk : ∀ (q : Nat) (H1 : Heap), va_P D cl (ws ++ [(q, .inl (cI, N, .inl (iA zZ)))]) H1 → va_D A (ws ++ [(q, .inl (cI, N, .inl (iA zZ)))]) → va_S A H0 H1 locs → W p l e R s m args below meth c H1 locs (cells + 1) (slots + N) Q (F0 m (pc + 2) ls (.ref q :: rest))) : W p l e R s m args below meth c H locs cells slots Q (F0 m pc ls (.int (iI z) :: rest)) := by
  refine va_newa (atype := .int) (ty := .int) (a0 := (N, .inl (iA zZ))) (N' := N) hx hb harr rfl hK hP hD hS hA (fun cA => ?_) ?_ (iI_cl hz (by omega)) (by show N * 4 ≤ 536870912; omega) hcells hslots hdg (fun q cA H1 hK1 hP1 hD1 hS1 => ?_)
  · rw [iA_Z]
    rfl
  · intro h
    rw [iI_0, iI_lt (by omega)] at h
    omega
  · have h1 := (hK.2 t0 _ ht).2
    have h2 := (hK1.2 tys.length (cA, .int) (by simp)).2
    have h3 : s.vm.findClass ("[" ++ FieldType.int.toString) = some cI := h1
    have h4 : s.vm.findClass ("[" ++ FieldType.int.toString) = some cA := h2
    have h5 : cA = cI := Option.some.inj (h4.symm.trans h3)
    subst h5
    exact kk q H1 hP1 hD1 hS1
end ZNEW
