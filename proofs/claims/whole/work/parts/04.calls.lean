/-! contracts and calls in a short form: a method that only reads ('rd'), a method that writes ('wr') -/
def rdP (dC : Nat → ClassId) (dI : Nat → Nat → Nat) (tys : List (ClassId × FieldType)) (ws : va_W) (av : List Value) : Array Value → State → Prop :=
  va_Pc av (fun U => va_P (dC, dI) vwCl ws U.heap ∧ va_K (dC, dI) vwCl tys U)
def wrP (dC : Nat → ClassId) (dI : Nat → Nat → Nat) (tys : List (ClassId × FieldType)) (ws : va_W) (sz : Nat) (av : List Value) : Array Value → State → Prop :=
  va_Pc av (fun U => U.heap.size = sz ∧ va_P (dC, dI) vwCl ws U.heap ∧ va_K (dC, dI) vwCl tys U ∧ va_D (fun _ => True) ws)
def rdQ (post : Int → Prop) : Array Value → State → Outcome → State → Prop := vp_Si (fun r => ∃ z : Int, r = iI z ∧ post z)
def wrB (dC : Nat → ClassId) (dI : Nat → Nat → Nat) (tys : List (ClassId × FieldType)) (A : Nat → Prop) {S : Type} (wf : S → va_W) (u : S) (t : State) : Prop :=
  va_P (dC, dI) vwCl (wf u) t.heap ∧ va_K (dC, dI) vwCl tys t ∧ va_D A (wf u)
def wrQv (dC : Nat → ClassId) (dI : Nat → Nat → Nat) (tys : List (ClassId × FieldType)) (ws : va_W) (sz : Nat) {S : Type} (post : S → Prop) (wf : S → va_W) : Array Value → State → Outcome → State → Prop :=
  va_Qv post (wrB dC dI tys (va_A ws sz) wf) (va_A ws sz)
def wrQi (dC : Nat → ClassId) (dI : Nat → Nat → Nat) (tys : List (ClassId × FieldType)) (ws : va_W) (sz : Nat) {S : Type} (post : Int → S → Prop) (wf : S → va_W) : Array Value → State → Outcome → State → Prop :=
  va_Qi (fun r u => ∃ z : Int, r = iI z ∧ post z u) (wrB dC dI tys (va_A ws sz) wf) (va_A ws sz)
theorem rd_fb {dC : Nat → ClassId} {dI : Nat → Nat → Nat} {tys : List (ClassId × FieldType)} {ws : va_W} {av : List Value} : FrameBlind (rdP dC dI tys ws av) := by
  intro a U g mk q
  obtain ⟨q0, qP, qK⟩ := q
  exact ⟨q0, qP, va_K.moved (u := U) (U := U.calling g mk a) (Vm.Alike.refl U.vm) qK⟩
theorem wr_fb {dC : Nat → ClassId} {dI : Nat → Nat → Nat} {tys : List (ClassId × FieldType)} {ws : va_W} {sz : Nat} {av : List Value} : FrameBlind (wrP dC dI tys ws sz av) := by
  intro a U g mk q
  obtain ⟨q0, q1, qP, qK, qD⟩ := q
  exact ⟨q0, q1, qP, va_K.moved (u := U) (U := U.calling g mk a) (Vm.Alike.refl U.vm) qK, qD⟩
section ZP
variable {dC : Nat → ClassId} {dI : Nat → Nat → Nat} {tys : List (ClassId × FieldType)} {ws wc wr : va_W} {H : Heap} {s : State} {As : List Value} {A : Nat → Prop}
theorem rd_preS (hP : va_P (dC, dI) vwCl ws H) (hK : va_K (dC, dI) vwCl tys s) (isC : List Nat) (hC : isC.filterMap (fun i => ws[i]?) = wc) : PreS s H (rdP dC dI tys wc As) As :=
  ⟨rd_fb, fun U hU hW => ⟨rfl, by rw [hU]; exact hP.sub isC hC, va_K.moved hW.alike hK⟩⟩
theorem rd_preV {b ci q0 : Nat} {fs : List Value} {C : String} {T : u_T} {N : Nat} (hP : va_P (dC, dI) vwCl ws H) (hK : va_K (dC, dI) vwCl tys s) (isC : List Nat) (hC : isC.filterMap (fun i => ws[i]?) = wc) (he : wc[q0]? = some (b, .inr (ci, fs))) (hc : vwCl[ci]? = some (C, T, N)) : PreV s H C b (rdP dC dI tys wc (.ref b :: As)) As :=
  ⟨rd_fb, va_recv hK (hP.sub isC hC) hc he, fun U hU hW => ⟨rfl, by rw [hU]; exact hP.sub isC hC, va_K.moved hW.alike hK⟩⟩
theorem wr_preS (hP : va_P (dC, dI) vwCl ws H) (hK : va_K (dC, dI) vwCl tys s) (hD : va_D A ws) (isC : List Nat) (hn : va_nd isC = true) (hC : isC.filterMap (fun i => ws[i]?) = wc) (hC2 : isC.map (fun i => ws[i]?) = wc.map some) : PreS s H (wrP dC dI tys wc H.size As) As :=
  ⟨wr_fb, fun U hU hW => ⟨rfl, by rw [hU], by rw [hU]; exact hP.sub isC hC, va_K.moved hW.alike hK, (hD.sub isC hn hC2).weaken (fun _ _ _ _ => trivial)⟩⟩
theorem wr_preV {b ci q0 : Nat} {fs : List Value} {C : String} {T : u_T} {N : Nat} (hP : va_P (dC, dI) vwCl ws H) (hK : va_K (dC, dI) vwCl tys s) (hD : va_D A ws) (isC : List Nat) (hn : va_nd isC = true) (hC : isC.filterMap (fun i => ws[i]?) = wc) (hC2 : isC.map (fun i => ws[i]?) = wc.map some) (he : wc[q0]? = some (b, .inr (ci, fs))) (hc : vwCl[ci]? = some (C, T, N)) : PreV s H C b (wrP dC dI tys wc H.size (.ref b :: As)) As :=
  ⟨wr_fb, va_recv hK (hP.sub isC hC) hc he, fun U hU hW => ⟨rfl, by rw [hU], by rw [hU]; exact hP.sub isC hC, va_K.moved hW.alike hK, (hD.sub isC hn hC2).weaken (fun _ _ _ _ => trivial)⟩⟩
end ZP
section ZC
variable {p : Program} {l : Launch} {e : Env} {R : Room} {s : State} {m : MethodId} {args : Array Value} {below : List Frame} {meth : Method} {c : Code} {H : Heap} {locs : List Loc} {cells slots : Nat} {Q : State → Prop} {pc : Nat} {ls : Array Slot} {rest st0 : List Value} {a : Array Value} {A0 : Nat → Prop} {H0 : Heap} {mc ms : Nat}
variable {dC : Nat → ClassId} {dI : Nat → Nat → Nat} {tys : List (ClassId × FieldType)} {ws wc wr : va_W}
/-- a call that only reads: an int comes -/
theorem zr_i {post : Int → Prop} (hr : va_Run p l e R s m args below meth c H locs cells slots 0 0 (F0 m pc ls st0) rest (rdQ post a) (fun _ => False))
    (kk : ∀ z : Int, post z → W p l e R s m args below meth c H locs cells slots Q (F0 m (pc + 3) ls (.int (iI z) :: rest))) : W p l e R s m args below meth c H locs cells slots Q (F0 m pc ls st0) := by
  refine vp_callSi (va_Run.run hr) (fun r q => ?_)
  obtain ⟨z, rfl, hz⟩ := q
  exact kk z hz
/-- a call that writes: the callee's cells are cut out, what comes back stands behind the rest -/
theorem zw_v {S : Type} {post : S → Prop} {wf : S → va_W} (hr : va_Run p l e R s m args below meth c H locs cells slots mc ms (F0 m pc ls st0) rest (wrQv dC dI tys wc H.size post wf a) (va_A wc H.size))
    (hP : va_P (dC, dI) vwCl ws H) (hD : va_D A0 ws) (hS : va_S A0 H0 H locs) (hA : ∀ q, H0.size ≤ q → A0 q) (isC isR : List Nat) (hC : isC.map (fun i => ws[i]?) = wc.map some) (hR : isR.map (fun i => ws[i]?) = wr.map some) (hn : va_nd isR = true) (hdis : ∀ i ∈ isR, i ∉ isC)
    (kk : ∀ (u : S) (H1 : Heap) (locs1 : List Loc), post u → va_P (dC, dI) vwCl (wr ++ wf u) H1 → va_D A0 (wr ++ wf u) → va_S A0 H0 H1 locs1 → W p l e R s m args below meth c H1 locs1 (cells + mc) (slots + ms) Q (F0 m (pc + 3) ls rest)) : W p l e R s m args below meth c H locs cells slots Q (F0 m pc ls st0) := by
  have hFc := va_free (wc := wc) hD hS hA isC hC
  refine va_callv hr hS (fun q _ h => hFc q h) hFc (fun u t H1 locs1 ht hvm hw hB hz1 hk1 hS => ?_)
  obtain ⟨hP1, hK1, hD1⟩ := hB
  rw [ht] at hP1
  obtain ⟨hP2, hD2⟩ := va_join (wr := wr) hP hD isC isR hC hR hn hdis hk1 hFc hP1 hD1
  exact kk u H1 locs1 hw hP2 hD2 hS
theorem zw_i {S : Type} {post : Int → S → Prop} {wf : S → va_W} (hr : va_Run p l e R s m args below meth c H locs cells slots mc ms (F0 m pc ls st0) rest (wrQi dC dI tys wc H.size post wf a) (va_A wc H.size))
    (hP : va_P (dC, dI) vwCl ws H) (hD : va_D A0 ws) (hS : va_S A0 H0 H locs) (hA : ∀ q, H0.size ≤ q → A0 q) (isC isR : List Nat) (hC : isC.map (fun i => ws[i]?) = wc.map some) (hR : isR.map (fun i => ws[i]?) = wr.map some) (hn : va_nd isR = true) (hdis : ∀ i ∈ isR, i ∉ isC)
    (kk : ∀ (z : Int) (u : S) (H1 : Heap) (locs1 : List Loc), post z u → va_P (dC, dI) vwCl (wr ++ wf u) H1 → va_D A0 (wr ++ wf u) → va_S A0 H0 H1 locs1 → W p l e R s m args below meth c H1 locs1 (cells + mc) (slots + ms) Q (F0 m (pc + 3) ls (.int (iI z) :: rest))) : W p l e R s m args below meth c H locs cells slots Q (F0 m pc ls st0) := by
  have hFc := va_free (wc := wc) hD hS hA isC hC
  refine va_calli hr hS (fun q _ h => hFc q h) hFc (fun r u t H1 locs1 ht hvm hw hB hz1 hk1 hS => ?_)
  obtain ⟨z, rfl, hw⟩ := hw
  obtain ⟨hP1, hK1, hD1⟩ := hB
  rw [ht] at hP1
  obtain ⟨hP2, hD2⟩ := va_join (wr := wr) hP hD isC isR hC hR hn hdis hk1 hFc hP1 hD1
  exact kk z u H1 locs1 hw hP2 hD2 hS
theorem z_ldc {cc : ByteArray} (hx : p.tables.exec = Jvm.exec) (hb : c.code = cc) {own : String} {index : Nat} {v : Int32} (z : Int) (hown : s.vm.findClass own = some m.cls) (hconst : (Jvm.Cond.constant own index v).before args s = true) (hv : v = iI z) (hdg : decode cc pc = .ok (.ldc index, 2)) (k : W p l e R s m args below meth c H locs cells slots Q (F0 m (pc + 2) ls (.int (iI z) :: rest))) : W p l e R s m args below meth c H locs cells slots Q (F0 m pc ls rest) := lv_ldc hx hb hown hconst hdg (hv ▸ k)
/-- the end of a method that only reads -/
theorem zr_ret {cc : ByteArray} {post : Int → Prop} {z : Int} (hx : p.tables.exec = Jvm.exec) (hb : c.code = cc) (hr : meth.sig.returnType = some .int) (hlocks : meth.locks = false) (hQ : Q = MQ below (rdQ post) args s 0 0 (fun _ => False)) (hz : post z) (hdg : decode cc pc = .ok (.ireturn, 1)) : W p l e R s m args below meth c s.heap [] 0 0 Q (F0 m pc ls [.int (iI z)]) :=
  z_q hQ (W.iret (v := iI z) hx hb hr (fun t ht hW => ⟨iI z, rfl, ⟨z, rfl, hz⟩, ht⟩) (fun _ h => absurd h List.not_mem_nil) hdg hlocks)
theorem zr_retz {cc : ByteArray} {post : Int → Prop} {z : Int} (hx : p.tables.exec = Jvm.exec) (hb : c.code = cc) (hr : meth.sig.returnType = some .boolean) (hlocks : meth.locks = false) (hQ : Q = MQ below (rdQ post) args s 0 0 (fun _ => False)) (h01 : z = 0 ∨ z = 1) (hz : post z) (hdg : decode cc pc = .ok (.ireturn, 1)) : W p l e R s m args below meth c s.heap [] 0 0 Q (F0 m pc ls [.int (iI z)]) :=
  z_q hQ (by
    rcases h01 with rfl | rfl
    · exact W.zret (v := iI 0) hx hb hr (by decide) (fun t ht hW => ⟨iI 0, rfl, ⟨0, rfl, hz⟩, ht⟩) (fun _ h => absurd h List.not_mem_nil) hdg hlocks
    · exact W.zret (v := iI 1) hx hb hr (by decide) (fun t ht hW => ⟨iI 1, rfl, ⟨1, rfl, hz⟩, ht⟩) (fun _ h => absurd h List.not_mem_nil) hdg hlocks)
/-- the ends of a method that writes -/
theorem zw_retv {cc : ByteArray} {S : Type} {post : S → Prop} {wf : S → va_W} {sz : Nat} (u : S) (hx : p.tables.exec = Jvm.exec) (hb : c.code = cc) (hr : meth.sig.returnType = none) (hlocks : meth.locks = false) (hQ : Q = MQ below (wrQv dC dI tys wc sz post wf) args s cells slots (va_A wc sz)) (hu : post u) (hP : va_P (dC, dI) vwCl (wf u) H) (hK : va_K (dC, dI) vwCl tys s) (hD : va_D (va_A wc sz) (wf u)) (hS : va_S (va_A wc sz) s.heap H locs) (hdg : decode cc pc = .ok (.return_, 1)) : W p l e R s m args below meth c H locs cells slots Q (F0 m pc ls []) :=
  z_q hQ (W.vret hx hb hr (fun t ht hW => ⟨⟨u, rfl, hu, by rw [ht]; exact hP, va_K.moved hW.alike hK, hD⟩, hS.F ht⟩) hS.2.2 hdg hlocks)
theorem zw_reti {cc : ByteArray} {S : Type} {post : Int → S → Prop} {wf : S → va_W} {sz : Nat} {z : Int} (u : S) (hx : p.tables.exec = Jvm.exec) (hb : c.code = cc) (hr : meth.sig.returnType = some .int) (hlocks : meth.locks = false) (hQ : Q = MQ below (wrQi dC dI tys wc sz post wf) args s cells slots (va_A wc sz)) (hu : post z u) (hP : va_P (dC, dI) vwCl (wf u) H) (hK : va_K (dC, dI) vwCl tys s) (hD : va_D (va_A wc sz) (wf u)) (hS : va_S (va_A wc sz) s.heap H locs) (hdg : decode cc pc = .ok (.ireturn, 1)) : W p l e R s m args below meth c H locs cells slots Q (F0 m pc ls [.int (iI z)]) :=
  z_q hQ (W.iret (v := iI z) hx hb hr (fun t ht hW => ⟨⟨iI z, u, rfl, ⟨z, rfl, hu⟩, by rw [ht]; exact hP, va_K.moved hW.alike hK, hD⟩, hS.F ht⟩) hS.2.2 hdg hlocks)
theorem zw_retz {cc : ByteArray} {S : Type} {post : Int → S → Prop} {wf : S → va_W} {sz : Nat} {z : Int} (u : S) (hx : p.tables.exec = Jvm.exec) (hb : c.code = cc) (hr : meth.sig.returnType = some .boolean) (hlocks : meth.locks = false) (hQ : Q = MQ below (wrQi dC dI tys wc sz post wf) args s cells slots (va_A wc sz)) (h01 : z = 0 ∨ z = 1) (hu : post z u) (hP : va_P (dC, dI) vwCl (wf u) H) (hK : va_K (dC, dI) vwCl tys s) (hD : va_D (va_A wc sz) (wf u)) (hS : va_S (va_A wc sz) s.heap H locs) (hdg : decode cc pc = .ok (.ireturn, 1)) : W p l e R s m args below meth c H locs cells slots Q (F0 m pc ls [.int (iI z)]) :=
  z_q hQ (by
    rcases h01 with rfl | rfl
    · exact W.zret (v := iI 0) hx hb hr (by decide) (fun t ht hW => ⟨⟨iI 0, u, rfl, ⟨0, rfl, hu⟩, by rw [ht]; exact hP, va_K.moved hW.alike hK, hD⟩, hS.F ht⟩) hS.2.2 hdg hlocks
    · exact W.zret (v := iI 1) hx hb hr (by decide) (fun t ht hW => ⟨⟨iI 1, u, rfl, ⟨1, rfl, hu⟩, by rw [ht]; exact hP, va_K.moved hW.alike hK, hD⟩, hS.F ht⟩) hS.2.2 hdg hlocks)
end ZC
