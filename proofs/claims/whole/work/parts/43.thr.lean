/-! what a throw needs beside the good words; contracts of methods that may throw -/
def xIA : String := "java/lang/IllegalArgumentException"
def xIO : String := "java/lang/IndexOutOfBoundsException"
def xIS : String := "java/lang/IllegalStateException"
def xYR : MethodName := ⟨"java/lang/RuntimeException", "<init>", "(Ljava/lang/String;)V"⟩
def xYE : MethodName := ⟨"java/lang/Exception", "<init>", "(Ljava/lang/String;)V"⟩
def xYT : MethodName := ⟨"java/lang/Throwable", "<init>", "(Ljava/lang/String;)V"⟩
abbrev xNM : List String := ["java/lang/RuntimeException", "java/lang/Exception"]
/-- the private fields of the nest -/
def zN (U : State) : Prop := va_Nw (.fieldLinkNest "WarpSearch" 129 "WarpSearch$Nearest" "size" "I" "WarpSearch") U ∧ va_Nw (.fieldLinkNest "WarpSearch" 134 "WarpSearch$Nearest" "distances" "[I" "WarpSearch") U ∧ va_Nw (.fieldLinkNest "WarpSearch" 137 "WarpSearch$Nearest" "places" "[I" "WarpSearch") U
def zStrs : List (Nat × String) := [(54, "n is not 2 .. 16"), (71, "the question has no such number"), (78, "v is not -1000 .. 1000"), (80, "label is not 0 .. 7"), (84, "there are 12 rows"), (151, "there is no such row"), (96, "w is not 0 .. 15"), (105, "which is not 0 .. 2"), (114, "the path has no such pair"), (155, "k is not 1 .. 12"), (153, "there is no row"), (132, "the list has no such row"), (143, "what is not 0 .. 4"), (145, "there are 64 numbers"), (147, "there is no window"), (149, "the stream has not so many numbers")]
def zX (A : Nat → Prop) (U : State) : Prop :=
  zN U ∧ (va_Nw (.castable xIA xIA) U ∧ va_Nw (.castable xIO xIO) U ∧ va_Nw (.castable xIS xIS) U) ∧ (va_Nw (.declares xYR) U ∧ va_Nw (.declares xYE) U ∧ va_Nw (.declares xYT) U) ∧
  (vx_Zq Bundle.tN "UNASSIGNED_STACK" Bundle.steD A U U.heap ∧ vx_Zq Bundle.tN "SUPPRESSED_SENTINEL" Bundle.listD A U U.heap) ∧
  ∀ q ∈ zStrs, ∃ sa : Nat, vk_R "WarpSearch" q.1 q.2 sa U
theorem zN.same {u U : State} (h : u.vm = U.vm) (hZ : zN u) : zN U := ⟨va_Nw.same rfl h hZ.1, va_Nw.same rfl h hZ.2.1, va_Nw.same rfl h hZ.2.2⟩
theorem zN.warm {s U : State} (hW : s.WarmedH U.vm) (hZ : zN s) : zN U := ⟨va_Nw.warmF hW hZ.1, va_Nw.warmF hW hZ.2.1, va_Nw.warmF hW hZ.2.2⟩
theorem zX.calling {A : Nat → Prop} {U : State} {g : JFrame} {mk : MethodId} {a : Array Value} (h : zX A U) : zX A (U.calling g mk a) := by
  obtain ⟨h1, ⟨h2, h3, h4⟩, ⟨h9, h10, h11⟩, ⟨h5, h6⟩, h7⟩ := h
  refine ⟨zN.same (u := U) rfl h1, ⟨va_Nw.same (u := U) rfl rfl h2, va_Nw.same (u := U) rfl rfl h3, va_Nw.same (u := U) rfl rfl h4⟩, ⟨va_Nw.same (u := U) rfl rfl h9, va_Nw.same (u := U) rfl rfl h10, va_Nw.same (u := U) rfl rfl h11⟩, ⟨vx_Zq.moved (u := U) (U := U.calling g mk a) (Vm.Alike.refl U.vm) h5, vx_Zq.moved (u := U) (U := U.calling g mk a) (Vm.Alike.refl U.vm) h6⟩, fun q hq => ?_⟩
  obtain ⟨sa, h8⟩ := h7 q hq
  exact ⟨sa, vk_R.same (u := U) rfl h8⟩
theorem zX.go {A A' : Nat → Prop} {s U : State} {H : Heap} {locs : List Loc} (h : zX A s) (hW : s.WarmedH U.vm) (hU : U.heap = H) (hS : va_S A s.heap H locs) (hA : ∀ q, A' q → A q) : zX A' U := by
  obtain ⟨h1, ⟨h2, h3, h4⟩, ⟨h9, h10, h11⟩, ⟨h5, h6⟩, h7⟩ := h
  refine ⟨zN.warm hW h1, ⟨va_Nw.warmC hW h2, va_Nw.warmC hW h3, va_Nw.warmC hW h4⟩, ⟨va_Nw.warmD hW h9, va_Nw.warmD hW h10, va_Nw.warmD hW h11⟩, ⟨?_, ?_⟩, fun q hq => ?_⟩
  · rw [hU]
    exact ((h5.kept hS.2.1).moved hW.alike).narrow hA
  · rw [hU]
    exact ((h6.kept hS.2.1).moved hW.alike).narrow hA
  · obtain ⟨sa, h8⟩ := h7 q hq
    exact ⟨sa, vk_R.warm hW h8⟩
def rnP (dC : Nat → ClassId) (dI : Nat → Nat → Nat) (tys : List (ClassId × FieldType)) (ws : va_W) (av : List Value) : Array Value → State → Prop :=
  va_Pc av (fun U => va_P (dC, dI) vwCl ws U.heap ∧ va_K (dC, dI) vwCl tys U ∧ zN U)
def wnP (dC : Nat → ClassId) (dI : Nat → Nat → Nat) (tys : List (ClassId × FieldType)) (ws : va_W) (sz : Nat) (av : List Value) : Array Value → State → Prop :=
  va_Pc av (fun U => U.heap.size = sz ∧ va_P (dC, dI) vwCl ws U.heap ∧ va_K (dC, dI) vwCl tys U ∧ va_D (fun _ => True) ws ∧ zN U)
def wxP (dC : Nat → ClassId) (dI : Nat → Nat → Nat) (tys : List (ClassId × FieldType)) (ws : va_W) (sz : Nat) (av : List Value) : Array Value → State → Prop :=
  va_Pc av (fun U => U.heap.size = sz ∧ va_P (dC, dI) vwCl ws U.heap ∧ va_K (dC, dI) vwCl tys U ∧ va_D (fun _ => True) ws ∧ zX (va_A ws sz) U)
/-- thrown: which class, when; the world is as it was -/
def wxX (dC : Nat → ClassId) (dI : Nat → Nat → Nat) (tys : List (ClassId × FieldType)) (ws : va_W) (sz : Nat) {SX : Type} (PX : SX → String → Prop) (wfx : SX → va_W) : String → State → State → Prop :=
  vx_X (fun _ : SX => True) (fun E u t => PX u E ∧ wrB dC dI tys (va_A ws sz) wfx u t) (va_A ws sz)
theorem rn_fb {dC : Nat → ClassId} {dI : Nat → Nat → Nat} {tys : List (ClassId × FieldType)} {ws : va_W} {av : List Value} : FrameBlind (rnP dC dI tys ws av) := by
  intro a U g mk q
  obtain ⟨q0, qP, qK, qN⟩ := q
  exact ⟨q0, qP, va_K.moved (u := U) (U := U.calling g mk a) (Vm.Alike.refl U.vm) qK, zN.same (u := U) rfl qN⟩
theorem wn_fb {dC : Nat → ClassId} {dI : Nat → Nat → Nat} {tys : List (ClassId × FieldType)} {ws : va_W} {sz : Nat} {av : List Value} : FrameBlind (wnP dC dI tys ws sz av) := by
  intro a U g mk q
  obtain ⟨q0, q1, qP, qK, qD, qN⟩ := q
  exact ⟨q0, q1, qP, va_K.moved (u := U) (U := U.calling g mk a) (Vm.Alike.refl U.vm) qK, qD, zN.same (u := U) rfl qN⟩
theorem wx_fb {dC : Nat → ClassId} {dI : Nat → Nat → Nat} {tys : List (ClassId × FieldType)} {ws : va_W} {sz : Nat} {av : List Value} : FrameBlind (wxP dC dI tys ws sz av) := by
  intro a U g mk q
  obtain ⟨q0, q1, qP, qK, qD, qN⟩ := q
  exact ⟨q0, q1, qP, va_K.moved (u := U) (U := U.calling g mk a) (Vm.Alike.refl U.vm) qK, qD, qN.calling⟩
section ZXP
variable {dC : Nat → ClassId} {dI : Nat → Nat → Nat} {tys : List (ClassId × FieldType)} {ws wc wr : va_W} {H H0 : Heap} {s : State} {As : List Value} {A : Nat → Prop} {locs : List Loc}
theorem rn_preV {b ci q0 : Nat} {fs : List Value} {C : String} {T : u_T} {N : Nat} (hN : zN s) (hP : va_P (dC, dI) vwCl ws H) (hK : va_K (dC, dI) vwCl tys s) (isC : List Nat) (hC : isC.filterMap (fun i => ws[i]?) = wc) (he : wc[q0]? = some (b, .inr (ci, fs))) (hc : vwCl[ci]? = some (C, T, N)) : PreV s H C b (rnP dC dI tys wc (.ref b :: As)) As :=
  ⟨rn_fb, va_recv hK (hP.sub isC hC) hc he, fun U hU hW => ⟨rfl, by rw [hU]; exact hP.sub isC hC, va_K.moved hW.alike hK, hN.warm hW⟩⟩
theorem wn_preV {b ci q0 : Nat} {fs : List Value} {C : String} {T : u_T} {N : Nat} (hN : zN s) (hP : va_P (dC, dI) vwCl ws H) (hK : va_K (dC, dI) vwCl tys s) (hD : va_D A ws) (isC : List Nat) (hn : va_nd isC = true) (hC : isC.filterMap (fun i => ws[i]?) = wc) (hC2 : isC.map (fun i => ws[i]?) = wc.map some) (he : wc[q0]? = some (b, .inr (ci, fs))) (hc : vwCl[ci]? = some (C, T, N)) : PreV s H C b (wnP dC dI tys wc H.size (.ref b :: As)) As :=
  ⟨wn_fb, va_recv hK (hP.sub isC hC) hc he, fun U hU hW => ⟨rfl, by rw [hU], by rw [hU]; exact hP.sub isC hC, va_K.moved hW.alike hK, (hD.sub isC hn hC2).weaken (fun _ _ _ _ => trivial), hN.warm hW⟩⟩
theorem wx_preV {b ci q0 : Nat} {fs : List Value} {C : String} {T : u_T} {N : Nat} (hX : zX A s) (hP : va_P (dC, dI) vwCl ws H) (hK : va_K (dC, dI) vwCl tys s) (hD : va_D A ws) (hS : va_S A s.heap H locs) (hA : ∀ q, s.heap.size ≤ q → A q) (isC : List Nat) (hn : va_nd isC = true) (hC : isC.filterMap (fun i => ws[i]?) = wc) (hC2 : isC.map (fun i => ws[i]?) = wc.map some) (he : wc[q0]? = some (b, .inr (ci, fs))) (hc : vwCl[ci]? = some (C, T, N)) : PreV s H C b (wxP dC dI tys wc H.size (.ref b :: As)) As :=
  ⟨wx_fb, va_recv hK (hP.sub isC hC) hc he, fun U hU hW => ⟨rfl, by rw [hU], by rw [hU]; exact hP.sub isC hC, va_K.moved hW.alike hK, (hD.sub isC hn hC2).weaken (fun _ _ _ _ => trivial), hX.go hW hU hS (va_free hD hS hA isC hC2)⟩⟩
theorem wx_preS (hX : zX A s) (hP : va_P (dC, dI) vwCl ws H) (hK : va_K (dC, dI) vwCl tys s) (hD : va_D A ws) (hS : va_S A s.heap H locs) (hA : ∀ q, s.heap.size ≤ q → A q) (isC : List Nat) (hn : va_nd isC = true) (hC : isC.filterMap (fun i => ws[i]?) = wc) (hC2 : isC.map (fun i => ws[i]?) = wc.map some) : PreS s H (wxP dC dI tys wc H.size As) As :=
  ⟨wx_fb, fun U hU hW => ⟨rfl, by rw [hU], by rw [hU]; exact hP.sub isC hC, va_K.moved hW.alike hK, (hD.sub isC hn hC2).weaken (fun _ _ _ _ => trivial), hX.go hW hU hS (va_free hD hS hA isC hC2)⟩⟩
end ZXP
theorem xg_IA : ∀ w ∈ (vx_atS RX2 56 xIA xNM).filter goodWord, w ∈ lw_tbl := by decide +kernel
theorem xg_IO : ∀ w ∈ (vx_atS RX2 73 xIO xNM).filter goodWord, w ∈ lw_tbl := by decide +kernel
theorem xg_IS : ∀ w ∈ (vx_atS RX2 86 xIS xNM).filter goodWord, w ∈ lw_tbl := by decide +kernel
theorem xn_IA : ∀ w ∈ (vx_atS RX2 56 xIA xNM).filter (fun w => !goodWord w), w ∈ [Cond.castable xIA xIA, .declares xYR, .declares xYE, .declares xYT] := by decide +kernel
theorem xn_IO : ∀ w ∈ (vx_atS RX2 73 xIO xNM).filter (fun w => !goodWord w), w ∈ [Cond.castable xIO xIO, .declares xYR, .declares xYE, .declares xYT] := by decide +kernel
theorem xn_IS : ∀ w ∈ (vx_atS RX2 86 xIS xNM).filter (fun w => !goodWord w), w ∈ [Cond.castable xIS xIS, .declares xYR, .declares xYE, .declares xYT] := by decide +kernel
theorem xo_IA : ∀ w ∈ Cond.classLink RX2 52 xIA :: Cond.initialized xIA :: vx_atS RX2 56 xIA xNM, vx_ot w = true := by decide +kernel
theorem xo_IO : ∀ w ∈ Cond.classLink RX2 69 xIO :: Cond.initialized xIO :: vx_atS RX2 73 xIO xNM, vx_ot w = true := by decide +kernel
theorem xo_IS : ∀ w ∈ Cond.classLink RX2 82 xIS :: Cond.initialized xIS :: vx_atS RX2 86 xIS xNM, vx_ot w = true := by decide +kernel
theorem xw_in {L : List Cond} (h : ∀ w ∈ L.filter goodWord, w ∈ lw_tbl) : ∀ w ∈ L.filter goodWord, w ∈ WA := fun w hw => List.mem_filter.mpr ⟨h w hw, (List.mem_filter.mp hw).2⟩
theorem ga_S2 {x : Cond} {own : String} {index : Nat} {y : MethodName} {cc : ByteArray} {n : Nat} {r : Option FieldType} (h2 : Cond.methodLink own index y ∈ WA) (h3 : Cond.static y ∈ WA) (h1 : Cond.initialized y.cls ∈ WA) (h5 : Cond.code y cc n r ∈ WA) : GoodIn (x :: WA) (va_wsS own index y (.code y cc n r :: WA)) := by
  have key : ∀ w ∈ va_wsS own index y (.code y cc n r :: WA), w ∈ WA := by
    intro w hw
    simp only [va_wsS, List.mem_append, List.mem_cons, List.not_mem_nil, or_false] at hw
    rcases hw with (rfl | rfl | rfl) | rfl | hw
    · exact h2
    · exact h3
    · exact h1
    · exact h5
    · exact hw
  exact fun w hw => ⟨List.mem_cons_of_mem _ (key w hw), wa_good (key w hw)⟩
section ZXW
variable {p : Program} {l : Launch} {e : Env} {R : Room} {s : State} {m : MethodId} {args : Array Value} {below : List Frame} {meth : Method} {c : Code} {H : Heap} {locs : List Loc} {cells slots : Nat} {Q : State → Prop} {pc : Nat} {ls : Array Slot} {rest st0 : List Value} {a : Array Value} {A0 : Nat → Prop} {H0 : Heap} {mc ms : Nat}
variable {dC : Nat → ClassId} {dI : Nat → Nat → Nat} {tys : List (ClassId × FieldType)} {ws wc wr : va_W} {Qc : Array Value → State → Outcome → State → Prop} {SX : Type} {PX : SX → String → Prop} {wfx : SX → va_W} {cc : ByteArray} {sz : Nat}
/-- throw new cls(text), nothing changed -/
theorem zx_throw {cls text : String} {ik is ic : Nat} {x : Cond} (u : SX) (hx : p.tables.exec = Jvm.exec) (hb : c.code = cc) (hst : l.stackTraces = false) (hown : s.vm.findClass RX2 = some m.cls) (hts : ∀ w ∈ x :: WA, w.before args s = true) (hX : zX (va_A ws sz) s)
    (hfit : Bundle.fit cls = true) (hk : Cond.classLink RX2 ik cls ∈ WA) (hini : Cond.initialized cls ∈ WA) (hq : (is, text) ∈ zStrs) (hg : ∀ w ∈ (vx_atS RX2 ic cls xNM).filter goodWord, w ∈ lw_tbl) (hn : ∀ w ∈ (vx_atS RX2 ic cls xNM).filter (fun w => !goodWord w), w ∈ [Cond.castable cls cls, .declares xYR, .declares xYE, .declares xYT]) (hcs : va_Nw (.castable cls cls) s) (ho : ∀ w ∈ Cond.classLink RX2 ik cls :: Cond.initialized cls :: vx_atS RX2 ic cls xNM, vx_ot w = true)
    (hEx : ∀ x ∈ c.exceptionTable.toList, False) (hsize : ls.size = c.maxLocals) (hlocks : meth.locks = false)
    (hP : va_P (dC, dI) vwCl (wfx u) H) (hK : va_K (dC, dI) vwCl tys s) (hD : va_D (va_A ws sz) (wfx u)) (hS : va_S (va_A ws sz) s.heap H locs)
    (hQ : Q = vx_MQ below Qc (wxX dC dI tys ws sz PX wfx) args s mc ms (va_A ws sz)) (hPX : PX u cls)
    (hf : 6 ≤ R.frames) (hl : (rest.map fun v => v.category).sum + 82 ≤ R.locals) (hc1 : cells + 1 ≤ R.cells) (hs1 : slots + 6 ≤ R.slots) (hc : cells + 1 ≤ mc) (hs : slots + 6 ≤ ms)
    (d0 : decode cc pc = .ok (.new ik, 3)) (d3 : decode cc (pc + 3) = .ok (.dup, 1)) (d4 : decode cc (pc + 4) = .ok (.ldc is, 2)) (d6 : decode cc (pc + 6) = .ok (.invokespecial ic, 3)) (d9 : decode cc (pc + 9) = .ok (.athrow, 1)) :
    W p l e R s m args below meth c H locs cells slots Q (F0 m pc ls rest) := by
  obtain ⟨sa, hstr⟩ := hX.2.2.2.2 _ hq
  refine z_q hQ (vx_throwS (names := xNM) hx hb hst hown hfit (by decide +kernel) (wa_hts hts hk) (wa_hts hts hini) hstr (vx_hat (fun w hw => wa_hts hts (xw_in hg w hw)) hn (vx_c (va_Nw.use rfl hcs) (vx_c (va_Nw.use rfl hX.2.2.1.1) (vx_c (va_Nw.use rfl hX.2.2.1.2.1) (vx_c (va_Nw.use rfl hX.2.2.1.2.2) vx_n))))) ho hX.2.2.2.1.1 hX.2.2.2.1.2 hS hsize d0 d3 d4 d6 d9 (fun x hx9 => (hEx x hx9).elim) (by show 2 + 3 < R.frames; omega) hl hc1 hs1 hlocks (fun t hal hz hk2 => ?_) hS.2.2 hc hs)
  refine ⟨u, trivial, ⟨hPX, ?_, va_K.moved hal hK, hD⟩, ?_⟩
  · exact hP.kept (fun k q hk9 => hk2 q.1 (hP k q hk9).lt)
  · exact ⟨Nat.le_trans hS.1 hz, fun q h1 h2 => by rw [hk2 q (Nat.lt_of_lt_of_le h1 hS.1)]; exact hS.2.1 q h1 h2⟩
/-- the ends of a method that may throw -/
theorem zx_retv {S : Type} {post : S → Prop} {wf : S → va_W} {XC : String → State → State → Prop} (u : S) (hx : p.tables.exec = Jvm.exec) (hb : c.code = cc) (hr : meth.sig.returnType = none) (hlocks : meth.locks = false) (hQ : Q = vx_MQ below (wrQv dC dI tys wc sz post wf) XC args s mc ms (va_A wc sz)) (hc : cells ≤ mc) (hs : slots ≤ ms) (hu : post u) (hP : va_P (dC, dI) vwCl (wf u) H) (hK : va_K (dC, dI) vwCl tys s) (hD : va_D (va_A wc sz) (wf u)) (hS : va_S (va_A wc sz) s.heap H locs) (hdg : decode cc pc = .ok (.return_, 1)) : W p l e R s m args below meth c H locs cells slots Q (F0 m pc ls []) :=
  z_q hQ (W.widen hc hs (vx_ret (W.vret hx hb hr (fun t ht hW => ⟨⟨u, rfl, hu, by rw [ht]; exact hP, va_K.moved hW.alike hK, hD⟩, hS.F ht⟩) hS.2.2 hdg hlocks)))
theorem zx_reti {S : Type} {post : Int → S → Prop} {wf : S → va_W} {XC : String → State → State → Prop} {z : Int} (u : S) (hx : p.tables.exec = Jvm.exec) (hb : c.code = cc) (hr : meth.sig.returnType = some .int) (hlocks : meth.locks = false) (hQ : Q = vx_MQ below (wrQi dC dI tys wc sz post wf) XC args s mc ms (va_A wc sz)) (hc : cells ≤ mc) (hs : slots ≤ ms) (hu : post z u) (hP : va_P (dC, dI) vwCl (wf u) H) (hK : va_K (dC, dI) vwCl tys s) (hD : va_D (va_A wc sz) (wf u)) (hS : va_S (va_A wc sz) s.heap H locs) (hdg : decode cc pc = .ok (.ireturn, 1)) : W p l e R s m args below meth c H locs cells slots Q (F0 m pc ls [.int (iI z)]) :=
  z_q hQ (W.widen hc hs (vx_ret (W.iret (v := iI z) hx hb hr (fun t ht hW => ⟨⟨iI z, u, rfl, ⟨z, rfl, hu⟩, by rw [ht]; exact hP, va_K.moved hW.alike hK, hD⟩, hS.F ht⟩) hS.2.2 hdg hlocks)))
/-- a call that may throw, the caller lets it pass (its own world is as it was) -/
theorem zx_v {S : Type} {post : S → Prop} {wf : S → va_W} {SX' : Type} {PX' : SX' → String → Prop} {wfx' : SX' → va_W} (hr : vx_Run p l e R s m args below meth c H locs cells slots mc ms (F0 m pc ls st0) rest (wrQv dC dI tys wc H.size post wf a) (wxX dC dI tys wc H.size PX' wfx') (va_A wc H.size))
    (hP : va_P (dC, dI) vwCl ws H) (hD : va_D A0 ws) (hS : va_S A0 H0 H locs) (hA : ∀ q, H0.size ≤ q → A0 q) (isC isR : List Nat) (hC : isC.map (fun i => ws[i]?) = wc.map some) (hR : isR.map (fun i => ws[i]?) = wr.map some) (hn : va_nd isR = true) (hdis : ∀ i ∈ isR, i ∉ isC)
    (kx : ∀ (E : String) (u : SX') (ce : Cell) (q9 : Addr) (H1 : Heap) (locs1 : List Loc), PX' u E → va_P (dC, dI) vwCl (wr ++ wfx' u) H1 → va_D A0 (wr ++ wfx' u) → va_S A0 H0 H1 locs1 → H1[q9]? = some ce → ce.vm = .none → s.vm.findClass E = some ce.cls → vx_W p l e R s m args below meth c H1 locs1 (cells + mc) (slots + ms) Q (F0 m pc ls rest) q9)
    (kk : ∀ (u : S) (H1 : Heap) (locs1 : List Loc), post u → va_P (dC, dI) vwCl (wr ++ wf u) H1 → va_D A0 (wr ++ wf u) → va_S A0 H0 H1 locs1 → W p l e R s m args below meth c H1 locs1 (cells + mc) (slots + ms) Q (F0 m (pc + 3) ls rest)) : W p l e R s m args below meth c H locs cells slots Q (F0 m pc ls st0) := by
  have hFc := va_free (wc := wc) hD hS hA isC hC
  refine vx_callv hr hS (fun q _ h => hFc q h) hFc (fun q _ h => hFc q h) (fun E ce q9 u t H1 locs1 ht hvm hw hB hz1 hk1 hS hce hcv hcl => ?_) (fun u t H1 locs1 ht hvm hw hB hz1 hk1 hS => ?_)
  · obtain ⟨hE, hP1, hK1, hD1⟩ := hB
    rw [ht] at hP1
    obtain ⟨hP2, hD2⟩ := va_join (wr := wr) hP hD isC isR hC hR hn hdis hk1 hFc hP1 hD1
    exact kx E u ce q9 H1 locs1 hE hP2 hD2 hS hce hcv hcl
  · obtain ⟨hP1, hK1, hD1⟩ := hB
    rw [ht] at hP1
    obtain ⟨hP2, hD2⟩ := va_join (wr := wr) hP hD isC isR hC hR hn hdis hk1 hFc hP1 hD1
    exact kk u H1 locs1 hw hP2 hD2 hS
theorem zx_i {S : Type} {post : Int → S → Prop} {wf : S → va_W} {SX' : Type} {PX' : SX' → String → Prop} {wfx' : SX' → va_W} (hr : vx_Run p l e R s m args below meth c H locs cells slots mc ms (F0 m pc ls st0) rest (wrQi dC dI tys wc H.size post wf a) (wxX dC dI tys wc H.size PX' wfx') (va_A wc H.size))
    (hP : va_P (dC, dI) vwCl ws H) (hD : va_D A0 ws) (hS : va_S A0 H0 H locs) (hA : ∀ q, H0.size ≤ q → A0 q) (isC isR : List Nat) (hC : isC.map (fun i => ws[i]?) = wc.map some) (hR : isR.map (fun i => ws[i]?) = wr.map some) (hn : va_nd isR = true) (hdis : ∀ i ∈ isR, i ∉ isC)
    (kx : ∀ (E : String) (u : SX') (ce : Cell) (q9 : Addr) (H1 : Heap) (locs1 : List Loc), PX' u E → va_P (dC, dI) vwCl (wr ++ wfx' u) H1 → va_D A0 (wr ++ wfx' u) → va_S A0 H0 H1 locs1 → H1[q9]? = some ce → ce.vm = .none → s.vm.findClass E = some ce.cls → vx_W p l e R s m args below meth c H1 locs1 (cells + mc) (slots + ms) Q (F0 m pc ls rest) q9)
    (kk : ∀ (z : Int) (u : S) (H1 : Heap) (locs1 : List Loc), post z u → va_P (dC, dI) vwCl (wr ++ wf u) H1 → va_D A0 (wr ++ wf u) → va_S A0 H0 H1 locs1 → W p l e R s m args below meth c H1 locs1 (cells + mc) (slots + ms) Q (F0 m (pc + 3) ls (.int (iI z) :: rest))) : W p l e R s m args below meth c H locs cells slots Q (F0 m pc ls st0) := by
  have hFc := va_free (wc := wc) hD hS hA isC hC
  refine vx_calli hr hS (fun q _ h => hFc q h) hFc (fun q _ h => hFc q h) (fun E ce q9 u t H1 locs1 ht hvm hw hB hz1 hk1 hS hce hcv hcl => ?_) (fun r u t H1 locs1 ht hvm hw hB hz1 hk1 hS => ?_)
  · obtain ⟨hE, hP1, hK1, hD1⟩ := hB
    rw [ht] at hP1
    obtain ⟨hP2, hD2⟩ := va_join (wr := wr) hP hD isC isR hC hR hn hdis hk1 hFc hP1 hD1
    exact kx E u ce q9 H1 locs1 hE hP2 hD2 hS hce hcv hcl
  · obtain ⟨z, rfl, hw⟩ := hw
    obtain ⟨hP1, hK1, hD1⟩ := hB
    rw [ht] at hP1
    obtain ⟨hP2, hD2⟩ := va_join (wr := wr) hP hD isC isR hC hR hn hdis hk1 hFc hP1 hD1
    exact kk z u H1 locs1 hw hP2 hD2 hS
/-- what came thrown leaves this method too -/
theorem zx_out {E : String} {ce : Cell} {q : Addr} (u : SX) (hEx : ∀ x ∈ c.exceptionTable.toList, False) (hlocks : meth.locks = false) (hQ : Q = vx_MQ below Qc (wxX dC dI tys ws sz PX wfx) args s mc ms (va_A ws sz)) (hPX : PX u E) (hP : va_P (dC, dI) vwCl (wfx u) H) (hK : va_K (dC, dI) vwCl tys s) (hD : va_D (va_A ws sz) (wfx u)) (hS : va_S (va_A ws sz) s.heap H locs) (hce : H[q]? = some ce) (hcv : ce.vm = .none) (hcl : s.vm.findClass E = some ce.cls) (hc : cells ≤ mc) (hs : slots ≤ ms) : vx_W p l e R s m args below meth c H locs cells slots Q (F0 m pc ls rest) q := by
  subst hQ
  exact vx_out (fun x hx9 => (hEx x hx9).elim) hlocks hce hcv hcl (fun t ht hal => ⟨u, trivial, ⟨hPX, by rw [ht]; exact hP, va_K.moved hal hK, hD⟩, hS.F ht⟩) hS.2.2 hc hs
end ZXW
