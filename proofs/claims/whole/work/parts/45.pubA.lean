set_option maxRecDepth 100000 in
set_option maxHeartbeats 4000000 in
theorem c_isValue (l : Launch) (dC : Nat → ClassId) (dI : Nat → Nat → Nat) (cI : ClassId) (v : Int) (hv : -2147483648 ≤ v ∧ v ≤ 2147483647) : Met l yX2_isValue wsX2_isValue ({ frames := 0, cells := 0, slots := 0, locals := 0 }) (rdP dC dI [(cI, .int)] [] [.int (iI v)]) (rdQ (fun z => (-1000 ≤ v ∧ v ≤ 1000 ∧ z = 1) ∨ ((v < -1000 ∨ 1000 < v) ∧ z = 0))) 0 0 (fun _ => False) := by
  refine Met.ofW (cc := cX2_isValue) (maxL := 1) (ret := (some .boolean)) (by decide) rfl ?_
  intro p e s m args below meth c s₁ B hml hv
  obtain ⟨rfl, hP, hK⟩ := hv
  have hx := B.exec
  have hb := B.bytes
  have hr := B.returns
  have hts : ∀ w ∈ wsX2_isValue, w.before _ s = true := atoms_spec (ws := wsX2_isValue) B.pre
  have hown : s.vm.findClass RX2 = some m.cls := findClass_of_methodNamed B.named
  have hlocks := B.notSynchronized
  have hl := lv_entry ([.int (iI v)]) (n := 1) (Nat.le_of_ble_eq_true rfl)
  rw [lg_entry_eq]
  generalize (lg_sl ([.int (iI v)]) ++ List.replicate (1 - (lg_sl ([.int (iI v)])).length) Slot.unset).toArray = ls at hl ⊢
  have hl : lv_has ls 1 [(0, .int (iI v))] := hl
  generalize hargs : ([.int (iI v)] : List Value).toArray = args at hts ⊢
  refine z_intro (fun R Q hR hQ => ?_)
  have hRf : R.frames = 0 := by rw [hR]; rfl
  have hRl : R.locals = 0 := by rw [hR]; rfl
  have hRc : R.cells = 0 := by rw [hR]; rfl
  have hRs : R.slots = 0 := by rw [hR]; rfl
  clear hR hargs B
  refine lv_iload_n hx hb dX2_isValue_0 rfl (lv_at hl 0 rfl) ?_
  refine lv_sipush (v := iI (-1000 : Int)) hx hb dX2_isValue_1 (by decide) ?_
  refine z_icmp_lt (tgt := 18) hx hb dX2_isValue_4 (by decide) (by omega) (fun h4 => ?_) (fun h4 => ?_)
  · refine lv_iconst (v := iI (0 : Int)) hx hb dX2_isValue_18 (by decide) ?_
    exact zr_retz (z := (0 : Int)) hx hb hr hlocks hQ (by omega) (by omega) dX2_isValue_19
  · refine lv_iload_n hx hb dX2_isValue_7 rfl (lv_at hl 0 rfl) ?_
    refine lv_sipush (v := iI (1000 : Int)) hx hb dX2_isValue_8 (by decide) ?_
    refine z_icmp_gt (tgt := 18) hx hb dX2_isValue_11 (by decide) (by omega) (fun h11 => ?_) (fun h11 => ?_)
    · refine lv_iconst (v := iI (0 : Int)) hx hb dX2_isValue_18 (by decide) ?_
      exact zr_retz (z := (0 : Int)) hx hb hr hlocks hQ (by omega) (by omega) dX2_isValue_19
    · refine lv_iconst (v := iI (1 : Int)) hx hb dX2_isValue_14 (by decide) ?_
      refine lv_goto (tgt := 19) hx hb dX2_isValue_15 (by decide) ?_
      exact zr_retz (z := (1 : Int)) hx hb hr hlocks hQ (by omega) (by omega) dX2_isValue_19
set_option maxRecDepth 100000 in
set_option maxHeartbeats 4000000 in
theorem c_checkRow (l : Launch) (hst : l.stackTraces = false) (dC : Nat → ClassId) (dI : Nat → Nat → Nat) (cI : ClassId) (x0 xq xr xl xs h0 hn0 xc : Nat) (n w rc sc : Nat) (r9 : Int) (sz : Nat) (hr9 : -2147483648 ≤ r9 ∧ r9 ≤ 2147483647) (hrc : rc ≤ 12) : vx_Met l yX2_checkRow wsX2_checkRow ({ frames := 6, cells := 1, slots := 6, locals := 90 }) (wxP dC dI [(cI, .int)] [(x0, .inr (2, [.int (iI (n : Int)), .int (iI (w : Int)), .ref xq, .ref xr, .ref xl, .int (iI (rc : Int)), .ref xs, .int (iI (sc : Int)), .ref h0, .ref hn0, .ref xc]))] sz [.ref x0, .int (iI r9)]) (wrQv dC dI [(cI, .int)] [(x0, .inr (2, [.int (iI (n : Int)), .int (iI (w : Int)), .ref xq, .ref xr, .ref xl, .int (iI (rc : Int)), .ref xs, .int (iI (sc : Int)), .ref h0, .ref hn0, .ref xc]))] sz (S := Unit) (fun _ => 0 ≤ r9 ∧ r9 < (rc : Int)) (fun _ => [(x0, .inr (2, [.int (iI (n : Int)), .int (iI (w : Int)), .ref xq, .ref xr, .ref xl, .int (iI (rc : Int)), .ref xs, .int (iI (sc : Int)), .ref h0, .ref hn0, .ref xc]))])) (wxX dC dI [(cI, .int)] [(x0, .inr (2, [.int (iI (n : Int)), .int (iI (w : Int)), .ref xq, .ref xr, .ref xl, .int (iI (rc : Int)), .ref xs, .int (iI (sc : Int)), .ref h0, .ref hn0, .ref xc]))] sz (SX := Unit) (fun _ E => E = xIO ∧ (r9 < 0 ∨ (rc : Int) ≤ r9)) (fun _ => [(x0, .inr (2, [.int (iI (n : Int)), .int (iI (w : Int)), .ref xq, .ref xr, .ref xl, .int (iI (rc : Int)), .ref xs, .int (iI (sc : Int)), .ref h0, .ref hn0, .ref xc]))])) 1 6 (va_A [(x0, .inr (2, [.int (iI (n : Int)), .int (iI (w : Int)), .ref xq, .ref xr, .ref xl, .int (iI (rc : Int)), .ref xs, .int (iI (sc : Int)), .ref h0, .ref hn0, .ref xc]))] sz) := by
  refine vx_ofW (cc := cX2_checkRow) (maxL := 2) (ret := none) (by decide) rfl ?_
  intro p e s m args below meth c s₁ B hml hEx hv
  obtain ⟨rfl, hsz, hP, hK, hD0, hX⟩ := hv
  have hx := B.exec
  have hb := B.bytes
  have hr := B.returns
  have hts : ∀ w ∈ wsX2_checkRow, w.before _ s = true := atoms_spec (ws := wsX2_checkRow) B.pre
  have hown : s.vm.findClass RX2 = some m.cls := findClass_of_methodNamed B.named
  have hlocks := B.notSynchronized
  subst hsz
  have hD := hD0.self (sz := s.heap.size)
  have hA : ∀ q9 : Nat, s.heap.size ≤ q9 → va_A [(x0, .inr (2, [.int (iI (n : Int)), .int (iI (w : Int)), .ref xq, .ref xr, .ref xl, .int (iI (rc : Int)), .ref xs, .int (iI (sc : Int)), .ref h0, .ref hn0, .ref xc]))] s.heap.size q9 := fun q9 h => Or.inr h
  have hS : va_S (va_A [(x0, .inr (2, [.int (iI (n : Int)), .int (iI (w : Int)), .ref xq, .ref xr, .ref xl, .int (iI (rc : Int)), .ref xs, .int (iI (sc : Int)), .ref h0, .ref hn0, .ref xc]))] s.heap.size) s.heap s.heap [] := va_S.rf
  generalize hAe : va_A [(x0, .inr (2, [.int (iI (n : Int)), .int (iI (w : Int)), .ref xq, .ref xr, .ref xl, .int (iI (rc : Int)), .ref xs, .int (iI (sc : Int)), .ref h0, .ref hn0, .ref xc]))] s.heap.size = A at hD hA hS hX
  have hP : va_P (dC, dI) vwCl [(x0, .inr (2, [.int (iI (n : Int)), .int (iI (w : Int)), .ref xq, .ref xr, .ref xl, .int (iI (rc : Int)), .ref xs, .int (iI (sc : Int)), .ref h0, .ref hn0, .ref xc]))] s.heap := hP
  have hNn := hX.1
  have hN_size := hNn.1
  have hN_distances := hNn.2.1
  have hN_places := hNn.2.2
  have hl := lv_entry ([.ref x0, .int (iI r9)]) (n := 2) (Nat.le_of_ble_eq_true rfl)
  rw [lg_entry_eq]
  generalize (lg_sl ([.ref x0, .int (iI r9)]) ++ List.replicate (2 - (lg_sl ([.ref x0, .int (iI r9)])).length) Slot.unset).toArray = ls at hl ⊢
  have hl : lv_has ls 2 [(0, .ref x0), (1, .int (iI r9))] := hl
  generalize hargs : ([.ref x0, .int (iI r9)] : List Value).toArray = args at hts ⊢
  refine z_intro (fun R Q hR hQ => ?_)
  have hRf : R.frames = 6 := by rw [hR]; rfl
  have hRl : R.locals = 90 := by rw [hR]; rfl
  have hRc : R.cells = 1 := by rw [hR]; rfl
  have hRs : R.slots = 6 := by rw [hR]; rfl
  have in_X2 : ∀ w ∈ u_ws RX2 TX2 11, w ∈ wsX2_checkRow := fun w h => List.mem_cons_of_mem _ (inW_X2 w h)
  have fl_26 := wa_hts hts wd_105
  clear hR hargs B
  refine lv_iload_n hx hb dX2_checkRow_0 rfl (lv_at hl 1 rfl) ?_
  refine z_if_lt (tgt := 12) hx hb dX2_checkRow_1 (by decide) (by omega) (fun h1 => ?_) (fun h1 => ?_)
  · subst hAe
    exact zx_throw (is := 151) (text := "there is no such row") () hx hb hst hown hts hX (by decide +kernel) wd_225 wd_37 (by decide) xg_IO xn_IO hX.2.1.2.1 xo_IO hEx (hl.1.trans hml.symm) hlocks hP hK hD hS hQ (⟨rfl, by omega⟩) (by omega) (by show 0 + 82 ≤ R.locals; omega) (by omega) (by omega) (by omega) (by omega) dX2_checkRow_12 dX2_checkRow_15 dX2_checkRow_16 dX2_checkRow_18 dX2_checkRow_21
  · refine lv_iload_n hx hb dX2_checkRow_4 rfl (lv_at hl 1 rfl) ?_
    refine lv_aload_n hx hb dX2_checkRow_5 rfl (lv_at hl 0 rfl) ?_
    refine va_get (D := (dC, dI)) (ci := 2) (v := .int (iI (rc : Int))) (C := RX2) (T := TX2) (N := 11) hx hb hts in_X2 hown hK hP 0 rfl rfl 5 (by decide) fl_26 (fun _ h9 => h9) rfl dX2_checkRow_6 ?_
    refine z_icmp_lt (tgt := 22) hx hb dX2_checkRow_9 (by decide) (by omega) (fun h9 => ?_) (fun h9 => ?_)
    · subst hAe
      exact zx_retv (()) hx hb hr hlocks hQ (by omega) (by omega) (by omega) hP hK hD hS dX2_checkRow_22
    · subst hAe
      exact zx_throw (is := 151) (text := "there is no such row") () hx hb hst hown hts hX (by decide +kernel) wd_225 wd_37 (by decide) xg_IO xn_IO hX.2.1.2.1 xo_IO hEx (hl.1.trans hml.symm) hlocks hP hK hD hS hQ (⟨rfl, by omega⟩) (by omega) (by show 0 + 82 ≤ R.locals; omega) (by omega) (by omega) (by omega) (by omega) dX2_checkRow_12 dX2_checkRow_15 dX2_checkRow_16 dX2_checkRow_18 dX2_checkRow_21
set_option maxRecDepth 100000 in
set_option maxHeartbeats 4000000 in
theorem c_checkAnyRow (l : Launch) (hst : l.stackTraces = false) (dC : Nat → ClassId) (dI : Nat → Nat → Nat) (cI : ClassId) (x0 xq xr xl xs h0 hn0 xc : Nat) (n w rc sc : Nat) (sz : Nat) (hrc : rc ≤ 12) : vx_Met l yX2_checkAnyRow wsX2_checkAnyRow ({ frames := 6, cells := 1, slots := 6, locals := 90 }) (wxP dC dI [(cI, .int)] [(x0, .inr (2, [.int (iI (n : Int)), .int (iI (w : Int)), .ref xq, .ref xr, .ref xl, .int (iI (rc : Int)), .ref xs, .int (iI (sc : Int)), .ref h0, .ref hn0, .ref xc]))] sz [.ref x0]) (wrQv dC dI [(cI, .int)] [(x0, .inr (2, [.int (iI (n : Int)), .int (iI (w : Int)), .ref xq, .ref xr, .ref xl, .int (iI (rc : Int)), .ref xs, .int (iI (sc : Int)), .ref h0, .ref hn0, .ref xc]))] sz (S := Unit) (fun _ => 0 < rc) (fun _ => [(x0, .inr (2, [.int (iI (n : Int)), .int (iI (w : Int)), .ref xq, .ref xr, .ref xl, .int (iI (rc : Int)), .ref xs, .int (iI (sc : Int)), .ref h0, .ref hn0, .ref xc]))])) (wxX dC dI [(cI, .int)] [(x0, .inr (2, [.int (iI (n : Int)), .int (iI (w : Int)), .ref xq, .ref xr, .ref xl, .int (iI (rc : Int)), .ref xs, .int (iI (sc : Int)), .ref h0, .ref hn0, .ref xc]))] sz (SX := Unit) (fun _ E => E = xIS ∧ rc = 0) (fun _ => [(x0, .inr (2, [.int (iI (n : Int)), .int (iI (w : Int)), .ref xq, .ref xr, .ref xl, .int (iI (rc : Int)), .ref xs, .int (iI (sc : Int)), .ref h0, .ref hn0, .ref xc]))])) 1 6 (va_A [(x0, .inr (2, [.int (iI (n : Int)), .int (iI (w : Int)), .ref xq, .ref xr, .ref xl, .int (iI (rc : Int)), .ref xs, .int (iI (sc : Int)), .ref h0, .ref hn0, .ref xc]))] sz) := by
  refine vx_ofW (cc := cX2_checkAnyRow) (maxL := 1) (ret := none) (by decide) rfl ?_
  intro p e s m args below meth c s₁ B hml hEx hv
  obtain ⟨rfl, hsz, hP, hK, hD0, hX⟩ := hv
  have hx := B.exec
  have hb := B.bytes
  have hr := B.returns
  have hts : ∀ w ∈ wsX2_checkAnyRow, w.before _ s = true := atoms_spec (ws := wsX2_checkAnyRow) B.pre
  have hown : s.vm.findClass RX2 = some m.cls := findClass_of_methodNamed B.named
  have hlocks := B.notSynchronized
  subst hsz
  have hD := hD0.self (sz := s.heap.size)
  have hA : ∀ q9 : Nat, s.heap.size ≤ q9 → va_A [(x0, .inr (2, [.int (iI (n : Int)), .int (iI (w : Int)), .ref xq, .ref xr, .ref xl, .int (iI (rc : Int)), .ref xs, .int (iI (sc : Int)), .ref h0, .ref hn0, .ref xc]))] s.heap.size q9 := fun q9 h => Or.inr h
  have hS : va_S (va_A [(x0, .inr (2, [.int (iI (n : Int)), .int (iI (w : Int)), .ref xq, .ref xr, .ref xl, .int (iI (rc : Int)), .ref xs, .int (iI (sc : Int)), .ref h0, .ref hn0, .ref xc]))] s.heap.size) s.heap s.heap [] := va_S.rf
  generalize hAe : va_A [(x0, .inr (2, [.int (iI (n : Int)), .int (iI (w : Int)), .ref xq, .ref xr, .ref xl, .int (iI (rc : Int)), .ref xs, .int (iI (sc : Int)), .ref h0, .ref hn0, .ref xc]))] s.heap.size = A at hD hA hS hX
  have hP : va_P (dC, dI) vwCl [(x0, .inr (2, [.int (iI (n : Int)), .int (iI (w : Int)), .ref xq, .ref xr, .ref xl, .int (iI (rc : Int)), .ref xs, .int (iI (sc : Int)), .ref h0, .ref hn0, .ref xc]))] s.heap := hP
  have hNn := hX.1
  have hN_size := hNn.1
  have hN_distances := hNn.2.1
  have hN_places := hNn.2.2
  have hl := lv_entry ([.ref x0]) (n := 1) (Nat.le_of_ble_eq_true rfl)
  rw [lg_entry_eq]
  generalize (lg_sl ([.ref x0]) ++ List.replicate (1 - (lg_sl ([.ref x0])).length) Slot.unset).toArray = ls at hl ⊢
  have hl : lv_has ls 1 [(0, .ref x0)] := hl
  generalize hargs : ([.ref x0] : List Value).toArray = args at hts ⊢
  refine z_intro (fun R Q hR hQ => ?_)
  have hRf : R.frames = 6 := by rw [hR]; rfl
  have hRl : R.locals = 90 := by rw [hR]; rfl
  have hRc : R.cells = 1 := by rw [hR]; rfl
  have hRs : R.slots = 6 := by rw [hR]; rfl
  have in_X2 : ∀ w ∈ u_ws RX2 TX2 11, w ∈ wsX2_checkAnyRow := fun w h => List.mem_cons_of_mem _ (inW_X2 w h)
  have fl_26 := wa_hts hts wd_105
  clear hR hargs B
  refine lv_aload_n hx hb dX2_checkAnyRow_0 rfl (lv_at hl 0 rfl) ?_
  refine va_get (D := (dC, dI)) (ci := 2) (v := .int (iI (rc : Int))) (C := RX2) (T := TX2) (N := 11) hx hb hts in_X2 hown hK hP 0 rfl rfl 5 (by decide) fl_26 (fun _ h9 => h9) rfl dX2_checkAnyRow_1 ?_
  refine z_if_ne (tgt := 17) hx hb dX2_checkAnyRow_4 (by decide) (by omega) (fun h4 => ?_) (fun h4 => ?_)
  · subst hAe
    exact zx_retv (()) hx hb hr hlocks hQ (by omega) (by omega) (by omega) hP hK hD hS dX2_checkAnyRow_17
  · subst hAe
    exact zx_throw (is := 153) (text := "there is no row") () hx hb hst hown hts hX (by decide +kernel) wd_254 wd_38 (by decide) xg_IS xn_IS hX.2.1.2.2 xo_IS hEx (hl.1.trans hml.symm) hlocks hP hK hD hS hQ (⟨rfl, by omega⟩) (by omega) (by show 0 + 82 ≤ R.locals; omega) (by omega) (by omega) (by omega) (by omega) dX2_checkAnyRow_7 dX2_checkAnyRow_10 dX2_checkAnyRow_11 dX2_checkAnyRow_13 dX2_checkAnyRow_16
set_option maxRecDepth 100000 in
set_option maxHeartbeats 4000000 in
theorem c_checkWanted (l : Launch) (hst : l.stackTraces = false) (dC : Nat → ClassId) (dI : Nat → Nat → Nat) (cI : ClassId) (kw : Int) (sz : Nat) (hkw : -2147483648 ≤ kw ∧ kw ≤ 2147483647) : vx_Met l yX2_checkWanted wsX2_checkWanted ({ frames := 6, cells := 1, slots := 6, locals := 90 }) (wxP dC dI [(cI, .int)] [] sz [.int (iI kw)]) (wrQv dC dI [(cI, .int)] [] sz (S := Unit) (fun _ => 1 ≤ kw ∧ kw ≤ 12) (fun _ => [])) (wxX dC dI [(cI, .int)] [] sz (SX := Unit) (fun _ E => E = xIA ∧ (kw < 1 ∨ 12 < kw)) (fun _ => [])) 1 6 (va_A [] sz) := by
  refine vx_ofW (cc := cX2_checkWanted) (maxL := 1) (ret := none) (by decide) rfl ?_
  intro p e s m args below meth c s₁ B hml hEx hv
  obtain ⟨rfl, hsz, hP, hK, hD0, hX⟩ := hv
  have hx := B.exec
  have hb := B.bytes
  have hr := B.returns
  have hts : ∀ w ∈ wsX2_checkWanted, w.before _ s = true := atoms_spec (ws := wsX2_checkWanted) B.pre
  have hown : s.vm.findClass RX2 = some m.cls := findClass_of_methodNamed B.named
  have hlocks := B.notSynchronized
  subst hsz
  have hD := hD0.self (sz := s.heap.size)
  have hA : ∀ q9 : Nat, s.heap.size ≤ q9 → va_A [] s.heap.size q9 := fun q9 h => Or.inr h
  have hS : va_S (va_A [] s.heap.size) s.heap s.heap [] := va_S.rf
  generalize hAe : va_A [] s.heap.size = A at hD hA hS hX
  have hP : va_P (dC, dI) vwCl [] s.heap := hP
  have hNn := hX.1
  have hN_size := hNn.1
  have hN_distances := hNn.2.1
  have hN_places := hNn.2.2
  have hl := lv_entry ([.int (iI kw)]) (n := 1) (Nat.le_of_ble_eq_true rfl)
  rw [lg_entry_eq]
  generalize (lg_sl ([.int (iI kw)]) ++ List.replicate (1 - (lg_sl ([.int (iI kw)])).length) Slot.unset).toArray = ls at hl ⊢
  have hl : lv_has ls 1 [(0, .int (iI kw))] := hl
  generalize hargs : ([.int (iI kw)] : List Value).toArray = args at hts ⊢
  refine z_intro (fun R Q hR hQ => ?_)
  have hRf : R.frames = 6 := by rw [hR]; rfl
  have hRl : R.locals = 90 := by rw [hR]; rfl
  have hRc : R.cells = 1 := by rw [hR]; rfl
  have hRs : R.slots = 6 := by rw [hR]; rfl
  clear hR hargs B
  refine lv_iload_n hx hb dX2_checkWanted_0 rfl (lv_at hl 0 rfl) ?_
  refine lv_iconst (v := iI (1 : Int)) hx hb dX2_checkWanted_1 (by decide) ?_
  refine z_icmp_lt (tgt := 11) hx hb dX2_checkWanted_2 (by decide) (by omega) (fun h2 => ?_) (fun h2 => ?_)
  · subst hAe
    exact zx_throw (is := 155) (text := "k is not 1 .. 12") () hx hb hst hown hts hX (by decide +kernel) wd_142 wd_35 (by decide) xg_IA xn_IA hX.2.1.1 xo_IA hEx (hl.1.trans hml.symm) hlocks hP hK hD hS hQ (⟨rfl, by omega⟩) (by omega) (by show 0 + 82 ≤ R.locals; omega) (by omega) (by omega) (by omega) (by omega) dX2_checkWanted_11 dX2_checkWanted_14 dX2_checkWanted_15 dX2_checkWanted_17 dX2_checkWanted_20
  · refine lv_iload_n hx hb dX2_checkWanted_5 rfl (lv_at hl 0 rfl) ?_
    refine lv_bipush (v := iI (12 : Int)) hx hb dX2_checkWanted_6 (by decide) ?_
    refine z_icmp_le (tgt := 21) hx hb dX2_checkWanted_8 (by decide) (by omega) (fun h8 => ?_) (fun h8 => ?_)
    · subst hAe
      exact zx_retv (()) hx hb hr hlocks hQ (by omega) (by omega) (by omega) hP hK hD hS dX2_checkWanted_21
    · subst hAe
      exact zx_throw (is := 155) (text := "k is not 1 .. 12") () hx hb hst hown hts hX (by decide +kernel) wd_142 wd_35 (by decide) xg_IA xn_IA hX.2.1.1 xo_IA hEx (hl.1.trans hml.symm) hlocks hP hK hD hS hQ (⟨rfl, by omega⟩) (by omega) (by show 0 + 82 ≤ R.locals; omega) (by omega) (by omega) (by omega) (by omega) dX2_checkWanted_11 dX2_checkWanted_14 dX2_checkWanted_15 dX2_checkWanted_17 dX2_checkWanted_20
set_option maxRecDepth 100000 in
set_option maxHeartbeats 4000000 in
theorem c_begin (l : Launch) (hst : l.stackTraces = false) (dC : Nat → ClassId) (dI : Nat → Nat → Nat) (cI : ClassId) (x0 xq xr xl xs h0 hn0 xc : Nat) (al ad : Nat) (n w rc sc nm wt : Nat) (v : Int) (q : Nat → Int) (sz : Nat) (hv : -2147483648 ≤ v ∧ v ≤ 2147483647) : vx_Met l yX2_begin wsX2_begin ({ frames := 6, cells := 1, slots := 6, locals := 90 }) (wxP dC dI [(cI, .int)] [(x0, .inr (2, [.int (iI (n : Int)), .int (iI (w : Int)), .ref xq, .ref xr, .ref xl, .int (iI (rc : Int)), .ref xs, .int (iI (sc : Int)), .ref h0, .ref hn0, .ref xc])), (xq, .inl (cI, 16, .inl (iA q))), (hn0, .inr (1, [.ref al, .ref ad, .int (iI (nm : Int)), .int (iI (wt : Int))]))] sz [.ref x0, .int (iI v)]) (wrQv dC dI [(cI, .int)] [(x0, .inr (2, [.int (iI (n : Int)), .int (iI (w : Int)), .ref xq, .ref xr, .ref xl, .int (iI (rc : Int)), .ref xs, .int (iI (sc : Int)), .ref h0, .ref hn0, .ref xc])), (xq, .inl (cI, 16, .inl (iA q))), (hn0, .inr (1, [.ref al, .ref ad, .int (iI (nm : Int)), .int (iI (wt : Int))]))] sz (S := Unit) (fun _ => 2 ≤ v ∧ v ≤ 16) (fun _ => [(x0, .inr (2, [.int (iI (((v.toNat) : Nat) : Int)), .int (iI (w : Int)), .ref xq, .ref xr, .ref xl, .int (iI (0 : Int)), .ref xs, .int (iI (sc : Int)), .ref h0, .ref hn0, .ref xc])), (xq, .inl (cI, 16, .inl (iA (zF q 16 0)))), (hn0, .inr (1, [.ref al, .ref ad, .int (iI (0 : Int)), .int (iI (1 : Int))]))])) (wxX dC dI [(cI, .int)] [(x0, .inr (2, [.int (iI (n : Int)), .int (iI (w : Int)), .ref xq, .ref xr, .ref xl, .int (iI (rc : Int)), .ref xs, .int (iI (sc : Int)), .ref h0, .ref hn0, .ref xc])), (xq, .inl (cI, 16, .inl (iA q))), (hn0, .inr (1, [.ref al, .ref ad, .int (iI (nm : Int)), .int (iI (wt : Int))]))] sz (SX := Unit) (fun _ E => E = xIA ∧ (v < 2 ∨ 16 < v)) (fun _ => [(x0, .inr (2, [.int (iI (n : Int)), .int (iI (w : Int)), .ref xq, .ref xr, .ref xl, .int (iI (rc : Int)), .ref xs, .int (iI (sc : Int)), .ref h0, .ref hn0, .ref xc])), (xq, .inl (cI, 16, .inl (iA q))), (hn0, .inr (1, [.ref al, .ref ad, .int (iI (nm : Int)), .int (iI (wt : Int))]))])) 1 6 (va_A [(x0, .inr (2, [.int (iI (n : Int)), .int (iI (w : Int)), .ref xq, .ref xr, .ref xl, .int (iI (rc : Int)), .ref xs, .int (iI (sc : Int)), .ref h0, .ref hn0, .ref xc])), (xq, .inl (cI, 16, .inl (iA q))), (hn0, .inr (1, [.ref al, .ref ad, .int (iI (nm : Int)), .int (iI (wt : Int))]))] sz) := by
  refine vx_ofW (cc := cX2_begin) (maxL := 2) (ret := none) (by decide) rfl ?_
  intro p e s m args below meth c s₁ B hml hEx hv
  obtain ⟨rfl, hsz, hP, hK, hD0, hX⟩ := hv
  have hx := B.exec
  have hb := B.bytes
  have hr := B.returns
  have hts : ∀ w ∈ wsX2_begin, w.before _ s = true := atoms_spec (ws := wsX2_begin) B.pre
  have hown : s.vm.findClass RX2 = some m.cls := findClass_of_methodNamed B.named
  have hlocks := B.notSynchronized
  subst hsz
  have hD := hD0.self (sz := s.heap.size)
  have hA : ∀ q9 : Nat, s.heap.size ≤ q9 → va_A [(x0, .inr (2, [.int (iI (n : Int)), .int (iI (w : Int)), .ref xq, .ref xr, .ref xl, .int (iI (rc : Int)), .ref xs, .int (iI (sc : Int)), .ref h0, .ref hn0, .ref xc])), (xq, .inl (cI, 16, .inl (iA q))), (hn0, .inr (1, [.ref al, .ref ad, .int (iI (nm : Int)), .int (iI (wt : Int))]))] s.heap.size q9 := fun q9 h => Or.inr h
  have hS : va_S (va_A [(x0, .inr (2, [.int (iI (n : Int)), .int (iI (w : Int)), .ref xq, .ref xr, .ref xl, .int (iI (rc : Int)), .ref xs, .int (iI (sc : Int)), .ref h0, .ref hn0, .ref xc])), (xq, .inl (cI, 16, .inl (iA q))), (hn0, .inr (1, [.ref al, .ref ad, .int (iI (nm : Int)), .int (iI (wt : Int))]))] s.heap.size) s.heap s.heap [] := va_S.rf
  generalize hAe : va_A [(x0, .inr (2, [.int (iI (n : Int)), .int (iI (w : Int)), .ref xq, .ref xr, .ref xl, .int (iI (rc : Int)), .ref xs, .int (iI (sc : Int)), .ref h0, .ref hn0, .ref xc])), (xq, .inl (cI, 16, .inl (iA q))), (hn0, .inr (1, [.ref al, .ref ad, .int (iI (nm : Int)), .int (iI (wt : Int))]))] s.heap.size = A at hD hA hS hX
  have hP : va_P (dC, dI) vwCl [(x0, .inr (2, [.int (iI (n : Int)), .int (iI (w : Int)), .ref xq, .ref xr, .ref xl, .int (iI (rc : Int)), .ref xs, .int (iI (sc : Int)), .ref h0, .ref hn0, .ref xc])), (xq, .inl (cI, 16, .inl (iA q))), (hn0, .inr (1, [.ref al, .ref ad, .int (iI (nm : Int)), .int (iI (wt : Int))]))] s.heap := hP
  have hNn := hX.1
  have hN_size := hNn.1
  have hN_distances := hNn.2.1
  have hN_places := hNn.2.2
  have hl := lv_entry ([.ref x0, .int (iI v)]) (n := 2) (Nat.le_of_ble_eq_true rfl)
  rw [lg_entry_eq]
  generalize (lg_sl ([.ref x0, .int (iI v)]) ++ List.replicate (2 - (lg_sl ([.ref x0, .int (iI v)])).length) Slot.unset).toArray = ls at hl ⊢
  have hl : lv_has ls 2 [(0, .ref x0), (1, .int (iI v))] := hl
  generalize hargs : ([.ref x0, .int (iI v)] : List Value).toArray = args at hts ⊢
  refine z_intro (fun R Q hR hQ => ?_)
  have hRf : R.frames = 6 := by rw [hR]; rfl
  have hRl : R.locals = 90 := by rw [hR]; rfl
  have hRc : R.cells = 1 := by rw [hR]; rfl
  have hRs : R.slots = 6 := by rw [hR]; rfl
  have in_X2 : ∀ w ∈ u_ws RX2 TX2 11, w ∈ wsX2_begin := fun w h => List.mem_cons_of_mem _ (inW_X2 w h)
  have fl_9 := wa_hts hts wd_100
  have fl_16 := wa_hts hts wd_102
  have fl_26 := wa_hts hts wd_105
  have fl_45 := wa_hts hts wd_109
  clear hR hargs B
  refine lv_iload_n hx hb dX2_begin_0 rfl (lv_at hl 1 rfl) ?_
  refine lv_iconst (v := iI (2 : Int)) hx hb dX2_begin_1 (by decide) ?_
  refine z_icmp_lt (tgt := 11) hx hb dX2_begin_2 (by decide) (by omega) (fun h2 => ?_) (fun h2 => ?_)
  · subst hAe
    exact zx_throw (is := 54) (text := "n is not 2 .. 16") () hx hb hst hown hts hX (by decide +kernel) wd_142 wd_35 (by decide) xg_IA xn_IA hX.2.1.1 xo_IA hEx (hl.1.trans hml.symm) hlocks hP hK hD hS hQ (⟨rfl, by omega⟩) (by omega) (by show 0 + 82 ≤ R.locals; omega) (by omega) (by omega) (by omega) (by omega) dX2_begin_11 dX2_begin_14 dX2_begin_15 dX2_begin_17 dX2_begin_20
  · refine lv_iload_n hx hb dX2_begin_5 rfl (lv_at hl 1 rfl) ?_
    refine lv_bipush (v := iI (16 : Int)) hx hb dX2_begin_6 (by decide) ?_
    refine z_icmp_le (tgt := 21) hx hb dX2_begin_8 (by decide) (by omega) (fun h8 => ?_) (fun h8 => ?_)
    · refine lv_aload_n hx hb dX2_begin_21 rfl (lv_at hl 0 rfl) ?_
      refine lv_iload_n hx hb dX2_begin_22 rfl (lv_at hl 1 rfl) ?_
      refine z_top (b := ((v.toNat : Nat) : Int)) (by omega) ?_
      refine va_put (D := (dC, dI)) (ci := 2) (v := .int (iI ((v.toNat : Nat) : Int))) (ty := .int) (C := RX2) (T := TX2) (N := 11) hx hb hts in_X2 tyX2 tyX2_ok nmX2 hown hK hP hD hS 0 rfl rfl 0 (by decide) fl_9 (fun _ h9 => h9) rfl (by decide +kernel) rfl rfl (Nat.le_of_ble_eq_true rfl) dX2_begin_23 (fun H locs hP hD hS => ?_)
      have hP : va_P (dC, dI) vwCl [(x0, .inr (2, [.int (iI ((v.toNat : Nat) : Int)), .int (iI (w : Int)), .ref xq, .ref xr, .ref xl, .int (iI (rc : Int)), .ref xs, .int (iI (sc : Int)), .ref h0, .ref hn0, .ref xc])), (xq, .inl (cI, 16, .inl (iA q))), (hn0, .inr (1, [.ref al, .ref ad, .int (iI (nm : Int)), .int (iI (wt : Int))]))] H := hP
      have hD : va_D A [(x0, .inr (2, [.int (iI ((v.toNat : Nat) : Int)), .int (iI (w : Int)), .ref xq, .ref xr, .ref xl, .int (iI (rc : Int)), .ref xs, .int (iI (sc : Int)), .ref h0, .ref hn0, .ref xc])), (xq, .inl (cI, 16, .inl (iA q))), (hn0, .inr (1, [.ref al, .ref ad, .int (iI (nm : Int)), .int (iI (wt : Int))]))] := hD
      refine lv_aload_n hx hb dX2_begin_26 rfl (lv_at hl 0 rfl) ?_
      refine lv_iconst (v := iI (0 : Int)) hx hb dX2_begin_27 (by decide) ?_
      refine va_put (D := (dC, dI)) (ci := 2) (v := .int (iI (0 : Int))) (ty := .int) (C := RX2) (T := TX2) (N := 11) hx hb hts in_X2 tyX2 tyX2_ok nmX2 hown hK hP hD hS 0 rfl rfl 5 (by decide) fl_26 (fun _ h9 => h9) rfl (by decide +kernel) rfl rfl (Nat.le_of_ble_eq_true rfl) dX2_begin_28 (fun H locs hP hD hS => ?_)
      have hP : va_P (dC, dI) vwCl [(x0, .inr (2, [.int (iI ((v.toNat : Nat) : Int)), .int (iI (w : Int)), .ref xq, .ref xr, .ref xl, .int (iI (0 : Int)), .ref xs, .int (iI (sc : Int)), .ref h0, .ref hn0, .ref xc])), (xq, .inl (cI, 16, .inl (iA q))), (hn0, .inr (1, [.ref al, .ref ad, .int (iI (nm : Int)), .int (iI (wt : Int))]))] H := hP
      have hD : va_D A [(x0, .inr (2, [.int (iI ((v.toNat : Nat) : Int)), .int (iI (w : Int)), .ref xq, .ref xr, .ref xl, .int (iI (0 : Int)), .ref xs, .int (iI (sc : Int)), .ref h0, .ref hn0, .ref xc])), (xq, .inl (cI, 16, .inl (iA q))), (hn0, .inr (1, [.ref al, .ref ad, .int (iI (nm : Int)), .int (iI (wt : Int))]))] := hD
      refine lv_aload_n hx hb dX2_begin_31 rfl (lv_at hl 0 rfl) ?_
      refine va_get (D := (dC, dI)) (ci := 2) (v := .ref xq) (C := RX2) (T := TX2) (N := 11) hx hb hts in_X2 hown hK hP 0 rfl rfl 2 (by decide) fl_16 (fun _ h9 => h9) rfl dX2_begin_32 ?_
      refine lv_iconst (v := iI (0 : Int)) hx hb dX2_begin_35 (by decide) ?_
      refine zw_v (wr := [(x0, .inr (2, [.int (iI ((v.toNat : Nat) : Int)), .int (iI (w : Int)), .ref xq, .ref xr, .ref xl, .int (iI (0 : Int)), .ref xs, .int (iI (sc : Int)), .ref h0, .ref hn0, .ref xc])), (hn0, .inr (1, [.ref al, .ref ad, .int (iI (nm : Int)), .int (iI (wt : Int))]))]) (va_runS (As := [.ref xq, .int (iI (0 : Int))]) (rest := []) ⟨hx, hb, hml, hown, hts⟩ (c_fillJ l dC dI cI xq 16 0 q _ (by omega)) (va_cwS 2 hts (ga_S2 wd_210 wd_211 wd_36 wd_212) rfl rfl rfl (by decide +kernel) ⟨(show 0 + 1 ≤ R.frames by omega), (show 8 + (4 + 11) + 0 ≤ R.locals by omega)⟩) (wr_preS hP hK hD [1] (by decide) rfl rfl) rfl rfl hl.1 rfl (lv_room (Nat.le_of_ble_eq_true rfl)) dX2_begin_36 ⟨by omega, by omega⟩) hP hD hS hA [1] [0, 2] rfl rfl (by decide) (by decide) (fun u36 H locs hw36 hP hD hS => ?_)
      have hP := hP.sub (ws' := [(x0, .inr (2, [.int (iI ((v.toNat : Nat) : Int)), .int (iI (w : Int)), .ref xq, .ref xr, .ref xl, .int (iI (0 : Int)), .ref xs, .int (iI (sc : Int)), .ref h0, .ref hn0, .ref xc])), (xq, .inl (cI, 16, .inl (iA (zF q 16 0)))), (hn0, .inr (1, [.ref al, .ref ad, .int (iI (nm : Int)), .int (iI (wt : Int))]))]) [0, 2, 1] rfl
      have hD := hD.sub (ws' := [(x0, .inr (2, [.int (iI ((v.toNat : Nat) : Int)), .int (iI (w : Int)), .ref xq, .ref xr, .ref xl, .int (iI (0 : Int)), .ref xs, .int (iI (sc : Int)), .ref h0, .ref hn0, .ref xc])), (xq, .inl (cI, 16, .inl (iA (zF q 16 0)))), (hn0, .inr (1, [.ref al, .ref ad, .int (iI (nm : Int)), .int (iI (wt : Int))]))]) [0, 2, 1] (by decide) rfl
      refine lv_aload_n hx hb dX2_begin_39 rfl (lv_at hl 0 rfl) ?_
      refine va_get (D := (dC, dI)) (ci := 2) (v := .ref hn0) (C := RX2) (T := TX2) (N := 11) hx hb hts in_X2 hown hK hP 0 rfl rfl 9 (by decide) fl_45 (fun _ h9 => h9) rfl dX2_begin_40 ?_
      refine lv_iconst (v := iI (1 : Int)) hx hb dX2_begin_43 (by decide) ?_
      refine zw_v (wr := [(x0, .inr (2, [.int (iI ((v.toNat : Nat) : Int)), .int (iI (w : Int)), .ref xq, .ref xr, .ref xl, .int (iI (0 : Int)), .ref xs, .int (iI (sc : Int)), .ref h0, .ref hn0, .ref xc])), (xq, .inl (cI, 16, .inl (iA (zF q 16 0))))]) (va_runV (As := [.int (iI (1 : Int))]) (rest := []) ⟨hx, hb, hml, hown, hts⟩ (c_startFor l dC dI cI hn0 al ad nm wt 1 _) (cwV 1 hts (ga_V wd_213 wd_214 wd_215 wd_30 wd_216) rfl rfl rfl (by decide +kernel) ⟨(show 0 + 1 ≤ R.frames by omega), (show 8 + (2 + 11) + 0 ≤ R.locals by omega)⟩) (wr_preV (q0 := 0) (ci := 1) hP hK hD [2] (by decide) rfl rfl rfl rfl) rfl rfl hl.1 rfl (lv_room (Nat.le_of_ble_eq_true rfl)) dX2_begin_44 ⟨by omega, by omega⟩) hP hD hS hA [2] [0, 1] rfl rfl (by decide) (by decide) (fun u44 H locs hw44 hP hD hS => ?_)
      have hP := hP.sub (ws' := [(x0, .inr (2, [.int (iI ((v.toNat : Nat) : Int)), .int (iI (w : Int)), .ref xq, .ref xr, .ref xl, .int (iI (0 : Int)), .ref xs, .int (iI (sc : Int)), .ref h0, .ref hn0, .ref xc])), (xq, .inl (cI, 16, .inl (iA (zF q 16 0)))), (hn0, .inr (1, [.ref al, .ref ad, .int (iI (0 : Int)), .int (iI (1 : Int))]))]) [0, 1, 2] rfl
      have hD := hD.sub (ws' := [(x0, .inr (2, [.int (iI ((v.toNat : Nat) : Int)), .int (iI (w : Int)), .ref xq, .ref xr, .ref xl, .int (iI (0 : Int)), .ref xs, .int (iI (sc : Int)), .ref h0, .ref hn0, .ref xc])), (xq, .inl (cI, 16, .inl (iA (zF q 16 0)))), (hn0, .inr (1, [.ref al, .ref ad, .int (iI (0 : Int)), .int (iI (1 : Int))]))]) [0, 1, 2] (by decide) rfl
      subst hAe
      exact zx_retv (()) hx hb hr hlocks hQ (by omega) (by omega) (by omega) hP hK hD hS dX2_begin_47
    · subst hAe
      exact zx_throw (is := 54) (text := "n is not 2 .. 16") () hx hb hst hown hts hX (by decide +kernel) wd_142 wd_35 (by decide) xg_IA xn_IA hX.2.1.1 xo_IA hEx (hl.1.trans hml.symm) hlocks hP hK hD hS hQ (⟨rfl, by omega⟩) (by omega) (by show 0 + 82 ≤ R.locals; omega) (by omega) (by omega) (by omega) (by omega) dX2_begin_11 dX2_begin_14 dX2_begin_15 dX2_begin_17 dX2_begin_20
set_option maxRecDepth 100000 in
set_option maxHeartbeats 4000000 in
theorem c_ask (l : Launch) (hst : l.stackTraces = false) (dC : Nat → ClassId) (dI : Nat → Nat → Nat) (cI : ClassId) (x0 xq xr xl xs h0 hn0 xc : Nat) (n w rc sc : Nat) (i v : Int) (q : Nat → Int) (sz : Nat) (hn : 2 ≤ n ∧ n ≤ 16) (hi : -2147483648 ≤ i ∧ i ≤ 2147483647) (hv : -2147483648 ≤ v ∧ v ≤ 2147483647) : vx_Met l yX2_ask wsX2_ask ({ frames := 6, cells := 1, slots := 6, locals := 90 }) (wxP dC dI [(cI, .int)] [(x0, .inr (2, [.int (iI (n : Int)), .int (iI (w : Int)), .ref xq, .ref xr, .ref xl, .int (iI (rc : Int)), .ref xs, .int (iI (sc : Int)), .ref h0, .ref hn0, .ref xc])), (xq, .inl (cI, 16, .inl (iA q)))] sz [.ref x0, .int (iI i), .int (iI v)]) (wrQi dC dI [(cI, .int)] [(x0, .inr (2, [.int (iI (n : Int)), .int (iI (w : Int)), .ref xq, .ref xr, .ref xl, .int (iI (rc : Int)), .ref xs, .int (iI (sc : Int)), .ref h0, .ref hn0, .ref xc])), (xq, .inl (cI, 16, .inl (iA q)))] sz (S := Unit) (fun z _ => (0 ≤ i ∧ i < (n : Int)) ∧ (-1000 ≤ v ∧ v ≤ 1000) ∧ z = q i.toNat) (fun _ => [(x0, .inr (2, [.int (iI (n : Int)), .int (iI (w : Int)), .ref xq, .ref xr, .ref xl, .int (iI (rc : Int)), .ref xs, .int (iI (sc : Int)), .ref h0, .ref hn0, .ref xc])), (xq, .inl (cI, 16, .inl (iA (zU q i.toNat v))))])) (wxX dC dI [(cI, .int)] [(x0, .inr (2, [.int (iI (n : Int)), .int (iI (w : Int)), .ref xq, .ref xr, .ref xl, .int (iI (rc : Int)), .ref xs, .int (iI (sc : Int)), .ref h0, .ref hn0, .ref xc])), (xq, .inl (cI, 16, .inl (iA q)))] sz (SX := Unit) (fun _ E => (E = xIO ∧ (i < 0 ∨ (n : Int) ≤ i)) ∨ (E = xIA ∧ (0 ≤ i ∧ i < (n : Int)) ∧ (v < -1000 ∨ 1000 < v))) (fun _ => [(x0, .inr (2, [.int (iI (n : Int)), .int (iI (w : Int)), .ref xq, .ref xr, .ref xl, .int (iI (rc : Int)), .ref xs, .int (iI (sc : Int)), .ref h0, .ref hn0, .ref xc])), (xq, .inl (cI, 16, .inl (iA q)))])) 1 6 (va_A [(x0, .inr (2, [.int (iI (n : Int)), .int (iI (w : Int)), .ref xq, .ref xr, .ref xl, .int (iI (rc : Int)), .ref xs, .int (iI (sc : Int)), .ref h0, .ref hn0, .ref xc])), (xq, .inl (cI, 16, .inl (iA q)))] sz) := by
  refine vx_ofW (cc := cX2_ask) (maxL := 4) (ret := (some .int)) (by decide) rfl ?_
  intro p e s m args below meth c s₁ B hml hEx hv
  obtain ⟨rfl, hsz, hP, hK, hD0, hX⟩ := hv
  have hx := B.exec
  have hb := B.bytes
  have hr := B.returns
  have hts : ∀ w ∈ wsX2_ask, w.before _ s = true := atoms_spec (ws := wsX2_ask) B.pre
  have hown : s.vm.findClass RX2 = some m.cls := findClass_of_methodNamed B.named
  have hlocks := B.notSynchronized
  subst hsz
  have hD := hD0.self (sz := s.heap.size)
  have hA : ∀ q9 : Nat, s.heap.size ≤ q9 → va_A [(x0, .inr (2, [.int (iI (n : Int)), .int (iI (w : Int)), .ref xq, .ref xr, .ref xl, .int (iI (rc : Int)), .ref xs, .int (iI (sc : Int)), .ref h0, .ref hn0, .ref xc])), (xq, .inl (cI, 16, .inl (iA q)))] s.heap.size q9 := fun q9 h => Or.inr h
  have hS : va_S (va_A [(x0, .inr (2, [.int (iI (n : Int)), .int (iI (w : Int)), .ref xq, .ref xr, .ref xl, .int (iI (rc : Int)), .ref xs, .int (iI (sc : Int)), .ref h0, .ref hn0, .ref xc])), (xq, .inl (cI, 16, .inl (iA q)))] s.heap.size) s.heap s.heap [] := va_S.rf
  generalize hAe : va_A [(x0, .inr (2, [.int (iI (n : Int)), .int (iI (w : Int)), .ref xq, .ref xr, .ref xl, .int (iI (rc : Int)), .ref xs, .int (iI (sc : Int)), .ref h0, .ref hn0, .ref xc])), (xq, .inl (cI, 16, .inl (iA q)))] s.heap.size = A at hD hA hS hX
  have hP : va_P (dC, dI) vwCl [(x0, .inr (2, [.int (iI (n : Int)), .int (iI (w : Int)), .ref xq, .ref xr, .ref xl, .int (iI (rc : Int)), .ref xs, .int (iI (sc : Int)), .ref h0, .ref hn0, .ref xc])), (xq, .inl (cI, 16, .inl (iA q)))] s.heap := hP
  have hNn := hX.1
  have hN_size := hNn.1
  have hN_distances := hNn.2.1
  have hN_places := hNn.2.2
  have hl := lv_entry ([.ref x0, .int (iI i), .int (iI v)]) (n := 4) (Nat.le_of_ble_eq_true rfl)
  rw [lg_entry_eq]
  generalize (lg_sl ([.ref x0, .int (iI i), .int (iI v)]) ++ List.replicate (4 - (lg_sl ([.ref x0, .int (iI i), .int (iI v)])).length) Slot.unset).toArray = ls at hl ⊢
  have hl : lv_has ls 4 [(0, .ref x0), (1, .int (iI i)), (2, .int (iI v))] := hl
  generalize hargs : ([.ref x0, .int (iI i), .int (iI v)] : List Value).toArray = args at hts ⊢
  refine z_intro (fun R Q hR hQ => ?_)
  have hRf : R.frames = 6 := by rw [hR]; rfl
  have hRl : R.locals = 90 := by rw [hR]; rfl
  have hRc : R.cells = 1 := by rw [hR]; rfl
  have hRs : R.slots = 6 := by rw [hR]; rfl
  have in_X2 : ∀ w ∈ u_ws RX2 TX2 11, w ∈ wsX2_ask := fun w h => List.mem_cons_of_mem _ (inW_X2 w h)
  have fl_9 := wa_hts hts wd_100
  have fl_16 := wa_hts hts wd_102
  clear hR hargs B
  refine lv_iload_n hx hb dX2_ask_0 rfl (lv_at hl 1 rfl) ?_
  refine z_if_lt (tgt := 12) hx hb dX2_ask_1 (by decide) (by omega) (fun h1 => ?_) (fun h1 => ?_)
  · subst hAe
    exact zx_throw (is := 71) (text := "the question has no such number") () hx hb hst hown hts hX (by decide +kernel) wd_225 wd_37 (by decide) xg_IO xn_IO hX.2.1.2.1 xo_IO hEx (hl.1.trans hml.symm) hlocks hP hK hD hS hQ (Or.inl ⟨rfl, by omega⟩) (by omega) (by show 0 + 82 ≤ R.locals; omega) (by omega) (by omega) (by omega) (by omega) dX2_ask_12 dX2_ask_15 dX2_ask_16 dX2_ask_18 dX2_ask_21
  · refine lv_iload_n hx hb dX2_ask_4 rfl (lv_at hl 1 rfl) ?_
    refine lv_aload_n hx hb dX2_ask_5 rfl (lv_at hl 0 rfl) ?_
    refine va_get (D := (dC, dI)) (ci := 2) (v := .int (iI (n : Int))) (C := RX2) (T := TX2) (N := 11) hx hb hts in_X2 hown hK hP 0 rfl rfl 0 (by decide) fl_9 (fun _ h9 => h9) rfl dX2_ask_6 ?_
    refine z_icmp_lt (tgt := 22) hx hb dX2_ask_9 (by decide) (by omega) (fun h9 => ?_) (fun h9 => ?_)
    · refine lv_iload_n hx hb dX2_ask_22 rfl (lv_at hl 2 rfl) ?_
      refine zr_i (va_runS (As := [.int (iI v)]) (rest := []) ⟨hx, hb, hml, hown, hts⟩ (c_isValue l dC dI cI v (by omega)) (cwS 1 hts (ga_S wd_241 wd_242 wd_28 wd_243) rfl rfl rfl (by decide +kernel) ⟨(show 0 + 1 ≤ R.frames by omega), (show 8 + (1 + 11) + 0 ≤ R.locals by omega)⟩) (rd_preS hP hK [] rfl) rfl rfl hl.1 rfl (lv_room (Nat.le_of_ble_eq_true rfl)) dX2_ask_23 ⟨by omega, by omega⟩) (fun z23 hz23 => ?_)
      refine z_if_ne (tgt := 39) hx hb dX2_ask_26 (by decide) (by omega) (fun h26 => ?_) (fun h26 => ?_)
      · refine lv_aload_n hx hb dX2_ask_39 rfl (lv_at hl 0 rfl) ?_
        refine va_get (D := (dC, dI)) (ci := 2) (v := .ref xq) (C := RX2) (T := TX2) (N := 11) hx hb hts in_X2 hown hK hP 0 rfl rfl 2 (by decide) fl_16 (fun _ h9 => h9) rfl dX2_ask_40 ?_
        refine lv_iload_n hx hb dX2_ask_43 rfl (lv_at hl 1 rfl) ?_
        refine z_iald hx hb hK hP 1 0 rfl rfl i.toNat (by omega) dX2_ask_44 ?_
        refine lv_istore_n (lv' := [(3, .int (iI (q i.toNat))), (0, .ref x0), (1, .int (iI i)), (2, .int (iI v))]) hx hb dX2_ask_45 rfl hl (by decide) rfl (fun ls hl => ?_)
        refine lv_aload_n hx hb dX2_ask_46 rfl (lv_at hl 1 rfl) ?_
        refine va_get (D := (dC, dI)) (ci := 2) (v := .ref xq) (C := RX2) (T := TX2) (N := 11) hx hb hts in_X2 hown hK hP 0 rfl rfl 2 (by decide) fl_16 (fun _ h9 => h9) rfl dX2_ask_47 ?_
        refine lv_iload_n hx hb dX2_ask_50 rfl (lv_at hl 2 rfl) ?_
        refine lv_iload_n hx hb dX2_ask_51 rfl (lv_at hl 3 rfl) ?_
        refine z_iast hx hb hK hP hD hS 1 0 rfl rfl i.toNat (by omega) dX2_ask_52 (fun H locs hP hD hS => ?_)
        have hP : va_P (dC, dI) vwCl [(x0, .inr (2, [.int (iI (n : Int)), .int (iI (w : Int)), .ref xq, .ref xr, .ref xl, .int (iI (rc : Int)), .ref xs, .int (iI (sc : Int)), .ref h0, .ref hn0, .ref xc])), (xq, .inl (cI, 16, .inl (iA (zU q i.toNat v))))] H := hP
        have hD : va_D A [(x0, .inr (2, [.int (iI (n : Int)), .int (iI (w : Int)), .ref xq, .ref xr, .ref xl, .int (iI (rc : Int)), .ref xs, .int (iI (sc : Int)), .ref h0, .ref hn0, .ref xc])), (xq, .inl (cI, 16, .inl (iA (zU q i.toNat v))))] := hD
        refine lv_iload_n hx hb dX2_ask_53 rfl (lv_at hl 0 rfl) ?_
        subst hAe
        exact zx_reti (z := q i.toNat) (()) hx hb hr hlocks hQ (by omega) (by omega) (⟨by omega, by omega, rfl⟩) hP hK hD hS dX2_ask_54
      · subst hAe
        exact zx_throw (is := 78) (text := "v is not -1000 .. 1000") () hx hb hst hown hts hX (by decide +kernel) wd_142 wd_35 (by decide) xg_IA xn_IA hX.2.1.1 xo_IA hEx (hl.1.trans hml.symm) hlocks hP hK hD hS hQ (Or.inr ⟨rfl, by omega, by omega⟩) (by omega) (by show 0 + 82 ≤ R.locals; omega) (by omega) (by omega) (by omega) (by omega) dX2_ask_29 dX2_ask_32 dX2_ask_33 dX2_ask_35 dX2_ask_38
    · subst hAe
      exact zx_throw (is := 71) (text := "the question has no such number") () hx hb hst hown hts hX (by decide +kernel) wd_225 wd_37 (by decide) xg_IO xn_IO hX.2.1.2.1 xo_IO hEx (hl.1.trans hml.symm) hlocks hP hK hD hS hQ (Or.inl ⟨rfl, by omega⟩) (by omega) (by show 0 + 82 ≤ R.locals; omega) (by omega) (by omega) (by omega) (by omega) dX2_ask_12 dX2_ask_15 dX2_ask_16 dX2_ask_18 dX2_ask_21
set_option maxRecDepth 100000 in
set_option maxHeartbeats 4000000 in
theorem c_keep (l : Launch) (hst : l.stackTraces = false) (dC : Nat → ClassId) (dI : Nat → Nat → Nat) (cI : ClassId) (x0 xq xr xl xs h0 hn0 xc : Nat) (n w rc sc : Nat) (v : Int) (q X la : Nat → Int) (sz : Nat) (hn : 2 ≤ n ∧ n ≤ 16) (hrc : rc ≤ 12) (hv : -2147483648 ≤ v ∧ v ≤ 2147483647) : vx_Met l yX2_keep wsX2_keep ({ frames := 6, cells := 1, slots := 6, locals := 90 }) (wxP dC dI [(cI, .int)] [(x0, .inr (2, [.int (iI (n : Int)), .int (iI (w : Int)), .ref xq, .ref xr, .ref xl, .int (iI (rc : Int)), .ref xs, .int (iI (sc : Int)), .ref h0, .ref hn0, .ref xc])), (xq, .inl (cI, 16, .inl (iA q))), (xr, .inl (cI, 192, .inl (iA X))), (xl, .inl (cI, 12, .inl (iA la)))] sz [.ref x0, .int (iI v)]) (wrQi dC dI [(cI, .int)] [(x0, .inr (2, [.int (iI (n : Int)), .int (iI (w : Int)), .ref xq, .ref xr, .ref xl, .int (iI (rc : Int)), .ref xs, .int (iI (sc : Int)), .ref h0, .ref hn0, .ref xc])), (xq, .inl (cI, 16, .inl (iA q))), (xr, .inl (cI, 192, .inl (iA X))), (xl, .inl (cI, 12, .inl (iA la)))] sz (S := Unit) (fun z _ => (0 ≤ v ∧ v ≤ 7) ∧ rc < 12 ∧ z = (rc : Int)) (fun _ => [(x0, .inr (2, [.int (iI (n : Int)), .int (iI (w : Int)), .ref xq, .ref xr, .ref xl, .int (iI ((rc + 1 : Nat) : Int)), .ref xs, .int (iI (sc : Int)), .ref h0, .ref hn0, .ref xc])), (xq, .inl (cI, 16, .inl (iA q))), (xr, .inl (cI, 192, .inl (iA (zC q X 0 (16 * rc) n)))), (xl, .inl (cI, 12, .inl (iA (zU la rc v))))])) (wxX dC dI [(cI, .int)] [(x0, .inr (2, [.int (iI (n : Int)), .int (iI (w : Int)), .ref xq, .ref xr, .ref xl, .int (iI (rc : Int)), .ref xs, .int (iI (sc : Int)), .ref h0, .ref hn0, .ref xc])), (xq, .inl (cI, 16, .inl (iA q))), (xr, .inl (cI, 192, .inl (iA X))), (xl, .inl (cI, 12, .inl (iA la)))] sz (SX := Unit) (fun _ E => (E = xIA ∧ (v < 0 ∨ 7 < v)) ∨ (E = xIS ∧ (0 ≤ v ∧ v ≤ 7) ∧ rc = 12)) (fun _ => [(x0, .inr (2, [.int (iI (n : Int)), .int (iI (w : Int)), .ref xq, .ref xr, .ref xl, .int (iI (rc : Int)), .ref xs, .int (iI (sc : Int)), .ref h0, .ref hn0, .ref xc])), (xq, .inl (cI, 16, .inl (iA q))), (xr, .inl (cI, 192, .inl (iA X))), (xl, .inl (cI, 12, .inl (iA la)))])) 1 6 (va_A [(x0, .inr (2, [.int (iI (n : Int)), .int (iI (w : Int)), .ref xq, .ref xr, .ref xl, .int (iI (rc : Int)), .ref xs, .int (iI (sc : Int)), .ref h0, .ref hn0, .ref xc])), (xq, .inl (cI, 16, .inl (iA q))), (xr, .inl (cI, 192, .inl (iA X))), (xl, .inl (cI, 12, .inl (iA la)))] sz) := by
  refine vx_ofW (cc := cX2_keep) (maxL := 3) (ret := (some .int)) (by decide) rfl ?_
  intro p e s m args below meth c s₁ B hml hEx hv
  obtain ⟨rfl, hsz, hP, hK, hD0, hX⟩ := hv
  have hx := B.exec
  have hb := B.bytes
  have hr := B.returns
  have hts : ∀ w ∈ wsX2_keep, w.before _ s = true := atoms_spec (ws := wsX2_keep) B.pre
  have hown : s.vm.findClass RX2 = some m.cls := findClass_of_methodNamed B.named
  have hlocks := B.notSynchronized
  subst hsz
  have hD := hD0.self (sz := s.heap.size)
  have hA : ∀ q9 : Nat, s.heap.size ≤ q9 → va_A [(x0, .inr (2, [.int (iI (n : Int)), .int (iI (w : Int)), .ref xq, .ref xr, .ref xl, .int (iI (rc : Int)), .ref xs, .int (iI (sc : Int)), .ref h0, .ref hn0, .ref xc])), (xq, .inl (cI, 16, .inl (iA q))), (xr, .inl (cI, 192, .inl (iA X))), (xl, .inl (cI, 12, .inl (iA la)))] s.heap.size q9 := fun q9 h => Or.inr h
  have hS : va_S (va_A [(x0, .inr (2, [.int (iI (n : Int)), .int (iI (w : Int)), .ref xq, .ref xr, .ref xl, .int (iI (rc : Int)), .ref xs, .int (iI (sc : Int)), .ref h0, .ref hn0, .ref xc])), (xq, .inl (cI, 16, .inl (iA q))), (xr, .inl (cI, 192, .inl (iA X))), (xl, .inl (cI, 12, .inl (iA la)))] s.heap.size) s.heap s.heap [] := va_S.rf
  generalize hAe : va_A [(x0, .inr (2, [.int (iI (n : Int)), .int (iI (w : Int)), .ref xq, .ref xr, .ref xl, .int (iI (rc : Int)), .ref xs, .int (iI (sc : Int)), .ref h0, .ref hn0, .ref xc])), (xq, .inl (cI, 16, .inl (iA q))), (xr, .inl (cI, 192, .inl (iA X))), (xl, .inl (cI, 12, .inl (iA la)))] s.heap.size = A at hD hA hS hX
  have hP : va_P (dC, dI) vwCl [(x0, .inr (2, [.int (iI (n : Int)), .int (iI (w : Int)), .ref xq, .ref xr, .ref xl, .int (iI (rc : Int)), .ref xs, .int (iI (sc : Int)), .ref h0, .ref hn0, .ref xc])), (xq, .inl (cI, 16, .inl (iA q))), (xr, .inl (cI, 192, .inl (iA X))), (xl, .inl (cI, 12, .inl (iA la)))] s.heap := hP
  have hNn := hX.1
  have hN_size := hNn.1
  have hN_distances := hNn.2.1
  have hN_places := hNn.2.2
  have hl := lv_entry ([.ref x0, .int (iI v)]) (n := 3) (Nat.le_of_ble_eq_true rfl)
  rw [lg_entry_eq]
  generalize (lg_sl ([.ref x0, .int (iI v)]) ++ List.replicate (3 - (lg_sl ([.ref x0, .int (iI v)])).length) Slot.unset).toArray = ls at hl ⊢
  have hl : lv_has ls 3 [(0, .ref x0), (1, .int (iI v))] := hl
  generalize hargs : ([.ref x0, .int (iI v)] : List Value).toArray = args at hts ⊢
  refine z_intro (fun R Q hR hQ => ?_)
  have hRf : R.frames = 6 := by rw [hR]; rfl
  have hRl : R.locals = 90 := by rw [hR]; rfl
  have hRc : R.cells = 1 := by rw [hR]; rfl
  have hRs : R.slots = 6 := by rw [hR]; rfl
  have in_X2 : ∀ w ∈ u_ws RX2 TX2 11, w ∈ wsX2_keep := fun w h => List.mem_cons_of_mem _ (inW_X2 w h)
  have fl_9 := wa_hts hts wd_100
  have fl_16 := wa_hts hts wd_102
  have fl_20 := wa_hts hts wd_103
  have fl_23 := wa_hts hts wd_104
  have fl_26 := wa_hts hts wd_105
  have ml_87 : (Cond.methodLink RX2 87 arraycopyName).before args s = true := wa_hts hts wd_270
  have nt_copy : (Cond.native arraycopyName).before args s = true := wa_hts hts wd_272
  have st_copy : (Cond.static arraycopyName).before args s = true := wa_hts hts wd_271
  have hSys := wa_hts hts wd_39
  clear hR hargs B
  refine lv_iload_n hx hb dX2_keep_0 rfl (lv_at hl 1 rfl) ?_
  refine z_if_lt (tgt := 10) hx hb dX2_keep_1 (by decide) (by omega) (fun h1 => ?_) (fun h1 => ?_)
  · subst hAe
    exact zx_throw (is := 80) (text := "label is not 0 .. 7") () hx hb hst hown hts hX (by decide +kernel) wd_142 wd_35 (by decide) xg_IA xn_IA hX.2.1.1 xo_IA hEx (hl.1.trans hml.symm) hlocks hP hK hD hS hQ (Or.inl ⟨rfl, by omega⟩) (by omega) (by show 0 + 82 ≤ R.locals; omega) (by omega) (by omega) (by omega) (by omega) dX2_keep_10 dX2_keep_13 dX2_keep_14 dX2_keep_16 dX2_keep_19
  · refine lv_iload_n hx hb dX2_keep_4 rfl (lv_at hl 1 rfl) ?_
    refine lv_bipush (v := iI (7 : Int)) hx hb dX2_keep_5 (by decide) ?_
    refine z_icmp_le (tgt := 20) hx hb dX2_keep_7 (by decide) (by omega) (fun h7 => ?_) (fun h7 => ?_)
    · refine lv_aload_n hx hb dX2_keep_20 rfl (lv_at hl 0 rfl) ?_
      refine va_get (D := (dC, dI)) (ci := 2) (v := .int (iI (rc : Int))) (C := RX2) (T := TX2) (N := 11) hx hb hts in_X2 hown hK hP 0 rfl rfl 5 (by decide) fl_26 (fun _ h9 => h9) rfl dX2_keep_21 ?_
      refine lv_bipush (v := iI (12 : Int)) hx hb dX2_keep_24 (by decide) ?_
      refine z_icmp_lt (tgt := 39) hx hb dX2_keep_26 (by decide) (by omega) (fun h26 => ?_) (fun h26 => ?_)
      · refine lv_aload_n hx hb dX2_keep_39 rfl (lv_at hl 0 rfl) ?_
        refine va_get (D := (dC, dI)) (ci := 2) (v := .int (iI (rc : Int))) (C := RX2) (T := TX2) (N := 11) hx hb hts in_X2 hown hK hP 0 rfl rfl 5 (by decide) fl_26 (fun _ h9 => h9) rfl dX2_keep_40 ?_
        refine lv_istore_n (lv' := [(2, .int (iI (rc : Int))), (0, .ref x0), (1, .int (iI v))]) hx hb dX2_keep_43 rfl hl (by decide) rfl (fun ls hl => ?_)
        refine lv_aload_n hx hb dX2_keep_44 rfl (lv_at hl 1 rfl) ?_
        refine va_get (D := (dC, dI)) (ci := 2) (v := .ref xq) (C := RX2) (T := TX2) (N := 11) hx hb hts in_X2 hown hK hP 0 rfl rfl 2 (by decide) fl_16 (fun _ h9 => h9) rfl dX2_keep_45 ?_
        refine lv_iconst (v := iI (0 : Int)) hx hb dX2_keep_48 (by decide) ?_
        refine lv_aload_n hx hb dX2_keep_49 rfl (lv_at hl 1 rfl) ?_
        refine va_get (D := (dC, dI)) (ci := 2) (v := .ref xr) (C := RX2) (T := TX2) (N := 11) hx hb hts in_X2 hown hK hP 0 rfl rfl 3 (by decide) fl_20 (fun _ h9 => h9) rfl dX2_keep_50 ?_
        refine lv_iload_n hx hb dX2_keep_53 rfl (lv_at hl 0 rfl) ?_
        refine lv_bipush (v := iI (16 : Int)) hx hb dX2_keep_54 (by decide) ?_
        refine z_imul hx hb dX2_keep_56 ?_
        refine lv_aload_n hx hb dX2_keep_57 rfl (lv_at hl 1 rfl) ?_
        refine va_get (D := (dC, dI)) (ci := 2) (v := .int (iI (n : Int))) (C := RX2) (T := TX2) (N := 11) hx hb hts in_X2 hown hK hP 0 rfl rfl 0 (by decide) fl_9 (fun _ h9 => h9) rfl dX2_keep_58 ?_
        refine z_copy hx hb (hml.trans hl.1.symm) hown ml_87 nt_copy st_copy hSys hK hP hD hS 1 2 0 rfl rfl rfl 0 (16 * rc) n (by omega) (by omega) (by show 0 + (nativeFrameWords "java/lang/System" "arraycopy" 5 + 11) ≤ R.locals; rw [hRl]; decide +kernel) dX2_keep_61 (fun H locs hP hD hS => ?_)
        have hP : va_P (dC, dI) vwCl [(x0, .inr (2, [.int (iI (n : Int)), .int (iI (w : Int)), .ref xq, .ref xr, .ref xl, .int (iI (rc : Int)), .ref xs, .int (iI (sc : Int)), .ref h0, .ref hn0, .ref xc])), (xq, .inl (cI, 16, .inl (iA q))), (xr, .inl (cI, 192, .inl (iA (zC q X 0 (16 * rc) n)))), (xl, .inl (cI, 12, .inl (iA la)))] H := hP
        have hD : va_D A [(x0, .inr (2, [.int (iI (n : Int)), .int (iI (w : Int)), .ref xq, .ref xr, .ref xl, .int (iI (rc : Int)), .ref xs, .int (iI (sc : Int)), .ref h0, .ref hn0, .ref xc])), (xq, .inl (cI, 16, .inl (iA q))), (xr, .inl (cI, 192, .inl (iA (zC q X 0 (16 * rc) n)))), (xl, .inl (cI, 12, .inl (iA la)))] := hD
        refine lv_aload_n hx hb dX2_keep_64 rfl (lv_at hl 1 rfl) ?_
        refine va_get (D := (dC, dI)) (ci := 2) (v := .ref xl) (C := RX2) (T := TX2) (N := 11) hx hb hts in_X2 hown hK hP 0 rfl rfl 4 (by decide) fl_23 (fun _ h9 => h9) rfl dX2_keep_65 ?_
        refine lv_iload_n hx hb dX2_keep_68 rfl (lv_at hl 0 rfl) ?_
        refine lv_iload_n hx hb dX2_keep_69 rfl (lv_at hl 2 rfl) ?_
        refine z_iast hx hb hK hP hD hS 3 0 rfl rfl rc (by omega) dX2_keep_70 (fun H locs hP hD hS => ?_)
        have hP : va_P (dC, dI) vwCl [(x0, .inr (2, [.int (iI (n : Int)), .int (iI (w : Int)), .ref xq, .ref xr, .ref xl, .int (iI (rc : Int)), .ref xs, .int (iI (sc : Int)), .ref h0, .ref hn0, .ref xc])), (xq, .inl (cI, 16, .inl (iA q))), (xr, .inl (cI, 192, .inl (iA (zC q X 0 (16 * rc) n)))), (xl, .inl (cI, 12, .inl (iA (zU la rc v))))] H := hP
        have hD : va_D A [(x0, .inr (2, [.int (iI (n : Int)), .int (iI (w : Int)), .ref xq, .ref xr, .ref xl, .int (iI (rc : Int)), .ref xs, .int (iI (sc : Int)), .ref h0, .ref hn0, .ref xc])), (xq, .inl (cI, 16, .inl (iA q))), (xr, .inl (cI, 192, .inl (iA (zC q X 0 (16 * rc) n)))), (xl, .inl (cI, 12, .inl (iA (zU la rc v))))] := hD
        refine lv_aload_n hx hb dX2_keep_71 rfl (lv_at hl 1 rfl) ?_
        refine lv_iload_n hx hb dX2_keep_72 rfl (lv_at hl 0 rfl) ?_
        refine lv_iconst (v := iI (1 : Int)) hx hb dX2_keep_73 (by decide) ?_
        refine z_iadd hx hb dX2_keep_74 ?_
        refine z_top (b := ((rc + 1 : Nat) : Int)) (by omega) ?_
        refine va_put (D := (dC, dI)) (ci := 2) (v := .int (iI ((rc + 1 : Nat) : Int))) (ty := .int) (C := RX2) (T := TX2) (N := 11) hx hb hts in_X2 tyX2 tyX2_ok nmX2 hown hK hP hD hS 0 rfl rfl 5 (by decide) fl_26 (fun _ h9 => h9) rfl (by decide +kernel) rfl rfl (Nat.le_of_ble_eq_true rfl) dX2_keep_75 (fun H locs hP hD hS => ?_)
        have hP : va_P (dC, dI) vwCl [(x0, .inr (2, [.int (iI (n : Int)), .int (iI (w : Int)), .ref xq, .ref xr, .ref xl, .int (iI ((rc + 1 : Nat) : Int)), .ref xs, .int (iI (sc : Int)), .ref h0, .ref hn0, .ref xc])), (xq, .inl (cI, 16, .inl (iA q))), (xr, .inl (cI, 192, .inl (iA (zC q X 0 (16 * rc) n)))), (xl, .inl (cI, 12, .inl (iA (zU la rc v))))] H := hP
        have hD : va_D A [(x0, .inr (2, [.int (iI (n : Int)), .int (iI (w : Int)), .ref xq, .ref xr, .ref xl, .int (iI ((rc + 1 : Nat) : Int)), .ref xs, .int (iI (sc : Int)), .ref h0, .ref hn0, .ref xc])), (xq, .inl (cI, 16, .inl (iA q))), (xr, .inl (cI, 192, .inl (iA (zC q X 0 (16 * rc) n)))), (xl, .inl (cI, 12, .inl (iA (zU la rc v))))] := hD
        refine lv_iload_n hx hb dX2_keep_78 rfl (lv_at hl 0 rfl) ?_
        subst hAe
        exact zx_reti (z := (rc : Int)) (()) hx hb hr hlocks hQ (by omega) (by omega) (⟨by omega, by omega, rfl⟩) hP hK hD hS dX2_keep_79
      · subst hAe
        exact zx_throw (is := 84) (text := "there are 12 rows") () hx hb hst hown hts hX (by decide +kernel) wd_254 wd_38 (by decide) xg_IS xn_IS hX.2.1.2.2 xo_IS hEx (hl.1.trans hml.symm) hlocks hP hK hD hS hQ (Or.inr ⟨rfl, by omega, by omega⟩) (by omega) (by show 0 + 82 ≤ R.locals; omega) (by omega) (by omega) (by omega) (by omega) dX2_keep_29 dX2_keep_32 dX2_keep_33 dX2_keep_35 dX2_keep_38
    · subst hAe
      exact zx_throw (is := 80) (text := "label is not 0 .. 7") () hx hb hst hown hts hX (by decide +kernel) wd_142 wd_35 (by decide) xg_IA xn_IA hX.2.1.1 xo_IA hEx (hl.1.trans hml.symm) hlocks hP hK hD hS hQ (Or.inl ⟨rfl, by omega⟩) (by omega) (by show 0 + 82 ≤ R.locals; omega) (by omega) (by omega) (by omega) (by omega) dX2_keep_10 dX2_keep_13 dX2_keep_14 dX2_keep_16 dX2_keep_19
set_option maxRecDepth 100000 in
set_option maxHeartbeats 4000000 in
theorem c_recall (l : Launch) (hst : l.stackTraces = false) (dC : Nat → ClassId) (dI : Nat → Nat → Nat) (cI : ClassId) (x0 xq xr xl xs h0 hn0 xc : Nat) (n w rc sc : Nat) (r9 : Int) (q X : Nat → Int) (sz : Nat) (hn : 2 ≤ n ∧ n ≤ 16) (hrc : rc ≤ 12) (hr9 : -2147483648 ≤ r9 ∧ r9 ≤ 2147483647) : vx_Met l yX2_recall wsX2_recall ({ frames := 7, cells := 1, slots := 6, locals := 111 }) (wxP dC dI [(cI, .int)] [(x0, .inr (2, [.int (iI (n : Int)), .int (iI (w : Int)), .ref xq, .ref xr, .ref xl, .int (iI (rc : Int)), .ref xs, .int (iI (sc : Int)), .ref h0, .ref hn0, .ref xc])), (xq, .inl (cI, 16, .inl (iA q))), (xr, .inl (cI, 192, .inl (iA X)))] sz [.ref x0, .int (iI r9)]) (wrQv dC dI [(cI, .int)] [(x0, .inr (2, [.int (iI (n : Int)), .int (iI (w : Int)), .ref xq, .ref xr, .ref xl, .int (iI (rc : Int)), .ref xs, .int (iI (sc : Int)), .ref h0, .ref hn0, .ref xc])), (xq, .inl (cI, 16, .inl (iA q))), (xr, .inl (cI, 192, .inl (iA X)))] sz (S := Unit) (fun _ => 0 ≤ r9 ∧ r9 < (rc : Int)) (fun _ => [(x0, .inr (2, [.int (iI (n : Int)), .int (iI (w : Int)), .ref xq, .ref xr, .ref xl, .int (iI (rc : Int)), .ref xs, .int (iI (sc : Int)), .ref h0, .ref hn0, .ref xc])), (xq, .inl (cI, 16, .inl (iA (zC X q (16 * r9.toNat) 0 n)))), (xr, .inl (cI, 192, .inl (iA X)))])) (wxX dC dI [(cI, .int)] [(x0, .inr (2, [.int (iI (n : Int)), .int (iI (w : Int)), .ref xq, .ref xr, .ref xl, .int (iI (rc : Int)), .ref xs, .int (iI (sc : Int)), .ref h0, .ref hn0, .ref xc])), (xq, .inl (cI, 16, .inl (iA q))), (xr, .inl (cI, 192, .inl (iA X)))] sz (SX := Unit) (fun _ E => E = xIO ∧ (r9 < 0 ∨ (rc : Int) ≤ r9)) (fun _ => [(x0, .inr (2, [.int (iI (n : Int)), .int (iI (w : Int)), .ref xq, .ref xr, .ref xl, .int (iI (rc : Int)), .ref xs, .int (iI (sc : Int)), .ref h0, .ref hn0, .ref xc])), (xq, .inl (cI, 16, .inl (iA q))), (xr, .inl (cI, 192, .inl (iA X)))])) 1 6 (va_A [(x0, .inr (2, [.int (iI (n : Int)), .int (iI (w : Int)), .ref xq, .ref xr, .ref xl, .int (iI (rc : Int)), .ref xs, .int (iI (sc : Int)), .ref h0, .ref hn0, .ref xc])), (xq, .inl (cI, 16, .inl (iA q))), (xr, .inl (cI, 192, .inl (iA X)))] sz) := by
  refine vx_ofW (cc := cX2_recall) (maxL := 2) (ret := none) (by decide) rfl ?_
  intro p e s m args below meth c s₁ B hml hEx hv
  obtain ⟨rfl, hsz, hP, hK, hD0, hX⟩ := hv
  have hx := B.exec
  have hb := B.bytes
  have hr := B.returns
  have hts : ∀ w ∈ wsX2_recall, w.before _ s = true := atoms_spec (ws := wsX2_recall) B.pre
  have hown : s.vm.findClass RX2 = some m.cls := findClass_of_methodNamed B.named
  have hlocks := B.notSynchronized
  subst hsz
  have hD := hD0.self (sz := s.heap.size)
  have hA : ∀ q9 : Nat, s.heap.size ≤ q9 → va_A [(x0, .inr (2, [.int (iI (n : Int)), .int (iI (w : Int)), .ref xq, .ref xr, .ref xl, .int (iI (rc : Int)), .ref xs, .int (iI (sc : Int)), .ref h0, .ref hn0, .ref xc])), (xq, .inl (cI, 16, .inl (iA q))), (xr, .inl (cI, 192, .inl (iA X)))] s.heap.size q9 := fun q9 h => Or.inr h
  have hS : va_S (va_A [(x0, .inr (2, [.int (iI (n : Int)), .int (iI (w : Int)), .ref xq, .ref xr, .ref xl, .int (iI (rc : Int)), .ref xs, .int (iI (sc : Int)), .ref h0, .ref hn0, .ref xc])), (xq, .inl (cI, 16, .inl (iA q))), (xr, .inl (cI, 192, .inl (iA X)))] s.heap.size) s.heap s.heap [] := va_S.rf
  generalize hAe : va_A [(x0, .inr (2, [.int (iI (n : Int)), .int (iI (w : Int)), .ref xq, .ref xr, .ref xl, .int (iI (rc : Int)), .ref xs, .int (iI (sc : Int)), .ref h0, .ref hn0, .ref xc])), (xq, .inl (cI, 16, .inl (iA q))), (xr, .inl (cI, 192, .inl (iA X)))] s.heap.size = A at hD hA hS hX
  have hP : va_P (dC, dI) vwCl [(x0, .inr (2, [.int (iI (n : Int)), .int (iI (w : Int)), .ref xq, .ref xr, .ref xl, .int (iI (rc : Int)), .ref xs, .int (iI (sc : Int)), .ref h0, .ref hn0, .ref xc])), (xq, .inl (cI, 16, .inl (iA q))), (xr, .inl (cI, 192, .inl (iA X)))] s.heap := hP
  have hNn := hX.1
  have hN_size := hNn.1
  have hN_distances := hNn.2.1
  have hN_places := hNn.2.2
  have hl := lv_entry ([.ref x0, .int (iI r9)]) (n := 2) (Nat.le_of_ble_eq_true rfl)
  rw [lg_entry_eq]
  generalize (lg_sl ([.ref x0, .int (iI r9)]) ++ List.replicate (2 - (lg_sl ([.ref x0, .int (iI r9)])).length) Slot.unset).toArray = ls at hl ⊢
  have hl : lv_has ls 2 [(0, .ref x0), (1, .int (iI r9))] := hl
  generalize hargs : ([.ref x0, .int (iI r9)] : List Value).toArray = args at hts ⊢
  refine z_intro (fun R Q hR hQ => ?_)
  have hRf : R.frames = 7 := by rw [hR]; rfl
  have hRl : R.locals = 111 := by rw [hR]; rfl
  have hRc : R.cells = 1 := by rw [hR]; rfl
  have hRs : R.slots = 6 := by rw [hR]; rfl
  have in_X2 : ∀ w ∈ u_ws RX2 TX2 11, w ∈ wsX2_recall := fun w h => List.mem_cons_of_mem _ (inW_X2 w h)
  have fl_9 := wa_hts hts wd_100
  have fl_16 := wa_hts hts wd_102
  have fl_20 := wa_hts hts wd_103
  have ml_87 : (Cond.methodLink RX2 87 arraycopyName).before args s = true := wa_hts hts wd_270
  have nt_copy : (Cond.native arraycopyName).before args s = true := wa_hts hts wd_272
  have st_copy : (Cond.static arraycopyName).before args s = true := wa_hts hts wd_271
  have hSys := wa_hts hts wd_39
  clear hR hargs B
  refine lv_aload_n hx hb dX2_recall_0 rfl (lv_at hl 0 rfl) ?_
  refine lv_iload_n hx hb dX2_recall_1 rfl (lv_at hl 1 rfl) ?_
  refine zx_v (wr := [(xq, .inl (cI, 16, .inl (iA q))), (xr, .inl (cI, 192, .inl (iA X)))]) (vx_runV (As := [.int (iI r9)]) (rest := []) ⟨hx, hb, hml, hown, hts⟩ (c_checkRow l hst dC dI cI x0 xq xr xl xs h0 hn0 xc n w rc sc r9 _ hr9 hrc) (cwV 1 hts (ga_V wd_280 wd_282 wd_1 wd_28 wd_283) rfl rfl rfl (by decide +kernel) ⟨(show 6 + 1 ≤ R.frames by omega), (show 8 + (2 + 11) + 90 ≤ R.locals by omega)⟩) (wx_preV (q0 := 0) (ci := 2) hX hP hK hD hS hA [0] (by decide) rfl rfl rfl rfl) rfl rfl hl.1 rfl (lv_room (Nat.le_of_ble_eq_true rfl)) dX2_recall_2 ⟨by omega, by omega⟩) hP hD hS hA [0] [1, 2] rfl rfl (by decide) (by decide) (fun E9 v2 ce q9 H locs hE hP hD hS hce hcv hcl => ?_) (fun u2 H locs hw2 hP hD hS => ?_)
  · have hP := hP.sub (ws' := [(x0, .inr (2, [.int (iI (n : Int)), .int (iI (w : Int)), .ref xq, .ref xr, .ref xl, .int (iI (rc : Int)), .ref xs, .int (iI (sc : Int)), .ref h0, .ref hn0, .ref xc])), (xq, .inl (cI, 16, .inl (iA q))), (xr, .inl (cI, 192, .inl (iA X)))]) [2, 0, 1] rfl
    have hD := hD.sub (ws' := [(x0, .inr (2, [.int (iI (n : Int)), .int (iI (w : Int)), .ref xq, .ref xr, .ref xl, .int (iI (rc : Int)), .ref xs, .int (iI (sc : Int)), .ref h0, .ref hn0, .ref xc])), (xq, .inl (cI, 16, .inl (iA q))), (xr, .inl (cI, 192, .inl (iA X)))]) [2, 0, 1] (by decide) rfl
    subst hAe
    exact zx_out () hEx hlocks hQ (hE) hP hK hD hS hce hcv hcl (by omega) (by omega)
  have hP := hP.sub (ws' := [(x0, .inr (2, [.int (iI (n : Int)), .int (iI (w : Int)), .ref xq, .ref xr, .ref xl, .int (iI (rc : Int)), .ref xs, .int (iI (sc : Int)), .ref h0, .ref hn0, .ref xc])), (xq, .inl (cI, 16, .inl (iA q))), (xr, .inl (cI, 192, .inl (iA X)))]) [2, 0, 1] rfl
  have hD := hD.sub (ws' := [(x0, .inr (2, [.int (iI (n : Int)), .int (iI (w : Int)), .ref xq, .ref xr, .ref xl, .int (iI (rc : Int)), .ref xs, .int (iI (sc : Int)), .ref h0, .ref hn0, .ref xc])), (xq, .inl (cI, 16, .inl (iA q))), (xr, .inl (cI, 192, .inl (iA X)))]) [2, 0, 1] (by decide) rfl
  refine lv_aload_n hx hb dX2_recall_5 rfl (lv_at hl 0 rfl) ?_
  refine va_get (D := (dC, dI)) (ci := 2) (v := .ref xr) (C := RX2) (T := TX2) (N := 11) hx hb hts in_X2 hown hK hP 0 rfl rfl 3 (by decide) fl_20 (fun _ h9 => h9) rfl dX2_recall_6 ?_
  refine lv_iload_n hx hb dX2_recall_9 rfl (lv_at hl 1 rfl) ?_
  refine lv_bipush (v := iI (16 : Int)) hx hb dX2_recall_10 (by decide) ?_
  refine z_imul hx hb dX2_recall_12 ?_
  refine lv_aload_n hx hb dX2_recall_13 rfl (lv_at hl 0 rfl) ?_
  refine va_get (D := (dC, dI)) (ci := 2) (v := .ref xq) (C := RX2) (T := TX2) (N := 11) hx hb hts in_X2 hown hK hP 0 rfl rfl 2 (by decide) fl_16 (fun _ h9 => h9) rfl dX2_recall_14 ?_
  refine lv_iconst (v := iI (0 : Int)) hx hb dX2_recall_17 (by decide) ?_
  refine lv_aload_n hx hb dX2_recall_18 rfl (lv_at hl 0 rfl) ?_
  refine va_get (D := (dC, dI)) (ci := 2) (v := .int (iI (n : Int))) (C := RX2) (T := TX2) (N := 11) hx hb hts in_X2 hown hK hP 0 rfl rfl 0 (by decide) fl_9 (fun _ h9 => h9) rfl dX2_recall_19 ?_
  refine z_copy hx hb (hml.trans hl.1.symm) hown ml_87 nt_copy st_copy hSys hK hP hD hS 2 1 0 rfl rfl rfl (16 * r9.toNat) 0 n (by omega) (by omega) (by show 0 + (nativeFrameWords "java/lang/System" "arraycopy" 5 + 11) ≤ R.locals; rw [hRl]; decide +kernel) dX2_recall_22 (fun H locs hP hD hS => ?_)
  have hP : va_P (dC, dI) vwCl [(x0, .inr (2, [.int (iI (n : Int)), .int (iI (w : Int)), .ref xq, .ref xr, .ref xl, .int (iI (rc : Int)), .ref xs, .int (iI (sc : Int)), .ref h0, .ref hn0, .ref xc])), (xq, .inl (cI, 16, .inl (iA (zC X q (16 * r9.toNat) 0 n)))), (xr, .inl (cI, 192, .inl (iA X)))] H := hP
  have hD : va_D A [(x0, .inr (2, [.int (iI (n : Int)), .int (iI (w : Int)), .ref xq, .ref xr, .ref xl, .int (iI (rc : Int)), .ref xs, .int (iI (sc : Int)), .ref h0, .ref hn0, .ref xc])), (xq, .inl (cI, 16, .inl (iA (zC X q (16 * r9.toNat) 0 n)))), (xr, .inl (cI, 192, .inl (iA X)))] := hD
  subst hAe
  exact zx_retv (()) hx hb hr hlocks hQ (by omega) (by omega) (hw2) hP hK hD hS dX2_recall_25
set_option maxRecDepth 100000 in
set_option maxHeartbeats 4000000 in
theorem c_band (l : Launch) (hst : l.stackTraces = false) (dC : Nat → ClassId) (dI : Nat → Nat → Nat) (cI : ClassId) (x0 xq xr xl xs h0 hn0 xc : Nat) (n w rc sc : Nat) (v : Int) (sz : Nat) (hv : -2147483648 ≤ v ∧ v ≤ 2147483647) : vx_Met l yX2_band wsX2_band ({ frames := 6, cells := 1, slots := 6, locals := 90 }) (wxP dC dI [(cI, .int)] [(x0, .inr (2, [.int (iI (n : Int)), .int (iI (w : Int)), .ref xq, .ref xr, .ref xl, .int (iI (rc : Int)), .ref xs, .int (iI (sc : Int)), .ref h0, .ref hn0, .ref xc]))] sz [.ref x0, .int (iI v)]) (wrQi dC dI [(cI, .int)] [(x0, .inr (2, [.int (iI (n : Int)), .int (iI (w : Int)), .ref xq, .ref xr, .ref xl, .int (iI (rc : Int)), .ref xs, .int (iI (sc : Int)), .ref h0, .ref hn0, .ref xc]))] sz (S := Unit) (fun z _ => (0 ≤ v ∧ v ≤ 15) ∧ z = (w : Int)) (fun _ => [(x0, .inr (2, [.int (iI (n : Int)), .int (iI (((v.toNat) : Nat) : Int)), .ref xq, .ref xr, .ref xl, .int (iI (rc : Int)), .ref xs, .int (iI (sc : Int)), .ref h0, .ref hn0, .ref xc]))])) (wxX dC dI [(cI, .int)] [(x0, .inr (2, [.int (iI (n : Int)), .int (iI (w : Int)), .ref xq, .ref xr, .ref xl, .int (iI (rc : Int)), .ref xs, .int (iI (sc : Int)), .ref h0, .ref hn0, .ref xc]))] sz (SX := Unit) (fun _ E => E = xIA ∧ (v < 0 ∨ 15 < v)) (fun _ => [(x0, .inr (2, [.int (iI (n : Int)), .int (iI (w : Int)), .ref xq, .ref xr, .ref xl, .int (iI (rc : Int)), .ref xs, .int (iI (sc : Int)), .ref h0, .ref hn0, .ref xc]))])) 1 6 (va_A [(x0, .inr (2, [.int (iI (n : Int)), .int (iI (w : Int)), .ref xq, .ref xr, .ref xl, .int (iI (rc : Int)), .ref xs, .int (iI (sc : Int)), .ref h0, .ref hn0, .ref xc]))] sz) := by
  refine vx_ofW (cc := cX2_band) (maxL := 3) (ret := (some .int)) (by decide) rfl ?_
  intro p e s m args below meth c s₁ B hml hEx hv
  obtain ⟨rfl, hsz, hP, hK, hD0, hX⟩ := hv
  have hx := B.exec
  have hb := B.bytes
  have hr := B.returns
  have hts : ∀ w ∈ wsX2_band, w.before _ s = true := atoms_spec (ws := wsX2_band) B.pre
  have hown : s.vm.findClass RX2 = some m.cls := findClass_of_methodNamed B.named
  have hlocks := B.notSynchronized
  subst hsz
  have hD := hD0.self (sz := s.heap.size)
  have hA : ∀ q9 : Nat, s.heap.size ≤ q9 → va_A [(x0, .inr (2, [.int (iI (n : Int)), .int (iI (w : Int)), .ref xq, .ref xr, .ref xl, .int (iI (rc : Int)), .ref xs, .int (iI (sc : Int)), .ref h0, .ref hn0, .ref xc]))] s.heap.size q9 := fun q9 h => Or.inr h
  have hS : va_S (va_A [(x0, .inr (2, [.int (iI (n : Int)), .int (iI (w : Int)), .ref xq, .ref xr, .ref xl, .int (iI (rc : Int)), .ref xs, .int (iI (sc : Int)), .ref h0, .ref hn0, .ref xc]))] s.heap.size) s.heap s.heap [] := va_S.rf
  generalize hAe : va_A [(x0, .inr (2, [.int (iI (n : Int)), .int (iI (w : Int)), .ref xq, .ref xr, .ref xl, .int (iI (rc : Int)), .ref xs, .int (iI (sc : Int)), .ref h0, .ref hn0, .ref xc]))] s.heap.size = A at hD hA hS hX
  have hP : va_P (dC, dI) vwCl [(x0, .inr (2, [.int (iI (n : Int)), .int (iI (w : Int)), .ref xq, .ref xr, .ref xl, .int (iI (rc : Int)), .ref xs, .int (iI (sc : Int)), .ref h0, .ref hn0, .ref xc]))] s.heap := hP
  have hNn := hX.1
  have hN_size := hNn.1
  have hN_distances := hNn.2.1
  have hN_places := hNn.2.2
  have hl := lv_entry ([.ref x0, .int (iI v)]) (n := 3) (Nat.le_of_ble_eq_true rfl)
  rw [lg_entry_eq]
  generalize (lg_sl ([.ref x0, .int (iI v)]) ++ List.replicate (3 - (lg_sl ([.ref x0, .int (iI v)])).length) Slot.unset).toArray = ls at hl ⊢
  have hl : lv_has ls 3 [(0, .ref x0), (1, .int (iI v))] := hl
  generalize hargs : ([.ref x0, .int (iI v)] : List Value).toArray = args at hts ⊢
  refine z_intro (fun R Q hR hQ => ?_)
  have hRf : R.frames = 6 := by rw [hR]; rfl
  have hRl : R.locals = 90 := by rw [hR]; rfl
  have hRc : R.cells = 1 := by rw [hR]; rfl
  have hRs : R.slots = 6 := by rw [hR]; rfl
  have in_X2 : ∀ w ∈ u_ws RX2 TX2 11, w ∈ wsX2_band := fun w h => List.mem_cons_of_mem _ (inW_X2 w h)
  have fl_13 := wa_hts hts wd_101
  clear hR hargs B
  refine lv_iload_n hx hb dX2_band_0 rfl (lv_at hl 1 rfl) ?_
  refine z_if_lt (tgt := 10) hx hb dX2_band_1 (by decide) (by omega) (fun h1 => ?_) (fun h1 => ?_)
  · subst hAe
    exact zx_throw (is := 96) (text := "w is not 0 .. 15") () hx hb hst hown hts hX (by decide +kernel) wd_142 wd_35 (by decide) xg_IA xn_IA hX.2.1.1 xo_IA hEx (hl.1.trans hml.symm) hlocks hP hK hD hS hQ (⟨rfl, by omega⟩) (by omega) (by show 0 + 82 ≤ R.locals; omega) (by omega) (by omega) (by omega) (by omega) dX2_band_10 dX2_band_13 dX2_band_14 dX2_band_16 dX2_band_19
  · refine lv_iload_n hx hb dX2_band_4 rfl (lv_at hl 1 rfl) ?_
    refine lv_bipush (v := iI (15 : Int)) hx hb dX2_band_5 (by decide) ?_
    refine z_icmp_le (tgt := 20) hx hb dX2_band_7 (by decide) (by omega) (fun h7 => ?_) (fun h7 => ?_)
    · refine lv_aload_n hx hb dX2_band_20 rfl (lv_at hl 0 rfl) ?_
      refine va_get (D := (dC, dI)) (ci := 2) (v := .int (iI (w : Int))) (C := RX2) (T := TX2) (N := 11) hx hb hts in_X2 hown hK hP 0 rfl rfl 1 (by decide) fl_13 (fun _ h9 => h9) rfl dX2_band_21 ?_
      refine lv_istore_n (lv' := [(2, .int (iI (w : Int))), (0, .ref x0), (1, .int (iI v))]) hx hb dX2_band_24 rfl hl (by decide) rfl (fun ls hl => ?_)
      refine lv_aload_n hx hb dX2_band_25 rfl (lv_at hl 1 rfl) ?_
      refine lv_iload_n hx hb dX2_band_26 rfl (lv_at hl 2 rfl) ?_
      refine z_top (b := ((v.toNat : Nat) : Int)) (by omega) ?_
      refine va_put (D := (dC, dI)) (ci := 2) (v := .int (iI ((v.toNat : Nat) : Int))) (ty := .int) (C := RX2) (T := TX2) (N := 11) hx hb hts in_X2 tyX2 tyX2_ok nmX2 hown hK hP hD hS 0 rfl rfl 1 (by decide) fl_13 (fun _ h9 => h9) rfl (by decide +kernel) rfl rfl (Nat.le_of_ble_eq_true rfl) dX2_band_27 (fun H locs hP hD hS => ?_)
      have hP : va_P (dC, dI) vwCl [(x0, .inr (2, [.int (iI (n : Int)), .int (iI ((v.toNat : Nat) : Int)), .ref xq, .ref xr, .ref xl, .int (iI (rc : Int)), .ref xs, .int (iI (sc : Int)), .ref h0, .ref hn0, .ref xc]))] H := hP
      have hD : va_D A [(x0, .inr (2, [.int (iI (n : Int)), .int (iI ((v.toNat : Nat) : Int)), .ref xq, .ref xr, .ref xl, .int (iI (rc : Int)), .ref xs, .int (iI (sc : Int)), .ref h0, .ref hn0, .ref xc]))] := hD
      refine lv_iload_n hx hb dX2_band_30 rfl (lv_at hl 0 rfl) ?_
      subst hAe
      exact zx_reti (z := (w : Int)) (()) hx hb hr hlocks hQ (by omega) (by omega) (⟨by omega, rfl⟩) hP hK hD hS dX2_band_31
    · subst hAe
      exact zx_throw (is := 96) (text := "w is not 0 .. 15") () hx hb hst hown hts hX (by decide +kernel) wd_142 wd_35 (by decide) xg_IA xn_IA hX.2.1.1 xo_IA hEx (hl.1.trans hml.symm) hlocks hP hK hD hS hQ (⟨rfl, by omega⟩) (by omega) (by show 0 + 82 ≤ R.locals; omega) (by omega) (by omega) (by omega) (by omega) dX2_band_10 dX2_band_13 dX2_band_14 dX2_band_16 dX2_band_19
set_option maxRecDepth 100000 in
set_option maxHeartbeats 4000000 in
theorem c_count (l : Launch) (hst : l.stackTraces = false) (dC : Nat → ClassId) (dI : Nat → Nat → Nat) (cI : ClassId) (x0 xq xr xl xs h0 hn0 xc : Nat) (n w rc sc : Nat) (v : Int) (T : Nat → Int) (sz : Nat) (hv : -2147483648 ≤ v ∧ v ≤ 2147483647) : vx_Met l yX2_count wsX2_count ({ frames := 6, cells := 1, slots := 6, locals := 90 }) (wxP dC dI [(cI, .int)] [(x0, .inr (2, [.int (iI (n : Int)), .int (iI (w : Int)), .ref xq, .ref xr, .ref xl, .int (iI (rc : Int)), .ref xs, .int (iI (sc : Int)), .ref h0, .ref hn0, .ref xc])), (xc, .inl (cI, 5, .inl (iA T)))] sz [.ref x0, .int (iI v)]) (wrQi dC dI [(cI, .int)] [(x0, .inr (2, [.int (iI (n : Int)), .int (iI (w : Int)), .ref xq, .ref xr, .ref xl, .int (iI (rc : Int)), .ref xs, .int (iI (sc : Int)), .ref h0, .ref hn0, .ref xc])), (xc, .inl (cI, 5, .inl (iA T)))] sz (S := Unit) (fun z _ => (0 ≤ v ∧ v ≤ 4) ∧ z = T v.toNat) (fun _ => [(x0, .inr (2, [.int (iI (n : Int)), .int (iI (w : Int)), .ref xq, .ref xr, .ref xl, .int (iI (rc : Int)), .ref xs, .int (iI (sc : Int)), .ref h0, .ref hn0, .ref xc])), (xc, .inl (cI, 5, .inl (iA T)))])) (wxX dC dI [(cI, .int)] [(x0, .inr (2, [.int (iI (n : Int)), .int (iI (w : Int)), .ref xq, .ref xr, .ref xl, .int (iI (rc : Int)), .ref xs, .int (iI (sc : Int)), .ref h0, .ref hn0, .ref xc])), (xc, .inl (cI, 5, .inl (iA T)))] sz (SX := Unit) (fun _ E => E = xIA ∧ (v < 0 ∨ 4 < v)) (fun _ => [(x0, .inr (2, [.int (iI (n : Int)), .int (iI (w : Int)), .ref xq, .ref xr, .ref xl, .int (iI (rc : Int)), .ref xs, .int (iI (sc : Int)), .ref h0, .ref hn0, .ref xc])), (xc, .inl (cI, 5, .inl (iA T)))])) 1 6 (va_A [(x0, .inr (2, [.int (iI (n : Int)), .int (iI (w : Int)), .ref xq, .ref xr, .ref xl, .int (iI (rc : Int)), .ref xs, .int (iI (sc : Int)), .ref h0, .ref hn0, .ref xc])), (xc, .inl (cI, 5, .inl (iA T)))] sz) := by
  refine vx_ofW (cc := cX2_count) (maxL := 2) (ret := (some .int)) (by decide) rfl ?_
  intro p e s m args below meth c s₁ B hml hEx hv
  obtain ⟨rfl, hsz, hP, hK, hD0, hX⟩ := hv
  have hx := B.exec
  have hb := B.bytes
  have hr := B.returns
  have hts : ∀ w ∈ wsX2_count, w.before _ s = true := atoms_spec (ws := wsX2_count) B.pre
  have hown : s.vm.findClass RX2 = some m.cls := findClass_of_methodNamed B.named
  have hlocks := B.notSynchronized
  subst hsz
  have hD := hD0.self (sz := s.heap.size)
  have hA : ∀ q9 : Nat, s.heap.size ≤ q9 → va_A [(x0, .inr (2, [.int (iI (n : Int)), .int (iI (w : Int)), .ref xq, .ref xr, .ref xl, .int (iI (rc : Int)), .ref xs, .int (iI (sc : Int)), .ref h0, .ref hn0, .ref xc])), (xc, .inl (cI, 5, .inl (iA T)))] s.heap.size q9 := fun q9 h => Or.inr h
  have hS : va_S (va_A [(x0, .inr (2, [.int (iI (n : Int)), .int (iI (w : Int)), .ref xq, .ref xr, .ref xl, .int (iI (rc : Int)), .ref xs, .int (iI (sc : Int)), .ref h0, .ref hn0, .ref xc])), (xc, .inl (cI, 5, .inl (iA T)))] s.heap.size) s.heap s.heap [] := va_S.rf
  generalize hAe : va_A [(x0, .inr (2, [.int (iI (n : Int)), .int (iI (w : Int)), .ref xq, .ref xr, .ref xl, .int (iI (rc : Int)), .ref xs, .int (iI (sc : Int)), .ref h0, .ref hn0, .ref xc])), (xc, .inl (cI, 5, .inl (iA T)))] s.heap.size = A at hD hA hS hX
  have hP : va_P (dC, dI) vwCl [(x0, .inr (2, [.int (iI (n : Int)), .int (iI (w : Int)), .ref xq, .ref xr, .ref xl, .int (iI (rc : Int)), .ref xs, .int (iI (sc : Int)), .ref h0, .ref hn0, .ref xc])), (xc, .inl (cI, 5, .inl (iA T)))] s.heap := hP
  have hNn := hX.1
  have hN_size := hNn.1
  have hN_distances := hNn.2.1
  have hN_places := hNn.2.2
  have hl := lv_entry ([.ref x0, .int (iI v)]) (n := 2) (Nat.le_of_ble_eq_true rfl)
  rw [lg_entry_eq]
  generalize (lg_sl ([.ref x0, .int (iI v)]) ++ List.replicate (2 - (lg_sl ([.ref x0, .int (iI v)])).length) Slot.unset).toArray = ls at hl ⊢
  have hl : lv_has ls 2 [(0, .ref x0), (1, .int (iI v))] := hl
  generalize hargs : ([.ref x0, .int (iI v)] : List Value).toArray = args at hts ⊢
  refine z_intro (fun R Q hR hQ => ?_)
  have hRf : R.frames = 6 := by rw [hR]; rfl
  have hRl : R.locals = 90 := by rw [hR]; rfl
  have hRc : R.cells = 1 := by rw [hR]; rfl
  have hRs : R.slots = 6 := by rw [hR]; rfl
  have in_X2 : ∀ w ∈ u_ws RX2 TX2 11, w ∈ wsX2_count := fun w h => List.mem_cons_of_mem _ (inW_X2 w h)
  have fl_49 := wa_hts hts wd_110
  clear hR hargs B
  refine lv_iload_n hx hb dX2_count_0 rfl (lv_at hl 1 rfl) ?_
  refine z_if_lt (tgt := 9) hx hb dX2_count_1 (by decide) (by omega) (fun h1 => ?_) (fun h1 => ?_)
  · subst hAe
    exact zx_throw (is := 143) (text := "what is not 0 .. 4") () hx hb hst hown hts hX (by decide +kernel) wd_142 wd_35 (by decide) xg_IA xn_IA hX.2.1.1 xo_IA hEx (hl.1.trans hml.symm) hlocks hP hK hD hS hQ (⟨rfl, by omega⟩) (by omega) (by show 0 + 82 ≤ R.locals; omega) (by omega) (by omega) (by omega) (by omega) dX2_count_9 dX2_count_12 dX2_count_13 dX2_count_15 dX2_count_18
  · refine lv_iload_n hx hb dX2_count_4 rfl (lv_at hl 1 rfl) ?_
    refine lv_iconst (v := iI (4 : Int)) hx hb dX2_count_5 (by decide) ?_
    refine z_icmp_le (tgt := 19) hx hb dX2_count_6 (by decide) (by omega) (fun h6 => ?_) (fun h6 => ?_)
    · refine lv_aload_n hx hb dX2_count_19 rfl (lv_at hl 0 rfl) ?_
      refine va_get (D := (dC, dI)) (ci := 2) (v := .ref xc) (C := RX2) (T := TX2) (N := 11) hx hb hts in_X2 hown hK hP 0 rfl rfl 10 (by decide) fl_49 (fun _ h9 => h9) rfl dX2_count_20 ?_
      refine lv_iload_n hx hb dX2_count_23 rfl (lv_at hl 1 rfl) ?_
      refine z_iald hx hb hK hP 1 0 rfl rfl v.toNat (by omega) dX2_count_24 ?_
      subst hAe
      exact zx_reti (z := T v.toNat) (()) hx hb hr hlocks hQ (by omega) (by omega) (⟨by omega, rfl⟩) hP hK hD hS dX2_count_25
    · subst hAe
      exact zx_throw (is := 143) (text := "what is not 0 .. 4") () hx hb hst hown hts hX (by decide +kernel) wd_142 wd_35 (by decide) xg_IA xn_IA hX.2.1.1 xo_IA hEx (hl.1.trans hml.symm) hlocks hP hK hD hS hQ (⟨rfl, by omega⟩) (by omega) (by show 0 + 82 ≤ R.locals; omega) (by omega) (by omega) (by omega) (by omega) dX2_count_9 dX2_count_12 dX2_count_13 dX2_count_15 dX2_count_18
set_option maxRecDepth 100000 in
set_option maxHeartbeats 4000000 in
theorem c_push (l : Launch) (hst : l.stackTraces = false) (dC : Nat → ClassId) (dI : Nat → Nat → Nat) (cI : ClassId) (x0 xq xr xl xs h0 hn0 xc : Nat) (n w rc sc : Nat) (v : Int) (X : Nat → Int) (sz : Nat) (hsc : sc ≤ 64) (hv : -2147483648 ≤ v ∧ v ≤ 2147483647) : vx_Met l yX2_push wsX2_push ({ frames := 6, cells := 1, slots := 6, locals := 90 }) (wxP dC dI [(cI, .int)] [(x0, .inr (2, [.int (iI (n : Int)), .int (iI (w : Int)), .ref xq, .ref xr, .ref xl, .int (iI (rc : Int)), .ref xs, .int (iI (sc : Int)), .ref h0, .ref hn0, .ref xc])), (xs, .inl (cI, 64, .inl (iA X)))] sz [.ref x0, .int (iI v)]) (wrQi dC dI [(cI, .int)] [(x0, .inr (2, [.int (iI (n : Int)), .int (iI (w : Int)), .ref xq, .ref xr, .ref xl, .int (iI (rc : Int)), .ref xs, .int (iI (sc : Int)), .ref h0, .ref hn0, .ref xc])), (xs, .inl (cI, 64, .inl (iA X)))] sz (S := Unit) (fun z _ => (-1000 ≤ v ∧ v ≤ 1000) ∧ sc < 64 ∧ z = ((sc + 1 : Nat) : Int)) (fun _ => [(x0, .inr (2, [.int (iI (n : Int)), .int (iI (w : Int)), .ref xq, .ref xr, .ref xl, .int (iI (rc : Int)), .ref xs, .int (iI ((sc + 1 : Nat) : Int)), .ref h0, .ref hn0, .ref xc])), (xs, .inl (cI, 64, .inl (iA (zU X sc v))))])) (wxX dC dI [(cI, .int)] [(x0, .inr (2, [.int (iI (n : Int)), .int (iI (w : Int)), .ref xq, .ref xr, .ref xl, .int (iI (rc : Int)), .ref xs, .int (iI (sc : Int)), .ref h0, .ref hn0, .ref xc])), (xs, .inl (cI, 64, .inl (iA X)))] sz (SX := Unit) (fun _ E => (E = xIA ∧ (v < -1000 ∨ 1000 < v)) ∨ (E = xIS ∧ (-1000 ≤ v ∧ v ≤ 1000) ∧ sc = 64)) (fun _ => [(x0, .inr (2, [.int (iI (n : Int)), .int (iI (w : Int)), .ref xq, .ref xr, .ref xl, .int (iI (rc : Int)), .ref xs, .int (iI (sc : Int)), .ref h0, .ref hn0, .ref xc])), (xs, .inl (cI, 64, .inl (iA X)))])) 1 6 (va_A [(x0, .inr (2, [.int (iI (n : Int)), .int (iI (w : Int)), .ref xq, .ref xr, .ref xl, .int (iI (rc : Int)), .ref xs, .int (iI (sc : Int)), .ref h0, .ref hn0, .ref xc])), (xs, .inl (cI, 64, .inl (iA X)))] sz) := by
  refine vx_ofW (cc := cX2_push) (maxL := 2) (ret := (some .int)) (by decide) rfl ?_
  intro p e s m args below meth c s₁ B hml hEx hv
  obtain ⟨rfl, hsz, hP, hK, hD0, hX⟩ := hv
  have hx := B.exec
  have hb := B.bytes
  have hr := B.returns
  have hts : ∀ w ∈ wsX2_push, w.before _ s = true := atoms_spec (ws := wsX2_push) B.pre
  have hown : s.vm.findClass RX2 = some m.cls := findClass_of_methodNamed B.named
  have hlocks := B.notSynchronized
  subst hsz
  have hD := hD0.self (sz := s.heap.size)
  have hA : ∀ q9 : Nat, s.heap.size ≤ q9 → va_A [(x0, .inr (2, [.int (iI (n : Int)), .int (iI (w : Int)), .ref xq, .ref xr, .ref xl, .int (iI (rc : Int)), .ref xs, .int (iI (sc : Int)), .ref h0, .ref hn0, .ref xc])), (xs, .inl (cI, 64, .inl (iA X)))] s.heap.size q9 := fun q9 h => Or.inr h
  have hS : va_S (va_A [(x0, .inr (2, [.int (iI (n : Int)), .int (iI (w : Int)), .ref xq, .ref xr, .ref xl, .int (iI (rc : Int)), .ref xs, .int (iI (sc : Int)), .ref h0, .ref hn0, .ref xc])), (xs, .inl (cI, 64, .inl (iA X)))] s.heap.size) s.heap s.heap [] := va_S.rf
  generalize hAe : va_A [(x0, .inr (2, [.int (iI (n : Int)), .int (iI (w : Int)), .ref xq, .ref xr, .ref xl, .int (iI (rc : Int)), .ref xs, .int (iI (sc : Int)), .ref h0, .ref hn0, .ref xc])), (xs, .inl (cI, 64, .inl (iA X)))] s.heap.size = A at hD hA hS hX
  have hP : va_P (dC, dI) vwCl [(x0, .inr (2, [.int (iI (n : Int)), .int (iI (w : Int)), .ref xq, .ref xr, .ref xl, .int (iI (rc : Int)), .ref xs, .int (iI (sc : Int)), .ref h0, .ref hn0, .ref xc])), (xs, .inl (cI, 64, .inl (iA X)))] s.heap := hP
  have hNn := hX.1
  have hN_size := hNn.1
  have hN_distances := hNn.2.1
  have hN_places := hNn.2.2
  have hl := lv_entry ([.ref x0, .int (iI v)]) (n := 2) (Nat.le_of_ble_eq_true rfl)
  rw [lg_entry_eq]
  generalize (lg_sl ([.ref x0, .int (iI v)]) ++ List.replicate (2 - (lg_sl ([.ref x0, .int (iI v)])).length) Slot.unset).toArray = ls at hl ⊢
  have hl : lv_has ls 2 [(0, .ref x0), (1, .int (iI v))] := hl
  generalize hargs : ([.ref x0, .int (iI v)] : List Value).toArray = args at hts ⊢
  refine z_intro (fun R Q hR hQ => ?_)
  have hRf : R.frames = 6 := by rw [hR]; rfl
  have hRl : R.locals = 90 := by rw [hR]; rfl
  have hRc : R.cells = 1 := by rw [hR]; rfl
  have hRs : R.slots = 6 := by rw [hR]; rfl
  have in_X2 : ∀ w ∈ u_ws RX2 TX2 11, w ∈ wsX2_push := fun w h => List.mem_cons_of_mem _ (inW_X2 w h)
  have fl_29 := wa_hts hts wd_106
  have fl_32 := wa_hts hts wd_107
  clear hR hargs B
  refine lv_iload_n hx hb dX2_push_0 rfl (lv_at hl 1 rfl) ?_
  refine zr_i (va_runS (As := [.int (iI v)]) (rest := []) ⟨hx, hb, hml, hown, hts⟩ (c_isValue l dC dI cI v (by omega)) (cwS 1 hts (ga_S wd_241 wd_242 wd_28 wd_243) rfl rfl rfl (by decide +kernel) ⟨(show 0 + 1 ≤ R.frames by omega), (show 8 + (1 + 11) + 0 ≤ R.locals by omega)⟩) (rd_preS hP hK [] rfl) rfl rfl hl.1 rfl (lv_room (Nat.le_of_ble_eq_true rfl)) dX2_push_1 ⟨by omega, by omega⟩) (fun z1 hz1 => ?_)
  refine z_if_ne (tgt := 17) hx hb dX2_push_4 (by decide) (by omega) (fun h4 => ?_) (fun h4 => ?_)
  · refine lv_aload_n hx hb dX2_push_17 rfl (lv_at hl 0 rfl) ?_
    refine va_get (D := (dC, dI)) (ci := 2) (v := .int (iI (sc : Int))) (C := RX2) (T := TX2) (N := 11) hx hb hts in_X2 hown hK hP 0 rfl rfl 7 (by decide) fl_32 (fun _ h9 => h9) rfl dX2_push_18 ?_
    refine lv_bipush (v := iI (64 : Int)) hx hb dX2_push_21 (by decide) ?_
    refine z_icmp_lt (tgt := 36) hx hb dX2_push_23 (by decide) (by omega) (fun h23 => ?_) (fun h23 => ?_)
    · refine lv_aload_n hx hb dX2_push_36 rfl (lv_at hl 0 rfl) ?_
      refine va_get (D := (dC, dI)) (ci := 2) (v := .ref xs) (C := RX2) (T := TX2) (N := 11) hx hb hts in_X2 hown hK hP 0 rfl rfl 6 (by decide) fl_29 (fun _ h9 => h9) rfl dX2_push_37 ?_
      refine lv_aload_n hx hb dX2_push_40 rfl (lv_at hl 0 rfl) ?_
      refine va_get (D := (dC, dI)) (ci := 2) (v := .int (iI (sc : Int))) (C := RX2) (T := TX2) (N := 11) hx hb hts in_X2 hown hK hP 0 rfl rfl 7 (by decide) fl_32 (fun _ h9 => h9) rfl dX2_push_41 ?_
      refine lv_iload_n hx hb dX2_push_44 rfl (lv_at hl 1 rfl) ?_
      refine z_iast hx hb hK hP hD hS 1 0 rfl rfl sc (by omega) dX2_push_45 (fun H locs hP hD hS => ?_)
      have hP : va_P (dC, dI) vwCl [(x0, .inr (2, [.int (iI (n : Int)), .int (iI (w : Int)), .ref xq, .ref xr, .ref xl, .int (iI (rc : Int)), .ref xs, .int (iI (sc : Int)), .ref h0, .ref hn0, .ref xc])), (xs, .inl (cI, 64, .inl (iA (zU X sc v))))] H := hP
      have hD : va_D A [(x0, .inr (2, [.int (iI (n : Int)), .int (iI (w : Int)), .ref xq, .ref xr, .ref xl, .int (iI (rc : Int)), .ref xs, .int (iI (sc : Int)), .ref h0, .ref hn0, .ref xc])), (xs, .inl (cI, 64, .inl (iA (zU X sc v))))] := hD
      refine lv_aload_n hx hb dX2_push_46 rfl (lv_at hl 0 rfl) ?_
      refine lv_dup hx hb dX2_push_47 rfl ?_
      refine va_get (D := (dC, dI)) (ci := 2) (v := .int (iI (sc : Int))) (C := RX2) (T := TX2) (N := 11) hx hb hts in_X2 hown hK hP 0 rfl rfl 7 (by decide) fl_32 (fun _ h9 => h9) rfl dX2_push_48 ?_
      refine lv_iconst (v := iI (1 : Int)) hx hb dX2_push_51 (by decide) ?_
      refine z_iadd hx hb dX2_push_52 ?_
      refine z_top (b := ((sc + 1 : Nat) : Int)) (by omega) ?_
      refine va_put (D := (dC, dI)) (ci := 2) (v := .int (iI ((sc + 1 : Nat) : Int))) (ty := .int) (C := RX2) (T := TX2) (N := 11) hx hb hts in_X2 tyX2 tyX2_ok nmX2 hown hK hP hD hS 0 rfl rfl 7 (by decide) fl_32 (fun _ h9 => h9) rfl (by decide +kernel) rfl rfl (Nat.le_of_ble_eq_true rfl) dX2_push_53 (fun H locs hP hD hS => ?_)
      have hP : va_P (dC, dI) vwCl [(x0, .inr (2, [.int (iI (n : Int)), .int (iI (w : Int)), .ref xq, .ref xr, .ref xl, .int (iI (rc : Int)), .ref xs, .int (iI ((sc + 1 : Nat) : Int)), .ref h0, .ref hn0, .ref xc])), (xs, .inl (cI, 64, .inl (iA (zU X sc v))))] H := hP
      have hD : va_D A [(x0, .inr (2, [.int (iI (n : Int)), .int (iI (w : Int)), .ref xq, .ref xr, .ref xl, .int (iI (rc : Int)), .ref xs, .int (iI ((sc + 1 : Nat) : Int)), .ref h0, .ref hn0, .ref xc])), (xs, .inl (cI, 64, .inl (iA (zU X sc v))))] := hD
      refine lv_aload_n hx hb dX2_push_56 rfl (lv_at hl 0 rfl) ?_
      refine va_get (D := (dC, dI)) (ci := 2) (v := .int (iI ((sc + 1 : Nat) : Int))) (C := RX2) (T := TX2) (N := 11) hx hb hts in_X2 hown hK hP 0 rfl rfl 7 (by decide) fl_32 (fun _ h9 => h9) rfl dX2_push_57 ?_
      subst hAe
      exact zx_reti (z := ((sc + 1 : Nat) : Int)) (()) hx hb hr hlocks hQ (by omega) (by omega) (⟨by omega, by omega, rfl⟩) hP hK hD hS dX2_push_60
    · subst hAe
      exact zx_throw (is := 145) (text := "there are 64 numbers") () hx hb hst hown hts hX (by decide +kernel) wd_254 wd_38 (by decide) xg_IS xn_IS hX.2.1.2.2 xo_IS hEx (hl.1.trans hml.symm) hlocks hP hK hD hS hQ (Or.inr ⟨rfl, by omega, by omega⟩) (by omega) (by show 0 + 82 ≤ R.locals; omega) (by omega) (by omega) (by omega) (by omega) dX2_push_26 dX2_push_29 dX2_push_30 dX2_push_32 dX2_push_35
  · subst hAe
    exact zx_throw (is := 78) (text := "v is not -1000 .. 1000") () hx hb hst hown hts hX (by decide +kernel) wd_142 wd_35 (by decide) xg_IA xn_IA hX.2.1.1 xo_IA hEx (hl.1.trans hml.symm) hlocks hP hK hD hS hQ (Or.inl ⟨rfl, by omega⟩) (by omega) (by show 0 + 82 ≤ R.locals; omega) (by omega) (by omega) (by omega) (by omega) dX2_push_7 dX2_push_10 dX2_push_11 dX2_push_13 dX2_push_16
set_option maxRecDepth 100000 in
set_option maxHeartbeats 4000000 in
theorem c_shift (l : Launch) (hst : l.stackTraces = false) (dC : Nat → ClassId) (dI : Nat → Nat → Nat) (cI : ClassId) (x0 xq xr xl xs h0 hn0 xc : Nat) (n w rc sc : Nat) (v : Int) (X : Nat → Int) (sz : Nat) (hsc : sc ≤ 64) (hv : -2147483648 ≤ v ∧ v ≤ 2147483647) : vx_Met l yX2_shift wsX2_shift ({ frames := 6, cells := 1, slots := 6, locals := 90 }) (wxP dC dI [(cI, .int)] [(x0, .inr (2, [.int (iI (n : Int)), .int (iI (w : Int)), .ref xq, .ref xr, .ref xl, .int (iI (rc : Int)), .ref xs, .int (iI (sc : Int)), .ref h0, .ref hn0, .ref xc])), (xs, .inl (cI, 64, .inl (iA X)))] sz [.ref x0, .int (iI v)]) (wrQv dC dI [(cI, .int)] [(x0, .inr (2, [.int (iI (n : Int)), .int (iI (w : Int)), .ref xq, .ref xr, .ref xl, .int (iI (rc : Int)), .ref xs, .int (iI (sc : Int)), .ref h0, .ref hn0, .ref xc])), (xs, .inl (cI, 64, .inl (iA X)))] sz (S := Unit) (fun _ => 0 ≤ v ∧ v ≤ (sc : Int)) (fun _ => [(x0, .inr (2, [.int (iI (n : Int)), .int (iI (w : Int)), .ref xq, .ref xr, .ref xl, .int (iI (rc : Int)), .ref xs, .int (iI ((sc - v.toNat : Nat) : Int)), .ref h0, .ref hn0, .ref xc])), (xs, .inl (cI, 64, .inl (iA (zC X X v.toNat 0 (sc - v.toNat)))))])) (wxX dC dI [(cI, .int)] [(x0, .inr (2, [.int (iI (n : Int)), .int (iI (w : Int)), .ref xq, .ref xr, .ref xl, .int (iI (rc : Int)), .ref xs, .int (iI (sc : Int)), .ref h0, .ref hn0, .ref xc])), (xs, .inl (cI, 64, .inl (iA X)))] sz (SX := Unit) (fun _ E => E = xIA ∧ (v < 0 ∨ (sc : Int) < v)) (fun _ => [(x0, .inr (2, [.int (iI (n : Int)), .int (iI (w : Int)), .ref xq, .ref xr, .ref xl, .int (iI (rc : Int)), .ref xs, .int (iI (sc : Int)), .ref h0, .ref hn0, .ref xc])), (xs, .inl (cI, 64, .inl (iA X)))])) 1 6 (va_A [(x0, .inr (2, [.int (iI (n : Int)), .int (iI (w : Int)), .ref xq, .ref xr, .ref xl, .int (iI (rc : Int)), .ref xs, .int (iI (sc : Int)), .ref h0, .ref hn0, .ref xc])), (xs, .inl (cI, 64, .inl (iA X)))] sz) := by
  refine vx_ofW (cc := cX2_shift) (maxL := 2) (ret := none) (by decide) rfl ?_
  intro p e s m args below meth c s₁ B hml hEx hv
  obtain ⟨rfl, hsz, hP, hK, hD0, hX⟩ := hv
  have hx := B.exec
  have hb := B.bytes
  have hr := B.returns
  have hts : ∀ w ∈ wsX2_shift, w.before _ s = true := atoms_spec (ws := wsX2_shift) B.pre
  have hown : s.vm.findClass RX2 = some m.cls := findClass_of_methodNamed B.named
  have hlocks := B.notSynchronized
  subst hsz
  have hD := hD0.self (sz := s.heap.size)
  have hA : ∀ q9 : Nat, s.heap.size ≤ q9 → va_A [(x0, .inr (2, [.int (iI (n : Int)), .int (iI (w : Int)), .ref xq, .ref xr, .ref xl, .int (iI (rc : Int)), .ref xs, .int (iI (sc : Int)), .ref h0, .ref hn0, .ref xc])), (xs, .inl (cI, 64, .inl (iA X)))] s.heap.size q9 := fun q9 h => Or.inr h
  have hS : va_S (va_A [(x0, .inr (2, [.int (iI (n : Int)), .int (iI (w : Int)), .ref xq, .ref xr, .ref xl, .int (iI (rc : Int)), .ref xs, .int (iI (sc : Int)), .ref h0, .ref hn0, .ref xc])), (xs, .inl (cI, 64, .inl (iA X)))] s.heap.size) s.heap s.heap [] := va_S.rf
  generalize hAe : va_A [(x0, .inr (2, [.int (iI (n : Int)), .int (iI (w : Int)), .ref xq, .ref xr, .ref xl, .int (iI (rc : Int)), .ref xs, .int (iI (sc : Int)), .ref h0, .ref hn0, .ref xc])), (xs, .inl (cI, 64, .inl (iA X)))] s.heap.size = A at hD hA hS hX
  have hP : va_P (dC, dI) vwCl [(x0, .inr (2, [.int (iI (n : Int)), .int (iI (w : Int)), .ref xq, .ref xr, .ref xl, .int (iI (rc : Int)), .ref xs, .int (iI (sc : Int)), .ref h0, .ref hn0, .ref xc])), (xs, .inl (cI, 64, .inl (iA X)))] s.heap := hP
  have hNn := hX.1
  have hN_size := hNn.1
  have hN_distances := hNn.2.1
  have hN_places := hNn.2.2
  have hl := lv_entry ([.ref x0, .int (iI v)]) (n := 2) (Nat.le_of_ble_eq_true rfl)
  rw [lg_entry_eq]
  generalize (lg_sl ([.ref x0, .int (iI v)]) ++ List.replicate (2 - (lg_sl ([.ref x0, .int (iI v)])).length) Slot.unset).toArray = ls at hl ⊢
  have hl : lv_has ls 2 [(0, .ref x0), (1, .int (iI v))] := hl
  generalize hargs : ([.ref x0, .int (iI v)] : List Value).toArray = args at hts ⊢
  refine z_intro (fun R Q hR hQ => ?_)
  have hRf : R.frames = 6 := by rw [hR]; rfl
  have hRl : R.locals = 90 := by rw [hR]; rfl
  have hRc : R.cells = 1 := by rw [hR]; rfl
  have hRs : R.slots = 6 := by rw [hR]; rfl
  have in_X2 : ∀ w ∈ u_ws RX2 TX2 11, w ∈ wsX2_shift := fun w h => List.mem_cons_of_mem _ (inW_X2 w h)
  have fl_29 := wa_hts hts wd_106
  have fl_32 := wa_hts hts wd_107
  have ml_87 : (Cond.methodLink RX2 87 arraycopyName).before args s = true := wa_hts hts wd_270
  have nt_copy : (Cond.native arraycopyName).before args s = true := wa_hts hts wd_272
  have st_copy : (Cond.static arraycopyName).before args s = true := wa_hts hts wd_271
  have hSys := wa_hts hts wd_39
  clear hR hargs B
  refine lv_iload_n hx hb dX2_shift_0 rfl (lv_at hl 1 rfl) ?_
  refine z_if_lt (tgt := 12) hx hb dX2_shift_1 (by decide) (by omega) (fun h1 => ?_) (fun h1 => ?_)
  · subst hAe
    exact zx_throw (is := 149) (text := "the stream has not so many numbers") () hx hb hst hown hts hX (by decide +kernel) wd_142 wd_35 (by decide) xg_IA xn_IA hX.2.1.1 xo_IA hEx (hl.1.trans hml.symm) hlocks hP hK hD hS hQ (⟨rfl, by omega⟩) (by omega) (by show 0 + 82 ≤ R.locals; omega) (by omega) (by omega) (by omega) (by omega) dX2_shift_12 dX2_shift_15 dX2_shift_16 dX2_shift_18 dX2_shift_21
  · refine lv_iload_n hx hb dX2_shift_4 rfl (lv_at hl 1 rfl) ?_
    refine lv_aload_n hx hb dX2_shift_5 rfl (lv_at hl 0 rfl) ?_
    refine va_get (D := (dC, dI)) (ci := 2) (v := .int (iI (sc : Int))) (C := RX2) (T := TX2) (N := 11) hx hb hts in_X2 hown hK hP 0 rfl rfl 7 (by decide) fl_32 (fun _ h9 => h9) rfl dX2_shift_6 ?_
    refine z_icmp_le (tgt := 22) hx hb dX2_shift_9 (by decide) (by omega) (fun h9 => ?_) (fun h9 => ?_)
    · refine lv_aload_n hx hb dX2_shift_22 rfl (lv_at hl 0 rfl) ?_
      refine va_get (D := (dC, dI)) (ci := 2) (v := .ref xs) (C := RX2) (T := TX2) (N := 11) hx hb hts in_X2 hown hK hP 0 rfl rfl 6 (by decide) fl_29 (fun _ h9 => h9) rfl dX2_shift_23 ?_
      refine lv_iload_n hx hb dX2_shift_26 rfl (lv_at hl 1 rfl) ?_
      refine lv_aload_n hx hb dX2_shift_27 rfl (lv_at hl 0 rfl) ?_
      refine va_get (D := (dC, dI)) (ci := 2) (v := .ref xs) (C := RX2) (T := TX2) (N := 11) hx hb hts in_X2 hown hK hP 0 rfl rfl 6 (by decide) fl_29 (fun _ h9 => h9) rfl dX2_shift_28 ?_
      refine lv_iconst (v := iI (0 : Int)) hx hb dX2_shift_31 (by decide) ?_
      refine lv_aload_n hx hb dX2_shift_32 rfl (lv_at hl 0 rfl) ?_
      refine va_get (D := (dC, dI)) (ci := 2) (v := .int (iI (sc : Int))) (C := RX2) (T := TX2) (N := 11) hx hb hts in_X2 hown hK hP 0 rfl rfl 7 (by decide) fl_32 (fun _ h9 => h9) rfl dX2_shift_33 ?_
      refine lv_iload_n hx hb dX2_shift_36 rfl (lv_at hl 1 rfl) ?_
      refine z_isub hx hb dX2_shift_37 ?_
      refine z_copy hx hb (hml.trans hl.1.symm) hown ml_87 nt_copy st_copy hSys hK hP hD hS 1 1 0 rfl rfl rfl v.toNat 0 (sc - v.toNat) (by omega) (by omega) (by show 0 + (nativeFrameWords "java/lang/System" "arraycopy" 5 + 11) ≤ R.locals; rw [hRl]; decide +kernel) dX2_shift_38 (fun H locs hP hD hS => ?_)
      have hP : va_P (dC, dI) vwCl [(x0, .inr (2, [.int (iI (n : Int)), .int (iI (w : Int)), .ref xq, .ref xr, .ref xl, .int (iI (rc : Int)), .ref xs, .int (iI (sc : Int)), .ref h0, .ref hn0, .ref xc])), (xs, .inl (cI, 64, .inl (iA (zC X X v.toNat 0 (sc - v.toNat)))))] H := hP
      have hD : va_D A [(x0, .inr (2, [.int (iI (n : Int)), .int (iI (w : Int)), .ref xq, .ref xr, .ref xl, .int (iI (rc : Int)), .ref xs, .int (iI (sc : Int)), .ref h0, .ref hn0, .ref xc])), (xs, .inl (cI, 64, .inl (iA (zC X X v.toNat 0 (sc - v.toNat)))))] := hD
      refine lv_aload_n hx hb dX2_shift_41 rfl (lv_at hl 0 rfl) ?_
      refine lv_dup hx hb dX2_shift_42 rfl ?_
      refine va_get (D := (dC, dI)) (ci := 2) (v := .int (iI (sc : Int))) (C := RX2) (T := TX2) (N := 11) hx hb hts in_X2 hown hK hP 0 rfl rfl 7 (by decide) fl_32 (fun _ h9 => h9) rfl dX2_shift_43 ?_
      refine lv_iload_n hx hb dX2_shift_46 rfl (lv_at hl 1 rfl) ?_
      refine z_isub hx hb dX2_shift_47 ?_
      refine z_top (b := ((sc - v.toNat : Nat) : Int)) (by omega) ?_
      refine va_put (D := (dC, dI)) (ci := 2) (v := .int (iI ((sc - v.toNat : Nat) : Int))) (ty := .int) (C := RX2) (T := TX2) (N := 11) hx hb hts in_X2 tyX2 tyX2_ok nmX2 hown hK hP hD hS 0 rfl rfl 7 (by decide) fl_32 (fun _ h9 => h9) rfl (by decide +kernel) rfl rfl (Nat.le_of_ble_eq_true rfl) dX2_shift_48 (fun H locs hP hD hS => ?_)
      have hP : va_P (dC, dI) vwCl [(x0, .inr (2, [.int (iI (n : Int)), .int (iI (w : Int)), .ref xq, .ref xr, .ref xl, .int (iI (rc : Int)), .ref xs, .int (iI ((sc - v.toNat : Nat) : Int)), .ref h0, .ref hn0, .ref xc])), (xs, .inl (cI, 64, .inl (iA (zC X X v.toNat 0 (sc - v.toNat)))))] H := hP
      have hD : va_D A [(x0, .inr (2, [.int (iI (n : Int)), .int (iI (w : Int)), .ref xq, .ref xr, .ref xl, .int (iI (rc : Int)), .ref xs, .int (iI ((sc - v.toNat : Nat) : Int)), .ref h0, .ref hn0, .ref xc])), (xs, .inl (cI, 64, .inl (iA (zC X X v.toNat 0 (sc - v.toNat)))))] := hD
      subst hAe
      exact zx_retv (()) hx hb hr hlocks hQ (by omega) (by omega) (by omega) hP hK hD hS dX2_shift_51
    · subst hAe
      exact zx_throw (is := 149) (text := "the stream has not so many numbers") () hx hb hst hown hts hX (by decide +kernel) wd_142 wd_35 (by decide) xg_IA xn_IA hX.2.1.1 xo_IA hEx (hl.1.trans hml.symm) hlocks hP hK hD hS hQ (⟨rfl, by omega⟩) (by omega) (by show 0 + 82 ≤ R.locals; omega) (by omega) (by omega) (by omega) (by omega) dX2_shift_12 dX2_shift_15 dX2_shift_16 dX2_shift_18 dX2_shift_21
set_option maxRecDepth 100000 in
set_option maxHeartbeats 4000000 in
theorem c_found (l : Launch) (hst : l.stackTraces = false) (dC : Nat → ClassId) (dI : Nat → Nat → Nat) (cI : ClassId) (x0 xq xr xl xs h0 hn0 xc : Nat) (al ad : Nat) (n w rc sc nm wt : Nat) (v b9 : Int) (PL DI : Nat → Int) (sz : Nat) (hv : -2147483648 ≤ v ∧ v ≤ 2147483647) (hb9 : b9 = 0 ∨ b9 = 1) (hnm : nm ≤ 12) : vx_Met l yX2_found wsX2_found ({ frames := 6, cells := 1, slots := 6, locals := 90 }) (wxP dC dI [(cI, .int)] [(x0, .inr (2, [.int (iI (n : Int)), .int (iI (w : Int)), .ref xq, .ref xr, .ref xl, .int (iI (rc : Int)), .ref xs, .int (iI (sc : Int)), .ref h0, .ref hn0, .ref xc])), (hn0, .inr (1, [.ref al, .ref ad, .int (iI (nm : Int)), .int (iI (wt : Int))])), (al, .inl (cI, 12, .inl (iA PL))), (ad, .inl (cI, 12, .inl (iA DI)))] sz [.ref x0, .int (iI v), .int (iI b9)]) (wrQi dC dI [(cI, .int)] [(x0, .inr (2, [.int (iI (n : Int)), .int (iI (w : Int)), .ref xq, .ref xr, .ref xl, .int (iI (rc : Int)), .ref xs, .int (iI (sc : Int)), .ref h0, .ref hn0, .ref xc])), (hn0, .inr (1, [.ref al, .ref ad, .int (iI (nm : Int)), .int (iI (wt : Int))])), (al, .inl (cI, 12, .inl (iA PL))), (ad, .inl (cI, 12, .inl (iA DI)))] sz (S := Unit) (fun z _ => (0 ≤ v ∧ v < (nm : Int)) ∧ z = if b9 ≠ 0 then DI v.toNat else PL v.toNat) (fun _ => [(x0, .inr (2, [.int (iI (n : Int)), .int (iI (w : Int)), .ref xq, .ref xr, .ref xl, .int (iI (rc : Int)), .ref xs, .int (iI (sc : Int)), .ref h0, .ref hn0, .ref xc])), (hn0, .inr (1, [.ref al, .ref ad, .int (iI (nm : Int)), .int (iI (wt : Int))])), (al, .inl (cI, 12, .inl (iA PL))), (ad, .inl (cI, 12, .inl (iA DI)))])) (wxX dC dI [(cI, .int)] [(x0, .inr (2, [.int (iI (n : Int)), .int (iI (w : Int)), .ref xq, .ref xr, .ref xl, .int (iI (rc : Int)), .ref xs, .int (iI (sc : Int)), .ref h0, .ref hn0, .ref xc])), (hn0, .inr (1, [.ref al, .ref ad, .int (iI (nm : Int)), .int (iI (wt : Int))])), (al, .inl (cI, 12, .inl (iA PL))), (ad, .inl (cI, 12, .inl (iA DI)))] sz (SX := Unit) (fun _ E => E = xIO ∧ (v < 0 ∨ (nm : Int) ≤ v)) (fun _ => [(x0, .inr (2, [.int (iI (n : Int)), .int (iI (w : Int)), .ref xq, .ref xr, .ref xl, .int (iI (rc : Int)), .ref xs, .int (iI (sc : Int)), .ref h0, .ref hn0, .ref xc])), (hn0, .inr (1, [.ref al, .ref ad, .int (iI (nm : Int)), .int (iI (wt : Int))])), (al, .inl (cI, 12, .inl (iA PL))), (ad, .inl (cI, 12, .inl (iA DI)))])) 1 6 (va_A [(x0, .inr (2, [.int (iI (n : Int)), .int (iI (w : Int)), .ref xq, .ref xr, .ref xl, .int (iI (rc : Int)), .ref xs, .int (iI (sc : Int)), .ref h0, .ref hn0, .ref xc])), (hn0, .inr (1, [.ref al, .ref ad, .int (iI (nm : Int)), .int (iI (wt : Int))])), (al, .inl (cI, 12, .inl (iA PL))), (ad, .inl (cI, 12, .inl (iA DI)))] sz) := by
  refine vx_ofW (cc := cX2_found) (maxL := 3) (ret := (some .int)) (by decide) rfl ?_
  intro p e s m args below meth c s₁ B hml hEx hv
  obtain ⟨rfl, hsz, hP, hK, hD0, hX⟩ := hv
  have hx := B.exec
  have hb := B.bytes
  have hr := B.returns
  have hts : ∀ w ∈ wsX2_found, w.before _ s = true := atoms_spec (ws := wsX2_found) B.pre
  have hown : s.vm.findClass RX2 = some m.cls := findClass_of_methodNamed B.named
  have hlocks := B.notSynchronized
  subst hsz
  have hD := hD0.self (sz := s.heap.size)
  have hA : ∀ q9 : Nat, s.heap.size ≤ q9 → va_A [(x0, .inr (2, [.int (iI (n : Int)), .int (iI (w : Int)), .ref xq, .ref xr, .ref xl, .int (iI (rc : Int)), .ref xs, .int (iI (sc : Int)), .ref h0, .ref hn0, .ref xc])), (hn0, .inr (1, [.ref al, .ref ad, .int (iI (nm : Int)), .int (iI (wt : Int))])), (al, .inl (cI, 12, .inl (iA PL))), (ad, .inl (cI, 12, .inl (iA DI)))] s.heap.size q9 := fun q9 h => Or.inr h
  have hS : va_S (va_A [(x0, .inr (2, [.int (iI (n : Int)), .int (iI (w : Int)), .ref xq, .ref xr, .ref xl, .int (iI (rc : Int)), .ref xs, .int (iI (sc : Int)), .ref h0, .ref hn0, .ref xc])), (hn0, .inr (1, [.ref al, .ref ad, .int (iI (nm : Int)), .int (iI (wt : Int))])), (al, .inl (cI, 12, .inl (iA PL))), (ad, .inl (cI, 12, .inl (iA DI)))] s.heap.size) s.heap s.heap [] := va_S.rf
  generalize hAe : va_A [(x0, .inr (2, [.int (iI (n : Int)), .int (iI (w : Int)), .ref xq, .ref xr, .ref xl, .int (iI (rc : Int)), .ref xs, .int (iI (sc : Int)), .ref h0, .ref hn0, .ref xc])), (hn0, .inr (1, [.ref al, .ref ad, .int (iI (nm : Int)), .int (iI (wt : Int))])), (al, .inl (cI, 12, .inl (iA PL))), (ad, .inl (cI, 12, .inl (iA DI)))] s.heap.size = A at hD hA hS hX
  have hP : va_P (dC, dI) vwCl [(x0, .inr (2, [.int (iI (n : Int)), .int (iI (w : Int)), .ref xq, .ref xr, .ref xl, .int (iI (rc : Int)), .ref xs, .int (iI (sc : Int)), .ref h0, .ref hn0, .ref xc])), (hn0, .inr (1, [.ref al, .ref ad, .int (iI (nm : Int)), .int (iI (wt : Int))])), (al, .inl (cI, 12, .inl (iA PL))), (ad, .inl (cI, 12, .inl (iA DI)))] s.heap := hP
  have hNn := hX.1
  have hN_size := hNn.1
  have hN_distances := hNn.2.1
  have hN_places := hNn.2.2
  have hl := lv_entry ([.ref x0, .int (iI v), .int (iI b9)]) (n := 3) (Nat.le_of_ble_eq_true rfl)
  rw [lg_entry_eq]
  generalize (lg_sl ([.ref x0, .int (iI v), .int (iI b9)]) ++ List.replicate (3 - (lg_sl ([.ref x0, .int (iI v), .int (iI b9)])).length) Slot.unset).toArray = ls at hl ⊢
  have hl : lv_has ls 3 [(0, .ref x0), (1, .int (iI v)), (2, .int (iI b9))] := hl
  generalize hargs : ([.ref x0, .int (iI v), .int (iI b9)] : List Value).toArray = args at hts ⊢
  refine z_intro (fun R Q hR hQ => ?_)
  have hRf : R.frames = 6 := by rw [hR]; rfl
  have hRl : R.locals = 90 := by rw [hR]; rfl
  have hRc : R.cells = 1 := by rw [hR]; rfl
  have hRs : R.slots = 6 := by rw [hR]; rfl
  have in_X1 : ∀ w ∈ u_ws RX1 TX1 4, w ∈ wsX2_found := fun w h => List.mem_cons_of_mem _ (inW_X1 w h)
  have in_X2 : ∀ w ∈ u_ws RX2 TX2 11, w ∈ wsX2_found := fun w h => List.mem_cons_of_mem _ (inW_X2 w h)
  have fl_45 := wa_hts hts wd_109
  have fl_129 := va_Nw.use (A := args) rfl hN_size
  have fl_134 := va_Nw.use (A := args) rfl hN_distances
  have fl_137 := va_Nw.use (A := args) rfl hN_places
  clear hR hargs B
  refine lv_iload_n hx hb dX2_found_0 rfl (lv_at hl 1 rfl) ?_
  refine z_if_lt (tgt := 15) hx hb dX2_found_1 (by decide) (by omega) (fun h1 => ?_) (fun h1 => ?_)
  · subst hAe
    exact zx_throw (is := 132) (text := "the list has no such row") () hx hb hst hown hts hX (by decide +kernel) wd_225 wd_37 (by decide) xg_IO xn_IO hX.2.1.2.1 xo_IO hEx (hl.1.trans hml.symm) hlocks hP hK hD hS hQ (⟨rfl, by omega⟩) (by omega) (by show 0 + 82 ≤ R.locals; omega) (by omega) (by omega) (by omega) (by omega) dX2_found_15 dX2_found_18 dX2_found_19 dX2_found_21 dX2_found_24
  · refine lv_iload_n hx hb dX2_found_4 rfl (lv_at hl 1 rfl) ?_
    refine lv_aload_n hx hb dX2_found_5 rfl (lv_at hl 0 rfl) ?_
    refine va_get (D := (dC, dI)) (ci := 2) (v := .ref hn0) (C := RX2) (T := TX2) (N := 11) hx hb hts in_X2 hown hK hP 0 rfl rfl 9 (by decide) fl_45 (fun _ h9 => h9) rfl dX2_found_6 ?_
    refine va_getN (host := "WarpSearch") (D := (dC, dI)) (ci := 1) (v := .int (iI (nm : Int))) (C := RX1) (T := TX1) (N := 4) hx hb hts in_X1 hown hK hP 1 rfl rfl 2 (by decide) fl_129 (fun _ h9 => h9) rfl dX2_found_9 ?_
    refine z_icmp_lt (tgt := 25) hx hb dX2_found_12 (by decide) (by omega) (fun h12 => ?_) (fun h12 => ?_)
    · refine lv_iload_n hx hb dX2_found_25 rfl (lv_at hl 2 rfl) ?_
      refine z_if_eq (tgt := 41) hx hb dX2_found_26 (by decide) (by omega) (fun h26 => ?_) (fun h26 => ?_)
      · refine lv_aload_n hx hb dX2_found_41 rfl (lv_at hl 0 rfl) ?_
        refine va_get (D := (dC, dI)) (ci := 2) (v := .ref hn0) (C := RX2) (T := TX2) (N := 11) hx hb hts in_X2 hown hK hP 0 rfl rfl 9 (by decide) fl_45 (fun _ h9 => h9) rfl dX2_found_42 ?_
        refine va_getN (host := "WarpSearch") (D := (dC, dI)) (ci := 1) (v := .ref al) (C := RX1) (T := TX1) (N := 4) hx hb hts in_X1 hown hK hP 1 rfl rfl 0 (by decide) fl_137 (fun _ h9 => h9) rfl dX2_found_45 ?_
        refine lv_iload_n hx hb dX2_found_48 rfl (lv_at hl 1 rfl) ?_
        refine z_iald hx hb hK hP 2 0 rfl rfl v.toNat (by omega) dX2_found_49 ?_
        subst hAe
        exact zx_reti (z := PL v.toNat) (()) hx hb hr hlocks hQ (by omega) (by omega) (⟨by omega, by rw [if_neg (by omega)]⟩) hP hK hD hS dX2_found_50
      · refine lv_aload_n hx hb dX2_found_29 rfl (lv_at hl 0 rfl) ?_
        refine va_get (D := (dC, dI)) (ci := 2) (v := .ref hn0) (C := RX2) (T := TX2) (N := 11) hx hb hts in_X2 hown hK hP 0 rfl rfl 9 (by decide) fl_45 (fun _ h9 => h9) rfl dX2_found_30 ?_
        refine va_getN (host := "WarpSearch") (D := (dC, dI)) (ci := 1) (v := .ref ad) (C := RX1) (T := TX1) (N := 4) hx hb hts in_X1 hown hK hP 1 rfl rfl 1 (by decide) fl_134 (fun _ h9 => h9) rfl dX2_found_33 ?_
        refine lv_iload_n hx hb dX2_found_36 rfl (lv_at hl 1 rfl) ?_
        refine z_iald hx hb hK hP 3 0 rfl rfl v.toNat (by omega) dX2_found_37 ?_
        refine lv_goto (tgt := 50) hx hb dX2_found_38 (by decide) ?_
        subst hAe
        exact zx_reti (z := DI v.toNat) (()) hx hb hr hlocks hQ (by omega) (by omega) (⟨by omega, by rw [if_pos h26]⟩) hP hK hD hS dX2_found_50
    · subst hAe
      exact zx_throw (is := 132) (text := "the list has no such row") () hx hb hst hown hts hX (by decide +kernel) wd_225 wd_37 (by decide) xg_IO xn_IO hX.2.1.2.1 xo_IO hEx (hl.1.trans hml.symm) hlocks hP hK hD hS hQ (⟨rfl, by omega⟩) (by omega) (by show 0 + 82 ≤ R.locals; omega) (by omega) (by omega) (by omega) (by omega) dX2_found_15 dX2_found_18 dX2_found_19 dX2_found_21 dX2_found_24
