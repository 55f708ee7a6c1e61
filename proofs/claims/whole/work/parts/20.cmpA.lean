set_option maxRecDepth 100000 in
set_option maxHeartbeats 4000000 in
/-- square: v * v -/
theorem c_square (l : Launch) (dC : Nat → ClassId) (dI : Nat → Nat → Nat) (cI : ClassId) (v : Int)  : Met l yX0_square wsX0_square ({ frames := 0, cells := 0, slots := 0, locals := 0 }) (rdP dC dI [(cI, .int)] [] [.int (iI v)]) (rdQ (fun z => z = v * v)) 0 0 (fun _ => False) := by
  refine Met.ofW (cc := cX0_square) (maxL := 1) (ret := (some .int)) (by decide) rfl ?_
  intro p e s m args below meth c s₁ B hml hv
  obtain ⟨rfl, hP, hK⟩ := hv
  have hx := B.exec
  have hb := B.bytes
  have hr := B.returns
  have hts : ∀ w ∈ wsX0_square, w.before _ s = true := atoms_spec (ws := wsX0_square) B.pre
  have hown : s.vm.findClass RX0 = some m.cls := findClass_of_methodNamed B.named
  have hlocks := B.notSynchronized
  have hl := lv_entry ([.int (iI v)]) (n := 1) (Nat.le_of_ble_eq_true rfl)
  rw [lg_entry_eq]
  generalize (lg_sl ([.int (iI v)]) ++ List.replicate (1 - (lg_sl ([.int (iI v)])).length) Slot.unset).toArray = ls at hl ⊢
  have hl : lv_has ls 1 [(0, .int (iI v))] := hl
  generalize hargs : ([.int (iI v)] : List Value).toArray = args at hts ⊢
  refine z_intro (fun R Q hR hQ => ?_)
  have hRf : R.frames = 0 := by rw [hR]; rfl
  have hRl : R.locals = 0 := by rw [hR]; rfl
  have hRc : R.cells = 0 := by rw [hR]; rfl
  have hRs : R.slots = 0 := by rw [hR]; rfl
  clear hR hargs B
  refine lv_iload_n hx hb dX0_square_0 rfl (lv_at hl 0 rfl) ?_
  refine lv_iload_n hx hb dX0_square_1 rfl (lv_at hl 0 rfl) ?_
  refine z_imul hx hb dX0_square_2 ?_
  exact zr_ret (z := v * v) hx hb hr hlocks hQ (rfl) dX0_square_3
set_option maxRecDepth 100000 in
set_option maxHeartbeats 4000000 in
theorem c_gap (l : Launch) (dC : Nat → ClassId) (dI : Nat → Nat → Nat) (cI : ClassId) (v lo hi : Int) (h1 : -1000 ≤ v ∧ v ≤ 1000) (h2 : -1000 ≤ lo ∧ lo ≤ 1000) (h3 : -1000 ≤ hi ∧ hi ≤ 1000) : Met l yX0_gap wsX0_gap ({ frames := 0, cells := 0, slots := 0, locals := 0 }) (rdP dC dI [(cI, .int)] [] [.int (iI v), .int (iI lo), .int (iI hi)]) (rdQ (fun z => z = gapz v lo hi)) 0 0 (fun _ => False) := by
  refine Met.ofW (cc := cX0_gap) (maxL := 3) (ret := (some .int)) (by decide) rfl ?_
  intro p e s m args below meth c s₁ B hml hv
  obtain ⟨rfl, hP, hK⟩ := hv
  have hx := B.exec
  have hb := B.bytes
  have hr := B.returns
  have hts : ∀ w ∈ wsX0_gap, w.before _ s = true := atoms_spec (ws := wsX0_gap) B.pre
  have hown : s.vm.findClass RX0 = some m.cls := findClass_of_methodNamed B.named
  have hlocks := B.notSynchronized
  have hl := lv_entry ([.int (iI v), .int (iI lo), .int (iI hi)]) (n := 3) (Nat.le_of_ble_eq_true rfl)
  rw [lg_entry_eq]
  generalize (lg_sl ([.int (iI v), .int (iI lo), .int (iI hi)]) ++ List.replicate (3 - (lg_sl ([.int (iI v), .int (iI lo), .int (iI hi)])).length) Slot.unset).toArray = ls at hl ⊢
  have hl : lv_has ls 3 [(0, .int (iI v)), (1, .int (iI lo)), (2, .int (iI hi))] := hl
  generalize hargs : ([.int (iI v), .int (iI lo), .int (iI hi)] : List Value).toArray = args at hts ⊢
  refine z_intro (fun R Q hR hQ => ?_)
  have hRf : R.frames = 0 := by rw [hR]; rfl
  have hRl : R.locals = 0 := by rw [hR]; rfl
  have hRc : R.cells = 0 := by rw [hR]; rfl
  have hRs : R.slots = 0 := by rw [hR]; rfl
  clear hR hargs B
  refine lv_iload_n hx hb dX0_gap_0 rfl (lv_at hl 0 rfl) ?_
  refine lv_iload_n hx hb dX0_gap_1 rfl (lv_at hl 1 rfl) ?_
  refine z_icmp_ge (tgt := 9) hx hb dX0_gap_2 (by decide) (by omega) (fun h2 => ?_) (fun h2 => ?_)
  · refine lv_iload_n hx hb dX0_gap_9 rfl (lv_at hl 0 rfl) ?_
    refine lv_iload_n hx hb dX0_gap_10 rfl (lv_at hl 2 rfl) ?_
    refine z_icmp_le (tgt := 20) hx hb dX0_gap_11 (by decide) (by omega) (fun h11 => ?_) (fun h11 => ?_)
    · refine lv_iconst (v := iI (0 : Int)) hx hb dX0_gap_20 (by decide) ?_
      exact zr_ret (z := (0 : Int)) hx hb hr hlocks hQ (by unfold gapz; split <;> first | omega | (split <;> omega)) dX0_gap_21
    · refine lv_iload_n hx hb dX0_gap_14 rfl (lv_at hl 0 rfl) ?_
      refine lv_iload_n hx hb dX0_gap_15 rfl (lv_at hl 2 rfl) ?_
      refine z_isub hx hb dX0_gap_16 ?_
      refine lv_goto (tgt := 21) hx hb dX0_gap_17 (by decide) ?_
      exact zr_ret (z := v - hi) hx hb hr hlocks hQ (by unfold gapz; split <;> first | omega | (split <;> omega)) dX0_gap_21
  · refine lv_iload_n hx hb dX0_gap_5 rfl (lv_at hl 1 rfl) ?_
    refine lv_iload_n hx hb dX0_gap_6 rfl (lv_at hl 0 rfl) ?_
    refine z_isub hx hb dX0_gap_7 ?_
    exact zr_ret (z := lo - v) hx hb hr hlocks hQ (by unfold gapz; split <;> first | omega | (split <;> omega)) dX0_gap_8
set_option maxRecDepth 100000 in
set_option maxHeartbeats 4000000 in
theorem c_first (l : Launch) (dC : Nat → ClassId) (dI : Nat → Nat → Nat) (cI : ClassId) (h0 aq ar ac ap : Nat) (ps : Int) (n w : Nat) (i : Nat) (hn : 2 ≤ n ∧ n ≤ 16) (hw : w ≤ 15) (hi : i ≤ 15) : Met l yX0_firstInBand wsX0_firstInBand ({ frames := 0, cells := 0, slots := 0, locals := 0 }) (rdP dC dI [(cI, .int)] [(h0, .inr (0, [.ref aq, .ref ar, .ref ac, .ref ap, .int (iI ps), .int (iI (n : Int)), .int (iI (w : Int))]))] [.ref h0, .int (iI (i : Int))]) (rdQ (fun z => z = ((i - w : Nat) : Int))) 0 0 (fun _ => False) := by
  refine Met.ofW (cc := cX0_firstInBand) (maxL := 2) (ret := (some .int)) (by decide) rfl ?_
  intro p e s m args below meth c s₁ B hml hv
  obtain ⟨rfl, hP, hK⟩ := hv
  have hx := B.exec
  have hb := B.bytes
  have hr := B.returns
  have hts : ∀ w ∈ wsX0_firstInBand, w.before _ s = true := atoms_spec (ws := wsX0_firstInBand) B.pre
  have hown : s.vm.findClass RX0 = some m.cls := findClass_of_methodNamed B.named
  have hlocks := B.notSynchronized
  have hl := lv_entry ([.ref h0, .int (iI (i : Int))]) (n := 2) (Nat.le_of_ble_eq_true rfl)
  rw [lg_entry_eq]
  generalize (lg_sl ([.ref h0, .int (iI (i : Int))]) ++ List.replicate (2 - (lg_sl ([.ref h0, .int (iI (i : Int))])).length) Slot.unset).toArray = ls at hl ⊢
  have hl : lv_has ls 2 [(0, .ref h0), (1, .int (iI (i : Int)))] := hl
  generalize hargs : ([.ref h0, .int (iI (i : Int))] : List Value).toArray = args at hts ⊢
  refine z_intro (fun R Q hR hQ => ?_)
  have hRf : R.frames = 0 := by rw [hR]; rfl
  have hRl : R.locals = 0 := by rw [hR]; rfl
  have hRc : R.cells = 0 := by rw [hR]; rfl
  have hRs : R.slots = 0 := by rw [hR]; rfl
  have in_X0 : ∀ w ∈ u_ws RX0 TX0 7, w ∈ wsX0_firstInBand := fun w h => List.mem_cons_of_mem _ (inW_X0 w h)
  have fl_31 := wa_hts hts wd_61
  clear hR hargs B
  refine lv_iload_n hx hb dX0_firstInBand_0 rfl (lv_at hl 1 rfl) ?_
  refine lv_aload_n hx hb dX0_firstInBand_1 rfl (lv_at hl 0 rfl) ?_
  refine va_get (D := (dC, dI)) (ci := 0) (v := .int (iI (w : Int))) (C := RX0) (T := TX0) (N := 7) hx hb hts in_X0 hown hK hP 0 rfl rfl 6 (by decide) fl_31 (fun _ h9 => h9) rfl dX0_firstInBand_2 ?_
  refine z_icmp_le (tgt := 17) hx hb dX0_firstInBand_5 (by decide) (by omega) (fun h5 => ?_) (fun h5 => ?_)
  · refine lv_iconst (v := iI (0 : Int)) hx hb dX0_firstInBand_17 (by decide) ?_
    exact zr_ret (z := (0 : Int)) hx hb hr hlocks hQ (by omega) dX0_firstInBand_18
  · refine lv_iload_n hx hb dX0_firstInBand_8 rfl (lv_at hl 1 rfl) ?_
    refine lv_aload_n hx hb dX0_firstInBand_9 rfl (lv_at hl 0 rfl) ?_
    refine va_get (D := (dC, dI)) (ci := 0) (v := .int (iI (w : Int))) (C := RX0) (T := TX0) (N := 7) hx hb hts in_X0 hown hK hP 0 rfl rfl 6 (by decide) fl_31 (fun _ h9 => h9) rfl dX0_firstInBand_10 ?_
    refine z_isub hx hb dX0_firstInBand_13 ?_
    refine lv_goto (tgt := 18) hx hb dX0_firstInBand_14 (by decide) ?_
    exact zr_ret (z := (i : Int) - (w : Int)) hx hb hr hlocks hQ (by omega) dX0_firstInBand_18
set_option maxRecDepth 100000 in
set_option maxHeartbeats 4000000 in
theorem c_last (l : Launch) (dC : Nat → ClassId) (dI : Nat → Nat → Nat) (cI : ClassId) (h0 aq ar ac ap : Nat) (ps : Int) (n w : Nat) (i : Nat) (hn : 2 ≤ n ∧ n ≤ 16) (hw : w ≤ 15) (hi : i ≤ 15) : Met l yX0_lastInBand wsX0_lastInBand ({ frames := 0, cells := 0, slots := 0, locals := 0 }) (rdP dC dI [(cI, .int)] [(h0, .inr (0, [.ref aq, .ref ar, .ref ac, .ref ap, .int (iI ps), .int (iI (n : Int)), .int (iI (w : Int))]))] [.ref h0, .int (iI (i : Int))]) (rdQ (fun z => z = ((min (i + w) (n - 1) : Nat) : Int))) 0 0 (fun _ => False) := by
  refine Met.ofW (cc := cX0_lastInBand) (maxL := 2) (ret := (some .int)) (by decide) rfl ?_
  intro p e s m args below meth c s₁ B hml hv
  obtain ⟨rfl, hP, hK⟩ := hv
  have hx := B.exec
  have hb := B.bytes
  have hr := B.returns
  have hts : ∀ w ∈ wsX0_lastInBand, w.before _ s = true := atoms_spec (ws := wsX0_lastInBand) B.pre
  have hown : s.vm.findClass RX0 = some m.cls := findClass_of_methodNamed B.named
  have hlocks := B.notSynchronized
  have hl := lv_entry ([.ref h0, .int (iI (i : Int))]) (n := 2) (Nat.le_of_ble_eq_true rfl)
  rw [lg_entry_eq]
  generalize (lg_sl ([.ref h0, .int (iI (i : Int))]) ++ List.replicate (2 - (lg_sl ([.ref h0, .int (iI (i : Int))])).length) Slot.unset).toArray = ls at hl ⊢
  have hl : lv_has ls 2 [(0, .ref h0), (1, .int (iI (i : Int)))] := hl
  generalize hargs : ([.ref h0, .int (iI (i : Int))] : List Value).toArray = args at hts ⊢
  refine z_intro (fun R Q hR hQ => ?_)
  have hRf : R.frames = 0 := by rw [hR]; rfl
  have hRl : R.locals = 0 := by rw [hR]; rfl
  have hRc : R.cells = 0 := by rw [hR]; rfl
  have hRs : R.slots = 0 := by rw [hR]; rfl
  have in_X0 : ∀ w ∈ u_ws RX0 TX0 7, w ∈ wsX0_lastInBand := fun w h => List.mem_cons_of_mem _ (inW_X0 w h)
  have fl_28 := wa_hts hts wd_60
  have fl_31 := wa_hts hts wd_61
  clear hR hargs B
  refine lv_iload_n hx hb dX0_lastInBand_0 rfl (lv_at hl 1 rfl) ?_
  refine lv_aload_n hx hb dX0_lastInBand_1 rfl (lv_at hl 0 rfl) ?_
  refine va_get (D := (dC, dI)) (ci := 0) (v := .int (iI (w : Int))) (C := RX0) (T := TX0) (N := 7) hx hb hts in_X0 hown hK hP 0 rfl rfl 6 (by decide) fl_31 (fun _ h9 => h9) rfl dX0_lastInBand_2 ?_
  refine z_iadd hx hb dX0_lastInBand_5 ?_
  refine lv_aload_n hx hb dX0_lastInBand_6 rfl (lv_at hl 0 rfl) ?_
  refine va_get (D := (dC, dI)) (ci := 0) (v := .int (iI (n : Int))) (C := RX0) (T := TX0) (N := 7) hx hb hts in_X0 hown hK hP 0 rfl rfl 5 (by decide) fl_28 (fun _ h9 => h9) rfl dX0_lastInBand_7 ?_
  refine z_icmp_ge (tgt := 22) hx hb dX0_lastInBand_10 (by decide) (by omega) (fun h10 => ?_) (fun h10 => ?_)
  · refine lv_aload_n hx hb dX0_lastInBand_22 rfl (lv_at hl 0 rfl) ?_
    refine va_get (D := (dC, dI)) (ci := 0) (v := .int (iI (n : Int))) (C := RX0) (T := TX0) (N := 7) hx hb hts in_X0 hown hK hP 0 rfl rfl 5 (by decide) fl_28 (fun _ h9 => h9) rfl dX0_lastInBand_23 ?_
    refine lv_iconst (v := iI (1 : Int)) hx hb dX0_lastInBand_26 (by decide) ?_
    refine z_isub hx hb dX0_lastInBand_27 ?_
    exact zr_ret (z := (n : Int) - (1 : Int)) hx hb hr hlocks hQ (by omega) dX0_lastInBand_28
  · refine lv_iload_n hx hb dX0_lastInBand_13 rfl (lv_at hl 1 rfl) ?_
    refine lv_aload_n hx hb dX0_lastInBand_14 rfl (lv_at hl 0 rfl) ?_
    refine va_get (D := (dC, dI)) (ci := 0) (v := .int (iI (w : Int))) (C := RX0) (T := TX0) (N := 7) hx hb hts in_X0 hown hK hP 0 rfl rfl 6 (by decide) fl_31 (fun _ h9 => h9) rfl dX0_lastInBand_15 ?_
    refine z_iadd hx hb dX0_lastInBand_18 ?_
    refine lv_goto (tgt := 28) hx hb dX0_lastInBand_19 (by decide) ?_
    exact zr_ret (z := (i : Int) + (w : Int)) hx hb hr hlocks hQ (by omega) dX0_lastInBand_28
set_option maxRecDepth 100000 in
set_option maxHeartbeats 4000000 in
theorem c_costAt (l : Launch) (dC : Nat → ClassId) (dI : Nat → Nat → Nat) (cI : ClassId) (h0 aq ar ac ap : Nat) (ps : Int) (n w : Nat) (G : Nat → Int) (i j : Int) (hn : 2 ≤ n ∧ n ≤ 16) (hw : w ≤ 15) (hi : -1 ≤ i ∧ i ≤ 15) (hj : -1 ≤ j ∧ j ≤ 15) : Met l yX0_costAt wsX0_costAt ({ frames := 0, cells := 0, slots := 0, locals := 0 }) (rdP dC dI [(cI, .int)] [(h0, .inr (0, [.ref aq, .ref ar, .ref ac, .ref ap, .int (iI ps), .int (iI (n : Int)), .int (iI (w : Int))])), (ac, .inl (cI, 256, .inl (iA G)))] [.ref h0, .int (iI i), .int (iI j)]) (rdQ (fun z => z = gAt w G i j)) 0 0 (fun _ => False) := by
  refine Met.ofW (cc := cX0_costAt) (maxL := 4) (ret := (some .int)) (by decide) rfl ?_
  intro p e s m args below meth c s₁ B hml hv
  obtain ⟨rfl, hP, hK⟩ := hv
  have hx := B.exec
  have hb := B.bytes
  have hr := B.returns
  have hts : ∀ w ∈ wsX0_costAt, w.before _ s = true := atoms_spec (ws := wsX0_costAt) B.pre
  have hown : s.vm.findClass RX0 = some m.cls := findClass_of_methodNamed B.named
  have hlocks := B.notSynchronized
  have hl := lv_entry ([.ref h0, .int (iI i), .int (iI j)]) (n := 4) (Nat.le_of_ble_eq_true rfl)
  rw [lg_entry_eq]
  generalize (lg_sl ([.ref h0, .int (iI i), .int (iI j)]) ++ List.replicate (4 - (lg_sl ([.ref h0, .int (iI i), .int (iI j)])).length) Slot.unset).toArray = ls at hl ⊢
  have hl : lv_has ls 4 [(0, .ref h0), (1, .int (iI i)), (2, .int (iI j))] := hl
  generalize hargs : ([.ref h0, .int (iI i), .int (iI j)] : List Value).toArray = args at hts ⊢
  refine z_intro (fun R Q hR hQ => ?_)
  have hRf : R.frames = 0 := by rw [hR]; rfl
  have hRl : R.locals = 0 := by rw [hR]; rfl
  have hRc : R.cells = 0 := by rw [hR]; rfl
  have hRs : R.slots = 0 := by rw [hR]; rfl
  have in_X0 : ∀ w ∈ u_ws RX0 TX0 7, w ∈ wsX0_costAt := fun w h => List.mem_cons_of_mem _ (inW_X0 w h)
  have fl_18 := wa_hts hts wd_57
  have fl_31 := wa_hts hts wd_61
  have kc_73 := wa_hts hts wd_321
  clear hR hargs B
  refine lv_iload_n hx hb dX0_costAt_0 rfl (lv_at hl 1 rfl) ?_
  refine z_if_lt (tgt := 32) hx hb dX0_costAt_1 (by decide) (by omega) (fun h1 => ?_) (fun h1 => ?_)
  · refine lv_iconst (v := iI (0 : Int)) hx hb dX0_costAt_32 (by decide) ?_
    refine lv_istore_n (lv' := [(3, .int (iI (0 : Int))), (0, .ref h0), (1, .int (iI i)), (2, .int (iI j))]) hx hb dX0_costAt_33 rfl hl (by decide) rfl (fun ls hl => ?_)
    refine lv_iload_n hx hb dX0_costAt_34 rfl (lv_at hl 0 rfl) ?_
    refine z_if_eq (tgt := 52) hx hb dX0_costAt_35 (by decide) (by decide) (fun _ => ?_) (fun h9 => absurd h9 (by decide))
    refine z_ldc hx hb (1000000000 : Int) hown kc_73 (by decide) dX0_costAt_52 ?_
    exact zr_ret (z := (1000000000 : Int)) hx hb hr hlocks hQ (by unfold gAt; rw [if_neg (by omega)]) dX0_costAt_54
  · refine lv_iload_n hx hb dX0_costAt_4 rfl (lv_at hl 2 rfl) ?_
    refine z_if_lt (tgt := 32) hx hb dX0_costAt_5 (by decide) (by omega) (fun h5 => ?_) (fun h5 => ?_)
    · refine lv_iconst (v := iI (0 : Int)) hx hb dX0_costAt_32 (by decide) ?_
      refine lv_istore_n (lv' := [(3, .int (iI (0 : Int))), (0, .ref h0), (1, .int (iI i)), (2, .int (iI j))]) hx hb dX0_costAt_33 rfl hl (by decide) rfl (fun ls hl => ?_)
      refine lv_iload_n hx hb dX0_costAt_34 rfl (lv_at hl 0 rfl) ?_
      refine z_if_eq (tgt := 52) hx hb dX0_costAt_35 (by decide) (by decide) (fun _ => ?_) (fun h9 => absurd h9 (by decide))
      refine z_ldc hx hb (1000000000 : Int) hown kc_73 (by decide) dX0_costAt_52 ?_
      exact zr_ret (z := (1000000000 : Int)) hx hb hr hlocks hQ (by unfold gAt; rw [if_neg (by omega)]) dX0_costAt_54
    · refine lv_iload_n hx hb dX0_costAt_8 rfl (lv_at hl 1 rfl) ?_
      refine lv_iload_n hx hb dX0_costAt_9 rfl (lv_at hl 2 rfl) ?_
      refine z_isub hx hb dX0_costAt_10 ?_
      refine lv_aload_n hx hb dX0_costAt_11 rfl (lv_at hl 0 rfl) ?_
      refine va_get (D := (dC, dI)) (ci := 0) (v := .int (iI (w : Int))) (C := RX0) (T := TX0) (N := 7) hx hb hts in_X0 hown hK hP 0 rfl rfl 6 (by decide) fl_31 (fun _ h9 => h9) rfl dX0_costAt_12 ?_
      refine z_icmp_gt (tgt := 32) hx hb dX0_costAt_15 (by decide) (by omega) (fun h15 => ?_) (fun h15 => ?_)
      · refine lv_iconst (v := iI (0 : Int)) hx hb dX0_costAt_32 (by decide) ?_
        refine lv_istore_n (lv' := [(3, .int (iI (0 : Int))), (0, .ref h0), (1, .int (iI i)), (2, .int (iI j))]) hx hb dX0_costAt_33 rfl hl (by decide) rfl (fun ls hl => ?_)
        refine lv_iload_n hx hb dX0_costAt_34 rfl (lv_at hl 0 rfl) ?_
        refine z_if_eq (tgt := 52) hx hb dX0_costAt_35 (by decide) (by decide) (fun _ => ?_) (fun h9 => absurd h9 (by decide))
        refine z_ldc hx hb (1000000000 : Int) hown kc_73 (by decide) dX0_costAt_52 ?_
        exact zr_ret (z := (1000000000 : Int)) hx hb hr hlocks hQ (by unfold gAt; rw [if_neg (by omega)]) dX0_costAt_54
      · refine lv_iload_n hx hb dX0_costAt_18 rfl (lv_at hl 2 rfl) ?_
        refine lv_iload_n hx hb dX0_costAt_19 rfl (lv_at hl 1 rfl) ?_
        refine z_isub hx hb dX0_costAt_20 ?_
        refine lv_aload_n hx hb dX0_costAt_21 rfl (lv_at hl 0 rfl) ?_
        refine va_get (D := (dC, dI)) (ci := 0) (v := .int (iI (w : Int))) (C := RX0) (T := TX0) (N := 7) hx hb hts in_X0 hown hK hP 0 rfl rfl 6 (by decide) fl_31 (fun _ h9 => h9) rfl dX0_costAt_22 ?_
        refine z_icmp_gt (tgt := 32) hx hb dX0_costAt_25 (by decide) (by omega) (fun h25 => ?_) (fun h25 => ?_)
        · refine lv_iconst (v := iI (0 : Int)) hx hb dX0_costAt_32 (by decide) ?_
          refine lv_istore_n (lv' := [(3, .int (iI (0 : Int))), (0, .ref h0), (1, .int (iI i)), (2, .int (iI j))]) hx hb dX0_costAt_33 rfl hl (by decide) rfl (fun ls hl => ?_)
          refine lv_iload_n hx hb dX0_costAt_34 rfl (lv_at hl 0 rfl) ?_
          refine z_if_eq (tgt := 52) hx hb dX0_costAt_35 (by decide) (by decide) (fun _ => ?_) (fun h9 => absurd h9 (by decide))
          refine z_ldc hx hb (1000000000 : Int) hown kc_73 (by decide) dX0_costAt_52 ?_
          exact zr_ret (z := (1000000000 : Int)) hx hb hr hlocks hQ (by unfold gAt; rw [if_neg (by omega)]) dX0_costAt_54
        · refine lv_iconst (v := iI (1 : Int)) hx hb dX0_costAt_28 (by decide) ?_
          refine lv_goto (tgt := 33) hx hb dX0_costAt_29 (by decide) ?_
          refine lv_istore_n (lv' := [(3, .int (iI (1 : Int))), (0, .ref h0), (1, .int (iI i)), (2, .int (iI j))]) hx hb dX0_costAt_33 rfl hl (by decide) rfl (fun ls hl => ?_)
          refine lv_iload_n hx hb dX0_costAt_34 rfl (lv_at hl 0 rfl) ?_
          refine z_if_eq (tgt := 52) hx hb dX0_costAt_35 (by decide) (by decide) (fun h9 => absurd h9 (by decide)) (fun _ => ?_)
          refine lv_aload_n hx hb dX0_costAt_38 rfl (lv_at hl 1 rfl) ?_
          refine va_get (D := (dC, dI)) (ci := 0) (v := .ref ac) (C := RX0) (T := TX0) (N := 7) hx hb hts in_X0 hown hK hP 0 rfl rfl 2 (by decide) fl_18 (fun _ h9 => h9) rfl dX0_costAt_39 ?_
          refine lv_bipush (v := iI (16 : Int)) hx hb dX0_costAt_42 (by decide) ?_
          refine lv_iload_n hx hb dX0_costAt_44 rfl (lv_at hl 2 rfl) ?_
          refine z_imul hx hb dX0_costAt_45 ?_
          refine lv_iload_n hx hb dX0_costAt_46 rfl (lv_at hl 3 rfl) ?_
          refine z_iadd hx hb dX0_costAt_47 ?_
          refine z_iald hx hb hK hP 1 0 rfl rfl ((16 * i + j).toNat) (by omega) dX0_costAt_48 ?_
          refine lv_goto (tgt := 54) hx hb dX0_costAt_49 (by decide) ?_
          exact zr_ret (z := G ((16 * i + j).toNat)) hx hb hr hlocks hQ (by unfold gAt; rw [if_pos (by omega)]) dX0_costAt_54
set_option maxRecDepth 100000 in
set_option maxHeartbeats 4000000 in
theorem c_leastBefore (l : Launch) (dC : Nat → ClassId) (dI : Nat → Nat → Nat) (cI : ClassId) (h0 aq ar ac ap : Nat) (ps : Int) (n w : Nat) (G : Nat → Int) (i j : Nat) (hn : 2 ≤ n ∧ n ≤ 16) (hw : w ≤ 15) (hG : rgA G) (hi : i ≤ 15) (hj : j ≤ 15) : Met l yX0_leastBefore wsX0_leastBefore ({ frames := 1, cells := 0, slots := 0, locals := 23 }) (rdP dC dI [(cI, .int)] [(h0, .inr (0, [.ref aq, .ref ar, .ref ac, .ref ap, .int (iI ps), .int (iI (n : Int)), .int (iI (w : Int))])), (ac, .inl (cI, 256, .inl (iA G)))] [.ref h0, .int (iI (i : Int)), .int (iI (j : Int))]) (rdQ (fun z => z = gBef w G i j)) 0 0 (fun _ => False) := by
  refine Met.ofW (cc := cX0_leastBefore) (maxL := 3) (ret := (some .int)) (by decide) rfl ?_
  intro p e s m args below meth c s₁ B hml hv
  obtain ⟨rfl, hP, hK⟩ := hv
  have hx := B.exec
  have hb := B.bytes
  have hr := B.returns
  have hts : ∀ w ∈ wsX0_leastBefore, w.before _ s = true := atoms_spec (ws := wsX0_leastBefore) B.pre
  have hown : s.vm.findClass RX0 = some m.cls := findClass_of_methodNamed B.named
  have hlocks := B.notSynchronized
  have hl := lv_entry ([.ref h0, .int (iI (i : Int)), .int (iI (j : Int))]) (n := 3) (Nat.le_of_ble_eq_true rfl)
  rw [lg_entry_eq]
  generalize (lg_sl ([.ref h0, .int (iI (i : Int)), .int (iI (j : Int))]) ++ List.replicate (3 - (lg_sl ([.ref h0, .int (iI (i : Int)), .int (iI (j : Int))])).length) Slot.unset).toArray = ls at hl ⊢
  have hl : lv_has ls 3 [(0, .ref h0), (1, .int (iI (i : Int))), (2, .int (iI (j : Int)))] := hl
  generalize hargs : ([.ref h0, .int (iI (i : Int)), .int (iI (j : Int))] : List Value).toArray = args at hts ⊢
  refine z_intro (fun R Q hR hQ => ?_)
  have hRf : R.frames = 1 := by rw [hR]; rfl
  have hRl : R.locals = 23 := by rw [hR]; rfl
  have hRc : R.cells = 0 := by rw [hR]; rfl
  have hRs : R.slots = 0 := by rw [hR]; rfl
  have ml_54 : (Cond.methodLink RX0 54 Lib.Math.min.name).before args s = true := wa_hts hts wd_338
  have st_min : (Cond.static Lib.Math.min.name).before args s = true := wa_hts hts wd_339
  have cd_min : (Cond.code Lib.Math.min.name Lib.Math.min.code 2 (some .int)).before args s = true := wa_hts hts wd_340
  have hMath := wa_hts hts wd_40
  clear hR hargs B
  refine lv_iload_n hx hb dX0_leastBefore_0 rfl (lv_at hl 1 rfl) ?_
  refine z_if_ne (tgt := 10) hx hb dX0_leastBefore_1 (by decide) (by omega) (fun h1 => ?_) (fun h1 => ?_)
  · refine lv_aload_n hx hb dX0_leastBefore_10 rfl (lv_at hl 0 rfl) ?_
    refine lv_iload_n hx hb dX0_leastBefore_11 rfl (lv_at hl 1 rfl) ?_
    refine lv_iconst (v := iI (1 : Int)) hx hb dX0_leastBefore_12 (by decide) ?_
    refine z_isub hx hb dX0_leastBefore_13 ?_
    refine lv_iload_n hx hb dX0_leastBefore_14 rfl (lv_at hl 2 rfl) ?_
    refine lv_iconst (v := iI (1 : Int)) hx hb dX0_leastBefore_15 (by decide) ?_
    refine z_isub hx hb dX0_leastBefore_16 ?_
    refine zr_i (va_runV (As := [.int (iI ((i : Int) - (1 : Int))), .int (iI ((j : Int) - (1 : Int)))]) (rest := []) ⟨hx, hb, hml, hown, hts⟩ (c_costAt l dC dI cI h0 aq ar ac ap ps n w G ((i : Int) - (1 : Int)) ((j : Int) - (1 : Int)) hn hw (by omega) (by omega)) (cwV 2 hts (ga_V wd_334 wd_336 wd_7 wd_29 wd_337) rfl rfl rfl (by decide +kernel) ⟨(show 0 + 1 ≤ R.frames by omega), (show 8 + (4 + 11) + 0 ≤ R.locals by omega)⟩) (rd_preV (q0 := 0) (ci := 0) hP hK [0, 1] rfl rfl rfl) rfl rfl hl.1 rfl (lv_room (Nat.le_of_ble_eq_true rfl)) dX0_leastBefore_17 ⟨by omega, by omega⟩) (fun z17 hz17 => ?_)
    refine lv_aload_n hx hb dX0_leastBefore_20 rfl (lv_at hl 0 rfl) ?_
    refine lv_iload_n hx hb dX0_leastBefore_21 rfl (lv_at hl 1 rfl) ?_
    refine lv_iconst (v := iI (1 : Int)) hx hb dX0_leastBefore_22 (by decide) ?_
    refine z_isub hx hb dX0_leastBefore_23 ?_
    refine lv_iload_n hx hb dX0_leastBefore_24 rfl (lv_at hl 2 rfl) ?_
    refine zr_i (va_runV (As := [.int (iI ((i : Int) - (1 : Int))), .int (iI (j : Int))]) (rest := [.int (iI z17)]) ⟨hx, hb, hml, hown, hts⟩ (c_costAt l dC dI cI h0 aq ar ac ap ps n w G ((i : Int) - (1 : Int)) (j : Int) hn hw (by omega) (by omega)) (cwV 2 hts (ga_V wd_334 wd_336 wd_7 wd_29 wd_337) rfl rfl rfl (by decide +kernel) ⟨(show 0 + 1 ≤ R.frames by omega), (show 8 + (4 + 11) + 0 ≤ R.locals by omega)⟩) (rd_preV (q0 := 0) (ci := 0) hP hK [0, 1] rfl rfl rfl) rfl rfl hl.1 rfl (lv_room (Nat.le_of_ble_eq_true rfl)) dX0_leastBefore_25 ⟨by omega, by omega⟩) (fun z25 hz25 => ?_)
    refine lv_aload_n hx hb dX0_leastBefore_28 rfl (lv_at hl 0 rfl) ?_
    refine lv_iload_n hx hb dX0_leastBefore_29 rfl (lv_at hl 1 rfl) ?_
    refine lv_iload_n hx hb dX0_leastBefore_30 rfl (lv_at hl 2 rfl) ?_
    refine lv_iconst (v := iI (1 : Int)) hx hb dX0_leastBefore_31 (by decide) ?_
    refine z_isub hx hb dX0_leastBefore_32 ?_
    refine zr_i (va_runV (As := [.int (iI (i : Int)), .int (iI ((j : Int) - (1 : Int)))]) (rest := [.int (iI z25), .int (iI z17)]) ⟨hx, hb, hml, hown, hts⟩ (c_costAt l dC dI cI h0 aq ar ac ap ps n w G (i : Int) ((j : Int) - (1 : Int)) hn hw (by omega) (by omega)) (cwV 2 hts (ga_V wd_334 wd_336 wd_7 wd_29 wd_337) rfl rfl rfl (by decide +kernel) ⟨(show 0 + 1 ≤ R.frames by omega), (show 8 + (4 + 11) + 0 ≤ R.locals by omega)⟩) (rd_preV (q0 := 0) (ci := 0) hP hK [0, 1] rfl rfl rfl) rfl rfl hl.1 rfl (lv_room (Nat.le_of_ble_eq_true rfl)) dX0_leastBefore_33 ⟨by omega, by omega⟩) (fun z33 hz33 => ?_)
    have r17 : -2147483648 ≤ z17 ∧ z17 ≤ 2147483647 := by rw [hz17]; exact gAt_rg hG _ _
    have r25 : -2147483648 ≤ z25 ∧ z25 ≤ 2147483647 := by rw [hz25]; exact gAt_rg hG _ _
    have r33 : -2147483648 ≤ z33 ∧ z33 ≤ 2147483647 := by rw [hz33]; exact gAt_rg hG _ _
    refine z_min hx hb (hml.trans hl.1.symm) hown ml_54 st_min hMath cd_min (by omega) (by show 1 + 13 ≤ R.locals; omega) (by omega) (by omega) (by omega) dX0_leastBefore_36 ?_
    refine z_min hx hb (hml.trans hl.1.symm) hown ml_54 st_min hMath cd_min (by omega) (by show 0 + 13 ≤ R.locals; omega) (by omega) (by omega) (by omega) dX0_leastBefore_39 ?_
    exact zr_ret (z := min z17 (min z25 z33)) hx hb hr hlocks hQ (by unfold gBef; rw [if_neg (by omega), hz17, hz25, hz33]) dX0_leastBefore_42
  · refine lv_iload_n hx hb dX0_leastBefore_4 rfl (lv_at hl 2 rfl) ?_
    refine z_if_ne (tgt := 10) hx hb dX0_leastBefore_5 (by decide) (by omega) (fun h5 => ?_) (fun h5 => ?_)
    · refine lv_aload_n hx hb dX0_leastBefore_10 rfl (lv_at hl 0 rfl) ?_
      refine lv_iload_n hx hb dX0_leastBefore_11 rfl (lv_at hl 1 rfl) ?_
      refine lv_iconst (v := iI (1 : Int)) hx hb dX0_leastBefore_12 (by decide) ?_
      refine z_isub hx hb dX0_leastBefore_13 ?_
      refine lv_iload_n hx hb dX0_leastBefore_14 rfl (lv_at hl 2 rfl) ?_
      refine lv_iconst (v := iI (1 : Int)) hx hb dX0_leastBefore_15 (by decide) ?_
      refine z_isub hx hb dX0_leastBefore_16 ?_
      refine zr_i (va_runV (As := [.int (iI ((i : Int) - (1 : Int))), .int (iI ((j : Int) - (1 : Int)))]) (rest := []) ⟨hx, hb, hml, hown, hts⟩ (c_costAt l dC dI cI h0 aq ar ac ap ps n w G ((i : Int) - (1 : Int)) ((j : Int) - (1 : Int)) hn hw (by omega) (by omega)) (cwV 2 hts (ga_V wd_334 wd_336 wd_7 wd_29 wd_337) rfl rfl rfl (by decide +kernel) ⟨(show 0 + 1 ≤ R.frames by omega), (show 8 + (4 + 11) + 0 ≤ R.locals by omega)⟩) (rd_preV (q0 := 0) (ci := 0) hP hK [0, 1] rfl rfl rfl) rfl rfl hl.1 rfl (lv_room (Nat.le_of_ble_eq_true rfl)) dX0_leastBefore_17 ⟨by omega, by omega⟩) (fun z17 hz17 => ?_)
      refine lv_aload_n hx hb dX0_leastBefore_20 rfl (lv_at hl 0 rfl) ?_
      refine lv_iload_n hx hb dX0_leastBefore_21 rfl (lv_at hl 1 rfl) ?_
      refine lv_iconst (v := iI (1 : Int)) hx hb dX0_leastBefore_22 (by decide) ?_
      refine z_isub hx hb dX0_leastBefore_23 ?_
      refine lv_iload_n hx hb dX0_leastBefore_24 rfl (lv_at hl 2 rfl) ?_
      refine zr_i (va_runV (As := [.int (iI ((i : Int) - (1 : Int))), .int (iI (j : Int))]) (rest := [.int (iI z17)]) ⟨hx, hb, hml, hown, hts⟩ (c_costAt l dC dI cI h0 aq ar ac ap ps n w G ((i : Int) - (1 : Int)) (j : Int) hn hw (by omega) (by omega)) (cwV 2 hts (ga_V wd_334 wd_336 wd_7 wd_29 wd_337) rfl rfl rfl (by decide +kernel) ⟨(show 0 + 1 ≤ R.frames by omega), (show 8 + (4 + 11) + 0 ≤ R.locals by omega)⟩) (rd_preV (q0 := 0) (ci := 0) hP hK [0, 1] rfl rfl rfl) rfl rfl hl.1 rfl (lv_room (Nat.le_of_ble_eq_true rfl)) dX0_leastBefore_25 ⟨by omega, by omega⟩) (fun z25 hz25 => ?_)
      refine lv_aload_n hx hb dX0_leastBefore_28 rfl (lv_at hl 0 rfl) ?_
      refine lv_iload_n hx hb dX0_leastBefore_29 rfl (lv_at hl 1 rfl) ?_
      refine lv_iload_n hx hb dX0_leastBefore_30 rfl (lv_at hl 2 rfl) ?_
      refine lv_iconst (v := iI (1 : Int)) hx hb dX0_leastBefore_31 (by decide) ?_
      refine z_isub hx hb dX0_leastBefore_32 ?_
      refine zr_i (va_runV (As := [.int (iI (i : Int)), .int (iI ((j : Int) - (1 : Int)))]) (rest := [.int (iI z25), .int (iI z17)]) ⟨hx, hb, hml, hown, hts⟩ (c_costAt l dC dI cI h0 aq ar ac ap ps n w G (i : Int) ((j : Int) - (1 : Int)) hn hw (by omega) (by omega)) (cwV 2 hts (ga_V wd_334 wd_336 wd_7 wd_29 wd_337) rfl rfl rfl (by decide +kernel) ⟨(show 0 + 1 ≤ R.frames by omega), (show 8 + (4 + 11) + 0 ≤ R.locals by omega)⟩) (rd_preV (q0 := 0) (ci := 0) hP hK [0, 1] rfl rfl rfl) rfl rfl hl.1 rfl (lv_room (Nat.le_of_ble_eq_true rfl)) dX0_leastBefore_33 ⟨by omega, by omega⟩) (fun z33 hz33 => ?_)
      have r17 : -2147483648 ≤ z17 ∧ z17 ≤ 2147483647 := by rw [hz17]; exact gAt_rg hG _ _
      have r25 : -2147483648 ≤ z25 ∧ z25 ≤ 2147483647 := by rw [hz25]; exact gAt_rg hG _ _
      have r33 : -2147483648 ≤ z33 ∧ z33 ≤ 2147483647 := by rw [hz33]; exact gAt_rg hG _ _
      refine z_min hx hb (hml.trans hl.1.symm) hown ml_54 st_min hMath cd_min (by omega) (by show 1 + 13 ≤ R.locals; omega) (by omega) (by omega) (by omega) dX0_leastBefore_36 ?_
      refine z_min hx hb (hml.trans hl.1.symm) hown ml_54 st_min hMath cd_min (by omega) (by show 0 + 13 ≤ R.locals; omega) (by omega) (by omega) (by omega) dX0_leastBefore_39 ?_
      exact zr_ret (z := min z17 (min z25 z33)) hx hb hr hlocks hQ (by unfold gBef; rw [if_neg (by omega), hz17, hz25, hz33]) dX0_leastBefore_42
    · refine lv_iconst (v := iI (0 : Int)) hx hb dX0_leastBefore_8 (by decide) ?_
      exact zr_ret (z := (0 : Int)) hx hb hr hlocks hQ (by unfold gBef; rw [if_pos (by omega)]) dX0_leastBefore_9
set_option maxRecDepth 100000 in
set_option maxHeartbeats 4000000 in
theorem c_pairOfPath (l : Launch) (dC : Nat → ClassId) (dI : Nat → Nat → Nat) (cI : ClassId) (h0 aq ar ac ap : Nat) (ps : Int) (n w : Nat) (P : Nat → Int) (k : Int) (hk : 0 ≤ ps + k ∧ ps + k ≤ 30) : Met l yX0_pairOfPath wsX0_pairOfPath ({ frames := 0, cells := 0, slots := 0, locals := 0 }) (rdP dC dI [(cI, .int)] [(h0, .inr (0, [.ref aq, .ref ar, .ref ac, .ref ap, .int (iI ps), .int (iI (n : Int)), .int (iI (w : Int))])), (ap, .inl (cI, 31, .inl (iA P)))] [.ref h0, .int (iI k)]) (rdQ (fun z => z = P (ps + k).toNat)) 0 0 (fun _ => False) := by
  refine Met.ofW (cc := cX0_pairOfPath) (maxL := 2) (ret := (some .int)) (by decide) rfl ?_
  intro p e s m args below meth c s₁ B hml hv
  obtain ⟨rfl, hP, hK⟩ := hv
  have hx := B.exec
  have hb := B.bytes
  have hr := B.returns
  have hts : ∀ w ∈ wsX0_pairOfPath, w.before _ s = true := atoms_spec (ws := wsX0_pairOfPath) B.pre
  have hown : s.vm.findClass RX0 = some m.cls := findClass_of_methodNamed B.named
  have hlocks := B.notSynchronized
  have hl := lv_entry ([.ref h0, .int (iI k)]) (n := 2) (Nat.le_of_ble_eq_true rfl)
  rw [lg_entry_eq]
  generalize (lg_sl ([.ref h0, .int (iI k)]) ++ List.replicate (2 - (lg_sl ([.ref h0, .int (iI k)])).length) Slot.unset).toArray = ls at hl ⊢
  have hl : lv_has ls 2 [(0, .ref h0), (1, .int (iI k))] := hl
  generalize hargs : ([.ref h0, .int (iI k)] : List Value).toArray = args at hts ⊢
  refine z_intro (fun R Q hR hQ => ?_)
  have hRf : R.frames = 0 := by rw [hR]; rfl
  have hRl : R.locals = 0 := by rw [hR]; rfl
  have hRc : R.cells = 0 := by rw [hR]; rfl
  have hRs : R.slots = 0 := by rw [hR]; rfl
  have in_X0 : ∀ w ∈ u_ws RX0 TX0 7, w ∈ wsX0_pairOfPath := fun w h => List.mem_cons_of_mem _ (inW_X0 w h)
  have fl_21 := wa_hts hts wd_58
  have fl_24 := wa_hts hts wd_59
  clear hR hargs B
  refine lv_aload_n hx hb dX0_pairOfPath_0 rfl (lv_at hl 0 rfl) ?_
  refine va_get (D := (dC, dI)) (ci := 0) (v := .ref ap) (C := RX0) (T := TX0) (N := 7) hx hb hts in_X0 hown hK hP 0 rfl rfl 3 (by decide) fl_21 (fun _ h9 => h9) rfl dX0_pairOfPath_1 ?_
  refine lv_aload_n hx hb dX0_pairOfPath_4 rfl (lv_at hl 0 rfl) ?_
  refine va_get (D := (dC, dI)) (ci := 0) (v := .int (iI ps)) (C := RX0) (T := TX0) (N := 7) hx hb hts in_X0 hown hK hP 0 rfl rfl 4 (by decide) fl_24 (fun _ h9 => h9) rfl dX0_pairOfPath_5 ?_
  refine lv_iload_n hx hb dX0_pairOfPath_8 rfl (lv_at hl 1 rfl) ?_
  refine z_iadd hx hb dX0_pairOfPath_9 ?_
  refine z_iald hx hb hK hP 1 0 rfl rfl ((ps + k).toNat) (by omega) dX0_pairOfPath_10 ?_
  exact zr_ret (z := P ((ps + k).toNat)) hx hb hr hlocks hQ (rfl) dX0_pairOfPath_11
