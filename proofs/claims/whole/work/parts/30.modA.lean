set_option maxRecDepth 100000 in
set_option maxHeartbeats 4000000 in
theorem c_within (l : Launch) (dC : Nat → ClassId) (dI : Nat → Nat → Nat) (cI : ClassId) (v lo hi : Int) (h1 : -2147483648 ≤ v ∧ v ≤ 2147483647) (h2 : -2147483648 ≤ lo ∧ lo ≤ 2147483647) (h3 : -2147483648 ≤ hi ∧ hi ≤ 2147483647) : Met l yX3_within wsX3_within ({ frames := 0, cells := 0, slots := 0, locals := 0 }) (rdP dC dI [(cI, .int)] [] [.int (iI v), .int (iI lo), .int (iI hi)]) (rdQ (fun z => (lo ≤ v ∧ v ≤ hi ∧ z = 1) ∨ ((v < lo ∨ hi < v) ∧ z = 0))) 0 0 (fun _ => False) := by
  refine Met.ofW (cc := cX3_within) (maxL := 3) (ret := (some .boolean)) (by decide) rfl ?_
  intro p e s m args below meth c s₁ B hml hv
  obtain ⟨rfl, hP, hK⟩ := hv
  have hx := B.exec
  have hb := B.bytes
  have hr := B.returns
  have hts : ∀ w ∈ wsX3_within, w.before _ s = true := atoms_spec (ws := wsX3_within) B.pre
  have hown : s.vm.findClass RX3 = some m.cls := findClass_of_methodNamed B.named
  have hlocks := B.notSynchronized
  have hl := lv_entry ([.int (iI v), .int (iI lo), .int (iI hi)]) (n := 3) (Nat.le_of_ble_eq_true rfl)
  rw [lg_entry_eq]
  generalize (lg_sl ([.int (iI v), .int (iI lo), .int (iI hi)]) ++ List.replicate (3 - (lg_sl ([.int (iI v), .int (iI lo), .int (iI hi)])).length) Slot.unset).toArray = ls at hl ⊢
  have hl : lv_has ls 3 [(0, .int (iI v)), (1, .int (iI lo)), (2, .int (iI hi))] := hl
  generalize hargs : ([.int (iI v), .int (iI lo), .int (iI hi)] : List Value).toArray = args at hts ⊢
  refine z_intro (fun R Q hR hQ => ?_)
  have hRf : R.frames = 0 := by rw [hR]; rfl
  have hRl : R.locals = 0 := by rw [hR]; rfl
  have hRc : R.cells = 0 := by rw [hR]; rfl
  have hRs : R.slots = 0 := by rw [hR]; rfl
  clear hR hargs B
  refine lv_iload_n hx hb dX3_within_0 rfl (lv_at hl 0 rfl) ?_
  refine lv_iload_n hx hb dX3_within_1 rfl (lv_at hl 1 rfl) ?_
  refine z_icmp_lt (tgt := 14) hx hb dX3_within_2 (by decide) (by omega) (fun h2 => ?_) (fun h2 => ?_)
  · refine lv_iconst (v := iI (0 : Int)) hx hb dX3_within_14 (by decide) ?_
    exact zr_retz (z := (0 : Int)) hx hb hr hlocks hQ (by omega) (by omega) dX3_within_15
  · refine lv_iload_n hx hb dX3_within_5 rfl (lv_at hl 0 rfl) ?_
    refine lv_iload_n hx hb dX3_within_6 rfl (lv_at hl 2 rfl) ?_
    refine z_icmp_gt (tgt := 14) hx hb dX3_within_7 (by decide) (by omega) (fun h7 => ?_) (fun h7 => ?_)
    · refine lv_iconst (v := iI (0 : Int)) hx hb dX3_within_14 (by decide) ?_
      exact zr_retz (z := (0 : Int)) hx hb hr hlocks hQ (by omega) (by omega) dX3_within_15
    · refine lv_iconst (v := iI (1 : Int)) hx hb dX3_within_10 (by decide) ?_
      refine lv_goto (tgt := 15) hx hb dX3_within_11 (by decide) ?_
      exact zr_retz (z := (1 : Int)) hx hb hr hlocks hQ (by omega) (by omega) dX3_within_15
set_option maxRecDepth 100000 in
set_option maxHeartbeats 4000000 in
theorem c_inBand (l : Launch) (dC : Nat → ClassId) (dI : Nat → Nat → Nat) (cI : ClassId) (m0 mq mn ml ms mr mg mp mpl mdi mc : Nat) (cd : Int) (n w rc sc mo fo : Nat) (i j : Int) (hn : 2 ≤ n ∧ n ≤ 16) (hw : w ≤ 15) (hi : -1 ≤ i ∧ i ≤ 16) (hj : -1 ≤ j ∧ j ≤ 16) : Met l yX3_inBand wsX3_inBand ({ frames := 1, cells := 0, slots := 0, locals := 22 }) (rdP dC dI [(cI, .int)] [(m0, .inr (3, [.int (iI cd), .int (iI (n : Int)), .int (iI (w : Int)), .ref mq, .int (iI (rc : Int)), .ref mn, .ref ml, .int (iI (sc : Int)), .ref ms, .ref mr, .ref mg, .ref mp, .int (iI (mo : Int)), .int (iI (fo : Int)), .ref mpl, .ref mdi, .ref mc]))] [.ref m0, .int (iI i), .int (iI j)]) (rdQ (fun z => (0 ≤ i ∧ i < (n : Int) ∧ 0 ≤ j ∧ j < (n : Int) ∧ i - j ≤ (w : Int) ∧ j - i ≤ (w : Int) ∧ z = 1) ∨ ((i < 0 ∨ (n : Int) ≤ i ∨ j < 0 ∨ (n : Int) ≤ j ∨ (w : Int) < i - j ∨ (w : Int) < j - i) ∧ z = 0))) 0 0 (fun _ => False) := by
  refine Met.ofW (cc := cX3_inBand) (maxL := 3) (ret := (some .boolean)) (by decide) rfl ?_
  intro p e s m args below meth c s₁ B hml hv
  obtain ⟨rfl, hP, hK⟩ := hv
  have hx := B.exec
  have hb := B.bytes
  have hr := B.returns
  have hts : ∀ w ∈ wsX3_inBand, w.before _ s = true := atoms_spec (ws := wsX3_inBand) B.pre
  have hown : s.vm.findClass RX3 = some m.cls := findClass_of_methodNamed B.named
  have hlocks := B.notSynchronized
  have hl := lv_entry ([.ref m0, .int (iI i), .int (iI j)]) (n := 3) (Nat.le_of_ble_eq_true rfl)
  rw [lg_entry_eq]
  generalize (lg_sl ([.ref m0, .int (iI i), .int (iI j)]) ++ List.replicate (3 - (lg_sl ([.ref m0, .int (iI i), .int (iI j)])).length) Slot.unset).toArray = ls at hl ⊢
  have hl : lv_has ls 3 [(0, .ref m0), (1, .int (iI i)), (2, .int (iI j))] := hl
  generalize hargs : ([.ref m0, .int (iI i), .int (iI j)] : List Value).toArray = args at hts ⊢
  refine z_intro (fun R Q hR hQ => ?_)
  have hRf : R.frames = 1 := by rw [hR]; rfl
  have hRl : R.locals = 22 := by rw [hR]; rfl
  have hRc : R.cells = 0 := by rw [hR]; rfl
  have hRs : R.slots = 0 := by rw [hR]; rfl
  have in_X3 : ∀ w ∈ u_ws RX3 TX3 17, w ∈ wsX3_inBand := fun w h => List.mem_cons_of_mem _ (inW_X3 w h)
  have fl_7 := wa_hts hts wd_485
  have fl_61 := wa_hts hts wd_486
  clear hR hargs B
  refine lv_iload_n hx hb dX3_inBand_0 rfl (lv_at hl 1 rfl) ?_
  refine lv_iconst (v := iI (0 : Int)) hx hb dX3_inBand_1 (by decide) ?_
  refine lv_aload_n hx hb dX3_inBand_2 rfl (lv_at hl 0 rfl) ?_
  refine va_get (D := (dC, dI)) (ci := 3) (v := .int (iI (n : Int))) (C := RX3) (T := TX3) (N := 17) hx hb hts in_X3 hown hK hP 0 rfl rfl 1 (by decide) fl_7 (fun _ h9 => h9) rfl dX3_inBand_3 ?_
  refine lv_iconst (v := iI (1 : Int)) hx hb dX3_inBand_6 (by decide) ?_
  refine z_isub hx hb dX3_inBand_7 ?_
  refine zr_i (va_runS (As := [.int (iI i), .int (iI (0 : Int)), .int (iI ((n : Int) - (1 : Int)))]) (rest := []) ⟨hx, hb, hml, hown, hts⟩ (c_within l dC dI cI i (0 : Int) ((n : Int) - (1 : Int)) (by omega) (by omega) (by omega)) (cwS 3 hts (ga_S wd_544 wd_545 wd_31 wd_546) rfl rfl rfl (by decide +kernel) ⟨(show 0 + 1 ≤ R.frames by omega), (show 8 + (3 + 11) + 0 ≤ R.locals by omega)⟩) (rd_preS hP hK [] rfl) rfl rfl hl.1 rfl (lv_room (Nat.le_of_ble_eq_true rfl)) dX3_inBand_8 ⟨by omega, by omega⟩) (fun z8 hz8 => ?_)
  refine z_if_eq (tgt := 50) hx hb dX3_inBand_11 (by decide) (by omega) (fun h11 => ?_) (fun h11 => ?_)
  · refine lv_iconst (v := iI (0 : Int)) hx hb dX3_inBand_50 (by decide) ?_
    exact zr_retz (z := (0 : Int)) hx hb hr hlocks hQ (by omega) (by omega) dX3_inBand_51
  · refine lv_iload_n hx hb dX3_inBand_14 rfl (lv_at hl 2 rfl) ?_
    refine lv_iconst (v := iI (0 : Int)) hx hb dX3_inBand_15 (by decide) ?_
    refine lv_aload_n hx hb dX3_inBand_16 rfl (lv_at hl 0 rfl) ?_
    refine va_get (D := (dC, dI)) (ci := 3) (v := .int (iI (n : Int))) (C := RX3) (T := TX3) (N := 17) hx hb hts in_X3 hown hK hP 0 rfl rfl 1 (by decide) fl_7 (fun _ h9 => h9) rfl dX3_inBand_17 ?_
    refine lv_iconst (v := iI (1 : Int)) hx hb dX3_inBand_20 (by decide) ?_
    refine z_isub hx hb dX3_inBand_21 ?_
    refine zr_i (va_runS (As := [.int (iI j), .int (iI (0 : Int)), .int (iI ((n : Int) - (1 : Int)))]) (rest := []) ⟨hx, hb, hml, hown, hts⟩ (c_within l dC dI cI j (0 : Int) ((n : Int) - (1 : Int)) (by omega) (by omega) (by omega)) (cwS 3 hts (ga_S wd_544 wd_545 wd_31 wd_546) rfl rfl rfl (by decide +kernel) ⟨(show 0 + 1 ≤ R.frames by omega), (show 8 + (3 + 11) + 0 ≤ R.locals by omega)⟩) (rd_preS hP hK [] rfl) rfl rfl hl.1 rfl (lv_room (Nat.le_of_ble_eq_true rfl)) dX3_inBand_22 ⟨by omega, by omega⟩) (fun z22 hz22 => ?_)
    refine z_if_eq (tgt := 50) hx hb dX3_inBand_25 (by decide) (by omega) (fun h25 => ?_) (fun h25 => ?_)
    · refine lv_iconst (v := iI (0 : Int)) hx hb dX3_inBand_50 (by decide) ?_
      exact zr_retz (z := (0 : Int)) hx hb hr hlocks hQ (by omega) (by omega) dX3_inBand_51
    · refine lv_iload_n hx hb dX3_inBand_28 rfl (lv_at hl 1 rfl) ?_
      refine lv_iload_n hx hb dX3_inBand_29 rfl (lv_at hl 2 rfl) ?_
      refine z_isub hx hb dX3_inBand_30 ?_
      refine lv_aload_n hx hb dX3_inBand_31 rfl (lv_at hl 0 rfl) ?_
      refine va_get (D := (dC, dI)) (ci := 3) (v := .int (iI (w : Int))) (C := RX3) (T := TX3) (N := 17) hx hb hts in_X3 hown hK hP 0 rfl rfl 2 (by decide) fl_61 (fun _ h9 => h9) rfl dX3_inBand_32 ?_
      refine z_ineg hx hb dX3_inBand_35 ?_
      refine lv_aload_n hx hb dX3_inBand_36 rfl (lv_at hl 0 rfl) ?_
      refine va_get (D := (dC, dI)) (ci := 3) (v := .int (iI (w : Int))) (C := RX3) (T := TX3) (N := 17) hx hb hts in_X3 hown hK hP 0 rfl rfl 2 (by decide) fl_61 (fun _ h9 => h9) rfl dX3_inBand_37 ?_
      refine zr_i (va_runS (As := [.int (iI (i - j)), .int (iI (-(w : Int))), .int (iI (w : Int))]) (rest := []) ⟨hx, hb, hml, hown, hts⟩ (c_within l dC dI cI (i - j) (-(w : Int)) (w : Int) (by omega) (by omega) (by omega)) (cwS 3 hts (ga_S wd_544 wd_545 wd_31 wd_546) rfl rfl rfl (by decide +kernel) ⟨(show 0 + 1 ≤ R.frames by omega), (show 8 + (3 + 11) + 0 ≤ R.locals by omega)⟩) (rd_preS hP hK [] rfl) rfl rfl hl.1 rfl (lv_room (Nat.le_of_ble_eq_true rfl)) dX3_inBand_40 ⟨by omega, by omega⟩) (fun z40 hz40 => ?_)
      refine z_if_eq (tgt := 50) hx hb dX3_inBand_43 (by decide) (by omega) (fun h43 => ?_) (fun h43 => ?_)
      · refine lv_iconst (v := iI (0 : Int)) hx hb dX3_inBand_50 (by decide) ?_
        exact zr_retz (z := (0 : Int)) hx hb hr hlocks hQ (by omega) (by omega) dX3_inBand_51
      · refine lv_iconst (v := iI (1 : Int)) hx hb dX3_inBand_46 (by decide) ?_
        refine lv_goto (tgt := 51) hx hb dX3_inBand_47 (by decide) ?_
        exact zr_retz (z := (1 : Int)) hx hb hr hlocks hQ (by omega) (by omega) dX3_inBand_51
set_option maxRecDepth 100000 in
set_option maxHeartbeats 4000000 in
theorem c_mCostAt (l : Launch) (dC : Nat → ClassId) (dI : Nat → Nat → Nat) (cI : ClassId) (m0 mq mn ml ms mr mg mp mpl mdi mc : Nat) (cd : Int) (n w rc sc mo fo : Nat) (G : Nat → Int) (i j : Int) (hn : 2 ≤ n ∧ n ≤ 16) (hw : w ≤ 15) (hi : -1 ≤ i ∧ i ≤ 16) (hj : -1 ≤ j ∧ j ≤ 16) : Met l yX3_costAt wsX3_costAt ({ frames := 2, cells := 0, slots := 0, locals := 44 }) (rdP dC dI [(cI, .int)] [(m0, .inr (3, [.int (iI cd), .int (iI (n : Int)), .int (iI (w : Int)), .ref mq, .int (iI (rc : Int)), .ref mn, .ref ml, .int (iI (sc : Int)), .ref ms, .ref mr, .ref mg, .ref mp, .int (iI (mo : Int)), .int (iI (fo : Int)), .ref mpl, .ref mdi, .ref mc])), (mg, .inl (cI, 256, .inl (iA G)))] [.ref m0, .int (iI i), .int (iI j)]) (rdQ (fun z => z = mAt n w G i j)) 0 0 (fun _ => False) := by
  refine Met.ofW (cc := cX3_costAt) (maxL := 3) (ret := (some .int)) (by decide) rfl ?_
  intro p e s m args below meth c s₁ B hml hv
  obtain ⟨rfl, hP, hK⟩ := hv
  have hx := B.exec
  have hb := B.bytes
  have hr := B.returns
  have hts : ∀ w ∈ wsX3_costAt, w.before _ s = true := atoms_spec (ws := wsX3_costAt) B.pre
  have hown : s.vm.findClass RX3 = some m.cls := findClass_of_methodNamed B.named
  have hlocks := B.notSynchronized
  have hl := lv_entry ([.ref m0, .int (iI i), .int (iI j)]) (n := 3) (Nat.le_of_ble_eq_true rfl)
  rw [lg_entry_eq]
  generalize (lg_sl ([.ref m0, .int (iI i), .int (iI j)]) ++ List.replicate (3 - (lg_sl ([.ref m0, .int (iI i), .int (iI j)])).length) Slot.unset).toArray = ls at hl ⊢
  have hl : lv_has ls 3 [(0, .ref m0), (1, .int (iI i)), (2, .int (iI j))] := hl
  generalize hargs : ([.ref m0, .int (iI i), .int (iI j)] : List Value).toArray = args at hts ⊢
  refine z_intro (fun R Q hR hQ => ?_)
  have hRf : R.frames = 2 := by rw [hR]; rfl
  have hRl : R.locals = 44 := by rw [hR]; rfl
  have hRc : R.cells = 0 := by rw [hR]; rfl
  have hRs : R.slots = 0 := by rw [hR]; rfl
  have in_X3 : ∀ w ∈ u_ws RX3 TX3 17, w ∈ wsX3_costAt := fun w h => List.mem_cons_of_mem _ (inW_X3 w h)
  have fl_29 := wa_hts hts wd_494
  clear hR hargs B
  refine lv_aload_n hx hb dX3_costAt_0 rfl (lv_at hl 0 rfl) ?_
  refine lv_iload_n hx hb dX3_costAt_1 rfl (lv_at hl 1 rfl) ?_
  refine lv_iload_n hx hb dX3_costAt_2 rfl (lv_at hl 2 rfl) ?_
  refine zr_i (va_runV (As := [.int (iI i), .int (iI j)]) (rest := []) ⟨hx, hb, hml, hown, hts⟩ (c_inBand l dC dI cI m0 mq mn ml ms mr mg mp mpl mdi mc cd n w rc sc mo fo i j hn hw (by omega) (by omega)) (cwV 2 hts (ga_V wd_579 wd_581 wd_17 wd_31 wd_582) rfl rfl rfl (by decide +kernel) ⟨(show 1 + 1 ≤ R.frames by omega), (show 8 + (3 + 11) + 22 ≤ R.locals by omega)⟩) (rd_preV (q0 := 0) (ci := 3) hP hK [0] rfl rfl rfl) rfl rfl hl.1 rfl (lv_room (Nat.le_of_ble_eq_true rfl)) dX3_costAt_3 ⟨by omega, by omega⟩) (fun z3 hz3 => ?_)
  refine z_if_eq (tgt := 23) hx hb dX3_costAt_6 (by decide) (by omega) (fun h6 => ?_) (fun h6 => ?_)
  · refine lv_iconst (v := iI (-1 : Int)) hx hb dX3_costAt_23 (by decide) ?_
    exact zr_ret (z := (-1 : Int)) hx hb hr hlocks hQ (by unfold mAt; rw [if_neg (by omega)]) dX3_costAt_24
  · refine lv_aload_n hx hb dX3_costAt_9 rfl (lv_at hl 0 rfl) ?_
    refine va_get (D := (dC, dI)) (ci := 3) (v := .ref mg) (C := RX3) (T := TX3) (N := 17) hx hb hts in_X3 hown hK hP 0 rfl rfl 10 (by decide) fl_29 (fun _ h9 => h9) rfl dX3_costAt_10 ?_
    refine lv_bipush (v := iI (16 : Int)) hx hb dX3_costAt_13 (by decide) ?_
    refine lv_iload_n hx hb dX3_costAt_15 rfl (lv_at hl 1 rfl) ?_
    refine z_imul hx hb dX3_costAt_16 ?_
    refine lv_iload_n hx hb dX3_costAt_17 rfl (lv_at hl 2 rfl) ?_
    refine z_iadd hx hb dX3_costAt_18 ?_
    refine z_iald hx hb hK hP 1 0 rfl rfl ((16 * i + j).toNat) (by omega) dX3_costAt_19 ?_
    refine lv_goto (tgt := 24) hx hb dX3_costAt_20 (by decide) ?_
    exact zr_ret (z := G ((16 * i + j).toNat)) hx hb hr hlocks hQ (by unfold mAt; rw [if_pos (by omega)]) dX3_costAt_24
set_option maxRecDepth 100000 in
set_option maxHeartbeats 4000000 in
theorem c_lesser (l : Launch) (dC : Nat → ClassId) (dI : Nat → Nat → Nat) (cI : ClassId) (v b9 : Int) (h1 : -2147483648 ≤ v ∧ v ≤ 2147483647) (h2 : -2147483648 ≤ b9 ∧ b9 ≤ 2147483647) : Met l yX3_lesser wsX3_lesser ({ frames := 0, cells := 0, slots := 0, locals := 0 }) (rdP dC dI [(cI, .int)] [] [.int (iI v), .int (iI b9)]) (rdQ (fun z => z = lsr v b9)) 0 0 (fun _ => False) := by
  refine Met.ofW (cc := cX3_lesser) (maxL := 2) (ret := (some .int)) (by decide) rfl ?_
  intro p e s m args below meth c s₁ B hml hv
  obtain ⟨rfl, hP, hK⟩ := hv
  have hx := B.exec
  have hb := B.bytes
  have hr := B.returns
  have hts : ∀ w ∈ wsX3_lesser, w.before _ s = true := atoms_spec (ws := wsX3_lesser) B.pre
  have hown : s.vm.findClass RX3 = some m.cls := findClass_of_methodNamed B.named
  have hlocks := B.notSynchronized
  have hl := lv_entry ([.int (iI v), .int (iI b9)]) (n := 2) (Nat.le_of_ble_eq_true rfl)
  rw [lg_entry_eq]
  generalize (lg_sl ([.int (iI v), .int (iI b9)]) ++ List.replicate (2 - (lg_sl ([.int (iI v), .int (iI b9)])).length) Slot.unset).toArray = ls at hl ⊢
  have hl : lv_has ls 2 [(0, .int (iI v)), (1, .int (iI b9))] := hl
  generalize hargs : ([.int (iI v), .int (iI b9)] : List Value).toArray = args at hts ⊢
  refine z_intro (fun R Q hR hQ => ?_)
  have hRf : R.frames = 0 := by rw [hR]; rfl
  have hRl : R.locals = 0 := by rw [hR]; rfl
  have hRc : R.cells = 0 := by rw [hR]; rfl
  have hRs : R.slots = 0 := by rw [hR]; rfl
  clear hR hargs B
  refine lv_iload_n hx hb dX3_lesser_0 rfl (lv_at hl 0 rfl) ?_
  refine z_if_ge (tgt := 8) hx hb dX3_lesser_1 (by decide) (by omega) (fun h1 => ?_) (fun h1 => ?_)
  · refine lv_iload_n hx hb dX3_lesser_8 rfl (lv_at hl 1 rfl) ?_
    refine z_if_lt (tgt := 17) hx hb dX3_lesser_9 (by decide) (by omega) (fun h9 => ?_) (fun h9 => ?_)
    · refine lv_iload_n hx hb dX3_lesser_17 rfl (lv_at hl 0 rfl) ?_
      refine lv_goto (tgt := 22) hx hb dX3_lesser_18 (by decide) ?_
      exact zr_ret (z := v) hx hb hr hlocks hQ (by unfold lsr; split <;> first | omega | (split <;> omega)) dX3_lesser_22
    · refine lv_iload_n hx hb dX3_lesser_12 rfl (lv_at hl 0 rfl) ?_
      refine lv_iload_n hx hb dX3_lesser_13 rfl (lv_at hl 1 rfl) ?_
      refine z_icmp_ge (tgt := 21) hx hb dX3_lesser_14 (by decide) (by omega) (fun h14 => ?_) (fun h14 => ?_)
      · refine lv_iload_n hx hb dX3_lesser_21 rfl (lv_at hl 1 rfl) ?_
        exact zr_ret (z := b9) hx hb hr hlocks hQ (by unfold lsr; split <;> first | omega | (split <;> omega)) dX3_lesser_22
      · refine lv_iload_n hx hb dX3_lesser_17 rfl (lv_at hl 0 rfl) ?_
        refine lv_goto (tgt := 22) hx hb dX3_lesser_18 (by decide) ?_
        exact zr_ret (z := v) hx hb hr hlocks hQ (by unfold lsr; split <;> first | omega | (split <;> omega)) dX3_lesser_22
  · refine lv_iload_n hx hb dX3_lesser_4 rfl (lv_at hl 1 rfl) ?_
    refine lv_goto (tgt := 22) hx hb dX3_lesser_5 (by decide) ?_
    exact zr_ret (z := b9) hx hb hr hlocks hQ (by unfold lsr; split <;> first | omega | (split <;> omega)) dX3_lesser_22
set_option maxRecDepth 100000 in
set_option maxHeartbeats 4000000 in
theorem c_thrown (l : Launch) (dC : Nat → ClassId) (dI : Nat → Nat → Nat) (cI : ClassId) (m0 mq mn ml ms mr mg mp mpl mdi mc : Nat) (cd : Int) (n w rc sc mo fo : Nat)  : Met l yX3_thrown wsX3_thrown ({ frames := 0, cells := 0, slots := 0, locals := 0 }) (rdP dC dI [(cI, .int)] [(m0, .inr (3, [.int (iI cd), .int (iI (n : Int)), .int (iI (w : Int)), .ref mq, .int (iI (rc : Int)), .ref mn, .ref ml, .int (iI (sc : Int)), .ref ms, .ref mr, .ref mg, .ref mp, .int (iI (mo : Int)), .int (iI (fo : Int)), .ref mpl, .ref mdi, .ref mc]))] [.ref m0]) (rdQ (fun z => z = cd)) 0 0 (fun _ => False) := by
  refine Met.ofW (cc := cX3_thrown) (maxL := 1) (ret := (some .int)) (by decide) rfl ?_
  intro p e s m args below meth c s₁ B hml hv
  obtain ⟨rfl, hP, hK⟩ := hv
  have hx := B.exec
  have hb := B.bytes
  have hr := B.returns
  have hts : ∀ w ∈ wsX3_thrown, w.before _ s = true := atoms_spec (ws := wsX3_thrown) B.pre
  have hown : s.vm.findClass RX3 = some m.cls := findClass_of_methodNamed B.named
  have hlocks := B.notSynchronized
  have hl := lv_entry ([.ref m0]) (n := 1) (Nat.le_of_ble_eq_true rfl)
  rw [lg_entry_eq]
  generalize (lg_sl ([.ref m0]) ++ List.replicate (1 - (lg_sl ([.ref m0])).length) Slot.unset).toArray = ls at hl ⊢
  have hl : lv_has ls 1 [(0, .ref m0)] := hl
  generalize hargs : ([.ref m0] : List Value).toArray = args at hts ⊢
  refine z_intro (fun R Q hR hQ => ?_)
  have hRf : R.frames = 0 := by rw [hR]; rfl
  have hRl : R.locals = 0 := by rw [hR]; rfl
  have hRc : R.cells = 0 := by rw [hR]; rfl
  have hRs : R.slots = 0 := by rw [hR]; rfl
  have in_X3 : ∀ w ∈ u_ws RX3 TX3 17, w ∈ wsX3_thrown := fun w h => List.mem_cons_of_mem _ (inW_X3 w h)
  have fl_44 := wa_hts hts wd_484
  clear hR hargs B
  refine lv_aload_n hx hb dX3_thrown_0 rfl (lv_at hl 0 rfl) ?_
  refine va_get (D := (dC, dI)) (ci := 3) (v := .int (iI cd)) (C := RX3) (T := TX3) (N := 17) hx hb hts in_X3 hown hK hP 0 rfl rfl 0 (by decide) fl_44 (fun _ h9 => h9) rfl dX3_thrown_1 ?_
  exact zr_ret (z := cd) hx hb hr hlocks hQ (rfl) dX3_thrown_4
set_option maxRecDepth 100000 in
set_option maxHeartbeats 4000000 in
theorem c_takeRow (l : Launch) (dC : Nat → ClassId) (dI : Nat → Nat → Nat) (cI : ClassId) (m0 mq mn ml ms mr mg mp mpl mdi mc : Nat) (cd : Int) (n w rc sc mo fo : Nat) (r9 : Nat) (R0 X : Nat → Int) (sz : Nat) (hn : 2 ≤ n ∧ n ≤ 16) (hw : w ≤ 15) (hr9 : r9 < 12) : Met l yX3_takeRow wsX3_takeRow ({ frames := 0, cells := 0, slots := 0, locals := 0 }) (wrP dC dI [(cI, .int)] [(m0, .inr (3, [.int (iI cd), .int (iI (n : Int)), .int (iI (w : Int)), .ref mq, .int (iI (rc : Int)), .ref mn, .ref ml, .int (iI (sc : Int)), .ref ms, .ref mr, .ref mg, .ref mp, .int (iI (mo : Int)), .int (iI (fo : Int)), .ref mpl, .ref mdi, .ref mc])), (mr, .inl (cI, 16, .inl (iA R0))), (mn, .inl (cI, 192, .inl (iA X)))] sz [.ref m0, .int (iI (r9 : Int))]) (wrQv dC dI [(cI, .int)] [(m0, .inr (3, [.int (iI cd), .int (iI (n : Int)), .int (iI (w : Int)), .ref mq, .int (iI (rc : Int)), .ref mn, .ref ml, .int (iI (sc : Int)), .ref ms, .ref mr, .ref mg, .ref mp, .int (iI (mo : Int)), .int (iI (fo : Int)), .ref mpl, .ref mdi, .ref mc])), (mr, .inl (cI, 16, .inl (iA R0))), (mn, .inl (cI, 192, .inl (iA X)))] sz (S := Unit) (fun _ => True) (fun _ => [(m0, .inr (3, [.int (iI cd), .int (iI (n : Int)), .int (iI (w : Int)), .ref mq, .int (iI (rc : Int)), .ref mn, .ref ml, .int (iI (sc : Int)), .ref ms, .ref mr, .ref mg, .ref mp, .int (iI (mo : Int)), .int (iI (fo : Int)), .ref mpl, .ref mdi, .ref mc])), (mr, .inl (cI, 16, .inl (iA (zC X R0 (16 * r9) 0 n)))), (mn, .inl (cI, 192, .inl (iA X)))])) 0 0 (va_A [(m0, .inr (3, [.int (iI cd), .int (iI (n : Int)), .int (iI (w : Int)), .ref mq, .int (iI (rc : Int)), .ref mn, .ref ml, .int (iI (sc : Int)), .ref ms, .ref mr, .ref mg, .ref mp, .int (iI (mo : Int)), .int (iI (fo : Int)), .ref mpl, .ref mdi, .ref mc])), (mr, .inl (cI, 16, .inl (iA R0))), (mn, .inl (cI, 192, .inl (iA X)))] sz) := by
  refine Met.ofW (cc := cX3_takeRow) (maxL := 3) (ret := none) (by decide) rfl ?_
  intro p e s m args below meth c s₁ B hml hv
  obtain ⟨rfl, hsz, hP, hK, hD0⟩ := hv
  have hx := B.exec
  have hb := B.bytes
  have hr := B.returns
  have hts : ∀ w ∈ wsX3_takeRow, w.before _ s = true := atoms_spec (ws := wsX3_takeRow) B.pre
  have hown : s.vm.findClass RX3 = some m.cls := findClass_of_methodNamed B.named
  have hlocks := B.notSynchronized
  subst hsz
  have hD := hD0.self (sz := s.heap.size)
  have hA : ∀ q9 : Nat, s.heap.size ≤ q9 → va_A [(m0, .inr (3, [.int (iI cd), .int (iI (n : Int)), .int (iI (w : Int)), .ref mq, .int (iI (rc : Int)), .ref mn, .ref ml, .int (iI (sc : Int)), .ref ms, .ref mr, .ref mg, .ref mp, .int (iI (mo : Int)), .int (iI (fo : Int)), .ref mpl, .ref mdi, .ref mc])), (mr, .inl (cI, 16, .inl (iA R0))), (mn, .inl (cI, 192, .inl (iA X)))] s.heap.size q9 := fun q9 h => Or.inr h
  have hS : va_S (va_A [(m0, .inr (3, [.int (iI cd), .int (iI (n : Int)), .int (iI (w : Int)), .ref mq, .int (iI (rc : Int)), .ref mn, .ref ml, .int (iI (sc : Int)), .ref ms, .ref mr, .ref mg, .ref mp, .int (iI (mo : Int)), .int (iI (fo : Int)), .ref mpl, .ref mdi, .ref mc])), (mr, .inl (cI, 16, .inl (iA R0))), (mn, .inl (cI, 192, .inl (iA X)))] s.heap.size) s.heap s.heap [] := va_S.rf
  generalize hAe : va_A [(m0, .inr (3, [.int (iI cd), .int (iI (n : Int)), .int (iI (w : Int)), .ref mq, .int (iI (rc : Int)), .ref mn, .ref ml, .int (iI (sc : Int)), .ref ms, .ref mr, .ref mg, .ref mp, .int (iI (mo : Int)), .int (iI (fo : Int)), .ref mpl, .ref mdi, .ref mc])), (mr, .inl (cI, 16, .inl (iA R0))), (mn, .inl (cI, 192, .inl (iA X)))] s.heap.size = A at hD hA hS
  have hP : va_P (dC, dI) vwCl [(m0, .inr (3, [.int (iI cd), .int (iI (n : Int)), .int (iI (w : Int)), .ref mq, .int (iI (rc : Int)), .ref mn, .ref ml, .int (iI (sc : Int)), .ref ms, .ref mr, .ref mg, .ref mp, .int (iI (mo : Int)), .int (iI (fo : Int)), .ref mpl, .ref mdi, .ref mc])), (mr, .inl (cI, 16, .inl (iA R0))), (mn, .inl (cI, 192, .inl (iA X)))] s.heap := hP
  have hl := lv_entry ([.ref m0, .int (iI (r9 : Int))]) (n := 3) (Nat.le_of_ble_eq_true rfl)
  rw [lg_entry_eq]
  generalize (lg_sl ([.ref m0, .int (iI (r9 : Int))]) ++ List.replicate (3 - (lg_sl ([.ref m0, .int (iI (r9 : Int))])).length) Slot.unset).toArray = ls at hl ⊢
  have hl : lv_has ls 3 [(0, .ref m0), (1, .int (iI (r9 : Int)))] := hl
  generalize hargs : ([.ref m0, .int (iI (r9 : Int))] : List Value).toArray = args at hts ⊢
  refine z_intro (fun R Q hR hQ => ?_)
  have hRf : R.frames = 0 := by rw [hR]; rfl
  have hRl : R.locals = 0 := by rw [hR]; rfl
  have hRc : R.cells = 0 := by rw [hR]; rfl
  have hRs : R.slots = 0 := by rw [hR]; rfl
  have in_X3 : ∀ w ∈ u_ws RX3 TX3 17, w ∈ wsX3_takeRow := fun w h => List.mem_cons_of_mem _ (inW_X3 w h)
  have fl_7 := wa_hts hts wd_485
  have fl_17 := wa_hts hts wd_489
  have fl_26 := wa_hts hts wd_493
  clear hR hargs B
  refine lv_iconst (v := iI (0 : Int)) hx hb dX3_takeRow_0 (by decide) ?_
  refine lv_istore_n (lv' := [(2, .int (iI (0 : Int))), (0, .ref m0), (1, .int (iI (r9 : Int)))]) hx hb dX3_takeRow_1 rfl hl (by decide) rfl (fun ls hl => ?_)
  have lp : ∀ (k9 : Nat) (i : Nat) (R9 : Nat → Int) (H : Heap) (locs : List Loc) (ls : Array Slot), (i ≤ n) → (R9 = zC X R0 (16 * r9) 0 i) → n - i = k9 → va_P (dC, dI) vwCl [(m0, .inr (3, [.int (iI cd), .int (iI (n : Int)), .int (iI (w : Int)), .ref mq, .int (iI (rc : Int)), .ref mn, .ref ml, .int (iI (sc : Int)), .ref ms, .ref mr, .ref mg, .ref mp, .int (iI (mo : Int)), .int (iI (fo : Int)), .ref mpl, .ref mdi, .ref mc])), (mr, .inl (cI, 16, .inl (iA R9))), (mn, .inl (cI, 192, .inl (iA X)))] H → va_D A [(m0, .inr (3, [.int (iI cd), .int (iI (n : Int)), .int (iI (w : Int)), .ref mq, .int (iI (rc : Int)), .ref mn, .ref ml, .int (iI (sc : Int)), .ref ms, .ref mr, .ref mg, .ref mp, .int (iI (mo : Int)), .int (iI (fo : Int)), .ref mpl, .ref mdi, .ref mc])), (mr, .inl (cI, 16, .inl (iA R9))), (mn, .inl (cI, 192, .inl (iA X)))] → va_S A s.heap H locs → lv_has ls 3 [(0, .ref m0), (1, .int (iI (r9 : Int))), (2, .int (iI (i : Int)))] → W p l e R s m args below meth c H locs 0 0 Q (F0 m 2 ls []) := by
    intro k9
    induction k9 using Nat.strongRecOn with
    | ind k9 ih_lp =>
      intro i R9 H locs ls hi hR9 hk9 hP hD hS hl
      refine lv_iload_n hx hb dX3_takeRow_2 rfl (lv_at hl 2 rfl) ?_
      refine lv_aload_n hx hb dX3_takeRow_3 rfl (lv_at hl 0 rfl) ?_
      refine va_get (D := (dC, dI)) (ci := 3) (v := .int (iI (n : Int))) (C := RX3) (T := TX3) (N := 17) hx hb hts in_X3 hown hK hP 0 rfl rfl 1 (by decide) fl_7 (fun _ h9 => h9) rfl dX3_takeRow_4 ?_
      refine z_icmp_ge (tgt := 33) hx hb dX3_takeRow_7 (by decide) (by omega) (fun h7 => ?_) (fun h7 => ?_)
      · have ein : i = n := by omega
        rw [hR9, ein] at hP hD
        subst hAe
        exact zw_retv (()) hx hb hr hlocks hQ (trivial) hP hK hD hS dX3_takeRow_33
      · refine lv_aload_n hx hb dX3_takeRow_10 rfl (lv_at hl 0 rfl) ?_
        refine va_get (D := (dC, dI)) (ci := 3) (v := .ref mr) (C := RX3) (T := TX3) (N := 17) hx hb hts in_X3 hown hK hP 0 rfl rfl 9 (by decide) fl_26 (fun _ h9 => h9) rfl dX3_takeRow_11 ?_
        refine lv_iload_n hx hb dX3_takeRow_14 rfl (lv_at hl 2 rfl) ?_
        refine lv_aload_n hx hb dX3_takeRow_15 rfl (lv_at hl 0 rfl) ?_
        refine va_get (D := (dC, dI)) (ci := 3) (v := .ref mn) (C := RX3) (T := TX3) (N := 17) hx hb hts in_X3 hown hK hP 0 rfl rfl 5 (by decide) fl_17 (fun _ h9 => h9) rfl dX3_takeRow_16 ?_
        refine lv_bipush (v := iI (16 : Int)) hx hb dX3_takeRow_19 (by decide) ?_
        refine lv_iload_n hx hb dX3_takeRow_21 rfl (lv_at hl 1 rfl) ?_
        refine z_imul hx hb dX3_takeRow_22 ?_
        refine lv_iload_n hx hb dX3_takeRow_23 rfl (lv_at hl 2 rfl) ?_
        refine z_iadd hx hb dX3_takeRow_24 ?_
        refine z_iald hx hb hK hP 2 0 rfl rfl ((16 * r9) + i) (by omega) dX3_takeRow_25 ?_
        refine z_iast hx hb hK hP hD hS 1 0 rfl rfl i (by omega) dX3_takeRow_26 (fun H locs hP hD hS => ?_)
        have hP : va_P (dC, dI) vwCl [(m0, .inr (3, [.int (iI cd), .int (iI (n : Int)), .int (iI (w : Int)), .ref mq, .int (iI (rc : Int)), .ref mn, .ref ml, .int (iI (sc : Int)), .ref ms, .ref mr, .ref mg, .ref mp, .int (iI (mo : Int)), .int (iI (fo : Int)), .ref mpl, .ref mdi, .ref mc])), (mr, .inl (cI, 16, .inl (iA (zU R9 i (X ((16 * r9) + i)))))), (mn, .inl (cI, 192, .inl (iA X)))] H := hP
        have hD : va_D A [(m0, .inr (3, [.int (iI cd), .int (iI (n : Int)), .int (iI (w : Int)), .ref mq, .int (iI (rc : Int)), .ref mn, .ref ml, .int (iI (sc : Int)), .ref ms, .ref mr, .ref mg, .ref mp, .int (iI (mo : Int)), .int (iI (fo : Int)), .ref mpl, .ref mdi, .ref mc])), (mr, .inl (cI, 16, .inl (iA (zU R9 i (X ((16 * r9) + i)))))), (mn, .inl (cI, 192, .inl (iA X)))] := hD
        refine z_iinc (k := 2) (b := ((i + 1 : Nat) : Int)) (lv' := [(2, .int (iI ((i + 1 : Nat) : Int))), (0, .ref m0), (1, .int (iI (r9 : Int)))]) hx hb dX3_takeRow_27 hl rfl (by omega) (by decide) rfl (fun ls hl => ?_)
        refine lv_goto (tgt := 2) hx hb dX3_takeRow_30 (by decide) ?_
        exact ih_lp _ (by omega) (i + 1) (zU R9 i (X (16 * r9 + i))) H locs ls (by omega) (by rw [hR9]; exact zC_step0) rfl hP hD hS (lv_sub hl [1, 2, 0] rfl)
  exact lp _ 0 R0 _ _ ls (by omega) ((zC_0 _ _ _ _).symm) rfl hP hD hS (lv_sub hl [1, 2, 0] rfl)
set_option maxRecDepth 100000 in
set_option maxHeartbeats 4000000 in
theorem c_takeWindow (l : Launch) (dC : Nat → ClassId) (dI : Nat → Nat → Nat) (cI : ClassId) (m0 mq mn ml ms mr mg mp mpl mdi mc : Nat) (cd : Int) (n w rc sc mo fo : Nat) (r9 : Nat) (R0 X : Nat → Int) (sz : Nat) (hn : 2 ≤ n ∧ n ≤ 16) (hw : w ≤ 15) (hr9 : r9 + n ≤ 64) : Met l yX3_takeWindow wsX3_takeWindow ({ frames := 0, cells := 0, slots := 0, locals := 0 }) (wrP dC dI [(cI, .int)] [(m0, .inr (3, [.int (iI cd), .int (iI (n : Int)), .int (iI (w : Int)), .ref mq, .int (iI (rc : Int)), .ref mn, .ref ml, .int (iI (sc : Int)), .ref ms, .ref mr, .ref mg, .ref mp, .int (iI (mo : Int)), .int (iI (fo : Int)), .ref mpl, .ref mdi, .ref mc])), (mr, .inl (cI, 16, .inl (iA R0))), (ms, .inl (cI, 64, .inl (iA X)))] sz [.ref m0, .int (iI (r9 : Int))]) (wrQv dC dI [(cI, .int)] [(m0, .inr (3, [.int (iI cd), .int (iI (n : Int)), .int (iI (w : Int)), .ref mq, .int (iI (rc : Int)), .ref mn, .ref ml, .int (iI (sc : Int)), .ref ms, .ref mr, .ref mg, .ref mp, .int (iI (mo : Int)), .int (iI (fo : Int)), .ref mpl, .ref mdi, .ref mc])), (mr, .inl (cI, 16, .inl (iA R0))), (ms, .inl (cI, 64, .inl (iA X)))] sz (S := Unit) (fun _ => True) (fun _ => [(m0, .inr (3, [.int (iI cd), .int (iI (n : Int)), .int (iI (w : Int)), .ref mq, .int (iI (rc : Int)), .ref mn, .ref ml, .int (iI (sc : Int)), .ref ms, .ref mr, .ref mg, .ref mp, .int (iI (mo : Int)), .int (iI (fo : Int)), .ref mpl, .ref mdi, .ref mc])), (mr, .inl (cI, 16, .inl (iA (zC X R0 r9 0 n)))), (ms, .inl (cI, 64, .inl (iA X)))])) 0 0 (va_A [(m0, .inr (3, [.int (iI cd), .int (iI (n : Int)), .int (iI (w : Int)), .ref mq, .int (iI (rc : Int)), .ref mn, .ref ml, .int (iI (sc : Int)), .ref ms, .ref mr, .ref mg, .ref mp, .int (iI (mo : Int)), .int (iI (fo : Int)), .ref mpl, .ref mdi, .ref mc])), (mr, .inl (cI, 16, .inl (iA R0))), (ms, .inl (cI, 64, .inl (iA X)))] sz) := by
  refine Met.ofW (cc := cX3_takeWindow) (maxL := 3) (ret := none) (by decide) rfl ?_
  intro p e s m args below meth c s₁ B hml hv
  obtain ⟨rfl, hsz, hP, hK, hD0⟩ := hv
  have hx := B.exec
  have hb := B.bytes
  have hr := B.returns
  have hts : ∀ w ∈ wsX3_takeWindow, w.before _ s = true := atoms_spec (ws := wsX3_takeWindow) B.pre
  have hown : s.vm.findClass RX3 = some m.cls := findClass_of_methodNamed B.named
  have hlocks := B.notSynchronized
  subst hsz
  have hD := hD0.self (sz := s.heap.size)
  have hA : ∀ q9 : Nat, s.heap.size ≤ q9 → va_A [(m0, .inr (3, [.int (iI cd), .int (iI (n : Int)), .int (iI (w : Int)), .ref mq, .int (iI (rc : Int)), .ref mn, .ref ml, .int (iI (sc : Int)), .ref ms, .ref mr, .ref mg, .ref mp, .int (iI (mo : Int)), .int (iI (fo : Int)), .ref mpl, .ref mdi, .ref mc])), (mr, .inl (cI, 16, .inl (iA R0))), (ms, .inl (cI, 64, .inl (iA X)))] s.heap.size q9 := fun q9 h => Or.inr h
  have hS : va_S (va_A [(m0, .inr (3, [.int (iI cd), .int (iI (n : Int)), .int (iI (w : Int)), .ref mq, .int (iI (rc : Int)), .ref mn, .ref ml, .int (iI (sc : Int)), .ref ms, .ref mr, .ref mg, .ref mp, .int (iI (mo : Int)), .int (iI (fo : Int)), .ref mpl, .ref mdi, .ref mc])), (mr, .inl (cI, 16, .inl (iA R0))), (ms, .inl (cI, 64, .inl (iA X)))] s.heap.size) s.heap s.heap [] := va_S.rf
  generalize hAe : va_A [(m0, .inr (3, [.int (iI cd), .int (iI (n : Int)), .int (iI (w : Int)), .ref mq, .int (iI (rc : Int)), .ref mn, .ref ml, .int (iI (sc : Int)), .ref ms, .ref mr, .ref mg, .ref mp, .int (iI (mo : Int)), .int (iI (fo : Int)), .ref mpl, .ref mdi, .ref mc])), (mr, .inl (cI, 16, .inl (iA R0))), (ms, .inl (cI, 64, .inl (iA X)))] s.heap.size = A at hD hA hS
  have hP : va_P (dC, dI) vwCl [(m0, .inr (3, [.int (iI cd), .int (iI (n : Int)), .int (iI (w : Int)), .ref mq, .int (iI (rc : Int)), .ref mn, .ref ml, .int (iI (sc : Int)), .ref ms, .ref mr, .ref mg, .ref mp, .int (iI (mo : Int)), .int (iI (fo : Int)), .ref mpl, .ref mdi, .ref mc])), (mr, .inl (cI, 16, .inl (iA R0))), (ms, .inl (cI, 64, .inl (iA X)))] s.heap := hP
  have hl := lv_entry ([.ref m0, .int (iI (r9 : Int))]) (n := 3) (Nat.le_of_ble_eq_true rfl)
  rw [lg_entry_eq]
  generalize (lg_sl ([.ref m0, .int (iI (r9 : Int))]) ++ List.replicate (3 - (lg_sl ([.ref m0, .int (iI (r9 : Int))])).length) Slot.unset).toArray = ls at hl ⊢
  have hl : lv_has ls 3 [(0, .ref m0), (1, .int (iI (r9 : Int)))] := hl
  generalize hargs : ([.ref m0, .int (iI (r9 : Int))] : List Value).toArray = args at hts ⊢
  refine z_intro (fun R Q hR hQ => ?_)
  have hRf : R.frames = 0 := by rw [hR]; rfl
  have hRl : R.locals = 0 := by rw [hR]; rfl
  have hRc : R.cells = 0 := by rw [hR]; rfl
  have hRs : R.slots = 0 := by rw [hR]; rfl
  have in_X3 : ∀ w ∈ u_ws RX3 TX3 17, w ∈ wsX3_takeWindow := fun w h => List.mem_cons_of_mem _ (inW_X3 w h)
  have fl_7 := wa_hts hts wd_485
  have fl_23 := wa_hts hts wd_492
  have fl_26 := wa_hts hts wd_493
  clear hR hargs B
  refine lv_iconst (v := iI (0 : Int)) hx hb dX3_takeWindow_0 (by decide) ?_
  refine lv_istore_n (lv' := [(2, .int (iI (0 : Int))), (0, .ref m0), (1, .int (iI (r9 : Int)))]) hx hb dX3_takeWindow_1 rfl hl (by decide) rfl (fun ls hl => ?_)
  have lp : ∀ (k9 : Nat) (i : Nat) (R9 : Nat → Int) (H : Heap) (locs : List Loc) (ls : Array Slot), (i ≤ n) → (R9 = zC X R0 r9 0 i) → n - i = k9 → va_P (dC, dI) vwCl [(m0, .inr (3, [.int (iI cd), .int (iI (n : Int)), .int (iI (w : Int)), .ref mq, .int (iI (rc : Int)), .ref mn, .ref ml, .int (iI (sc : Int)), .ref ms, .ref mr, .ref mg, .ref mp, .int (iI (mo : Int)), .int (iI (fo : Int)), .ref mpl, .ref mdi, .ref mc])), (mr, .inl (cI, 16, .inl (iA R9))), (ms, .inl (cI, 64, .inl (iA X)))] H → va_D A [(m0, .inr (3, [.int (iI cd), .int (iI (n : Int)), .int (iI (w : Int)), .ref mq, .int (iI (rc : Int)), .ref mn, .ref ml, .int (iI (sc : Int)), .ref ms, .ref mr, .ref mg, .ref mp, .int (iI (mo : Int)), .int (iI (fo : Int)), .ref mpl, .ref mdi, .ref mc])), (mr, .inl (cI, 16, .inl (iA R9))), (ms, .inl (cI, 64, .inl (iA X)))] → va_S A s.heap H locs → lv_has ls 3 [(0, .ref m0), (1, .int (iI (r9 : Int))), (2, .int (iI (i : Int)))] → W p l e R s m args below meth c H locs 0 0 Q (F0 m 2 ls []) := by
    intro k9
    induction k9 using Nat.strongRecOn with
    | ind k9 ih_lp =>
      intro i R9 H locs ls hi hR9 hk9 hP hD hS hl
      refine lv_iload_n hx hb dX3_takeWindow_2 rfl (lv_at hl 2 rfl) ?_
      refine lv_aload_n hx hb dX3_takeWindow_3 rfl (lv_at hl 0 rfl) ?_
      refine va_get (D := (dC, dI)) (ci := 3) (v := .int (iI (n : Int))) (C := RX3) (T := TX3) (N := 17) hx hb hts in_X3 hown hK hP 0 rfl rfl 1 (by decide) fl_7 (fun _ h9 => h9) rfl dX3_takeWindow_4 ?_
      refine z_icmp_ge (tgt := 30) hx hb dX3_takeWindow_7 (by decide) (by omega) (fun h7 => ?_) (fun h7 => ?_)
      · have ein : i = n := by omega
        rw [hR9, ein] at hP hD
        subst hAe
        exact zw_retv (()) hx hb hr hlocks hQ (trivial) hP hK hD hS dX3_takeWindow_30
      · refine lv_aload_n hx hb dX3_takeWindow_10 rfl (lv_at hl 0 rfl) ?_
        refine va_get (D := (dC, dI)) (ci := 3) (v := .ref mr) (C := RX3) (T := TX3) (N := 17) hx hb hts in_X3 hown hK hP 0 rfl rfl 9 (by decide) fl_26 (fun _ h9 => h9) rfl dX3_takeWindow_11 ?_
        refine lv_iload_n hx hb dX3_takeWindow_14 rfl (lv_at hl 2 rfl) ?_
        refine lv_aload_n hx hb dX3_takeWindow_15 rfl (lv_at hl 0 rfl) ?_
        refine va_get (D := (dC, dI)) (ci := 3) (v := .ref ms) (C := RX3) (T := TX3) (N := 17) hx hb hts in_X3 hown hK hP 0 rfl rfl 8 (by decide) fl_23 (fun _ h9 => h9) rfl dX3_takeWindow_16 ?_
        refine lv_iload_n hx hb dX3_takeWindow_19 rfl (lv_at hl 1 rfl) ?_
        refine lv_iload_n hx hb dX3_takeWindow_20 rfl (lv_at hl 2 rfl) ?_
        refine z_iadd hx hb dX3_takeWindow_21 ?_
        refine z_iald hx hb hK hP 2 0 rfl rfl (r9 + i) (by omega) dX3_takeWindow_22 ?_
        refine z_iast hx hb hK hP hD hS 1 0 rfl rfl i (by omega) dX3_takeWindow_23 (fun H locs hP hD hS => ?_)
        have hP : va_P (dC, dI) vwCl [(m0, .inr (3, [.int (iI cd), .int (iI (n : Int)), .int (iI (w : Int)), .ref mq, .int (iI (rc : Int)), .ref mn, .ref ml, .int (iI (sc : Int)), .ref ms, .ref mr, .ref mg, .ref mp, .int (iI (mo : Int)), .int (iI (fo : Int)), .ref mpl, .ref mdi, .ref mc])), (mr, .inl (cI, 16, .inl (iA (zU R9 i (X (r9 + i)))))), (ms, .inl (cI, 64, .inl (iA X)))] H := hP
        have hD : va_D A [(m0, .inr (3, [.int (iI cd), .int (iI (n : Int)), .int (iI (w : Int)), .ref mq, .int (iI (rc : Int)), .ref mn, .ref ml, .int (iI (sc : Int)), .ref ms, .ref mr, .ref mg, .ref mp, .int (iI (mo : Int)), .int (iI (fo : Int)), .ref mpl, .ref mdi, .ref mc])), (mr, .inl (cI, 16, .inl (iA (zU R9 i (X (r9 + i)))))), (ms, .inl (cI, 64, .inl (iA X)))] := hD
        refine z_iinc (k := 2) (b := ((i + 1 : Nat) : Int)) (lv' := [(2, .int (iI ((i + 1 : Nat) : Int))), (0, .ref m0), (1, .int (iI (r9 : Int)))]) hx hb dX3_takeWindow_24 hl rfl (by omega) (by decide) rfl (fun ls hl => ?_)
        refine lv_goto (tgt := 2) hx hb dX3_takeWindow_27 (by decide) ?_
        exact ih_lp _ (by omega) (i + 1) (zU R9 i (X (r9 + i))) H locs ls (by omega) (by rw [hR9]; exact zC_step0) rfl hP hD hS (lv_sub hl [1, 2, 0] rfl)
  exact lp _ 0 R0 _ _ ls (by omega) ((zC_0 _ _ _ _).symm) rfl hP hD hS (lv_sub hl [1, 2, 0] rfl)
