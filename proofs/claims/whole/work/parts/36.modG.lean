set_option maxRecDepth 100000 in
set_option maxHeartbeats 4000000 in
theorem c_isRow (l : Launch) (dC : Nat → ClassId) (dI : Nat → Nat → Nat) (cI : ClassId) (m0 mq mn ml ms mr mg mp mpl mdi mc : Nat) (cd : Int) (n w rc sc mo fo : Nat) (r9 : Int) (sz : Nat) (hr9 : -2147483648 ≤ r9 ∧ r9 ≤ 2147483647) (hrc : rc ≤ 12) : Met l yX3_isRow wsX3_isRow ({ frames := 1, cells := 0, slots := 0, locals := 22 }) (wrP dC dI [(cI, .int)] [(m0, .inr (3, [.int (iI cd), .int (iI (n : Int)), .int (iI (w : Int)), .ref mq, .int (iI (rc : Int)), .ref mn, .ref ml, .int (iI (sc : Int)), .ref ms, .ref mr, .ref mg, .ref mp, .int (iI (mo : Int)), .int (iI (fo : Int)), .ref mpl, .ref mdi, .ref mc]))] sz [.ref m0, .int (iI r9)]) (wrQi dC dI [(cI, .int)] [(m0, .inr (3, [.int (iI cd), .int (iI (n : Int)), .int (iI (w : Int)), .ref mq, .int (iI (rc : Int)), .ref mn, .ref ml, .int (iI (sc : Int)), .ref ms, .ref mr, .ref mg, .ref mp, .int (iI (mo : Int)), .int (iI (fo : Int)), .ref mpl, .ref mdi, .ref mc]))] sz (S := Int) (fun z u => (0 ≤ r9 ∧ r9 < (rc : Int) ∧ z = 1 ∧ u = 0) ∨ ((r9 < 0 ∨ (rc : Int) ≤ r9) ∧ z = 0 ∧ u = 1)) (fun u => [(m0, .inr (3, [.int (iI u), .int (iI (n : Int)), .int (iI (w : Int)), .ref mq, .int (iI (rc : Int)), .ref mn, .ref ml, .int (iI (sc : Int)), .ref ms, .ref mr, .ref mg, .ref mp, .int (iI (mo : Int)), .int (iI (fo : Int)), .ref mpl, .ref mdi, .ref mc]))])) 0 0 (va_A [(m0, .inr (3, [.int (iI cd), .int (iI (n : Int)), .int (iI (w : Int)), .ref mq, .int (iI (rc : Int)), .ref mn, .ref ml, .int (iI (sc : Int)), .ref ms, .ref mr, .ref mg, .ref mp, .int (iI (mo : Int)), .int (iI (fo : Int)), .ref mpl, .ref mdi, .ref mc]))] sz) := by
  refine Met.ofW (cc := cX3_isRow) (maxL := 2) (ret := (some .boolean)) (by decide) rfl ?_
  intro p e s m args below meth c s₁ B hml hv
  obtain ⟨rfl, hsz, hP, hK, hD0⟩ := hv
  have hx := B.exec
  have hb := B.bytes
  have hr := B.returns
  have hts : ∀ w ∈ wsX3_isRow, w.before _ s = true := atoms_spec (ws := wsX3_isRow) B.pre
  have hown : s.vm.findClass RX3 = some m.cls := findClass_of_methodNamed B.named
  have hlocks := B.notSynchronized
  subst hsz
  have hD := hD0.self (sz := s.heap.size)
  have hA : ∀ q9 : Nat, s.heap.size ≤ q9 → va_A [(m0, .inr (3, [.int (iI cd), .int (iI (n : Int)), .int (iI (w : Int)), .ref mq, .int (iI (rc : Int)), .ref mn, .ref ml, .int (iI (sc : Int)), .ref ms, .ref mr, .ref mg, .ref mp, .int (iI (mo : Int)), .int (iI (fo : Int)), .ref mpl, .ref mdi, .ref mc]))] s.heap.size q9 := fun q9 h => Or.inr h
  have hS : va_S (va_A [(m0, .inr (3, [.int (iI cd), .int (iI (n : Int)), .int (iI (w : Int)), .ref mq, .int (iI (rc : Int)), .ref mn, .ref ml, .int (iI (sc : Int)), .ref ms, .ref mr, .ref mg, .ref mp, .int (iI (mo : Int)), .int (iI (fo : Int)), .ref mpl, .ref mdi, .ref mc]))] s.heap.size) s.heap s.heap [] := va_S.rf
  generalize hAe : va_A [(m0, .inr (3, [.int (iI cd), .int (iI (n : Int)), .int (iI (w : Int)), .ref mq, .int (iI (rc : Int)), .ref mn, .ref ml, .int (iI (sc : Int)), .ref ms, .ref mr, .ref mg, .ref mp, .int (iI (mo : Int)), .int (iI (fo : Int)), .ref mpl, .ref mdi, .ref mc]))] s.heap.size = A at hD hA hS
  have hP : va_P (dC, dI) vwCl [(m0, .inr (3, [.int (iI cd), .int (iI (n : Int)), .int (iI (w : Int)), .ref mq, .int (iI (rc : Int)), .ref mn, .ref ml, .int (iI (sc : Int)), .ref ms, .ref mr, .ref mg, .ref mp, .int (iI (mo : Int)), .int (iI (fo : Int)), .ref mpl, .ref mdi, .ref mc]))] s.heap := hP
  have hl := lv_entry ([.ref m0, .int (iI r9)]) (n := 2) (Nat.le_of_ble_eq_true rfl)
  rw [lg_entry_eq]
  generalize (lg_sl ([.ref m0, .int (iI r9)]) ++ List.replicate (2 - (lg_sl ([.ref m0, .int (iI r9)])).length) Slot.unset).toArray = ls at hl ⊢
  have hl : lv_has ls 2 [(0, .ref m0), (1, .int (iI r9))] := hl
  generalize hargs : ([.ref m0, .int (iI r9)] : List Value).toArray = args at hts ⊢
  refine z_intro (fun R Q hR hQ => ?_)
  have hRf : R.frames = 1 := by rw [hR]; rfl
  have hRl : R.locals = 22 := by rw [hR]; rfl
  have hRc : R.cells = 0 := by rw [hR]; rfl
  have hRs : R.slots = 0 := by rw [hR]; rfl
  have in_X3 : ∀ w ∈ u_ws RX3 TX3 17, w ∈ wsX3_isRow := fun w h => List.mem_cons_of_mem _ (inW_X3 w h)
  have fl_44 := wa_hts hts wd_484
  have fl_51 := wa_hts hts wd_488
  clear hR hargs B
  refine lv_aload_n hx hb dX3_isRow_0 rfl (lv_at hl 0 rfl) ?_
  refine lv_iload_n hx hb dX3_isRow_1 rfl (lv_at hl 1 rfl) ?_
  refine lv_iconst (v := iI (0 : Int)) hx hb dX3_isRow_2 (by decide) ?_
  refine lv_aload_n hx hb dX3_isRow_3 rfl (lv_at hl 0 rfl) ?_
  refine va_get (D := (dC, dI)) (ci := 3) (v := .int (iI (rc : Int))) (C := RX3) (T := TX3) (N := 17) hx hb hts in_X3 hown hK hP 0 rfl rfl 4 (by decide) fl_51 (fun _ h9 => h9) rfl dX3_isRow_4 ?_
  refine lv_iconst (v := iI (1 : Int)) hx hb dX3_isRow_7 (by decide) ?_
  refine z_isub hx hb dX3_isRow_8 ?_
  refine zr_i (va_runS (As := [.int (iI r9), .int (iI (0 : Int)), .int (iI ((rc : Int) - (1 : Int)))]) (rest := [.ref m0]) ⟨hx, hb, hml, hown, hts⟩ (c_within l dC dI cI r9 (0 : Int) ((rc : Int) - (1 : Int)) (by omega) (by omega) (by omega)) (cwS 3 hts (ga_S wd_544 wd_545 wd_31 wd_546) rfl rfl rfl (by decide +kernel) ⟨(show 0 + 1 ≤ R.frames by omega), (show 8 + (3 + 11) + 0 ≤ R.locals by omega)⟩) (rd_preS hP hK [] rfl) rfl rfl hl.1 rfl (lv_room (Nat.le_of_ble_eq_true rfl)) dX3_isRow_9 ⟨by omega, by omega⟩) (fun z9 hz9 => ?_)
  refine z_if_eq (tgt := 19) hx hb dX3_isRow_12 (by decide) (by omega) (fun h12 => ?_) (fun h12 => ?_)
  · refine lv_iconst (v := iI (1 : Int)) hx hb dX3_isRow_19 (by decide) ?_
    refine va_put (D := (dC, dI)) (ci := 3) (v := .int (iI (1 : Int))) (ty := .int) (C := RX3) (T := TX3) (N := 17) hx hb hts in_X3 tyX3 tyX3_ok nmX3 hown hK hP hD hS 0 rfl rfl 0 (by decide) fl_44 (fun _ h9 => h9) rfl (by decide +kernel) rfl rfl (Nat.le_of_ble_eq_true rfl) dX3_isRow_20 (fun H locs hP hD hS => ?_)
    have hP : va_P (dC, dI) vwCl [(m0, .inr (3, [.int (iI (1 : Int)), .int (iI (n : Int)), .int (iI (w : Int)), .ref mq, .int (iI (rc : Int)), .ref mn, .ref ml, .int (iI (sc : Int)), .ref ms, .ref mr, .ref mg, .ref mp, .int (iI (mo : Int)), .int (iI (fo : Int)), .ref mpl, .ref mdi, .ref mc]))] H := hP
    have hD : va_D A [(m0, .inr (3, [.int (iI (1 : Int)), .int (iI (n : Int)), .int (iI (w : Int)), .ref mq, .int (iI (rc : Int)), .ref mn, .ref ml, .int (iI (sc : Int)), .ref ms, .ref mr, .ref mg, .ref mp, .int (iI (mo : Int)), .int (iI (fo : Int)), .ref mpl, .ref mdi, .ref mc]))] := hD
    refine lv_aload_n hx hb dX3_isRow_23 rfl (lv_at hl 0 rfl) ?_
    refine va_get (D := (dC, dI)) (ci := 3) (v := .int (iI (1 : Int))) (C := RX3) (T := TX3) (N := 17) hx hb hts in_X3 hown hK hP 0 rfl rfl 0 (by decide) fl_44 (fun _ h9 => h9) rfl dX3_isRow_24 ?_
    refine z_if_ne (tgt := 34) hx hb dX3_isRow_27 (by decide) (by decide) (fun _ => ?_) (fun h9 => absurd h9 (by decide))
    refine lv_iconst (v := iI (0 : Int)) hx hb dX3_isRow_34 (by decide) ?_
    subst hAe
    exact zw_retz (z := (0 : Int)) ((1 : Int)) hx hb hr hlocks hQ (by omega) (by omega) hP hK hD hS dX3_isRow_35
  · refine lv_iconst (v := iI (0 : Int)) hx hb dX3_isRow_15 (by decide) ?_
    refine lv_goto (tgt := 20) hx hb dX3_isRow_16 (by decide) ?_
    refine va_put (D := (dC, dI)) (ci := 3) (v := .int (iI (0 : Int))) (ty := .int) (C := RX3) (T := TX3) (N := 17) hx hb hts in_X3 tyX3 tyX3_ok nmX3 hown hK hP hD hS 0 rfl rfl 0 (by decide) fl_44 (fun _ h9 => h9) rfl (by decide +kernel) rfl rfl (Nat.le_of_ble_eq_true rfl) dX3_isRow_20 (fun H locs hP hD hS => ?_)
    have hP : va_P (dC, dI) vwCl [(m0, .inr (3, [.int (iI (0 : Int)), .int (iI (n : Int)), .int (iI (w : Int)), .ref mq, .int (iI (rc : Int)), .ref mn, .ref ml, .int (iI (sc : Int)), .ref ms, .ref mr, .ref mg, .ref mp, .int (iI (mo : Int)), .int (iI (fo : Int)), .ref mpl, .ref mdi, .ref mc]))] H := hP
    have hD : va_D A [(m0, .inr (3, [.int (iI (0 : Int)), .int (iI (n : Int)), .int (iI (w : Int)), .ref mq, .int (iI (rc : Int)), .ref mn, .ref ml, .int (iI (sc : Int)), .ref ms, .ref mr, .ref mg, .ref mp, .int (iI (mo : Int)), .int (iI (fo : Int)), .ref mpl, .ref mdi, .ref mc]))] := hD
    refine lv_aload_n hx hb dX3_isRow_23 rfl (lv_at hl 0 rfl) ?_
    refine va_get (D := (dC, dI)) (ci := 3) (v := .int (iI (0 : Int))) (C := RX3) (T := TX3) (N := 17) hx hb hts in_X3 hown hK hP 0 rfl rfl 0 (by decide) fl_44 (fun _ h9 => h9) rfl dX3_isRow_24 ?_
    refine z_if_ne (tgt := 34) hx hb dX3_isRow_27 (by decide) (by decide) (fun h9 => absurd h9 (by decide)) (fun _ => ?_)
    refine lv_iconst (v := iI (1 : Int)) hx hb dX3_isRow_30 (by decide) ?_
    refine lv_goto (tgt := 35) hx hb dX3_isRow_31 (by decide) ?_
    subst hAe
    exact zw_retz (z := (1 : Int)) ((0 : Int)) hx hb hr hlocks hQ (by omega) (by omega) hP hK hD hS dX3_isRow_35
set_option maxRecDepth 100000 in
set_option maxHeartbeats 4000000 in
theorem c_mBegin (l : Launch) (dC : Nat → ClassId) (dI : Nat → Nat → Nat) (cI : ClassId) (m0 mq mn ml ms mr mg mp mpl mdi mc : Nat) (cd : Int) (n w rc sc mo fo : Nat) (v : Int) (q : Nat → Int) (sz : Nat) (hv : -2147483648 ≤ v ∧ v ≤ 2147483647) : Met l yX3_begin wsX3_begin ({ frames := 1, cells := 0, slots := 0, locals := 22 }) (wrP dC dI [(cI, .int)] [(m0, .inr (3, [.int (iI cd), .int (iI (n : Int)), .int (iI (w : Int)), .ref mq, .int (iI (rc : Int)), .ref mn, .ref ml, .int (iI (sc : Int)), .ref ms, .ref mr, .ref mg, .ref mp, .int (iI (mo : Int)), .int (iI (fo : Int)), .ref mpl, .ref mdi, .ref mc])), (mq, .inl (cI, 16, .inl (iA q)))] sz [.ref m0, .int (iI v)]) (wrQv dC dI [(cI, .int)] [(m0, .inr (3, [.int (iI cd), .int (iI (n : Int)), .int (iI (w : Int)), .ref mq, .int (iI (rc : Int)), .ref mn, .ref ml, .int (iI (sc : Int)), .ref ms, .ref mr, .ref mg, .ref mp, .int (iI (mo : Int)), .int (iI (fo : Int)), .ref mpl, .ref mdi, .ref mc])), (mq, .inl (cI, 16, .inl (iA q)))] sz (S := (Int × Nat × Nat × Nat × (Nat → Int))) (fun u => ((2 ≤ v ∧ v ≤ 16) ∧ u = (0, v.toNat, 0, 0, zF q 16 0)) ∨ ((v < 2 ∨ 16 < v) ∧ u = (1, n, rc, fo, q))) (fun u => [(m0, .inr (3, [.int (iI u.1), .int (iI ((u.2.1 : Nat) : Int)), .int (iI (w : Int)), .ref mq, .int (iI ((u.2.2.1 : Nat) : Int)), .ref mn, .ref ml, .int (iI (sc : Int)), .ref ms, .ref mr, .ref mg, .ref mp, .int (iI (mo : Int)), .int (iI ((u.2.2.2.1 : Nat) : Int)), .ref mpl, .ref mdi, .ref mc])), (mq, .inl (cI, 16, .inl (iA u.2.2.2.2)))])) 0 0 (va_A [(m0, .inr (3, [.int (iI cd), .int (iI (n : Int)), .int (iI (w : Int)), .ref mq, .int (iI (rc : Int)), .ref mn, .ref ml, .int (iI (sc : Int)), .ref ms, .ref mr, .ref mg, .ref mp, .int (iI (mo : Int)), .int (iI (fo : Int)), .ref mpl, .ref mdi, .ref mc])), (mq, .inl (cI, 16, .inl (iA q)))] sz) := by
  refine Met.ofW (cc := cX3_begin) (maxL := 3) (ret := none) (by decide) rfl ?_
  intro p e s m args below meth c s₁ B hml hv
  obtain ⟨rfl, hsz, hP, hK, hD0⟩ := hv
  have hx := B.exec
  have hb := B.bytes
  have hr := B.returns
  have hts : ∀ w ∈ wsX3_begin, w.before _ s = true := atoms_spec (ws := wsX3_begin) B.pre
  have hown : s.vm.findClass RX3 = some m.cls := findClass_of_methodNamed B.named
  have hlocks := B.notSynchronized
  subst hsz
  have hD := hD0.self (sz := s.heap.size)
  have hA : ∀ q9 : Nat, s.heap.size ≤ q9 → va_A [(m0, .inr (3, [.int (iI cd), .int (iI (n : Int)), .int (iI (w : Int)), .ref mq, .int (iI (rc : Int)), .ref mn, .ref ml, .int (iI (sc : Int)), .ref ms, .ref mr, .ref mg, .ref mp, .int (iI (mo : Int)), .int (iI (fo : Int)), .ref mpl, .ref mdi, .ref mc])), (mq, .inl (cI, 16, .inl (iA q)))] s.heap.size q9 := fun q9 h => Or.inr h
  have hS : va_S (va_A [(m0, .inr (3, [.int (iI cd), .int (iI (n : Int)), .int (iI (w : Int)), .ref mq, .int (iI (rc : Int)), .ref mn, .ref ml, .int (iI (sc : Int)), .ref ms, .ref mr, .ref mg, .ref mp, .int (iI (mo : Int)), .int (iI (fo : Int)), .ref mpl, .ref mdi, .ref mc])), (mq, .inl (cI, 16, .inl (iA q)))] s.heap.size) s.heap s.heap [] := va_S.rf
  generalize hAe : va_A [(m0, .inr (3, [.int (iI cd), .int (iI (n : Int)), .int (iI (w : Int)), .ref mq, .int (iI (rc : Int)), .ref mn, .ref ml, .int (iI (sc : Int)), .ref ms, .ref mr, .ref mg, .ref mp, .int (iI (mo : Int)), .int (iI (fo : Int)), .ref mpl, .ref mdi, .ref mc])), (mq, .inl (cI, 16, .inl (iA q)))] s.heap.size = A at hD hA hS
  have hP : va_P (dC, dI) vwCl [(m0, .inr (3, [.int (iI cd), .int (iI (n : Int)), .int (iI (w : Int)), .ref mq, .int (iI (rc : Int)), .ref mn, .ref ml, .int (iI (sc : Int)), .ref ms, .ref mr, .ref mg, .ref mp, .int (iI (mo : Int)), .int (iI (fo : Int)), .ref mpl, .ref mdi, .ref mc])), (mq, .inl (cI, 16, .inl (iA q)))] s.heap := hP
  have hl := lv_entry ([.ref m0, .int (iI v)]) (n := 3) (Nat.le_of_ble_eq_true rfl)
  rw [lg_entry_eq]
  generalize (lg_sl ([.ref m0, .int (iI v)]) ++ List.replicate (3 - (lg_sl ([.ref m0, .int (iI v)])).length) Slot.unset).toArray = ls at hl ⊢
  have hl : lv_has ls 3 [(0, .ref m0), (1, .int (iI v))] := hl
  generalize hargs : ([.ref m0, .int (iI v)] : List Value).toArray = args at hts ⊢
  refine z_intro (fun R Q hR hQ => ?_)
  have hRf : R.frames = 1 := by rw [hR]; rfl
  have hRl : R.locals = 22 := by rw [hR]; rfl
  have hRc : R.cells = 0 := by rw [hR]; rfl
  have hRs : R.slots = 0 := by rw [hR]; rfl
  have in_X3 : ∀ w ∈ u_ws RX3 TX3 17, w ∈ wsX3_begin := fun w h => List.mem_cons_of_mem _ (inW_X3 w h)
  have fl_7 := wa_hts hts wd_485
  have fl_13 := wa_hts hts wd_487
  have fl_44 := wa_hts hts wd_484
  have fl_51 := wa_hts hts wd_488
  have fl_54 := wa_hts hts wd_497
  clear hR hargs B
  refine lv_aload_n hx hb dX3_begin_0 rfl (lv_at hl 0 rfl) ?_
  refine lv_iload_n hx hb dX3_begin_1 rfl (lv_at hl 1 rfl) ?_
  refine lv_iconst (v := iI (2 : Int)) hx hb dX3_begin_2 (by decide) ?_
  refine lv_bipush (v := iI (16 : Int)) hx hb dX3_begin_3 (by decide) ?_
  refine zr_i (va_runS (As := [.int (iI v), .int (iI (2 : Int)), .int (iI (16 : Int))]) (rest := [.ref m0]) ⟨hx, hb, hml, hown, hts⟩ (c_within l dC dI cI v (2 : Int) (16 : Int) (by omega) (by omega) (by omega)) (cwS 3 hts (ga_S wd_544 wd_545 wd_31 wd_546) rfl rfl rfl (by decide +kernel) ⟨(show 0 + 1 ≤ R.frames by omega), (show 8 + (3 + 11) + 0 ≤ R.locals by omega)⟩) (rd_preS hP hK [] rfl) rfl rfl hl.1 rfl (lv_room (Nat.le_of_ble_eq_true rfl)) dX3_begin_5 ⟨by omega, by omega⟩) (fun z5 hz5 => ?_)
  refine z_if_eq (tgt := 15) hx hb dX3_begin_8 (by decide) (by omega) (fun h8 => ?_) (fun h8 => ?_)
  · refine lv_iconst (v := iI (1 : Int)) hx hb dX3_begin_15 (by decide) ?_
    refine va_put (D := (dC, dI)) (ci := 3) (v := .int (iI (1 : Int))) (ty := .int) (C := RX3) (T := TX3) (N := 17) hx hb hts in_X3 tyX3 tyX3_ok nmX3 hown hK hP hD hS 0 rfl rfl 0 (by decide) fl_44 (fun _ h9 => h9) rfl (by decide +kernel) rfl rfl (Nat.le_of_ble_eq_true rfl) dX3_begin_16 (fun H locs hP hD hS => ?_)
    have hP : va_P (dC, dI) vwCl [(m0, .inr (3, [.int (iI (1 : Int)), .int (iI (n : Int)), .int (iI (w : Int)), .ref mq, .int (iI (rc : Int)), .ref mn, .ref ml, .int (iI (sc : Int)), .ref ms, .ref mr, .ref mg, .ref mp, .int (iI (mo : Int)), .int (iI (fo : Int)), .ref mpl, .ref mdi, .ref mc])), (mq, .inl (cI, 16, .inl (iA q)))] H := hP
    have hD : va_D A [(m0, .inr (3, [.int (iI (1 : Int)), .int (iI (n : Int)), .int (iI (w : Int)), .ref mq, .int (iI (rc : Int)), .ref mn, .ref ml, .int (iI (sc : Int)), .ref ms, .ref mr, .ref mg, .ref mp, .int (iI (mo : Int)), .int (iI (fo : Int)), .ref mpl, .ref mdi, .ref mc])), (mq, .inl (cI, 16, .inl (iA q)))] := hD
    refine lv_aload_n hx hb dX3_begin_19 rfl (lv_at hl 0 rfl) ?_
    refine va_get (D := (dC, dI)) (ci := 3) (v := .int (iI (1 : Int))) (C := RX3) (T := TX3) (N := 17) hx hb hts in_X3 hown hK hP 0 rfl rfl 0 (by decide) fl_44 (fun _ h9 => h9) rfl dX3_begin_20 ?_
    refine z_if_ne (tgt := 62) hx hb dX3_begin_23 (by decide) (by decide) (fun _ => ?_) (fun h9 => absurd h9 (by decide))
    subst hAe
    exact zw_retv ((1, n, rc, fo, q)) hx hb hr hlocks hQ (Or.inr ⟨by omega, rfl⟩) hP hK hD hS dX3_begin_62
  · refine lv_iconst (v := iI (0 : Int)) hx hb dX3_begin_11 (by decide) ?_
    refine lv_goto (tgt := 16) hx hb dX3_begin_12 (by decide) ?_
    refine va_put (D := (dC, dI)) (ci := 3) (v := .int (iI (0 : Int))) (ty := .int) (C := RX3) (T := TX3) (N := 17) hx hb hts in_X3 tyX3 tyX3_ok nmX3 hown hK hP hD hS 0 rfl rfl 0 (by decide) fl_44 (fun _ h9 => h9) rfl (by decide +kernel) rfl rfl (Nat.le_of_ble_eq_true rfl) dX3_begin_16 (fun H locs hP hD hS => ?_)
    have hP : va_P (dC, dI) vwCl [(m0, .inr (3, [.int (iI (0 : Int)), .int (iI (n : Int)), .int (iI (w : Int)), .ref mq, .int (iI (rc : Int)), .ref mn, .ref ml, .int (iI (sc : Int)), .ref ms, .ref mr, .ref mg, .ref mp, .int (iI (mo : Int)), .int (iI (fo : Int)), .ref mpl, .ref mdi, .ref mc])), (mq, .inl (cI, 16, .inl (iA q)))] H := hP
    have hD : va_D A [(m0, .inr (3, [.int (iI (0 : Int)), .int (iI (n : Int)), .int (iI (w : Int)), .ref mq, .int (iI (rc : Int)), .ref mn, .ref ml, .int (iI (sc : Int)), .ref ms, .ref mr, .ref mg, .ref mp, .int (iI (mo : Int)), .int (iI (fo : Int)), .ref mpl, .ref mdi, .ref mc])), (mq, .inl (cI, 16, .inl (iA q)))] := hD
    refine lv_aload_n hx hb dX3_begin_19 rfl (lv_at hl 0 rfl) ?_
    refine va_get (D := (dC, dI)) (ci := 3) (v := .int (iI (0 : Int))) (C := RX3) (T := TX3) (N := 17) hx hb hts in_X3 hown hK hP 0 rfl rfl 0 (by decide) fl_44 (fun _ h9 => h9) rfl dX3_begin_20 ?_
    refine z_if_ne (tgt := 62) hx hb dX3_begin_23 (by decide) (by decide) (fun h9 => absurd h9 (by decide)) (fun _ => ?_)
    refine lv_aload_n hx hb dX3_begin_26 rfl (lv_at hl 0 rfl) ?_
    refine lv_iload_n hx hb dX3_begin_27 rfl (lv_at hl 1 rfl) ?_
    refine z_top (b := ((v.toNat : Nat) : Int)) (by omega) ?_
    refine va_put (D := (dC, dI)) (ci := 3) (v := .int (iI ((v.toNat : Nat) : Int))) (ty := .int) (C := RX3) (T := TX3) (N := 17) hx hb hts in_X3 tyX3 tyX3_ok nmX3 hown hK hP hD hS 0 rfl rfl 1 (by decide) fl_7 (fun _ h9 => h9) rfl (by decide +kernel) rfl rfl (Nat.le_of_ble_eq_true rfl) dX3_begin_28 (fun H locs hP hD hS => ?_)
    have hP : va_P (dC, dI) vwCl [(m0, .inr (3, [.int (iI (0 : Int)), .int (iI ((v.toNat : Nat) : Int)), .int (iI (w : Int)), .ref mq, .int (iI (rc : Int)), .ref mn, .ref ml, .int (iI (sc : Int)), .ref ms, .ref mr, .ref mg, .ref mp, .int (iI (mo : Int)), .int (iI (fo : Int)), .ref mpl, .ref mdi, .ref mc])), (mq, .inl (cI, 16, .inl (iA q)))] H := hP
    have hD : va_D A [(m0, .inr (3, [.int (iI (0 : Int)), .int (iI ((v.toNat : Nat) : Int)), .int (iI (w : Int)), .ref mq, .int (iI (rc : Int)), .ref mn, .ref ml, .int (iI (sc : Int)), .ref ms, .ref mr, .ref mg, .ref mp, .int (iI (mo : Int)), .int (iI (fo : Int)), .ref mpl, .ref mdi, .ref mc])), (mq, .inl (cI, 16, .inl (iA q)))] := hD
    refine lv_aload_n hx hb dX3_begin_31 rfl (lv_at hl 0 rfl) ?_
    refine lv_iconst (v := iI (0 : Int)) hx hb dX3_begin_32 (by decide) ?_
    refine va_put (D := (dC, dI)) (ci := 3) (v := .int (iI (0 : Int))) (ty := .int) (C := RX3) (T := TX3) (N := 17) hx hb hts in_X3 tyX3 tyX3_ok nmX3 hown hK hP hD hS 0 rfl rfl 4 (by decide) fl_51 (fun _ h9 => h9) rfl (by decide +kernel) rfl rfl (Nat.le_of_ble_eq_true rfl) dX3_begin_33 (fun H locs hP hD hS => ?_)
    have hP : va_P (dC, dI) vwCl [(m0, .inr (3, [.int (iI (0 : Int)), .int (iI ((v.toNat : Nat) : Int)), .int (iI (w : Int)), .ref mq, .int (iI (0 : Int)), .ref mn, .ref ml, .int (iI (sc : Int)), .ref ms, .ref mr, .ref mg, .ref mp, .int (iI (mo : Int)), .int (iI (fo : Int)), .ref mpl, .ref mdi, .ref mc])), (mq, .inl (cI, 16, .inl (iA q)))] H := hP
    have hD : va_D A [(m0, .inr (3, [.int (iI (0 : Int)), .int (iI ((v.toNat : Nat) : Int)), .int (iI (w : Int)), .ref mq, .int (iI (0 : Int)), .ref mn, .ref ml, .int (iI (sc : Int)), .ref ms, .ref mr, .ref mg, .ref mp, .int (iI (mo : Int)), .int (iI (fo : Int)), .ref mpl, .ref mdi, .ref mc])), (mq, .inl (cI, 16, .inl (iA q)))] := hD
    refine lv_aload_n hx hb dX3_begin_36 rfl (lv_at hl 0 rfl) ?_
    refine lv_iconst (v := iI (0 : Int)) hx hb dX3_begin_37 (by decide) ?_
    refine va_put (D := (dC, dI)) (ci := 3) (v := .int (iI (0 : Int))) (ty := .int) (C := RX3) (T := TX3) (N := 17) hx hb hts in_X3 tyX3 tyX3_ok nmX3 hown hK hP hD hS 0 rfl rfl 13 (by decide) fl_54 (fun _ h9 => h9) rfl (by decide +kernel) rfl rfl (Nat.le_of_ble_eq_true rfl) dX3_begin_38 (fun H locs hP hD hS => ?_)
    have hP : va_P (dC, dI) vwCl [(m0, .inr (3, [.int (iI (0 : Int)), .int (iI ((v.toNat : Nat) : Int)), .int (iI (w : Int)), .ref mq, .int (iI (0 : Int)), .ref mn, .ref ml, .int (iI (sc : Int)), .ref ms, .ref mr, .ref mg, .ref mp, .int (iI (mo : Int)), .int (iI (0 : Int)), .ref mpl, .ref mdi, .ref mc])), (mq, .inl (cI, 16, .inl (iA q)))] H := hP
    have hD : va_D A [(m0, .inr (3, [.int (iI (0 : Int)), .int (iI ((v.toNat : Nat) : Int)), .int (iI (w : Int)), .ref mq, .int (iI (0 : Int)), .ref mn, .ref ml, .int (iI (sc : Int)), .ref ms, .ref mr, .ref mg, .ref mp, .int (iI (mo : Int)), .int (iI (0 : Int)), .ref mpl, .ref mdi, .ref mc])), (mq, .inl (cI, 16, .inl (iA q)))] := hD
    refine lv_iconst (v := iI (0 : Int)) hx hb dX3_begin_41 (by decide) ?_
    refine lv_istore_n (lv' := [(2, .int (iI (0 : Int))), (0, .ref m0), (1, .int (iI v))]) hx hb dX3_begin_42 rfl hl (by decide) rfl (fun ls hl => ?_)
    have lp : ∀ (k9 : Nat) (i : Nat) (q9 : Nat → Int) (H : Heap) (locs : List Loc) (ls : Array Slot), (i ≤ 16) → (q9 = zF q i 0) → 16 - i = k9 → va_P (dC, dI) vwCl [(m0, .inr (3, [.int (iI (0 : Int)), .int (iI (((v.toNat) : Nat) : Int)), .int (iI (w : Int)), .ref mq, .int (iI (0 : Int)), .ref mn, .ref ml, .int (iI (sc : Int)), .ref ms, .ref mr, .ref mg, .ref mp, .int (iI (mo : Int)), .int (iI (0 : Int)), .ref mpl, .ref mdi, .ref mc])), (mq, .inl (cI, 16, .inl (iA q9)))] H → va_D A [(m0, .inr (3, [.int (iI (0 : Int)), .int (iI (((v.toNat) : Nat) : Int)), .int (iI (w : Int)), .ref mq, .int (iI (0 : Int)), .ref mn, .ref ml, .int (iI (sc : Int)), .ref ms, .ref mr, .ref mg, .ref mp, .int (iI (mo : Int)), .int (iI (0 : Int)), .ref mpl, .ref mdi, .ref mc])), (mq, .inl (cI, 16, .inl (iA q9)))] → va_S A s.heap H locs → lv_has ls 3 [(0, .ref m0), (1, .int (iI v)), (2, .int (iI (i : Int)))] → W p l e R s m args below meth c H locs 0 0 Q (F0 m 43 ls []) := by
      intro k9
      induction k9 using Nat.strongRecOn with
      | ind k9 ih_lp =>
        intro i q9 H locs ls hi hq9 hk9 hP hD hS hl
        refine lv_iload_n hx hb dX3_begin_43 rfl (lv_at hl 2 rfl) ?_
        refine lv_bipush (v := iI (16 : Int)) hx hb dX3_begin_44 (by decide) ?_
        refine z_icmp_ge (tgt := 62) hx hb dX3_begin_46 (by decide) (by omega) (fun h46 => ?_) (fun h46 => ?_)
        · have ein : i = 16 := by omega
          rw [hq9, ein] at hP hD
          subst hAe
          exact zw_retv ((0, v.toNat, 0, 0, zF q 16 0)) hx hb hr hlocks hQ (Or.inl ⟨by omega, rfl⟩) hP hK hD hS dX3_begin_62
        · refine lv_aload_n hx hb dX3_begin_49 rfl (lv_at hl 0 rfl) ?_
          refine va_get (D := (dC, dI)) (ci := 3) (v := .ref mq) (C := RX3) (T := TX3) (N := 17) hx hb hts in_X3 hown hK hP 0 rfl rfl 3 (by decide) fl_13 (fun _ h9 => h9) rfl dX3_begin_50 ?_
          refine lv_iload_n hx hb dX3_begin_53 rfl (lv_at hl 2 rfl) ?_
          refine lv_iconst (v := iI (0 : Int)) hx hb dX3_begin_54 (by decide) ?_
          refine z_iast hx hb hK hP hD hS 1 0 rfl rfl i (by omega) dX3_begin_55 (fun H locs hP hD hS => ?_)
          have hP : va_P (dC, dI) vwCl [(m0, .inr (3, [.int (iI (0 : Int)), .int (iI (((v.toNat) : Nat) : Int)), .int (iI (w : Int)), .ref mq, .int (iI (0 : Int)), .ref mn, .ref ml, .int (iI (sc : Int)), .ref ms, .ref mr, .ref mg, .ref mp, .int (iI (mo : Int)), .int (iI (0 : Int)), .ref mpl, .ref mdi, .ref mc])), (mq, .inl (cI, 16, .inl (iA (zU q9 i (0 : Int)))))] H := hP
          have hD : va_D A [(m0, .inr (3, [.int (iI (0 : Int)), .int (iI (((v.toNat) : Nat) : Int)), .int (iI (w : Int)), .ref mq, .int (iI (0 : Int)), .ref mn, .ref ml, .int (iI (sc : Int)), .ref ms, .ref mr, .ref mg, .ref mp, .int (iI (mo : Int)), .int (iI (0 : Int)), .ref mpl, .ref mdi, .ref mc])), (mq, .inl (cI, 16, .inl (iA (zU q9 i (0 : Int)))))] := hD
          refine z_iinc (k := 2) (b := ((i + 1 : Nat) : Int)) (lv' := [(2, .int (iI ((i + 1 : Nat) : Int))), (0, .ref m0), (1, .int (iI v))]) hx hb dX3_begin_56 hl rfl (by omega) (by decide) rfl (fun ls hl => ?_)
          refine lv_goto (tgt := 43) hx hb dX3_begin_59 (by decide) ?_
          exact ih_lp _ (by omega) (i + 1) (zU q9 i 0) H locs ls (by omega) (by rw [hq9]; exact zF_step) rfl hP hD hS (lv_sub hl [1, 2, 0] rfl)
    exact lp _ 0 q _ _ ls (by omega) ((zF_0 _ _).symm) rfl hP hD hS (lv_sub hl [1, 2, 0] rfl)
set_option maxRecDepth 100000 in
set_option maxHeartbeats 4000000 in
theorem c_mAsk (l : Launch) (dC : Nat → ClassId) (dI : Nat → Nat → Nat) (cI : ClassId) (m0 mq mn ml ms mr mg mp mpl mdi mc : Nat) (cd : Int) (n w rc sc mo fo : Nat) (i v : Int) (q : Nat → Int) (sz : Nat) (hn : 2 ≤ n ∧ n ≤ 16) (hi : -2147483648 ≤ i ∧ i ≤ 2147483647) (hv : -2147483648 ≤ v ∧ v ≤ 2147483647) : Met l yX3_ask wsX3_ask ({ frames := 1, cells := 0, slots := 0, locals := 22 }) (wrP dC dI [(cI, .int)] [(m0, .inr (3, [.int (iI cd), .int (iI (n : Int)), .int (iI (w : Int)), .ref mq, .int (iI (rc : Int)), .ref mn, .ref ml, .int (iI (sc : Int)), .ref ms, .ref mr, .ref mg, .ref mp, .int (iI (mo : Int)), .int (iI (fo : Int)), .ref mpl, .ref mdi, .ref mc])), (mq, .inl (cI, 16, .inl (iA q)))] sz [.ref m0, .int (iI i), .int (iI v)]) (wrQi dC dI [(cI, .int)] [(m0, .inr (3, [.int (iI cd), .int (iI (n : Int)), .int (iI (w : Int)), .ref mq, .int (iI (rc : Int)), .ref mn, .ref ml, .int (iI (sc : Int)), .ref ms, .ref mr, .ref mg, .ref mp, .int (iI (mo : Int)), .int (iI (fo : Int)), .ref mpl, .ref mdi, .ref mc])), (mq, .inl (cI, 16, .inl (iA q)))] sz (S := (Int × (Nat → Int))) (fun z u => ((0 ≤ i ∧ i < (n : Int)) ∧ (-1000 ≤ v ∧ v ≤ 1000) ∧ u = (0, zU q i.toNat v) ∧ z = q i.toNat) ∨ ((i < 0 ∨ (n : Int) ≤ i) ∧ u = (1, q) ∧ z = 0) ∨ ((0 ≤ i ∧ i < (n : Int)) ∧ (v < -1000 ∨ 1000 < v) ∧ u = (2, q) ∧ z = 0)) (fun u => [(m0, .inr (3, [.int (iI u.1), .int (iI (n : Int)), .int (iI (w : Int)), .ref mq, .int (iI (rc : Int)), .ref mn, .ref ml, .int (iI (sc : Int)), .ref ms, .ref mr, .ref mg, .ref mp, .int (iI (mo : Int)), .int (iI (fo : Int)), .ref mpl, .ref mdi, .ref mc])), (mq, .inl (cI, 16, .inl (iA u.2)))])) 0 0 (va_A [(m0, .inr (3, [.int (iI cd), .int (iI (n : Int)), .int (iI (w : Int)), .ref mq, .int (iI (rc : Int)), .ref mn, .ref ml, .int (iI (sc : Int)), .ref ms, .ref mr, .ref mg, .ref mp, .int (iI (mo : Int)), .int (iI (fo : Int)), .ref mpl, .ref mdi, .ref mc])), (mq, .inl (cI, 16, .inl (iA q)))] sz) := by
  refine Met.ofW (cc := cX3_ask) (maxL := 4) (ret := (some .int)) (by decide) rfl ?_
  intro p e s m args below meth c s₁ B hml hv
  obtain ⟨rfl, hsz, hP, hK, hD0⟩ := hv
  have hx := B.exec
  have hb := B.bytes
  have hr := B.returns
  have hts : ∀ w ∈ wsX3_ask, w.before _ s = true := atoms_spec (ws := wsX3_ask) B.pre
  have hown : s.vm.findClass RX3 = some m.cls := findClass_of_methodNamed B.named
  have hlocks := B.notSynchronized
  subst hsz
  have hD := hD0.self (sz := s.heap.size)
  have hA : ∀ q9 : Nat, s.heap.size ≤ q9 → va_A [(m0, .inr (3, [.int (iI cd), .int (iI (n : Int)), .int (iI (w : Int)), .ref mq, .int (iI (rc : Int)), .ref mn, .ref ml, .int (iI (sc : Int)), .ref ms, .ref mr, .ref mg, .ref mp, .int (iI (mo : Int)), .int (iI (fo : Int)), .ref mpl, .ref mdi, .ref mc])), (mq, .inl (cI, 16, .inl (iA q)))] s.heap.size q9 := fun q9 h => Or.inr h
  have hS : va_S (va_A [(m0, .inr (3, [.int (iI cd), .int (iI (n : Int)), .int (iI (w : Int)), .ref mq, .int (iI (rc : Int)), .ref mn, .ref ml, .int (iI (sc : Int)), .ref ms, .ref mr, .ref mg, .ref mp, .int (iI (mo : Int)), .int (iI (fo : Int)), .ref mpl, .ref mdi, .ref mc])), (mq, .inl (cI, 16, .inl (iA q)))] s.heap.size) s.heap s.heap [] := va_S.rf
  generalize hAe : va_A [(m0, .inr (3, [.int (iI cd), .int (iI (n : Int)), .int (iI (w : Int)), .ref mq, .int (iI (rc : Int)), .ref mn, .ref ml, .int (iI (sc : Int)), .ref ms, .ref mr, .ref mg, .ref mp, .int (iI (mo : Int)), .int (iI (fo : Int)), .ref mpl, .ref mdi, .ref mc])), (mq, .inl (cI, 16, .inl (iA q)))] s.heap.size = A at hD hA hS
  have hP : va_P (dC, dI) vwCl [(m0, .inr (3, [.int (iI cd), .int (iI (n : Int)), .int (iI (w : Int)), .ref mq, .int (iI (rc : Int)), .ref mn, .ref ml, .int (iI (sc : Int)), .ref ms, .ref mr, .ref mg, .ref mp, .int (iI (mo : Int)), .int (iI (fo : Int)), .ref mpl, .ref mdi, .ref mc])), (mq, .inl (cI, 16, .inl (iA q)))] s.heap := hP
  have hl := lv_entry ([.ref m0, .int (iI i), .int (iI v)]) (n := 4) (Nat.le_of_ble_eq_true rfl)
  rw [lg_entry_eq]
  generalize (lg_sl ([.ref m0, .int (iI i), .int (iI v)]) ++ List.replicate (4 - (lg_sl ([.ref m0, .int (iI i), .int (iI v)])).length) Slot.unset).toArray = ls at hl ⊢
  have hl : lv_has ls 4 [(0, .ref m0), (1, .int (iI i)), (2, .int (iI v))] := hl
  generalize hargs : ([.ref m0, .int (iI i), .int (iI v)] : List Value).toArray = args at hts ⊢
  refine z_intro (fun R Q hR hQ => ?_)
  have hRf : R.frames = 1 := by rw [hR]; rfl
  have hRl : R.locals = 22 := by rw [hR]; rfl
  have hRc : R.cells = 0 := by rw [hR]; rfl
  have hRs : R.slots = 0 := by rw [hR]; rfl
  have in_X3 : ∀ w ∈ u_ws RX3 TX3 17, w ∈ wsX3_ask := fun w h => List.mem_cons_of_mem _ (inW_X3 w h)
  have fl_7 := wa_hts hts wd_485
  have fl_13 := wa_hts hts wd_487
  have fl_44 := wa_hts hts wd_484
  clear hR hargs B
  refine lv_aload_n hx hb dX3_ask_0 rfl (lv_at hl 0 rfl) ?_
  refine lv_iload_n hx hb dX3_ask_1 rfl (lv_at hl 1 rfl) ?_
  refine lv_iconst (v := iI (0 : Int)) hx hb dX3_ask_2 (by decide) ?_
  refine lv_aload_n hx hb dX3_ask_3 rfl (lv_at hl 0 rfl) ?_
  refine va_get (D := (dC, dI)) (ci := 3) (v := .int (iI (n : Int))) (C := RX3) (T := TX3) (N := 17) hx hb hts in_X3 hown hK hP 0 rfl rfl 1 (by decide) fl_7 (fun _ h9 => h9) rfl dX3_ask_4 ?_
  refine lv_iconst (v := iI (1 : Int)) hx hb dX3_ask_7 (by decide) ?_
  refine z_isub hx hb dX3_ask_8 ?_
  refine z_top (b := (n : Int) - 1) (by omega) ?_
  refine zr_i (va_runS (As := [.int (iI i), .int (iI (0 : Int)), .int (iI ((n : Int) - 1))]) (rest := [.ref m0]) ⟨hx, hb, hml, hown, hts⟩ (c_within l dC dI cI i (0 : Int) ((n : Int) - 1) (by omega) (by omega) (by omega)) (cwS 3 hts (ga_S wd_544 wd_545 wd_31 wd_546) rfl rfl rfl (by decide +kernel) ⟨(show 0 + 1 ≤ R.frames by omega), (show 8 + (3 + 11) + 0 ≤ R.locals by omega)⟩) (rd_preS hP hK [] rfl) rfl rfl hl.1 rfl (lv_room (Nat.le_of_ble_eq_true rfl)) dX3_ask_9 ⟨by omega, by omega⟩) (fun z9 hz9 => ?_)
  refine z_if_ne (tgt := 19) hx hb dX3_ask_12 (by decide) (by omega) (fun h12 => ?_) (fun h12 => ?_)
  · refine lv_iload_n hx hb dX3_ask_19 rfl (lv_at hl 2 rfl) ?_
    refine lv_sipush (v := iI (-1000 : Int)) hx hb dX3_ask_20 (by decide) ?_
    refine lv_sipush (v := iI (1000 : Int)) hx hb dX3_ask_23 (by decide) ?_
    refine zr_i (va_runS (As := [.int (iI v), .int (iI (-1000 : Int)), .int (iI (1000 : Int))]) (rest := [.ref m0]) ⟨hx, hb, hml, hown, hts⟩ (c_within l dC dI cI v (-1000 : Int) (1000 : Int) (by omega) (by omega) (by omega)) (cwS 3 hts (ga_S wd_544 wd_545 wd_31 wd_546) rfl rfl rfl (by decide +kernel) ⟨(show 0 + 1 ≤ R.frames by omega), (show 8 + (3 + 11) + 0 ≤ R.locals by omega)⟩) (rd_preS hP hK [] rfl) rfl rfl hl.1 rfl (lv_room (Nat.le_of_ble_eq_true rfl)) dX3_ask_26 ⟨by omega, by omega⟩) (fun z26 hz26 => ?_)
    refine z_if_eq (tgt := 36) hx hb dX3_ask_29 (by decide) (by omega) (fun h29 => ?_) (fun h29 => ?_)
    · refine lv_iconst (v := iI (2 : Int)) hx hb dX3_ask_36 (by decide) ?_
      refine va_put (D := (dC, dI)) (ci := 3) (v := .int (iI (2 : Int))) (ty := .int) (C := RX3) (T := TX3) (N := 17) hx hb hts in_X3 tyX3 tyX3_ok nmX3 hown hK hP hD hS 0 rfl rfl 0 (by decide) fl_44 (fun _ h9 => h9) rfl (by decide +kernel) rfl rfl (Nat.le_of_ble_eq_true rfl) dX3_ask_37 (fun H locs hP hD hS => ?_)
      have hP : va_P (dC, dI) vwCl [(m0, .inr (3, [.int (iI (2 : Int)), .int (iI (n : Int)), .int (iI (w : Int)), .ref mq, .int (iI (rc : Int)), .ref mn, .ref ml, .int (iI (sc : Int)), .ref ms, .ref mr, .ref mg, .ref mp, .int (iI (mo : Int)), .int (iI (fo : Int)), .ref mpl, .ref mdi, .ref mc])), (mq, .inl (cI, 16, .inl (iA q)))] H := hP
      have hD : va_D A [(m0, .inr (3, [.int (iI (2 : Int)), .int (iI (n : Int)), .int (iI (w : Int)), .ref mq, .int (iI (rc : Int)), .ref mn, .ref ml, .int (iI (sc : Int)), .ref ms, .ref mr, .ref mg, .ref mp, .int (iI (mo : Int)), .int (iI (fo : Int)), .ref mpl, .ref mdi, .ref mc])), (mq, .inl (cI, 16, .inl (iA q)))] := hD
      refine lv_aload_n hx hb dX3_ask_40 rfl (lv_at hl 0 rfl) ?_
      refine va_get (D := (dC, dI)) (ci := 3) (v := .int (iI (2 : Int))) (C := RX3) (T := TX3) (N := 17) hx hb hts in_X3 hown hK hP 0 rfl rfl 0 (by decide) fl_44 (fun _ h9 => h9) rfl dX3_ask_41 ?_
      refine z_if_le (tgt := 49) hx hb dX3_ask_44 (by decide) (by decide) (fun h9 => absurd h9 (by decide)) (fun _ => ?_)
      refine lv_iconst (v := iI (0 : Int)) hx hb dX3_ask_47 (by decide) ?_
      subst hAe
      exact zw_reti (z := (0 : Int)) (((2 : Int), q)) hx hb hr hlocks hQ (Or.inr (Or.inr ⟨by omega, by omega, rfl, rfl⟩)) hP hK hD hS dX3_ask_48
    · refine lv_iconst (v := iI (0 : Int)) hx hb dX3_ask_32 (by decide) ?_
      refine lv_goto (tgt := 37) hx hb dX3_ask_33 (by decide) ?_
      refine va_put (D := (dC, dI)) (ci := 3) (v := .int (iI (0 : Int))) (ty := .int) (C := RX3) (T := TX3) (N := 17) hx hb hts in_X3 tyX3 tyX3_ok nmX3 hown hK hP hD hS 0 rfl rfl 0 (by decide) fl_44 (fun _ h9 => h9) rfl (by decide +kernel) rfl rfl (Nat.le_of_ble_eq_true rfl) dX3_ask_37 (fun H locs hP hD hS => ?_)
      have hP : va_P (dC, dI) vwCl [(m0, .inr (3, [.int (iI (0 : Int)), .int (iI (n : Int)), .int (iI (w : Int)), .ref mq, .int (iI (rc : Int)), .ref mn, .ref ml, .int (iI (sc : Int)), .ref ms, .ref mr, .ref mg, .ref mp, .int (iI (mo : Int)), .int (iI (fo : Int)), .ref mpl, .ref mdi, .ref mc])), (mq, .inl (cI, 16, .inl (iA q)))] H := hP
      have hD : va_D A [(m0, .inr (3, [.int (iI (0 : Int)), .int (iI (n : Int)), .int (iI (w : Int)), .ref mq, .int (iI (rc : Int)), .ref mn, .ref ml, .int (iI (sc : Int)), .ref ms, .ref mr, .ref mg, .ref mp, .int (iI (mo : Int)), .int (iI (fo : Int)), .ref mpl, .ref mdi, .ref mc])), (mq, .inl (cI, 16, .inl (iA q)))] := hD
      refine lv_aload_n hx hb dX3_ask_40 rfl (lv_at hl 0 rfl) ?_
      refine va_get (D := (dC, dI)) (ci := 3) (v := .int (iI (0 : Int))) (C := RX3) (T := TX3) (N := 17) hx hb hts in_X3 hown hK hP 0 rfl rfl 0 (by decide) fl_44 (fun _ h9 => h9) rfl dX3_ask_41 ?_
      refine z_if_le (tgt := 49) hx hb dX3_ask_44 (by decide) (by decide) (fun _ => ?_) (fun h9 => absurd h9 (by decide))
      refine lv_aload_n hx hb dX3_ask_49 rfl (lv_at hl 0 rfl) ?_
      refine va_get (D := (dC, dI)) (ci := 3) (v := .ref mq) (C := RX3) (T := TX3) (N := 17) hx hb hts in_X3 hown hK hP 0 rfl rfl 3 (by decide) fl_13 (fun _ h9 => h9) rfl dX3_ask_50 ?_
      refine lv_iload_n hx hb dX3_ask_53 rfl (lv_at hl 1 rfl) ?_
      refine z_iald hx hb hK hP 1 0 rfl rfl i.toNat (by omega) dX3_ask_54 ?_
      refine lv_istore_n (lv' := [(3, .int (iI (q i.toNat))), (0, .ref m0), (1, .int (iI i)), (2, .int (iI v))]) hx hb dX3_ask_55 rfl hl (by decide) rfl (fun ls hl => ?_)
      refine lv_aload_n hx hb dX3_ask_56 rfl (lv_at hl 1 rfl) ?_
      refine va_get (D := (dC, dI)) (ci := 3) (v := .ref mq) (C := RX3) (T := TX3) (N := 17) hx hb hts in_X3 hown hK hP 0 rfl rfl 3 (by decide) fl_13 (fun _ h9 => h9) rfl dX3_ask_57 ?_
      refine lv_iload_n hx hb dX3_ask_60 rfl (lv_at hl 2 rfl) ?_
      refine lv_iload_n hx hb dX3_ask_61 rfl (lv_at hl 3 rfl) ?_
      refine z_iast hx hb hK hP hD hS 1 0 rfl rfl i.toNat (by omega) dX3_ask_62 (fun H locs hP hD hS => ?_)
      have hP : va_P (dC, dI) vwCl [(m0, .inr (3, [.int (iI (0 : Int)), .int (iI (n : Int)), .int (iI (w : Int)), .ref mq, .int (iI (rc : Int)), .ref mn, .ref ml, .int (iI (sc : Int)), .ref ms, .ref mr, .ref mg, .ref mp, .int (iI (mo : Int)), .int (iI (fo : Int)), .ref mpl, .ref mdi, .ref mc])), (mq, .inl (cI, 16, .inl (iA (zU q i.toNat v))))] H := hP
      have hD : va_D A [(m0, .inr (3, [.int (iI (0 : Int)), .int (iI (n : Int)), .int (iI (w : Int)), .ref mq, .int (iI (rc : Int)), .ref mn, .ref ml, .int (iI (sc : Int)), .ref ms, .ref mr, .ref mg, .ref mp, .int (iI (mo : Int)), .int (iI (fo : Int)), .ref mpl, .ref mdi, .ref mc])), (mq, .inl (cI, 16, .inl (iA (zU q i.toNat v))))] := hD
      refine lv_iload_n hx hb dX3_ask_63 rfl (lv_at hl 0 rfl) ?_
      subst hAe
      exact zw_reti (z := q i.toNat) ((0, zU q i.toNat v)) hx hb hr hlocks hQ (Or.inl ⟨by omega, by omega, rfl, rfl⟩) hP hK hD hS dX3_ask_64
  · refine lv_iconst (v := iI (1 : Int)) hx hb dX3_ask_15 (by decide) ?_
    refine lv_goto (tgt := 37) hx hb dX3_ask_16 (by decide) ?_
    refine va_put (D := (dC, dI)) (ci := 3) (v := .int (iI (1 : Int))) (ty := .int) (C := RX3) (T := TX3) (N := 17) hx hb hts in_X3 tyX3 tyX3_ok nmX3 hown hK hP hD hS 0 rfl rfl 0 (by decide) fl_44 (fun _ h9 => h9) rfl (by decide +kernel) rfl rfl (Nat.le_of_ble_eq_true rfl) dX3_ask_37 (fun H locs hP hD hS => ?_)
    have hP : va_P (dC, dI) vwCl [(m0, .inr (3, [.int (iI (1 : Int)), .int (iI (n : Int)), .int (iI (w : Int)), .ref mq, .int (iI (rc : Int)), .ref mn, .ref ml, .int (iI (sc : Int)), .ref ms, .ref mr, .ref mg, .ref mp, .int (iI (mo : Int)), .int (iI (fo : Int)), .ref mpl, .ref mdi, .ref mc])), (mq, .inl (cI, 16, .inl (iA q)))] H := hP
    have hD : va_D A [(m0, .inr (3, [.int (iI (1 : Int)), .int (iI (n : Int)), .int (iI (w : Int)), .ref mq, .int (iI (rc : Int)), .ref mn, .ref ml, .int (iI (sc : Int)), .ref ms, .ref mr, .ref mg, .ref mp, .int (iI (mo : Int)), .int (iI (fo : Int)), .ref mpl, .ref mdi, .ref mc])), (mq, .inl (cI, 16, .inl (iA q)))] := hD
    refine lv_aload_n hx hb dX3_ask_40 rfl (lv_at hl 0 rfl) ?_
    refine va_get (D := (dC, dI)) (ci := 3) (v := .int (iI (1 : Int))) (C := RX3) (T := TX3) (N := 17) hx hb hts in_X3 hown hK hP 0 rfl rfl 0 (by decide) fl_44 (fun _ h9 => h9) rfl dX3_ask_41 ?_
    refine z_if_le (tgt := 49) hx hb dX3_ask_44 (by decide) (by decide) (fun h9 => absurd h9 (by decide)) (fun _ => ?_)
    refine lv_iconst (v := iI (0 : Int)) hx hb dX3_ask_47 (by decide) ?_
    subst hAe
    exact zw_reti (z := (0 : Int)) (((1 : Int), q)) hx hb hr hlocks hQ (Or.inr (Or.inl ⟨by omega, rfl, rfl⟩)) hP hK hD hS dX3_ask_48
set_option maxRecDepth 100000 in
set_option maxHeartbeats 4000000 in
theorem c_mBand (l : Launch) (dC : Nat → ClassId) (dI : Nat → Nat → Nat) (cI : ClassId) (m0 mq mn ml ms mr mg mp mpl mdi mc : Nat) (cd : Int) (n w rc sc mo fo : Nat) (v : Int) (sz : Nat) (hv : -2147483648 ≤ v ∧ v ≤ 2147483647) : Met l yX3_band wsX3_band ({ frames := 1, cells := 0, slots := 0, locals := 22 }) (wrP dC dI [(cI, .int)] [(m0, .inr (3, [.int (iI cd), .int (iI (n : Int)), .int (iI (w : Int)), .ref mq, .int (iI (rc : Int)), .ref mn, .ref ml, .int (iI (sc : Int)), .ref ms, .ref mr, .ref mg, .ref mp, .int (iI (mo : Int)), .int (iI (fo : Int)), .ref mpl, .ref mdi, .ref mc]))] sz [.ref m0, .int (iI v)]) (wrQi dC dI [(cI, .int)] [(m0, .inr (3, [.int (iI cd), .int (iI (n : Int)), .int (iI (w : Int)), .ref mq, .int (iI (rc : Int)), .ref mn, .ref ml, .int (iI (sc : Int)), .ref ms, .ref mr, .ref mg, .ref mp, .int (iI (mo : Int)), .int (iI (fo : Int)), .ref mpl, .ref mdi, .ref mc]))] sz (S := (Int × Nat)) (fun z u => ((0 ≤ v ∧ v ≤ 15) ∧ u = (0, v.toNat) ∧ z = (w : Int)) ∨ ((v < 0 ∨ 15 < v) ∧ u = (1, w) ∧ z = 0)) (fun u => [(m0, .inr (3, [.int (iI u.1), .int (iI (n : Int)), .int (iI ((u.2 : Nat) : Int)), .ref mq, .int (iI (rc : Int)), .ref mn, .ref ml, .int (iI (sc : Int)), .ref ms, .ref mr, .ref mg, .ref mp, .int (iI (mo : Int)), .int (iI (fo : Int)), .ref mpl, .ref mdi, .ref mc]))])) 0 0 (va_A [(m0, .inr (3, [.int (iI cd), .int (iI (n : Int)), .int (iI (w : Int)), .ref mq, .int (iI (rc : Int)), .ref mn, .ref ml, .int (iI (sc : Int)), .ref ms, .ref mr, .ref mg, .ref mp, .int (iI (mo : Int)), .int (iI (fo : Int)), .ref mpl, .ref mdi, .ref mc]))] sz) := by
  refine Met.ofW (cc := cX3_band) (maxL := 3) (ret := (some .int)) (by decide) rfl ?_
  intro p e s m args below meth c s₁ B hml hv
  obtain ⟨rfl, hsz, hP, hK, hD0⟩ := hv
  have hx := B.exec
  have hb := B.bytes
  have hr := B.returns
  have hts : ∀ w ∈ wsX3_band, w.before _ s = true := atoms_spec (ws := wsX3_band) B.pre
  have hown : s.vm.findClass RX3 = some m.cls := findClass_of_methodNamed B.named
  have hlocks := B.notSynchronized
  subst hsz
  have hD := hD0.self (sz := s.heap.size)
  have hA : ∀ q9 : Nat, s.heap.size ≤ q9 → va_A [(m0, .inr (3, [.int (iI cd), .int (iI (n : Int)), .int (iI (w : Int)), .ref mq, .int (iI (rc : Int)), .ref mn, .ref ml, .int (iI (sc : Int)), .ref ms, .ref mr, .ref mg, .ref mp, .int (iI (mo : Int)), .int (iI (fo : Int)), .ref mpl, .ref mdi, .ref mc]))] s.heap.size q9 := fun q9 h => Or.inr h
  have hS : va_S (va_A [(m0, .inr (3, [.int (iI cd), .int (iI (n : Int)), .int (iI (w : Int)), .ref mq, .int (iI (rc : Int)), .ref mn, .ref ml, .int (iI (sc : Int)), .ref ms, .ref mr, .ref mg, .ref mp, .int (iI (mo : Int)), .int (iI (fo : Int)), .ref mpl, .ref mdi, .ref mc]))] s.heap.size) s.heap s.heap [] := va_S.rf
  generalize hAe : va_A [(m0, .inr (3, [.int (iI cd), .int (iI (n : Int)), .int (iI (w : Int)), .ref mq, .int (iI (rc : Int)), .ref mn, .ref ml, .int (iI (sc : Int)), .ref ms, .ref mr, .ref mg, .ref mp, .int (iI (mo : Int)), .int (iI (fo : Int)), .ref mpl, .ref mdi, .ref mc]))] s.heap.size = A at hD hA hS
  have hP : va_P (dC, dI) vwCl [(m0, .inr (3, [.int (iI cd), .int (iI (n : Int)), .int (iI (w : Int)), .ref mq, .int (iI (rc : Int)), .ref mn, .ref ml, .int (iI (sc : Int)), .ref ms, .ref mr, .ref mg, .ref mp, .int (iI (mo : Int)), .int (iI (fo : Int)), .ref mpl, .ref mdi, .ref mc]))] s.heap := hP
  have hl := lv_entry ([.ref m0, .int (iI v)]) (n := 3) (Nat.le_of_ble_eq_true rfl)
  rw [lg_entry_eq]
  generalize (lg_sl ([.ref m0, .int (iI v)]) ++ List.replicate (3 - (lg_sl ([.ref m0, .int (iI v)])).length) Slot.unset).toArray = ls at hl ⊢
  have hl : lv_has ls 3 [(0, .ref m0), (1, .int (iI v))] := hl
  generalize hargs : ([.ref m0, .int (iI v)] : List Value).toArray = args at hts ⊢
  refine z_intro (fun R Q hR hQ => ?_)
  have hRf : R.frames = 1 := by rw [hR]; rfl
  have hRl : R.locals = 22 := by rw [hR]; rfl
  have hRc : R.cells = 0 := by rw [hR]; rfl
  have hRs : R.slots = 0 := by rw [hR]; rfl
  have in_X3 : ∀ w ∈ u_ws RX3 TX3 17, w ∈ wsX3_band := fun w h => List.mem_cons_of_mem _ (inW_X3 w h)
  have fl_44 := wa_hts hts wd_484
  have fl_61 := wa_hts hts wd_486
  clear hR hargs B
  refine lv_aload_n hx hb dX3_band_0 rfl (lv_at hl 0 rfl) ?_
  refine lv_iload_n hx hb dX3_band_1 rfl (lv_at hl 1 rfl) ?_
  refine lv_iconst (v := iI (0 : Int)) hx hb dX3_band_2 (by decide) ?_
  refine lv_bipush (v := iI (15 : Int)) hx hb dX3_band_3 (by decide) ?_
  refine zr_i (va_runS (As := [.int (iI v), .int (iI (0 : Int)), .int (iI (15 : Int))]) (rest := [.ref m0]) ⟨hx, hb, hml, hown, hts⟩ (c_within l dC dI cI v (0 : Int) (15 : Int) (by omega) (by omega) (by omega)) (cwS 3 hts (ga_S wd_544 wd_545 wd_31 wd_546) rfl rfl rfl (by decide +kernel) ⟨(show 0 + 1 ≤ R.frames by omega), (show 8 + (3 + 11) + 0 ≤ R.locals by omega)⟩) (rd_preS hP hK [] rfl) rfl rfl hl.1 rfl (lv_room (Nat.le_of_ble_eq_true rfl)) dX3_band_5 ⟨by omega, by omega⟩) (fun z5 hz5 => ?_)
  refine z_if_eq (tgt := 15) hx hb dX3_band_8 (by decide) (by omega) (fun h8 => ?_) (fun h8 => ?_)
  · refine lv_iconst (v := iI (1 : Int)) hx hb dX3_band_15 (by decide) ?_
    refine va_put (D := (dC, dI)) (ci := 3) (v := .int (iI (1 : Int))) (ty := .int) (C := RX3) (T := TX3) (N := 17) hx hb hts in_X3 tyX3 tyX3_ok nmX3 hown hK hP hD hS 0 rfl rfl 0 (by decide) fl_44 (fun _ h9 => h9) rfl (by decide +kernel) rfl rfl (Nat.le_of_ble_eq_true rfl) dX3_band_16 (fun H locs hP hD hS => ?_)
    have hP : va_P (dC, dI) vwCl [(m0, .inr (3, [.int (iI (1 : Int)), .int (iI (n : Int)), .int (iI (w : Int)), .ref mq, .int (iI (rc : Int)), .ref mn, .ref ml, .int (iI (sc : Int)), .ref ms, .ref mr, .ref mg, .ref mp, .int (iI (mo : Int)), .int (iI (fo : Int)), .ref mpl, .ref mdi, .ref mc]))] H := hP
    have hD : va_D A [(m0, .inr (3, [.int (iI (1 : Int)), .int (iI (n : Int)), .int (iI (w : Int)), .ref mq, .int (iI (rc : Int)), .ref mn, .ref ml, .int (iI (sc : Int)), .ref ms, .ref mr, .ref mg, .ref mp, .int (iI (mo : Int)), .int (iI (fo : Int)), .ref mpl, .ref mdi, .ref mc]))] := hD
    refine lv_aload_n hx hb dX3_band_19 rfl (lv_at hl 0 rfl) ?_
    refine va_get (D := (dC, dI)) (ci := 3) (v := .int (iI (1 : Int))) (C := RX3) (T := TX3) (N := 17) hx hb hts in_X3 hown hK hP 0 rfl rfl 0 (by decide) fl_44 (fun _ h9 => h9) rfl dX3_band_20 ?_
    refine z_if_le (tgt := 28) hx hb dX3_band_23 (by decide) (by decide) (fun h9 => absurd h9 (by decide)) (fun _ => ?_)
    refine lv_iconst (v := iI (0 : Int)) hx hb dX3_band_26 (by decide) ?_
    subst hAe
    exact zw_reti (z := (0 : Int)) ((1, w)) hx hb hr hlocks hQ (Or.inr ⟨by omega, rfl, rfl⟩) hP hK hD hS dX3_band_27
  · refine lv_iconst (v := iI (0 : Int)) hx hb dX3_band_11 (by decide) ?_
    refine lv_goto (tgt := 16) hx hb dX3_band_12 (by decide) ?_
    refine va_put (D := (dC, dI)) (ci := 3) (v := .int (iI (0 : Int))) (ty := .int) (C := RX3) (T := TX3) (N := 17) hx hb hts in_X3 tyX3 tyX3_ok nmX3 hown hK hP hD hS 0 rfl rfl 0 (by decide) fl_44 (fun _ h9 => h9) rfl (by decide +kernel) rfl rfl (Nat.le_of_ble_eq_true rfl) dX3_band_16 (fun H locs hP hD hS => ?_)
    have hP : va_P (dC, dI) vwCl [(m0, .inr (3, [.int (iI (0 : Int)), .int (iI (n : Int)), .int (iI (w : Int)), .ref mq, .int (iI (rc : Int)), .ref mn, .ref ml, .int (iI (sc : Int)), .ref ms, .ref mr, .ref mg, .ref mp, .int (iI (mo : Int)), .int (iI (fo : Int)), .ref mpl, .ref mdi, .ref mc]))] H := hP
    have hD : va_D A [(m0, .inr (3, [.int (iI (0 : Int)), .int (iI (n : Int)), .int (iI (w : Int)), .ref mq, .int (iI (rc : Int)), .ref mn, .ref ml, .int (iI (sc : Int)), .ref ms, .ref mr, .ref mg, .ref mp, .int (iI (mo : Int)), .int (iI (fo : Int)), .ref mpl, .ref mdi, .ref mc]))] := hD
    refine lv_aload_n hx hb dX3_band_19 rfl (lv_at hl 0 rfl) ?_
    refine va_get (D := (dC, dI)) (ci := 3) (v := .int (iI (0 : Int))) (C := RX3) (T := TX3) (N := 17) hx hb hts in_X3 hown hK hP 0 rfl rfl 0 (by decide) fl_44 (fun _ h9 => h9) rfl dX3_band_20 ?_
    refine z_if_le (tgt := 28) hx hb dX3_band_23 (by decide) (by decide) (fun _ => ?_) (fun h9 => absurd h9 (by decide))
    refine lv_aload_n hx hb dX3_band_28 rfl (lv_at hl 0 rfl) ?_
    refine va_get (D := (dC, dI)) (ci := 3) (v := .int (iI (w : Int))) (C := RX3) (T := TX3) (N := 17) hx hb hts in_X3 hown hK hP 0 rfl rfl 2 (by decide) fl_61 (fun _ h9 => h9) rfl dX3_band_29 ?_
    refine lv_istore_n (lv' := [(2, .int (iI (w : Int))), (0, .ref m0), (1, .int (iI v))]) hx hb dX3_band_32 rfl hl (by decide) rfl (fun ls hl => ?_)
    refine lv_aload_n hx hb dX3_band_33 rfl (lv_at hl 1 rfl) ?_
    refine lv_iload_n hx hb dX3_band_34 rfl (lv_at hl 2 rfl) ?_
    refine z_top (b := ((v.toNat : Nat) : Int)) (by omega) ?_
    refine va_put (D := (dC, dI)) (ci := 3) (v := .int (iI ((v.toNat : Nat) : Int))) (ty := .int) (C := RX3) (T := TX3) (N := 17) hx hb hts in_X3 tyX3 tyX3_ok nmX3 hown hK hP hD hS 0 rfl rfl 2 (by decide) fl_61 (fun _ h9 => h9) rfl (by decide +kernel) rfl rfl (Nat.le_of_ble_eq_true rfl) dX3_band_35 (fun H locs hP hD hS => ?_)
    have hP : va_P (dC, dI) vwCl [(m0, .inr (3, [.int (iI (0 : Int)), .int (iI (n : Int)), .int (iI ((v.toNat : Nat) : Int)), .ref mq, .int (iI (rc : Int)), .ref mn, .ref ml, .int (iI (sc : Int)), .ref ms, .ref mr, .ref mg, .ref mp, .int (iI (mo : Int)), .int (iI (fo : Int)), .ref mpl, .ref mdi, .ref mc]))] H := hP
    have hD : va_D A [(m0, .inr (3, [.int (iI (0 : Int)), .int (iI (n : Int)), .int (iI ((v.toNat : Nat) : Int)), .ref mq, .int (iI (rc : Int)), .ref mn, .ref ml, .int (iI (sc : Int)), .ref ms, .ref mr, .ref mg, .ref mp, .int (iI (mo : Int)), .int (iI (fo : Int)), .ref mpl, .ref mdi, .ref mc]))] := hD
    refine lv_iload_n hx hb dX3_band_38 rfl (lv_at hl 0 rfl) ?_
    subst hAe
    exact zw_reti (z := (w : Int)) ((0, v.toNat)) hx hb hr hlocks hQ (Or.inl ⟨by omega, rfl, rfl⟩) hP hK hD hS dX3_band_39
