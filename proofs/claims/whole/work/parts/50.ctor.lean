set_option maxRecDepth 100000 in
set_option maxHeartbeats 4000000 in
theorem c_initC (l : Launch) (dC : Nat → ClassId) (dI : Nat → Nat → Nat) (cI : ClassId) (h0 : Nat) (sz : Nat)  : Met l yX0_init wsX0_init ({ frames := 1, cells := 4, slots := 319, locals := 20 }) (wrP dC dI [(cI, .int)] [(h0, .inr (0, [.null, .null, .null, .null, .int (iI (0 : Int)), .int (iI (0 : Int)), .int (iI (0 : Int))]))] sz [.ref h0]) (wrQv dC dI [(cI, .int)] [(h0, .inr (0, [.null, .null, .null, .null, .int (iI (0 : Int)), .int (iI (0 : Int)), .int (iI (0 : Int))]))] sz (S := (Nat × Nat × Nat × Nat)) (fun _ => True) (fun u => [(h0, .inr (0, [.ref u.1, .ref u.2.1, .ref u.2.2.1, .ref u.2.2.2, .int (iI (31 : Int)), .int (iI (2 : Int)), .int (iI (0 : Int))])), (u.1, .inl (cI, 16, .inl (iA zZ))), (u.2.1, .inl (cI, 16, .inl (iA zZ))), (u.2.2.1, .inl (cI, 256, .inl (iA zZ))), (u.2.2.2, .inl (cI, 31, .inl (iA zZ)))])) 4 319 (va_A [(h0, .inr (0, [.null, .null, .null, .null, .int (iI (0 : Int)), .int (iI (0 : Int)), .int (iI (0 : Int))]))] sz) := by
  refine Met.ofW (cc := cX0_init) (maxL := 1) (ret := none) (by decide) rfl ?_
  intro p e s m args below meth c s₁ B hml hv
  obtain ⟨rfl, hsz, hP, hK, hD0⟩ := hv
  have hx := B.exec
  have hb := B.bytes
  have hr := B.returns
  have hts : ∀ w ∈ wsX0_init, w.before _ s = true := atoms_spec (ws := wsX0_init) B.pre
  have hown : s.vm.findClass RX0 = some m.cls := findClass_of_methodNamed B.named
  have hlocks := B.notSynchronized
  have hin : meth.name = "<init>" := (name_of_methodNamed B.named B.method).1
  subst hsz
  have hD := hD0.self (sz := s.heap.size)
  have hA : ∀ q9 : Nat, s.heap.size ≤ q9 → va_A [(h0, .inr (0, [.null, .null, .null, .null, .int (iI (0 : Int)), .int (iI (0 : Int)), .int (iI (0 : Int))]))] s.heap.size q9 := fun q9 h => Or.inr h
  have hS : va_S (va_A [(h0, .inr (0, [.null, .null, .null, .null, .int (iI (0 : Int)), .int (iI (0 : Int)), .int (iI (0 : Int))]))] s.heap.size) s.heap s.heap [] := va_S.rf
  generalize hAe : va_A [(h0, .inr (0, [.null, .null, .null, .null, .int (iI (0 : Int)), .int (iI (0 : Int)), .int (iI (0 : Int))]))] s.heap.size = A at hD hA hS
  have hP : va_P (dC, dI) vwCl [(h0, .inr (0, [.null, .null, .null, .null, .int (iI (0 : Int)), .int (iI (0 : Int)), .int (iI (0 : Int))]))] s.heap := hP
  have hl := lv_entry ([.ref h0]) (n := 1) (Nat.le_of_ble_eq_true rfl)
  rw [lg_entry_eq]
  generalize (lg_sl ([.ref h0]) ++ List.replicate (1 - (lg_sl ([.ref h0])).length) Slot.unset).toArray = ls at hl ⊢
  have hl : lv_has ls 1 [(0, .ref h0)] := hl
  generalize hargs : ([.ref h0] : List Value).toArray = args at hts ⊢
  refine z_intro (fun R Q hR hQ => ?_)
  have hRf : R.frames = 1 := by rw [hR]; rfl
  have hRl : R.locals = 20 := by rw [hR]; rfl
  have hRc : R.cells = 4 := by rw [hR]; rfl
  have hRs : R.slots = 319 := by rw [hR]; rfl
  have in_X0 : ∀ w ∈ u_ws RX0 TX0 7, w ∈ wsX0_init := fun w h => List.mem_cons_of_mem _ (inW_X0 w h)
  have fl_9 := wa_hts hts wd_55
  have fl_15 := wa_hts hts wd_56
  have fl_18 := wa_hts hts wd_57
  have fl_21 := wa_hts hts wd_58
  have fl_24 := wa_hts hts wd_59
  have fl_28 := wa_hts hts wd_60
  have fl_31 := wa_hts hts wd_61
  clear hR hargs B
  refine lv_aload_n hx hb dX0_init_0 rfl (lv_at hl 0 rfl) ?_
  refine W.objInit hx hb hown (wa_hts hts wd_54) (wa_hts hts wd_47) (wa_hts hts wd_48) rfl (hl.1.trans hml.symm) rfl dX0_init_1 (by omega) (by show 2 * 0 + 0 + 12 ≤ R.locals; omega) ?_
  refine W.eq (g2 := F0 m 4 ls []) rfl ?_
  refine lv_aload_n hx hb dX0_init_4 rfl (lv_at hl 0 rfl) ?_
  refine lv_bipush (v := iI (16 : Int)) hx hb dX0_init_5 (by decide) ?_
  refine z_newa (t0 := 0) hx hb (wa_hts hts wd_77) hK rfl hP hD hS hA 16 rfl (by omega) (by omega) (by omega) dX0_init_7 (fun q7 H hP hD hS => ?_)
  have hP : va_P (dC, dI) vwCl [(h0, .inr (0, [.null, .null, .null, .null, .int (iI (0 : Int)), .int (iI (0 : Int)), .int (iI (0 : Int))])), (q7, .inl (cI, 16, .inl (iA zZ)))] H := hP
  have hD : va_D A [(h0, .inr (0, [.null, .null, .null, .null, .int (iI (0 : Int)), .int (iI (0 : Int)), .int (iI (0 : Int))])), (q7, .inl (cI, 16, .inl (iA zZ)))] := hD
  refine va_putF (D := (dC, dI)) (ci := 0) (v := .ref q7) (ty := (.array .int)) (C := RX0) (T := TX0) (N := 7) hx hb hts in_X0 tyX0 tyX0_ok nmX0 hown hK hP hD hS 0 rfl rfl 0 (by decide) fl_9 (fun _ h9 => h9) rfl hin rfl (by decide +kernel) rfl rfl (Nat.le_of_ble_eq_true rfl) dX0_init_9 (fun H locs hP hD hS => ?_)
  have hP : va_P (dC, dI) vwCl [(h0, .inr (0, [.ref q7, .null, .null, .null, .int (iI (0 : Int)), .int (iI (0 : Int)), .int (iI (0 : Int))])), (q7, .inl (cI, 16, .inl (iA zZ)))] H := hP
  have hD : va_D A [(h0, .inr (0, [.ref q7, .null, .null, .null, .int (iI (0 : Int)), .int (iI (0 : Int)), .int (iI (0 : Int))])), (q7, .inl (cI, 16, .inl (iA zZ)))] := hD
  refine lv_aload_n hx hb dX0_init_12 rfl (lv_at hl 0 rfl) ?_
  refine lv_bipush (v := iI (16 : Int)) hx hb dX0_init_13 (by decide) ?_
  refine z_newa (t0 := 0) hx hb (wa_hts hts wd_77) hK rfl hP hD hS hA 16 rfl (by omega) (by omega) (by omega) dX0_init_15 (fun q15 H hP hD hS => ?_)
  have hP : va_P (dC, dI) vwCl [(h0, .inr (0, [.ref q7, .null, .null, .null, .int (iI (0 : Int)), .int (iI (0 : Int)), .int (iI (0 : Int))])), (q7, .inl (cI, 16, .inl (iA zZ))), (q15, .inl (cI, 16, .inl (iA zZ)))] H := hP
  have hD : va_D A [(h0, .inr (0, [.ref q7, .null, .null, .null, .int (iI (0 : Int)), .int (iI (0 : Int)), .int (iI (0 : Int))])), (q7, .inl (cI, 16, .inl (iA zZ))), (q15, .inl (cI, 16, .inl (iA zZ)))] := hD
  refine va_putF (D := (dC, dI)) (ci := 0) (v := .ref q15) (ty := (.array .int)) (C := RX0) (T := TX0) (N := 7) hx hb hts in_X0 tyX0 tyX0_ok nmX0 hown hK hP hD hS 0 rfl rfl 1 (by decide) fl_15 (fun _ h9 => h9) rfl hin rfl (by decide +kernel) rfl rfl (Nat.le_of_ble_eq_true rfl) dX0_init_17 (fun H locs hP hD hS => ?_)
  have hP : va_P (dC, dI) vwCl [(h0, .inr (0, [.ref q7, .ref q15, .null, .null, .int (iI (0 : Int)), .int (iI (0 : Int)), .int (iI (0 : Int))])), (q7, .inl (cI, 16, .inl (iA zZ))), (q15, .inl (cI, 16, .inl (iA zZ)))] H := hP
  have hD : va_D A [(h0, .inr (0, [.ref q7, .ref q15, .null, .null, .int (iI (0 : Int)), .int (iI (0 : Int)), .int (iI (0 : Int))])), (q7, .inl (cI, 16, .inl (iA zZ))), (q15, .inl (cI, 16, .inl (iA zZ)))] := hD
  refine lv_aload_n hx hb dX0_init_20 rfl (lv_at hl 0 rfl) ?_
  refine lv_sipush (v := iI (256 : Int)) hx hb dX0_init_21 (by decide) ?_
  refine z_newa (t0 := 0) hx hb (wa_hts hts wd_77) hK rfl hP hD hS hA 256 rfl (by omega) (by omega) (by omega) dX0_init_24 (fun q24 H hP hD hS => ?_)
  have hP : va_P (dC, dI) vwCl [(h0, .inr (0, [.ref q7, .ref q15, .null, .null, .int (iI (0 : Int)), .int (iI (0 : Int)), .int (iI (0 : Int))])), (q7, .inl (cI, 16, .inl (iA zZ))), (q15, .inl (cI, 16, .inl (iA zZ))), (q24, .inl (cI, 256, .inl (iA zZ)))] H := hP
  have hD : va_D A [(h0, .inr (0, [.ref q7, .ref q15, .null, .null, .int (iI (0 : Int)), .int (iI (0 : Int)), .int (iI (0 : Int))])), (q7, .inl (cI, 16, .inl (iA zZ))), (q15, .inl (cI, 16, .inl (iA zZ))), (q24, .inl (cI, 256, .inl (iA zZ)))] := hD
  refine va_putF (D := (dC, dI)) (ci := 0) (v := .ref q24) (ty := (.array .int)) (C := RX0) (T := TX0) (N := 7) hx hb hts in_X0 tyX0 tyX0_ok nmX0 hown hK hP hD hS 0 rfl rfl 2 (by decide) fl_18 (fun _ h9 => h9) rfl hin rfl (by decide +kernel) rfl rfl (Nat.le_of_ble_eq_true rfl) dX0_init_26 (fun H locs hP hD hS => ?_)
  have hP : va_P (dC, dI) vwCl [(h0, .inr (0, [.ref q7, .ref q15, .ref q24, .null, .int (iI (0 : Int)), .int (iI (0 : Int)), .int (iI (0 : Int))])), (q7, .inl (cI, 16, .inl (iA zZ))), (q15, .inl (cI, 16, .inl (iA zZ))), (q24, .inl (cI, 256, .inl (iA zZ)))] H := hP
  have hD : va_D A [(h0, .inr (0, [.ref q7, .ref q15, .ref q24, .null, .int (iI (0 : Int)), .int (iI (0 : Int)), .int (iI (0 : Int))])), (q7, .inl (cI, 16, .inl (iA zZ))), (q15, .inl (cI, 16, .inl (iA zZ))), (q24, .inl (cI, 256, .inl (iA zZ)))] := hD
  refine lv_aload_n hx hb dX0_init_29 rfl (lv_at hl 0 rfl) ?_
  refine lv_bipush (v := iI (31 : Int)) hx hb dX0_init_30 (by decide) ?_
  refine z_newa (t0 := 0) hx hb (wa_hts hts wd_77) hK rfl hP hD hS hA 31 rfl (by omega) (by omega) (by omega) dX0_init_32 (fun q32 H hP hD hS => ?_)
  have hP : va_P (dC, dI) vwCl [(h0, .inr (0, [.ref q7, .ref q15, .ref q24, .null, .int (iI (0 : Int)), .int (iI (0 : Int)), .int (iI (0 : Int))])), (q7, .inl (cI, 16, .inl (iA zZ))), (q15, .inl (cI, 16, .inl (iA zZ))), (q24, .inl (cI, 256, .inl (iA zZ))), (q32, .inl (cI, 31, .inl (iA zZ)))] H := hP
  have hD : va_D A [(h0, .inr (0, [.ref q7, .ref q15, .ref q24, .null, .int (iI (0 : Int)), .int (iI (0 : Int)), .int (iI (0 : Int))])), (q7, .inl (cI, 16, .inl (iA zZ))), (q15, .inl (cI, 16, .inl (iA zZ))), (q24, .inl (cI, 256, .inl (iA zZ))), (q32, .inl (cI, 31, .inl (iA zZ)))] := hD
  refine va_putF (D := (dC, dI)) (ci := 0) (v := .ref q32) (ty := (.array .int)) (C := RX0) (T := TX0) (N := 7) hx hb hts in_X0 tyX0 tyX0_ok nmX0 hown hK hP hD hS 0 rfl rfl 3 (by decide) fl_21 (fun _ h9 => h9) rfl hin rfl (by decide +kernel) rfl rfl (Nat.le_of_ble_eq_true rfl) dX0_init_34 (fun H locs hP hD hS => ?_)
  have hP : va_P (dC, dI) vwCl [(h0, .inr (0, [.ref q7, .ref q15, .ref q24, .ref q32, .int (iI (0 : Int)), .int (iI (0 : Int)), .int (iI (0 : Int))])), (q7, .inl (cI, 16, .inl (iA zZ))), (q15, .inl (cI, 16, .inl (iA zZ))), (q24, .inl (cI, 256, .inl (iA zZ))), (q32, .inl (cI, 31, .inl (iA zZ)))] H := hP
  have hD : va_D A [(h0, .inr (0, [.ref q7, .ref q15, .ref q24, .ref q32, .int (iI (0 : Int)), .int (iI (0 : Int)), .int (iI (0 : Int))])), (q7, .inl (cI, 16, .inl (iA zZ))), (q15, .inl (cI, 16, .inl (iA zZ))), (q24, .inl (cI, 256, .inl (iA zZ))), (q32, .inl (cI, 31, .inl (iA zZ)))] := hD
  refine lv_aload_n hx hb dX0_init_37 rfl (lv_at hl 0 rfl) ?_
  refine lv_bipush (v := iI (31 : Int)) hx hb dX0_init_38 (by decide) ?_
  refine va_put (D := (dC, dI)) (ci := 0) (v := .int (iI (31 : Int))) (ty := .int) (C := RX0) (T := TX0) (N := 7) hx hb hts in_X0 tyX0 tyX0_ok nmX0 hown hK hP hD hS 0 rfl rfl 4 (by decide) fl_24 (fun _ h9 => h9) rfl (by decide +kernel) rfl rfl (Nat.le_of_ble_eq_true rfl) dX0_init_40 (fun H locs hP hD hS => ?_)
  have hP : va_P (dC, dI) vwCl [(h0, .inr (0, [.ref q7, .ref q15, .ref q24, .ref q32, .int (iI (31 : Int)), .int (iI (0 : Int)), .int (iI (0 : Int))])), (q7, .inl (cI, 16, .inl (iA zZ))), (q15, .inl (cI, 16, .inl (iA zZ))), (q24, .inl (cI, 256, .inl (iA zZ))), (q32, .inl (cI, 31, .inl (iA zZ)))] H := hP
  have hD : va_D A [(h0, .inr (0, [.ref q7, .ref q15, .ref q24, .ref q32, .int (iI (31 : Int)), .int (iI (0 : Int)), .int (iI (0 : Int))])), (q7, .inl (cI, 16, .inl (iA zZ))), (q15, .inl (cI, 16, .inl (iA zZ))), (q24, .inl (cI, 256, .inl (iA zZ))), (q32, .inl (cI, 31, .inl (iA zZ)))] := hD
  refine lv_aload_n hx hb dX0_init_43 rfl (lv_at hl 0 rfl) ?_
  refine lv_iconst (v := iI (2 : Int)) hx hb dX0_init_44 (by decide) ?_
  refine va_put (D := (dC, dI)) (ci := 0) (v := .int (iI (2 : Int))) (ty := .int) (C := RX0) (T := TX0) (N := 7) hx hb hts in_X0 tyX0 tyX0_ok nmX0 hown hK hP hD hS 0 rfl rfl 5 (by decide) fl_28 (fun _ h9 => h9) rfl (by decide +kernel) rfl rfl (Nat.le_of_ble_eq_true rfl) dX0_init_45 (fun H locs hP hD hS => ?_)
  have hP : va_P (dC, dI) vwCl [(h0, .inr (0, [.ref q7, .ref q15, .ref q24, .ref q32, .int (iI (31 : Int)), .int (iI (2 : Int)), .int (iI (0 : Int))])), (q7, .inl (cI, 16, .inl (iA zZ))), (q15, .inl (cI, 16, .inl (iA zZ))), (q24, .inl (cI, 256, .inl (iA zZ))), (q32, .inl (cI, 31, .inl (iA zZ)))] H := hP
  have hD : va_D A [(h0, .inr (0, [.ref q7, .ref q15, .ref q24, .ref q32, .int (iI (31 : Int)), .int (iI (2 : Int)), .int (iI (0 : Int))])), (q7, .inl (cI, 16, .inl (iA zZ))), (q15, .inl (cI, 16, .inl (iA zZ))), (q24, .inl (cI, 256, .inl (iA zZ))), (q32, .inl (cI, 31, .inl (iA zZ)))] := hD
  refine lv_aload_n hx hb dX0_init_48 rfl (lv_at hl 0 rfl) ?_
  refine lv_iconst (v := iI (0 : Int)) hx hb dX0_init_49 (by decide) ?_
  refine va_put (D := (dC, dI)) (ci := 0) (v := .int (iI (0 : Int))) (ty := .int) (C := RX0) (T := TX0) (N := 7) hx hb hts in_X0 tyX0 tyX0_ok nmX0 hown hK hP hD hS 0 rfl rfl 6 (by decide) fl_31 (fun _ h9 => h9) rfl (by decide +kernel) rfl rfl (Nat.le_of_ble_eq_true rfl) dX0_init_50 (fun H locs hP hD hS => ?_)
  have hP : va_P (dC, dI) vwCl [(h0, .inr (0, [.ref q7, .ref q15, .ref q24, .ref q32, .int (iI (31 : Int)), .int (iI (2 : Int)), .int (iI (0 : Int))])), (q7, .inl (cI, 16, .inl (iA zZ))), (q15, .inl (cI, 16, .inl (iA zZ))), (q24, .inl (cI, 256, .inl (iA zZ))), (q32, .inl (cI, 31, .inl (iA zZ)))] H := hP
  have hD : va_D A [(h0, .inr (0, [.ref q7, .ref q15, .ref q24, .ref q32, .int (iI (31 : Int)), .int (iI (2 : Int)), .int (iI (0 : Int))])), (q7, .inl (cI, 16, .inl (iA zZ))), (q15, .inl (cI, 16, .inl (iA zZ))), (q24, .inl (cI, 256, .inl (iA zZ))), (q32, .inl (cI, 31, .inl (iA zZ)))] := hD
  subst hAe
  exact zw_retv ((q7, q15, q24, q32)) hx hb hr hlocks hQ (trivial) hP hK hD hS dX0_init_53
set_option maxRecDepth 100000 in
set_option maxHeartbeats 4000000 in
theorem c_initN (l : Launch) (dC : Nat → ClassId) (dI : Nat → Nat → Nat) (cI : ClassId) (hn0 : Nat) (sz : Nat)  : Met l yX1_init wsX1_init ({ frames := 1, cells := 2, slots := 24, locals := 20 }) (wrP dC dI [(cI, .int)] [(hn0, .inr (1, [.null, .null, .int (iI (0 : Int)), .int (iI (0 : Int))]))] sz [.ref hn0]) (wrQv dC dI [(cI, .int)] [(hn0, .inr (1, [.null, .null, .int (iI (0 : Int)), .int (iI (0 : Int))]))] sz (S := (Nat × Nat)) (fun _ => True) (fun u => [(hn0, .inr (1, [.ref u.1, .ref u.2, .int (iI (0 : Int)), .int (iI (1 : Int))])), (u.1, .inl (cI, 12, .inl (iA zZ))), (u.2, .inl (cI, 12, .inl (iA zZ)))])) 2 24 (va_A [(hn0, .inr (1, [.null, .null, .int (iI (0 : Int)), .int (iI (0 : Int))]))] sz) := by
  refine Met.ofW (cc := cX1_init) (maxL := 1) (ret := none) (by decide) rfl ?_
  intro p e s m args below meth c s₁ B hml hv
  obtain ⟨rfl, hsz, hP, hK, hD0⟩ := hv
  have hx := B.exec
  have hb := B.bytes
  have hr := B.returns
  have hts : ∀ w ∈ wsX1_init, w.before _ s = true := atoms_spec (ws := wsX1_init) B.pre
  have hown : s.vm.findClass RX1 = some m.cls := findClass_of_methodNamed B.named
  have hlocks := B.notSynchronized
  have hin : meth.name = "<init>" := (name_of_methodNamed B.named B.method).1
  subst hsz
  have hD := hD0.self (sz := s.heap.size)
  have hA : ∀ q9 : Nat, s.heap.size ≤ q9 → va_A [(hn0, .inr (1, [.null, .null, .int (iI (0 : Int)), .int (iI (0 : Int))]))] s.heap.size q9 := fun q9 h => Or.inr h
  have hS : va_S (va_A [(hn0, .inr (1, [.null, .null, .int (iI (0 : Int)), .int (iI (0 : Int))]))] s.heap.size) s.heap s.heap [] := va_S.rf
  generalize hAe : va_A [(hn0, .inr (1, [.null, .null, .int (iI (0 : Int)), .int (iI (0 : Int))]))] s.heap.size = A at hD hA hS
  have hP : va_P (dC, dI) vwCl [(hn0, .inr (1, [.null, .null, .int (iI (0 : Int)), .int (iI (0 : Int))]))] s.heap := hP
  have hl := lv_entry ([.ref hn0]) (n := 1) (Nat.le_of_ble_eq_true rfl)
  rw [lg_entry_eq]
  generalize (lg_sl ([.ref hn0]) ++ List.replicate (1 - (lg_sl ([.ref hn0])).length) Slot.unset).toArray = ls at hl ⊢
  have hl : lv_has ls 1 [(0, .ref hn0)] := hl
  generalize hargs : ([.ref hn0] : List Value).toArray = args at hts ⊢
  refine z_intro (fun R Q hR hQ => ?_)
  have hRf : R.frames = 1 := by rw [hR]; rfl
  have hRl : R.locals = 20 := by rw [hR]; rfl
  have hRc : R.cells = 2 := by rw [hR]; rfl
  have hRs : R.slots = 24 := by rw [hR]; rfl
  have in_X1 : ∀ w ∈ u_ws RX1 TX1 4, w ∈ wsX1_init := fun w h => List.mem_cons_of_mem _ (inW_X1 w h)
  have fl_9 := wa_hts hts wd_84
  have fl_15 := wa_hts hts wd_86
  have fl_18 := wa_hts hts wd_88
  have fl_22 := wa_hts hts wd_90
  clear hR hargs B
  refine lv_aload_n hx hb dX1_init_0 rfl (lv_at hl 0 rfl) ?_
  refine W.objInit hx hb hown (wa_hts hts wd_83) (wa_hts hts wd_47) (wa_hts hts wd_48) rfl (hl.1.trans hml.symm) rfl dX1_init_1 (by omega) (by show 2 * 0 + 0 + 12 ≤ R.locals; omega) ?_
  refine W.eq (g2 := F0 m 4 ls []) rfl ?_
  refine lv_aload_n hx hb dX1_init_4 rfl (lv_at hl 0 rfl) ?_
  refine lv_bipush (v := iI (12 : Int)) hx hb dX1_init_5 (by decide) ?_
  refine z_newa (t0 := 0) hx hb (wa_hts hts wd_77) hK rfl hP hD hS hA 12 rfl (by omega) (by omega) (by omega) dX1_init_7 (fun q7 H hP hD hS => ?_)
  have hP : va_P (dC, dI) vwCl [(hn0, .inr (1, [.null, .null, .int (iI (0 : Int)), .int (iI (0 : Int))])), (q7, .inl (cI, 12, .inl (iA zZ)))] H := hP
  have hD : va_D A [(hn0, .inr (1, [.null, .null, .int (iI (0 : Int)), .int (iI (0 : Int))])), (q7, .inl (cI, 12, .inl (iA zZ)))] := hD
  refine va_putF (D := (dC, dI)) (ci := 1) (v := .ref q7) (ty := (.array .int)) (C := RX1) (T := TX1) (N := 4) hx hb hts in_X1 tyX1 tyX1_ok nmX1 hown hK hP hD hS 0 rfl rfl 0 (by decide) fl_9 (fun _ h9 => h9) rfl hin rfl (by decide +kernel) rfl rfl (Nat.le_of_ble_eq_true rfl) dX1_init_9 (fun H locs hP hD hS => ?_)
  have hP : va_P (dC, dI) vwCl [(hn0, .inr (1, [.ref q7, .null, .int (iI (0 : Int)), .int (iI (0 : Int))])), (q7, .inl (cI, 12, .inl (iA zZ)))] H := hP
  have hD : va_D A [(hn0, .inr (1, [.ref q7, .null, .int (iI (0 : Int)), .int (iI (0 : Int))])), (q7, .inl (cI, 12, .inl (iA zZ)))] := hD
  refine lv_aload_n hx hb dX1_init_12 rfl (lv_at hl 0 rfl) ?_
  refine lv_bipush (v := iI (12 : Int)) hx hb dX1_init_13 (by decide) ?_
  refine z_newa (t0 := 0) hx hb (wa_hts hts wd_77) hK rfl hP hD hS hA 12 rfl (by omega) (by omega) (by omega) dX1_init_15 (fun q15 H hP hD hS => ?_)
  have hP : va_P (dC, dI) vwCl [(hn0, .inr (1, [.ref q7, .null, .int (iI (0 : Int)), .int (iI (0 : Int))])), (q7, .inl (cI, 12, .inl (iA zZ))), (q15, .inl (cI, 12, .inl (iA zZ)))] H := hP
  have hD : va_D A [(hn0, .inr (1, [.ref q7, .null, .int (iI (0 : Int)), .int (iI (0 : Int))])), (q7, .inl (cI, 12, .inl (iA zZ))), (q15, .inl (cI, 12, .inl (iA zZ)))] := hD
  refine va_putF (D := (dC, dI)) (ci := 1) (v := .ref q15) (ty := (.array .int)) (C := RX1) (T := TX1) (N := 4) hx hb hts in_X1 tyX1 tyX1_ok nmX1 hown hK hP hD hS 0 rfl rfl 1 (by decide) fl_15 (fun _ h9 => h9) rfl hin rfl (by decide +kernel) rfl rfl (Nat.le_of_ble_eq_true rfl) dX1_init_17 (fun H locs hP hD hS => ?_)
  have hP : va_P (dC, dI) vwCl [(hn0, .inr (1, [.ref q7, .ref q15, .int (iI (0 : Int)), .int (iI (0 : Int))])), (q7, .inl (cI, 12, .inl (iA zZ))), (q15, .inl (cI, 12, .inl (iA zZ)))] H := hP
  have hD : va_D A [(hn0, .inr (1, [.ref q7, .ref q15, .int (iI (0 : Int)), .int (iI (0 : Int))])), (q7, .inl (cI, 12, .inl (iA zZ))), (q15, .inl (cI, 12, .inl (iA zZ)))] := hD
  refine lv_aload_n hx hb dX1_init_20 rfl (lv_at hl 0 rfl) ?_
  refine lv_iconst (v := iI (0 : Int)) hx hb dX1_init_21 (by decide) ?_
  refine va_put (D := (dC, dI)) (ci := 1) (v := .int (iI (0 : Int))) (ty := .int) (C := RX1) (T := TX1) (N := 4) hx hb hts in_X1 tyX1 tyX1_ok nmX1 hown hK hP hD hS 0 rfl rfl 2 (by decide) fl_18 (fun _ h9 => h9) rfl (by decide +kernel) rfl rfl (Nat.le_of_ble_eq_true rfl) dX1_init_22 (fun H locs hP hD hS => ?_)
  have hP : va_P (dC, dI) vwCl [(hn0, .inr (1, [.ref q7, .ref q15, .int (iI (0 : Int)), .int (iI (0 : Int))])), (q7, .inl (cI, 12, .inl (iA zZ))), (q15, .inl (cI, 12, .inl (iA zZ)))] H := hP
  have hD : va_D A [(hn0, .inr (1, [.ref q7, .ref q15, .int (iI (0 : Int)), .int (iI (0 : Int))])), (q7, .inl (cI, 12, .inl (iA zZ))), (q15, .inl (cI, 12, .inl (iA zZ)))] := hD
  refine lv_aload_n hx hb dX1_init_25 rfl (lv_at hl 0 rfl) ?_
  refine lv_iconst (v := iI (1 : Int)) hx hb dX1_init_26 (by decide) ?_
  refine va_put (D := (dC, dI)) (ci := 1) (v := .int (iI (1 : Int))) (ty := .int) (C := RX1) (T := TX1) (N := 4) hx hb hts in_X1 tyX1 tyX1_ok nmX1 hown hK hP hD hS 0 rfl rfl 3 (by decide) fl_22 (fun _ h9 => h9) rfl (by decide +kernel) rfl rfl (Nat.le_of_ble_eq_true rfl) dX1_init_27 (fun H locs hP hD hS => ?_)
  have hP : va_P (dC, dI) vwCl [(hn0, .inr (1, [.ref q7, .ref q15, .int (iI (0 : Int)), .int (iI (1 : Int))])), (q7, .inl (cI, 12, .inl (iA zZ))), (q15, .inl (cI, 12, .inl (iA zZ)))] H := hP
  have hD : va_D A [(hn0, .inr (1, [.ref q7, .ref q15, .int (iI (0 : Int)), .int (iI (1 : Int))])), (q7, .inl (cI, 12, .inl (iA zZ))), (q15, .inl (cI, 12, .inl (iA zZ)))] := hD
  subst hAe
  exact zw_retv ((q7, q15)) hx hb hr hlocks hQ (trivial) hP hK hD hS dX1_init_30
set_option maxRecDepth 100000 in
set_option maxHeartbeats 4000000 in
theorem c_initX (l : Launch) (dC : Nat → ClassId) (dI : Nat → Nat → Nat) (cI : ClassId) (x0 : Nat) (sz : Nat)  : Met l yX2_init wsX2_init ({ frames := 2, cells := 13, slots := 643, locals := 40 }) (wmP dC dI [(cI, .int)] [(x0, .inr (2, [.int (iI (0 : Int)), .int (iI (0 : Int)), .null, .null, .null, .int (iI (0 : Int)), .null, .int (iI (0 : Int)), .null, .null, .null]))] sz [.ref x0]) (wrQv dC dI [(cI, .int)] [(x0, .inr (2, [.int (iI (0 : Int)), .int (iI (0 : Int)), .null, .null, .null, .int (iI (0 : Int)), .null, .int (iI (0 : Int)), .null, .null, .null]))] sz (S := (Nat × Nat × Nat × Nat × Nat × (Nat × Nat × Nat × Nat) × Nat × (Nat × Nat) × Nat)) (fun _ => True) (fun u => [(x0, .inr (2, [.int (iI (2 : Int)), .int (iI (0 : Int)), .ref u.1, .ref u.2.1, .ref u.2.2.1, .int (iI (0 : Int)), .ref u.2.2.2.1, .int (iI (0 : Int)), .ref u.2.2.2.2.1, .ref u.2.2.2.2.2.2.1, .ref u.2.2.2.2.2.2.2.2])), (u.1, .inl (cI, 16, .inl (iA zZ))), (u.2.1, .inl (cI, 192, .inl (iA zZ))), (u.2.2.1, .inl (cI, 12, .inl (iA zZ))), (u.2.2.2.1, .inl (cI, 64, .inl (iA zZ))), (u.2.2.2.2.1, .inr (0, [.ref u.2.2.2.2.2.1.1, .ref u.2.2.2.2.2.1.2.1, .ref u.2.2.2.2.2.1.2.2.1, .ref u.2.2.2.2.2.1.2.2.2, .int (iI (31 : Int)), .int (iI (2 : Int)), .int (iI (0 : Int))])), (u.2.2.2.2.2.1.1, .inl (cI, 16, .inl (iA zZ))), (u.2.2.2.2.2.1.2.1, .inl (cI, 16, .inl (iA zZ))), (u.2.2.2.2.2.1.2.2.1, .inl (cI, 256, .inl (iA zZ))), (u.2.2.2.2.2.1.2.2.2, .inl (cI, 31, .inl (iA zZ))), (u.2.2.2.2.2.2.1, .inr (1, [.ref u.2.2.2.2.2.2.2.1.1, .ref u.2.2.2.2.2.2.2.1.2, .int (iI (0 : Int)), .int (iI (1 : Int))])), (u.2.2.2.2.2.2.2.1.1, .inl (cI, 12, .inl (iA zZ))), (u.2.2.2.2.2.2.2.1.2, .inl (cI, 12, .inl (iA zZ))), (u.2.2.2.2.2.2.2.2, .inl (cI, 5, .inl (iA zZ)))])) 13 643 (va_A [(x0, .inr (2, [.int (iI (0 : Int)), .int (iI (0 : Int)), .null, .null, .null, .int (iI (0 : Int)), .null, .int (iI (0 : Int)), .null, .null, .null]))] sz) := by
  refine Met.ofW (cc := cX2_init) (maxL := 1) (ret := none) (by decide) rfl ?_
  intro p e s m args below meth c s₁ B hml hv
  obtain ⟨rfl, hsz, hP, hK, hD0, hNn⟩ := hv
  have hx := B.exec
  have hb := B.bytes
  have hr := B.returns
  have hts : ∀ w ∈ wsX2_init, w.before _ s = true := atoms_spec (ws := wsX2_init) B.pre
  have hown : s.vm.findClass RX2 = some m.cls := findClass_of_methodNamed B.named
  have hlocks := B.notSynchronized
  have hin : meth.name = "<init>" := (name_of_methodNamed B.named B.method).1
  subst hsz
  have hD := hD0.self (sz := s.heap.size)
  have hA : ∀ q9 : Nat, s.heap.size ≤ q9 → va_A [(x0, .inr (2, [.int (iI (0 : Int)), .int (iI (0 : Int)), .null, .null, .null, .int (iI (0 : Int)), .null, .int (iI (0 : Int)), .null, .null, .null]))] s.heap.size q9 := fun q9 h => Or.inr h
  have hS : va_S (va_A [(x0, .inr (2, [.int (iI (0 : Int)), .int (iI (0 : Int)), .null, .null, .null, .int (iI (0 : Int)), .null, .int (iI (0 : Int)), .null, .null, .null]))] s.heap.size) s.heap s.heap [] := va_S.rf
  generalize hAe : va_A [(x0, .inr (2, [.int (iI (0 : Int)), .int (iI (0 : Int)), .null, .null, .null, .int (iI (0 : Int)), .null, .int (iI (0 : Int)), .null, .null, .null]))] s.heap.size = A at hD hA hS
  have hP : va_P (dC, dI) vwCl [(x0, .inr (2, [.int (iI (0 : Int)), .int (iI (0 : Int)), .null, .null, .null, .int (iI (0 : Int)), .null, .int (iI (0 : Int)), .null, .null, .null]))] s.heap := hP
  have hl := lv_entry ([.ref x0]) (n := 1) (Nat.le_of_ble_eq_true rfl)
  rw [lg_entry_eq]
  generalize (lg_sl ([.ref x0]) ++ List.replicate (1 - (lg_sl ([.ref x0])).length) Slot.unset).toArray = ls at hl ⊢
  have hl : lv_has ls 1 [(0, .ref x0)] := hl
  generalize hargs : ([.ref x0] : List Value).toArray = args at hts ⊢
  refine z_intro (fun R Q hR hQ => ?_)
  have hRf : R.frames = 2 := by rw [hR]; rfl
  have hRl : R.locals = 40 := by rw [hR]; rfl
  have hRc : R.cells = 13 := by rw [hR]; rfl
  have hRs : R.slots = 643 := by rw [hR]; rfl
  have in_X2 : ∀ w ∈ u_ws RX2 TX2 11, w ∈ wsX2_init := fun w h => List.mem_cons_of_mem _ (inW_X2 w h)
  have fl_9 := wa_hts hts wd_100
  have fl_13 := wa_hts hts wd_101
  have fl_16 := wa_hts hts wd_102
  have fl_20 := wa_hts hts wd_103
  have fl_23 := wa_hts hts wd_104
  have fl_26 := wa_hts hts wd_105
  have fl_29 := wa_hts hts wd_106
  have fl_32 := wa_hts hts wd_107
  have fl_38 := wa_hts hts wd_108
  have fl_45 := wa_hts hts wd_109
  have fl_49 := wa_hts hts wd_110
  clear hR hargs B
  refine lv_aload_n hx hb dX2_init_0 rfl (lv_at hl 0 rfl) ?_
  refine W.objInit hx hb hown (wa_hts hts wd_46) (wa_hts hts wd_47) (wa_hts hts wd_48) rfl (hl.1.trans hml.symm) rfl dX2_init_1 (by omega) (by show 2 * 0 + 0 + 12 ≤ R.locals; omega) ?_
  refine W.eq (g2 := F0 m 4 ls []) rfl ?_
  refine lv_aload_n hx hb dX2_init_4 rfl (lv_at hl 0 rfl) ?_
  refine lv_iconst (v := iI (2 : Int)) hx hb dX2_init_5 (by decide) ?_
  refine va_put (D := (dC, dI)) (ci := 2) (v := .int (iI (2 : Int))) (ty := .int) (C := RX2) (T := TX2) (N := 11) hx hb hts in_X2 tyX2 tyX2_ok nmX2 hown hK hP hD hS 0 rfl rfl 0 (by decide) fl_9 (fun _ h9 => h9) rfl (by decide +kernel) rfl rfl (Nat.le_of_ble_eq_true rfl) dX2_init_6 (fun H locs hP hD hS => ?_)
  have hP : va_P (dC, dI) vwCl [(x0, .inr (2, [.int (iI (2 : Int)), .int (iI (0 : Int)), .null, .null, .null, .int (iI (0 : Int)), .null, .int (iI (0 : Int)), .null, .null, .null]))] H := hP
  have hD : va_D A [(x0, .inr (2, [.int (iI (2 : Int)), .int (iI (0 : Int)), .null, .null, .null, .int (iI (0 : Int)), .null, .int (iI (0 : Int)), .null, .null, .null]))] := hD
  refine lv_aload_n hx hb dX2_init_9 rfl (lv_at hl 0 rfl) ?_
  refine lv_iconst (v := iI (0 : Int)) hx hb dX2_init_10 (by decide) ?_
  refine va_put (D := (dC, dI)) (ci := 2) (v := .int (iI (0 : Int))) (ty := .int) (C := RX2) (T := TX2) (N := 11) hx hb hts in_X2 tyX2 tyX2_ok nmX2 hown hK hP hD hS 0 rfl rfl 1 (by decide) fl_13 (fun _ h9 => h9) rfl (by decide +kernel) rfl rfl (Nat.le_of_ble_eq_true rfl) dX2_init_11 (fun H locs hP hD hS => ?_)
  have hP : va_P (dC, dI) vwCl [(x0, .inr (2, [.int (iI (2 : Int)), .int (iI (0 : Int)), .null, .null, .null, .int (iI (0 : Int)), .null, .int (iI (0 : Int)), .null, .null, .null]))] H := hP
  have hD : va_D A [(x0, .inr (2, [.int (iI (2 : Int)), .int (iI (0 : Int)), .null, .null, .null, .int (iI (0 : Int)), .null, .int (iI (0 : Int)), .null, .null, .null]))] := hD
  refine lv_aload_n hx hb dX2_init_14 rfl (lv_at hl 0 rfl) ?_
  refine lv_bipush (v := iI (16 : Int)) hx hb dX2_init_15 (by decide) ?_
  refine z_newa (t0 := 0) hx hb (wa_hts hts wd_77) hK rfl hP hD hS hA 16 rfl (by omega) (by omega) (by omega) dX2_init_17 (fun q17 H hP hD hS => ?_)
  have hP : va_P (dC, dI) vwCl [(x0, .inr (2, [.int (iI (2 : Int)), .int (iI (0 : Int)), .null, .null, .null, .int (iI (0 : Int)), .null, .int (iI (0 : Int)), .null, .null, .null])), (q17, .inl (cI, 16, .inl (iA zZ)))] H := hP
  have hD : va_D A [(x0, .inr (2, [.int (iI (2 : Int)), .int (iI (0 : Int)), .null, .null, .null, .int (iI (0 : Int)), .null, .int (iI (0 : Int)), .null, .null, .null])), (q17, .inl (cI, 16, .inl (iA zZ)))] := hD
  refine va_putF (D := (dC, dI)) (ci := 2) (v := .ref q17) (ty := (.array .int)) (C := RX2) (T := TX2) (N := 11) hx hb hts in_X2 tyX2 tyX2_ok nmX2 hown hK hP hD hS 0 rfl rfl 2 (by decide) fl_16 (fun _ h9 => h9) rfl hin rfl (by decide +kernel) rfl rfl (Nat.le_of_ble_eq_true rfl) dX2_init_19 (fun H locs hP hD hS => ?_)
  have hP : va_P (dC, dI) vwCl [(x0, .inr (2, [.int (iI (2 : Int)), .int (iI (0 : Int)), .ref q17, .null, .null, .int (iI (0 : Int)), .null, .int (iI (0 : Int)), .null, .null, .null])), (q17, .inl (cI, 16, .inl (iA zZ)))] H := hP
  have hD : va_D A [(x0, .inr (2, [.int (iI (2 : Int)), .int (iI (0 : Int)), .ref q17, .null, .null, .int (iI (0 : Int)), .null, .int (iI (0 : Int)), .null, .null, .null])), (q17, .inl (cI, 16, .inl (iA zZ)))] := hD
  refine lv_aload_n hx hb dX2_init_22 rfl (lv_at hl 0 rfl) ?_
  refine lv_sipush (v := iI (192 : Int)) hx hb dX2_init_23 (by decide) ?_
  refine z_newa (t0 := 0) hx hb (wa_hts hts wd_77) hK rfl hP hD hS hA 192 rfl (by omega) (by omega) (by omega) dX2_init_26 (fun q26 H hP hD hS => ?_)
  have hP : va_P (dC, dI) vwCl [(x0, .inr (2, [.int (iI (2 : Int)), .int (iI (0 : Int)), .ref q17, .null, .null, .int (iI (0 : Int)), .null, .int (iI (0 : Int)), .null, .null, .null])), (q17, .inl (cI, 16, .inl (iA zZ))), (q26, .inl (cI, 192, .inl (iA zZ)))] H := hP
  have hD : va_D A [(x0, .inr (2, [.int (iI (2 : Int)), .int (iI (0 : Int)), .ref q17, .null, .null, .int (iI (0 : Int)), .null, .int (iI (0 : Int)), .null, .null, .null])), (q17, .inl (cI, 16, .inl (iA zZ))), (q26, .inl (cI, 192, .inl (iA zZ)))] := hD
  refine va_putF (D := (dC, dI)) (ci := 2) (v := .ref q26) (ty := (.array .int)) (C := RX2) (T := TX2) (N := 11) hx hb hts in_X2 tyX2 tyX2_ok nmX2 hown hK hP hD hS 0 rfl rfl 3 (by decide) fl_20 (fun _ h9 => h9) rfl hin rfl (by decide +kernel) rfl rfl (Nat.le_of_ble_eq_true rfl) dX2_init_28 (fun H locs hP hD hS => ?_)
  have hP : va_P (dC, dI) vwCl [(x0, .inr (2, [.int (iI (2 : Int)), .int (iI (0 : Int)), .ref q17, .ref q26, .null, .int (iI (0 : Int)), .null, .int (iI (0 : Int)), .null, .null, .null])), (q17, .inl (cI, 16, .inl (iA zZ))), (q26, .inl (cI, 192, .inl (iA zZ)))] H := hP
  have hD : va_D A [(x0, .inr (2, [.int (iI (2 : Int)), .int (iI (0 : Int)), .ref q17, .ref q26, .null, .int (iI (0 : Int)), .null, .int (iI (0 : Int)), .null, .null, .null])), (q17, .inl (cI, 16, .inl (iA zZ))), (q26, .inl (cI, 192, .inl (iA zZ)))] := hD
  refine lv_aload_n hx hb dX2_init_31 rfl (lv_at hl 0 rfl) ?_
  refine lv_bipush (v := iI (12 : Int)) hx hb dX2_init_32 (by decide) ?_
  refine z_newa (t0 := 0) hx hb (wa_hts hts wd_77) hK rfl hP hD hS hA 12 rfl (by omega) (by omega) (by omega) dX2_init_34 (fun q34 H hP hD hS => ?_)
  have hP : va_P (dC, dI) vwCl [(x0, .inr (2, [.int (iI (2 : Int)), .int (iI (0 : Int)), .ref q17, .ref q26, .null, .int (iI (0 : Int)), .null, .int (iI (0 : Int)), .null, .null, .null])), (q17, .inl (cI, 16, .inl (iA zZ))), (q26, .inl (cI, 192, .inl (iA zZ))), (q34, .inl (cI, 12, .inl (iA zZ)))] H := hP
  have hD : va_D A [(x0, .inr (2, [.int (iI (2 : Int)), .int (iI (0 : Int)), .ref q17, .ref q26, .null, .int (iI (0 : Int)), .null, .int (iI (0 : Int)), .null, .null, .null])), (q17, .inl (cI, 16, .inl (iA zZ))), (q26, .inl (cI, 192, .inl (iA zZ))), (q34, .inl (cI, 12, .inl (iA zZ)))] := hD
  refine va_putF (D := (dC, dI)) (ci := 2) (v := .ref q34) (ty := (.array .int)) (C := RX2) (T := TX2) (N := 11) hx hb hts in_X2 tyX2 tyX2_ok nmX2 hown hK hP hD hS 0 rfl rfl 4 (by decide) fl_23 (fun _ h9 => h9) rfl hin rfl (by decide +kernel) rfl rfl (Nat.le_of_ble_eq_true rfl) dX2_init_36 (fun H locs hP hD hS => ?_)
  have hP : va_P (dC, dI) vwCl [(x0, .inr (2, [.int (iI (2 : Int)), .int (iI (0 : Int)), .ref q17, .ref q26, .ref q34, .int (iI (0 : Int)), .null, .int (iI (0 : Int)), .null, .null, .null])), (q17, .inl (cI, 16, .inl (iA zZ))), (q26, .inl (cI, 192, .inl (iA zZ))), (q34, .inl (cI, 12, .inl (iA zZ)))] H := hP
  have hD : va_D A [(x0, .inr (2, [.int (iI (2 : Int)), .int (iI (0 : Int)), .ref q17, .ref q26, .ref q34, .int (iI (0 : Int)), .null, .int (iI (0 : Int)), .null, .null, .null])), (q17, .inl (cI, 16, .inl (iA zZ))), (q26, .inl (cI, 192, .inl (iA zZ))), (q34, .inl (cI, 12, .inl (iA zZ)))] := hD
  refine lv_aload_n hx hb dX2_init_39 rfl (lv_at hl 0 rfl) ?_
  refine lv_iconst (v := iI (0 : Int)) hx hb dX2_init_40 (by decide) ?_
  refine va_put (D := (dC, dI)) (ci := 2) (v := .int (iI (0 : Int))) (ty := .int) (C := RX2) (T := TX2) (N := 11) hx hb hts in_X2 tyX2 tyX2_ok nmX2 hown hK hP hD hS 0 rfl rfl 5 (by decide) fl_26 (fun _ h9 => h9) rfl (by decide +kernel) rfl rfl (Nat.le_of_ble_eq_true rfl) dX2_init_41 (fun H locs hP hD hS => ?_)
  have hP : va_P (dC, dI) vwCl [(x0, .inr (2, [.int (iI (2 : Int)), .int (iI (0 : Int)), .ref q17, .ref q26, .ref q34, .int (iI (0 : Int)), .null, .int (iI (0 : Int)), .null, .null, .null])), (q17, .inl (cI, 16, .inl (iA zZ))), (q26, .inl (cI, 192, .inl (iA zZ))), (q34, .inl (cI, 12, .inl (iA zZ)))] H := hP
  have hD : va_D A [(x0, .inr (2, [.int (iI (2 : Int)), .int (iI (0 : Int)), .ref q17, .ref q26, .ref q34, .int (iI (0 : Int)), .null, .int (iI (0 : Int)), .null, .null, .null])), (q17, .inl (cI, 16, .inl (iA zZ))), (q26, .inl (cI, 192, .inl (iA zZ))), (q34, .inl (cI, 12, .inl (iA zZ)))] := hD
  refine lv_aload_n hx hb dX2_init_44 rfl (lv_at hl 0 rfl) ?_
  refine lv_bipush (v := iI (64 : Int)) hx hb dX2_init_45 (by decide) ?_
  refine z_newa (t0 := 0) hx hb (wa_hts hts wd_77) hK rfl hP hD hS hA 64 rfl (by omega) (by omega) (by omega) dX2_init_47 (fun q47 H hP hD hS => ?_)
  have hP : va_P (dC, dI) vwCl [(x0, .inr (2, [.int (iI (2 : Int)), .int (iI (0 : Int)), .ref q17, .ref q26, .ref q34, .int (iI (0 : Int)), .null, .int (iI (0 : Int)), .null, .null, .null])), (q17, .inl (cI, 16, .inl (iA zZ))), (q26, .inl (cI, 192, .inl (iA zZ))), (q34, .inl (cI, 12, .inl (iA zZ))), (q47, .inl (cI, 64, .inl (iA zZ)))] H := hP
  have hD : va_D A [(x0, .inr (2, [.int (iI (2 : Int)), .int (iI (0 : Int)), .ref q17, .ref q26, .ref q34, .int (iI (0 : Int)), .null, .int (iI (0 : Int)), .null, .null, .null])), (q17, .inl (cI, 16, .inl (iA zZ))), (q26, .inl (cI, 192, .inl (iA zZ))), (q34, .inl (cI, 12, .inl (iA zZ))), (q47, .inl (cI, 64, .inl (iA zZ)))] := hD
  refine va_putF (D := (dC, dI)) (ci := 2) (v := .ref q47) (ty := (.array .int)) (C := RX2) (T := TX2) (N := 11) hx hb hts in_X2 tyX2 tyX2_ok nmX2 hown hK hP hD hS 0 rfl rfl 6 (by decide) fl_29 (fun _ h9 => h9) rfl hin rfl (by decide +kernel) rfl rfl (Nat.le_of_ble_eq_true rfl) dX2_init_49 (fun H locs hP hD hS => ?_)
  have hP : va_P (dC, dI) vwCl [(x0, .inr (2, [.int (iI (2 : Int)), .int (iI (0 : Int)), .ref q17, .ref q26, .ref q34, .int (iI (0 : Int)), .ref q47, .int (iI (0 : Int)), .null, .null, .null])), (q17, .inl (cI, 16, .inl (iA zZ))), (q26, .inl (cI, 192, .inl (iA zZ))), (q34, .inl (cI, 12, .inl (iA zZ))), (q47, .inl (cI, 64, .inl (iA zZ)))] H := hP
  have hD : va_D A [(x0, .inr (2, [.int (iI (2 : Int)), .int (iI (0 : Int)), .ref q17, .ref q26, .ref q34, .int (iI (0 : Int)), .ref q47, .int (iI (0 : Int)), .null, .null, .null])), (q17, .inl (cI, 16, .inl (iA zZ))), (q26, .inl (cI, 192, .inl (iA zZ))), (q34, .inl (cI, 12, .inl (iA zZ))), (q47, .inl (cI, 64, .inl (iA zZ)))] := hD
  refine lv_aload_n hx hb dX2_init_52 rfl (lv_at hl 0 rfl) ?_
  refine lv_iconst (v := iI (0 : Int)) hx hb dX2_init_53 (by decide) ?_
  refine va_put (D := (dC, dI)) (ci := 2) (v := .int (iI (0 : Int))) (ty := .int) (C := RX2) (T := TX2) (N := 11) hx hb hts in_X2 tyX2 tyX2_ok nmX2 hown hK hP hD hS 0 rfl rfl 7 (by decide) fl_32 (fun _ h9 => h9) rfl (by decide +kernel) rfl rfl (Nat.le_of_ble_eq_true rfl) dX2_init_54 (fun H locs hP hD hS => ?_)
  have hP : va_P (dC, dI) vwCl [(x0, .inr (2, [.int (iI (2 : Int)), .int (iI (0 : Int)), .ref q17, .ref q26, .ref q34, .int (iI (0 : Int)), .ref q47, .int (iI (0 : Int)), .null, .null, .null])), (q17, .inl (cI, 16, .inl (iA zZ))), (q26, .inl (cI, 192, .inl (iA zZ))), (q34, .inl (cI, 12, .inl (iA zZ))), (q47, .inl (cI, 64, .inl (iA zZ)))] H := hP
  have hD : va_D A [(x0, .inr (2, [.int (iI (2 : Int)), .int (iI (0 : Int)), .ref q17, .ref q26, .ref q34, .int (iI (0 : Int)), .ref q47, .int (iI (0 : Int)), .null, .null, .null])), (q17, .inl (cI, 16, .inl (iA zZ))), (q26, .inl (cI, 192, .inl (iA zZ))), (q34, .inl (cI, 12, .inl (iA zZ))), (q47, .inl (cI, 64, .inl (iA zZ)))] := hD
  refine lv_aload_n hx hb dX2_init_57 rfl (lv_at hl 0 rfl) ?_
  refine va_new (ci := 0) (fs := [.null, .null, .null, .null, .int (iI (0 : Int)), .int (iI (0 : Int)), .int (iI (0 : Int))]) (C := RX0) (T := TX0) (N := 7) hx hb hts (fun w h => List.mem_cons_of_mem _ (inW_X0 w h)) tyX0 tyX0_ok hown (wa_hts hts wd_49) (wa_hts hts wd_50) (wa_hts hts wd_29) hK hP hD hS hA rfl (fun j9 hj9 => by rcases (show j9 = 0 ∨ j9 = 1 ∨ j9 = 2 ∨ j9 = 3 ∨ j9 = 4 ∨ j9 = 5 ∨ j9 = 6 by omega) with rfl | rfl | rfl | rfl | rfl | rfl | rfl <;> rfl) (by omega) (by omega) dX2_init_58 (fun q58 H hP hD hS => ?_)
  have hP : va_P (dC, dI) vwCl [(x0, .inr (2, [.int (iI (2 : Int)), .int (iI (0 : Int)), .ref q17, .ref q26, .ref q34, .int (iI (0 : Int)), .ref q47, .int (iI (0 : Int)), .null, .null, .null])), (q17, .inl (cI, 16, .inl (iA zZ))), (q26, .inl (cI, 192, .inl (iA zZ))), (q34, .inl (cI, 12, .inl (iA zZ))), (q47, .inl (cI, 64, .inl (iA zZ))), (q58, .inr (0, [.null, .null, .null, .null, .int (iI (0 : Int)), .int (iI (0 : Int)), .int (iI (0 : Int))]))] H := hP
  have hD : va_D A [(x0, .inr (2, [.int (iI (2 : Int)), .int (iI (0 : Int)), .ref q17, .ref q26, .ref q34, .int (iI (0 : Int)), .ref q47, .int (iI (0 : Int)), .null, .null, .null])), (q17, .inl (cI, 16, .inl (iA zZ))), (q26, .inl (cI, 192, .inl (iA zZ))), (q34, .inl (cI, 12, .inl (iA zZ))), (q47, .inl (cI, 64, .inl (iA zZ))), (q58, .inr (0, [.null, .null, .null, .null, .int (iI (0 : Int)), .int (iI (0 : Int)), .int (iI (0 : Int))]))] := hD
  refine lv_dup hx hb dX2_init_61 rfl ?_
  refine zw_v (wr := [(x0, .inr (2, [.int (iI (2 : Int)), .int (iI (0 : Int)), .ref q17, .ref q26, .ref q34, .int (iI (0 : Int)), .ref q47, .int (iI (0 : Int)), .null, .null, .null])), (q17, .inl (cI, 16, .inl (iA zZ))), (q26, .inl (cI, 192, .inl (iA zZ))), (q34, .inl (cI, 12, .inl (iA zZ))), (q47, .inl (cI, 64, .inl (iA zZ)))]) (va_runIN (host := "WarpSearch") (As := []) (rest := [.ref q58, .ref x0]) ⟨hx, hb, hml, hown, hts⟩ (c_initC l dC dI cI q58 _) ⟨va_cnB 0 hts (ga_C wd_53) rfl rfl rfl hNn.1 (wa_hts hts wd_29) (by decide +kernel) ⟨(show 1 + 1 ≤ R.frames by omega), (show 8 + (1 + 11) + 20 ≤ R.locals by omega)⟩, rfl, wa_hts hts wd_52⟩ (wr_preS hP hK hD [5] (by decide) rfl rfl) rfl rfl hl.1 rfl (lv_room (Nat.le_of_ble_eq_true rfl)) dX2_init_62 ⟨by omega, by omega⟩) hP hD hS hA [5] [0, 1, 2, 3, 4] rfl rfl (by decide) (by decide) (fun u62 H locs hw62 hP hD hS => ?_)
  have hP : va_P (dC, dI) vwCl [(x0, .inr (2, [.int (iI (2 : Int)), .int (iI (0 : Int)), .ref q17, .ref q26, .ref q34, .int (iI (0 : Int)), .ref q47, .int (iI (0 : Int)), .null, .null, .null])), (q17, .inl (cI, 16, .inl (iA zZ))), (q26, .inl (cI, 192, .inl (iA zZ))), (q34, .inl (cI, 12, .inl (iA zZ))), (q47, .inl (cI, 64, .inl (iA zZ))), (q58, .inr (0, [.ref u62.1, .ref u62.2.1, .ref u62.2.2.1, .ref u62.2.2.2, .int (iI (31 : Int)), .int (iI (2 : Int)), .int (iI (0 : Int))])), (u62.1, .inl (cI, 16, .inl (iA zZ))), (u62.2.1, .inl (cI, 16, .inl (iA zZ))), (u62.2.2.1, .inl (cI, 256, .inl (iA zZ))), (u62.2.2.2, .inl (cI, 31, .inl (iA zZ)))] H := hP
  have hD : va_D A [(x0, .inr (2, [.int (iI (2 : Int)), .int (iI (0 : Int)), .ref q17, .ref q26, .ref q34, .int (iI (0 : Int)), .ref q47, .int (iI (0 : Int)), .null, .null, .null])), (q17, .inl (cI, 16, .inl (iA zZ))), (q26, .inl (cI, 192, .inl (iA zZ))), (q34, .inl (cI, 12, .inl (iA zZ))), (q47, .inl (cI, 64, .inl (iA zZ))), (q58, .inr (0, [.ref u62.1, .ref u62.2.1, .ref u62.2.2.1, .ref u62.2.2.2, .int (iI (31 : Int)), .int (iI (2 : Int)), .int (iI (0 : Int))])), (u62.1, .inl (cI, 16, .inl (iA zZ))), (u62.2.1, .inl (cI, 16, .inl (iA zZ))), (u62.2.2.1, .inl (cI, 256, .inl (iA zZ))), (u62.2.2.2, .inl (cI, 31, .inl (iA zZ)))] := hD
  refine va_putF (D := (dC, dI)) (ci := 2) (v := .ref q58) (ty := (.object "WarpSearch$Comparison")) (C := RX2) (T := TX2) (N := 11) hx hb hts in_X2 tyX2 tyX2_ok nmX2 hown hK hP hD hS 0 rfl rfl 8 (by decide) fl_38 (fun _ h9 => h9) rfl hin rfl (by decide +kernel) rfl rfl (Nat.le_of_ble_eq_true rfl) dX2_init_65 (fun H locs hP hD hS => ?_)
  have hP : va_P (dC, dI) vwCl [(x0, .inr (2, [.int (iI (2 : Int)), .int (iI (0 : Int)), .ref q17, .ref q26, .ref q34, .int (iI (0 : Int)), .ref q47, .int (iI (0 : Int)), .ref q58, .null, .null])), (q17, .inl (cI, 16, .inl (iA zZ))), (q26, .inl (cI, 192, .inl (iA zZ))), (q34, .inl (cI, 12, .inl (iA zZ))), (q47, .inl (cI, 64, .inl (iA zZ))), (q58, .inr (0, [.ref u62.1, .ref u62.2.1, .ref u62.2.2.1, .ref u62.2.2.2, .int (iI (31 : Int)), .int (iI (2 : Int)), .int (iI (0 : Int))])), (u62.1, .inl (cI, 16, .inl (iA zZ))), (u62.2.1, .inl (cI, 16, .inl (iA zZ))), (u62.2.2.1, .inl (cI, 256, .inl (iA zZ))), (u62.2.2.2, .inl (cI, 31, .inl (iA zZ)))] H := hP
  have hD : va_D A [(x0, .inr (2, [.int (iI (2 : Int)), .int (iI (0 : Int)), .ref q17, .ref q26, .ref q34, .int (iI (0 : Int)), .ref q47, .int (iI (0 : Int)), .ref q58, .null, .null])), (q17, .inl (cI, 16, .inl (iA zZ))), (q26, .inl (cI, 192, .inl (iA zZ))), (q34, .inl (cI, 12, .inl (iA zZ))), (q47, .inl (cI, 64, .inl (iA zZ))), (q58, .inr (0, [.ref u62.1, .ref u62.2.1, .ref u62.2.2.1, .ref u62.2.2.2, .int (iI (31 : Int)), .int (iI (2 : Int)), .int (iI (0 : Int))])), (u62.1, .inl (cI, 16, .inl (iA zZ))), (u62.2.1, .inl (cI, 16, .inl (iA zZ))), (u62.2.2.1, .inl (cI, 256, .inl (iA zZ))), (u62.2.2.2, .inl (cI, 31, .inl (iA zZ)))] := hD
  refine lv_aload_n hx hb dX2_init_68 rfl (lv_at hl 0 rfl) ?_
  refine va_new (ci := 1) (fs := [.null, .null, .int (iI (0 : Int)), .int (iI (0 : Int))]) (C := RX1) (T := TX1) (N := 4) hx hb hts (fun w h => List.mem_cons_of_mem _ (inW_X1 w h)) tyX1 tyX1_ok hown (wa_hts hts wd_78) (wa_hts hts wd_79) (wa_hts hts wd_30) hK hP hD hS hA rfl (fun j9 hj9 => by rcases (show j9 = 0 ∨ j9 = 1 ∨ j9 = 2 ∨ j9 = 3 by omega) with rfl | rfl | rfl | rfl <;> rfl) (by omega) (by omega) dX2_init_69 (fun q69 H hP hD hS => ?_)
  have hP : va_P (dC, dI) vwCl [(x0, .inr (2, [.int (iI (2 : Int)), .int (iI (0 : Int)), .ref q17, .ref q26, .ref q34, .int (iI (0 : Int)), .ref q47, .int (iI (0 : Int)), .ref q58, .null, .null])), (q17, .inl (cI, 16, .inl (iA zZ))), (q26, .inl (cI, 192, .inl (iA zZ))), (q34, .inl (cI, 12, .inl (iA zZ))), (q47, .inl (cI, 64, .inl (iA zZ))), (q58, .inr (0, [.ref u62.1, .ref u62.2.1, .ref u62.2.2.1, .ref u62.2.2.2, .int (iI (31 : Int)), .int (iI (2 : Int)), .int (iI (0 : Int))])), (u62.1, .inl (cI, 16, .inl (iA zZ))), (u62.2.1, .inl (cI, 16, .inl (iA zZ))), (u62.2.2.1, .inl (cI, 256, .inl (iA zZ))), (u62.2.2.2, .inl (cI, 31, .inl (iA zZ))), (q69, .inr (1, [.null, .null, .int (iI (0 : Int)), .int (iI (0 : Int))]))] H := hP
  have hD : va_D A [(x0, .inr (2, [.int (iI (2 : Int)), .int (iI (0 : Int)), .ref q17, .ref q26, .ref q34, .int (iI (0 : Int)), .ref q47, .int (iI (0 : Int)), .ref q58, .null, .null])), (q17, .inl (cI, 16, .inl (iA zZ))), (q26, .inl (cI, 192, .inl (iA zZ))), (q34, .inl (cI, 12, .inl (iA zZ))), (q47, .inl (cI, 64, .inl (iA zZ))), (q58, .inr (0, [.ref u62.1, .ref u62.2.1, .ref u62.2.2.1, .ref u62.2.2.2, .int (iI (31 : Int)), .int (iI (2 : Int)), .int (iI (0 : Int))])), (u62.1, .inl (cI, 16, .inl (iA zZ))), (u62.2.1, .inl (cI, 16, .inl (iA zZ))), (u62.2.2.1, .inl (cI, 256, .inl (iA zZ))), (u62.2.2.2, .inl (cI, 31, .inl (iA zZ))), (q69, .inr (1, [.null, .null, .int (iI (0 : Int)), .int (iI (0 : Int))]))] := hD
  refine lv_dup hx hb dX2_init_72 rfl ?_
  refine zw_v (wr := [(x0, .inr (2, [.int (iI (2 : Int)), .int (iI (0 : Int)), .ref q17, .ref q26, .ref q34, .int (iI (0 : Int)), .ref q47, .int (iI (0 : Int)), .ref q58, .null, .null])), (q17, .inl (cI, 16, .inl (iA zZ))), (q26, .inl (cI, 192, .inl (iA zZ))), (q34, .inl (cI, 12, .inl (iA zZ))), (q47, .inl (cI, 64, .inl (iA zZ))), (q58, .inr (0, [.ref u62.1, .ref u62.2.1, .ref u62.2.2.1, .ref u62.2.2.2, .int (iI (31 : Int)), .int (iI (2 : Int)), .int (iI (0 : Int))])), (u62.1, .inl (cI, 16, .inl (iA zZ))), (u62.2.1, .inl (cI, 16, .inl (iA zZ))), (u62.2.2.1, .inl (cI, 256, .inl (iA zZ))), (u62.2.2.2, .inl (cI, 31, .inl (iA zZ)))]) (va_runIN (host := "WarpSearch") (As := []) (rest := [.ref q69, .ref x0]) ⟨hx, hb, hml, hown, hts⟩ (c_initN l dC dI cI q69 _) ⟨va_cnB 0 hts (ga_C wd_82) rfl rfl rfl hNn.2 (wa_hts hts wd_30) (by decide +kernel) ⟨(show 1 + 1 ≤ R.frames by omega), (show 8 + (1 + 11) + 20 ≤ R.locals by omega)⟩, rfl, wa_hts hts wd_81⟩ (wr_preS hP hK hD [10] (by decide) rfl rfl) rfl rfl hl.1 rfl (lv_room (Nat.le_of_ble_eq_true rfl)) dX2_init_73 ⟨by omega, by omega⟩) hP hD hS hA [10] [0, 1, 2, 3, 4, 5, 6, 7, 8, 9] rfl rfl (by decide) (by decide) (fun u73 H locs hw73 hP hD hS => ?_)
  have hP : va_P (dC, dI) vwCl [(x0, .inr (2, [.int (iI (2 : Int)), .int (iI (0 : Int)), .ref q17, .ref q26, .ref q34, .int (iI (0 : Int)), .ref q47, .int (iI (0 : Int)), .ref q58, .null, .null])), (q17, .inl (cI, 16, .inl (iA zZ))), (q26, .inl (cI, 192, .inl (iA zZ))), (q34, .inl (cI, 12, .inl (iA zZ))), (q47, .inl (cI, 64, .inl (iA zZ))), (q58, .inr (0, [.ref u62.1, .ref u62.2.1, .ref u62.2.2.1, .ref u62.2.2.2, .int (iI (31 : Int)), .int (iI (2 : Int)), .int (iI (0 : Int))])), (u62.1, .inl (cI, 16, .inl (iA zZ))), (u62.2.1, .inl (cI, 16, .inl (iA zZ))), (u62.2.2.1, .inl (cI, 256, .inl (iA zZ))), (u62.2.2.2, .inl (cI, 31, .inl (iA zZ))), (q69, .inr (1, [.ref u73.1, .ref u73.2, .int (iI (0 : Int)), .int (iI (1 : Int))])), (u73.1, .inl (cI, 12, .inl (iA zZ))), (u73.2, .inl (cI, 12, .inl (iA zZ)))] H := hP
  have hD : va_D A [(x0, .inr (2, [.int (iI (2 : Int)), .int (iI (0 : Int)), .ref q17, .ref q26, .ref q34, .int (iI (0 : Int)), .ref q47, .int (iI (0 : Int)), .ref q58, .null, .null])), (q17, .inl (cI, 16, .inl (iA zZ))), (q26, .inl (cI, 192, .inl (iA zZ))), (q34, .inl (cI, 12, .inl (iA zZ))), (q47, .inl (cI, 64, .inl (iA zZ))), (q58, .inr (0, [.ref u62.1, .ref u62.2.1, .ref u62.2.2.1, .ref u62.2.2.2, .int (iI (31 : Int)), .int (iI (2 : Int)), .int (iI (0 : Int))])), (u62.1, .inl (cI, 16, .inl (iA zZ))), (u62.2.1, .inl (cI, 16, .inl (iA zZ))), (u62.2.2.1, .inl (cI, 256, .inl (iA zZ))), (u62.2.2.2, .inl (cI, 31, .inl (iA zZ))), (q69, .inr (1, [.ref u73.1, .ref u73.2, .int (iI (0 : Int)), .int (iI (1 : Int))])), (u73.1, .inl (cI, 12, .inl (iA zZ))), (u73.2, .inl (cI, 12, .inl (iA zZ)))] := hD
  refine va_putF (D := (dC, dI)) (ci := 2) (v := .ref q69) (ty := (.object "WarpSearch$Nearest")) (C := RX2) (T := TX2) (N := 11) hx hb hts in_X2 tyX2 tyX2_ok nmX2 hown hK hP hD hS 0 rfl rfl 9 (by decide) fl_45 (fun _ h9 => h9) rfl hin rfl (by decide +kernel) rfl rfl (Nat.le_of_ble_eq_true rfl) dX2_init_76 (fun H locs hP hD hS => ?_)
  have hP : va_P (dC, dI) vwCl [(x0, .inr (2, [.int (iI (2 : Int)), .int (iI (0 : Int)), .ref q17, .ref q26, .ref q34, .int (iI (0 : Int)), .ref q47, .int (iI (0 : Int)), .ref q58, .ref q69, .null])), (q17, .inl (cI, 16, .inl (iA zZ))), (q26, .inl (cI, 192, .inl (iA zZ))), (q34, .inl (cI, 12, .inl (iA zZ))), (q47, .inl (cI, 64, .inl (iA zZ))), (q58, .inr (0, [.ref u62.1, .ref u62.2.1, .ref u62.2.2.1, .ref u62.2.2.2, .int (iI (31 : Int)), .int (iI (2 : Int)), .int (iI (0 : Int))])), (u62.1, .inl (cI, 16, .inl (iA zZ))), (u62.2.1, .inl (cI, 16, .inl (iA zZ))), (u62.2.2.1, .inl (cI, 256, .inl (iA zZ))), (u62.2.2.2, .inl (cI, 31, .inl (iA zZ))), (q69, .inr (1, [.ref u73.1, .ref u73.2, .int (iI (0 : Int)), .int (iI (1 : Int))])), (u73.1, .inl (cI, 12, .inl (iA zZ))), (u73.2, .inl (cI, 12, .inl (iA zZ)))] H := hP
  have hD : va_D A [(x0, .inr (2, [.int (iI (2 : Int)), .int (iI (0 : Int)), .ref q17, .ref q26, .ref q34, .int (iI (0 : Int)), .ref q47, .int (iI (0 : Int)), .ref q58, .ref q69, .null])), (q17, .inl (cI, 16, .inl (iA zZ))), (q26, .inl (cI, 192, .inl (iA zZ))), (q34, .inl (cI, 12, .inl (iA zZ))), (q47, .inl (cI, 64, .inl (iA zZ))), (q58, .inr (0, [.ref u62.1, .ref u62.2.1, .ref u62.2.2.1, .ref u62.2.2.2, .int (iI (31 : Int)), .int (iI (2 : Int)), .int (iI (0 : Int))])), (u62.1, .inl (cI, 16, .inl (iA zZ))), (u62.2.1, .inl (cI, 16, .inl (iA zZ))), (u62.2.2.1, .inl (cI, 256, .inl (iA zZ))), (u62.2.2.2, .inl (cI, 31, .inl (iA zZ))), (q69, .inr (1, [.ref u73.1, .ref u73.2, .int (iI (0 : Int)), .int (iI (1 : Int))])), (u73.1, .inl (cI, 12, .inl (iA zZ))), (u73.2, .inl (cI, 12, .inl (iA zZ)))] := hD
  refine lv_aload_n hx hb dX2_init_79 rfl (lv_at hl 0 rfl) ?_
  refine lv_iconst (v := iI (5 : Int)) hx hb dX2_init_80 (by decide) ?_
  refine z_newa (t0 := 0) hx hb (wa_hts hts wd_77) hK rfl hP hD hS hA 5 rfl (by omega) (by omega) (by omega) dX2_init_81 (fun q81 H hP hD hS => ?_)
  have hP : va_P (dC, dI) vwCl [(x0, .inr (2, [.int (iI (2 : Int)), .int (iI (0 : Int)), .ref q17, .ref q26, .ref q34, .int (iI (0 : Int)), .ref q47, .int (iI (0 : Int)), .ref q58, .ref q69, .null])), (q17, .inl (cI, 16, .inl (iA zZ))), (q26, .inl (cI, 192, .inl (iA zZ))), (q34, .inl (cI, 12, .inl (iA zZ))), (q47, .inl (cI, 64, .inl (iA zZ))), (q58, .inr (0, [.ref u62.1, .ref u62.2.1, .ref u62.2.2.1, .ref u62.2.2.2, .int (iI (31 : Int)), .int (iI (2 : Int)), .int (iI (0 : Int))])), (u62.1, .inl (cI, 16, .inl (iA zZ))), (u62.2.1, .inl (cI, 16, .inl (iA zZ))), (u62.2.2.1, .inl (cI, 256, .inl (iA zZ))), (u62.2.2.2, .inl (cI, 31, .inl (iA zZ))), (q69, .inr (1, [.ref u73.1, .ref u73.2, .int (iI (0 : Int)), .int (iI (1 : Int))])), (u73.1, .inl (cI, 12, .inl (iA zZ))), (u73.2, .inl (cI, 12, .inl (iA zZ))), (q81, .inl (cI, 5, .inl (iA zZ)))] H := hP
  have hD : va_D A [(x0, .inr (2, [.int (iI (2 : Int)), .int (iI (0 : Int)), .ref q17, .ref q26, .ref q34, .int (iI (0 : Int)), .ref q47, .int (iI (0 : Int)), .ref q58, .ref q69, .null])), (q17, .inl (cI, 16, .inl (iA zZ))), (q26, .inl (cI, 192, .inl (iA zZ))), (q34, .inl (cI, 12, .inl (iA zZ))), (q47, .inl (cI, 64, .inl (iA zZ))), (q58, .inr (0, [.ref u62.1, .ref u62.2.1, .ref u62.2.2.1, .ref u62.2.2.2, .int (iI (31 : Int)), .int (iI (2 : Int)), .int (iI (0 : Int))])), (u62.1, .inl (cI, 16, .inl (iA zZ))), (u62.2.1, .inl (cI, 16, .inl (iA zZ))), (u62.2.2.1, .inl (cI, 256, .inl (iA zZ))), (u62.2.2.2, .inl (cI, 31, .inl (iA zZ))), (q69, .inr (1, [.ref u73.1, .ref u73.2, .int (iI (0 : Int)), .int (iI (1 : Int))])), (u73.1, .inl (cI, 12, .inl (iA zZ))), (u73.2, .inl (cI, 12, .inl (iA zZ))), (q81, .inl (cI, 5, .inl (iA zZ)))] := hD
  refine va_putF (D := (dC, dI)) (ci := 2) (v := .ref q81) (ty := (.array .int)) (C := RX2) (T := TX2) (N := 11) hx hb hts in_X2 tyX2 tyX2_ok nmX2 hown hK hP hD hS 0 rfl rfl 10 (by decide) fl_49 (fun _ h9 => h9) rfl hin rfl (by decide +kernel) rfl rfl (Nat.le_of_ble_eq_true rfl) dX2_init_83 (fun H locs hP hD hS => ?_)
  have hP : va_P (dC, dI) vwCl [(x0, .inr (2, [.int (iI (2 : Int)), .int (iI (0 : Int)), .ref q17, .ref q26, .ref q34, .int (iI (0 : Int)), .ref q47, .int (iI (0 : Int)), .ref q58, .ref q69, .ref q81])), (q17, .inl (cI, 16, .inl (iA zZ))), (q26, .inl (cI, 192, .inl (iA zZ))), (q34, .inl (cI, 12, .inl (iA zZ))), (q47, .inl (cI, 64, .inl (iA zZ))), (q58, .inr (0, [.ref u62.1, .ref u62.2.1, .ref u62.2.2.1, .ref u62.2.2.2, .int (iI (31 : Int)), .int (iI (2 : Int)), .int (iI (0 : Int))])), (u62.1, .inl (cI, 16, .inl (iA zZ))), (u62.2.1, .inl (cI, 16, .inl (iA zZ))), (u62.2.2.1, .inl (cI, 256, .inl (iA zZ))), (u62.2.2.2, .inl (cI, 31, .inl (iA zZ))), (q69, .inr (1, [.ref u73.1, .ref u73.2, .int (iI (0 : Int)), .int (iI (1 : Int))])), (u73.1, .inl (cI, 12, .inl (iA zZ))), (u73.2, .inl (cI, 12, .inl (iA zZ))), (q81, .inl (cI, 5, .inl (iA zZ)))] H := hP
  have hD : va_D A [(x0, .inr (2, [.int (iI (2 : Int)), .int (iI (0 : Int)), .ref q17, .ref q26, .ref q34, .int (iI (0 : Int)), .ref q47, .int (iI (0 : Int)), .ref q58, .ref q69, .ref q81])), (q17, .inl (cI, 16, .inl (iA zZ))), (q26, .inl (cI, 192, .inl (iA zZ))), (q34, .inl (cI, 12, .inl (iA zZ))), (q47, .inl (cI, 64, .inl (iA zZ))), (q58, .inr (0, [.ref u62.1, .ref u62.2.1, .ref u62.2.2.1, .ref u62.2.2.2, .int (iI (31 : Int)), .int (iI (2 : Int)), .int (iI (0 : Int))])), (u62.1, .inl (cI, 16, .inl (iA zZ))), (u62.2.1, .inl (cI, 16, .inl (iA zZ))), (u62.2.2.1, .inl (cI, 256, .inl (iA zZ))), (u62.2.2.2, .inl (cI, 31, .inl (iA zZ))), (q69, .inr (1, [.ref u73.1, .ref u73.2, .int (iI (0 : Int)), .int (iI (1 : Int))])), (u73.1, .inl (cI, 12, .inl (iA zZ))), (u73.2, .inl (cI, 12, .inl (iA zZ))), (q81, .inl (cI, 5, .inl (iA zZ)))] := hD
  subst hAe
  exact zw_retv ((q17, q26, q34, q47, q58, u62, q69, u73, q81)) hx hb hr hlocks hQ (trivial) hP hK hD hS dX2_init_86
set_option maxRecDepth 100000 in
set_option maxHeartbeats 4000000 in
theorem c_initM (l : Launch) (dC : Nat → ClassId) (dI : Nat → Nat → Nat) (cI : ClassId) (m0 : Nat) (sz : Nat)  : Met l yX3_init wsX3_init ({ frames := 1, cells := 10, slots := 619, locals := 20 }) (wrP dC dI [(cI, .int)] [(m0, .inr (3, [.int (iI (0 : Int)), .int (iI (0 : Int)), .int (iI (0 : Int)), .null, .int (iI (0 : Int)), .null, .null, .int (iI (0 : Int)), .null, .null, .null, .null, .int (iI (0 : Int)), .int (iI (0 : Int)), .null, .null, .null]))] sz [.ref m0]) (wrQv dC dI [(cI, .int)] [(m0, .inr (3, [.int (iI (0 : Int)), .int (iI (0 : Int)), .int (iI (0 : Int)), .null, .int (iI (0 : Int)), .null, .null, .int (iI (0 : Int)), .null, .null, .null, .null, .int (iI (0 : Int)), .int (iI (0 : Int)), .null, .null, .null]))] sz (S := (Nat × Nat × Nat × Nat × Nat × Nat × Nat × Nat × Nat × Nat)) (fun _ => True) (fun u => [(m0, .inr (3, [.int (iI (0 : Int)), .int (iI (2 : Int)), .int (iI (0 : Int)), .ref u.1, .int (iI (0 : Int)), .ref u.2.1, .ref u.2.2.1, .int (iI (0 : Int)), .ref u.2.2.2.1, .ref u.2.2.2.2.1, .ref u.2.2.2.2.2.1, .ref u.2.2.2.2.2.2.1, .int (iI (0 : Int)), .int (iI (0 : Int)), .ref u.2.2.2.2.2.2.2.1, .ref u.2.2.2.2.2.2.2.2.1, .ref u.2.2.2.2.2.2.2.2.2])), (u.1, .inl (cI, 16, .inl (iA zZ))), (u.2.1, .inl (cI, 192, .inl (iA zZ))), (u.2.2.1, .inl (cI, 12, .inl (iA zZ))), (u.2.2.2.1, .inl (cI, 64, .inl (iA zZ))), (u.2.2.2.2.1, .inl (cI, 16, .inl (iA zZ))), (u.2.2.2.2.2.1, .inl (cI, 256, .inl (iA zZ))), (u.2.2.2.2.2.2.1, .inl (cI, 32, .inl (iA zZ))), (u.2.2.2.2.2.2.2.1, .inl (cI, 13, .inl (iA zZ))), (u.2.2.2.2.2.2.2.2.1, .inl (cI, 13, .inl (iA zZ))), (u.2.2.2.2.2.2.2.2.2, .inl (cI, 5, .inl (iA zZ)))])) 10 619 (va_A [(m0, .inr (3, [.int (iI (0 : Int)), .int (iI (0 : Int)), .int (iI (0 : Int)), .null, .int (iI (0 : Int)), .null, .null, .int (iI (0 : Int)), .null, .null, .null, .null, .int (iI (0 : Int)), .int (iI (0 : Int)), .null, .null, .null]))] sz) := by
  refine Met.ofW (cc := cX3_init) (maxL := 1) (ret := none) (by decide) rfl ?_
  intro p e s m args below meth c s₁ B hml hv
  obtain ⟨rfl, hsz, hP, hK, hD0⟩ := hv
  have hx := B.exec
  have hb := B.bytes
  have hr := B.returns
  have hts : ∀ w ∈ wsX3_init, w.before _ s = true := atoms_spec (ws := wsX3_init) B.pre
  have hown : s.vm.findClass RX3 = some m.cls := findClass_of_methodNamed B.named
  have hlocks := B.notSynchronized
  have hin : meth.name = "<init>" := (name_of_methodNamed B.named B.method).1
  subst hsz
  have hD := hD0.self (sz := s.heap.size)
  have hA : ∀ q9 : Nat, s.heap.size ≤ q9 → va_A [(m0, .inr (3, [.int (iI (0 : Int)), .int (iI (0 : Int)), .int (iI (0 : Int)), .null, .int (iI (0 : Int)), .null, .null, .int (iI (0 : Int)), .null, .null, .null, .null, .int (iI (0 : Int)), .int (iI (0 : Int)), .null, .null, .null]))] s.heap.size q9 := fun q9 h => Or.inr h
  have hS : va_S (va_A [(m0, .inr (3, [.int (iI (0 : Int)), .int (iI (0 : Int)), .int (iI (0 : Int)), .null, .int (iI (0 : Int)), .null, .null, .int (iI (0 : Int)), .null, .null, .null, .null, .int (iI (0 : Int)), .int (iI (0 : Int)), .null, .null, .null]))] s.heap.size) s.heap s.heap [] := va_S.rf
  generalize hAe : va_A [(m0, .inr (3, [.int (iI (0 : Int)), .int (iI (0 : Int)), .int (iI (0 : Int)), .null, .int (iI (0 : Int)), .null, .null, .int (iI (0 : Int)), .null, .null, .null, .null, .int (iI (0 : Int)), .int (iI (0 : Int)), .null, .null, .null]))] s.heap.size = A at hD hA hS
  have hP : va_P (dC, dI) vwCl [(m0, .inr (3, [.int (iI (0 : Int)), .int (iI (0 : Int)), .int (iI (0 : Int)), .null, .int (iI (0 : Int)), .null, .null, .int (iI (0 : Int)), .null, .null, .null, .null, .int (iI (0 : Int)), .int (iI (0 : Int)), .null, .null, .null]))] s.heap := hP
  have hl := lv_entry ([.ref m0]) (n := 1) (Nat.le_of_ble_eq_true rfl)
  rw [lg_entry_eq]
  generalize (lg_sl ([.ref m0]) ++ List.replicate (1 - (lg_sl ([.ref m0])).length) Slot.unset).toArray = ls at hl ⊢
  have hl : lv_has ls 1 [(0, .ref m0)] := hl
  generalize hargs : ([.ref m0] : List Value).toArray = args at hts ⊢
  refine z_intro (fun R Q hR hQ => ?_)
  have hRf : R.frames = 1 := by rw [hR]; rfl
  have hRl : R.locals = 20 := by rw [hR]; rfl
  have hRc : R.cells = 10 := by rw [hR]; rfl
  have hRs : R.slots = 619 := by rw [hR]; rfl
  have in_X3 : ∀ w ∈ u_ws RX3 TX3 17, w ∈ wsX3_init := fun w h => List.mem_cons_of_mem _ (inW_X3 w h)
  have fl_7 := wa_hts hts wd_485
  have fl_13 := wa_hts hts wd_487
  have fl_17 := wa_hts hts wd_489
  have fl_20 := wa_hts hts wd_490
  have fl_23 := wa_hts hts wd_492
  have fl_26 := wa_hts hts wd_493
  have fl_29 := wa_hts hts wd_494
  have fl_32 := wa_hts hts wd_495
  have fl_35 := wa_hts hts wd_498
  have fl_38 := wa_hts hts wd_499
  have fl_41 := wa_hts hts wd_500
  clear hR hargs B
  refine lv_aload_n hx hb dX3_init_0 rfl (lv_at hl 0 rfl) ?_
  refine W.objInit hx hb hown (wa_hts hts wd_483) (wa_hts hts wd_47) (wa_hts hts wd_48) rfl (hl.1.trans hml.symm) rfl dX3_init_1 (by omega) (by show 2 * 0 + 0 + 12 ≤ R.locals; omega) ?_
  refine W.eq (g2 := F0 m 4 ls []) rfl ?_
  refine lv_aload_n hx hb dX3_init_4 rfl (lv_at hl 0 rfl) ?_
  refine lv_iconst (v := iI (2 : Int)) hx hb dX3_init_5 (by decide) ?_
  refine va_put (D := (dC, dI)) (ci := 3) (v := .int (iI (2 : Int))) (ty := .int) (C := RX3) (T := TX3) (N := 17) hx hb hts in_X3 tyX3 tyX3_ok nmX3 hown hK hP hD hS 0 rfl rfl 1 (by decide) fl_7 (fun _ h9 => h9) rfl (by decide +kernel) rfl rfl (Nat.le_of_ble_eq_true rfl) dX3_init_6 (fun H locs hP hD hS => ?_)
  have hP : va_P (dC, dI) vwCl [(m0, .inr (3, [.int (iI (0 : Int)), .int (iI (2 : Int)), .int (iI (0 : Int)), .null, .int (iI (0 : Int)), .null, .null, .int (iI (0 : Int)), .null, .null, .null, .null, .int (iI (0 : Int)), .int (iI (0 : Int)), .null, .null, .null]))] H := hP
  have hD : va_D A [(m0, .inr (3, [.int (iI (0 : Int)), .int (iI (2 : Int)), .int (iI (0 : Int)), .null, .int (iI (0 : Int)), .null, .null, .int (iI (0 : Int)), .null, .null, .null, .null, .int (iI (0 : Int)), .int (iI (0 : Int)), .null, .null, .null]))] := hD
  refine lv_aload_n hx hb dX3_init_9 rfl (lv_at hl 0 rfl) ?_
  refine lv_bipush (v := iI (16 : Int)) hx hb dX3_init_10 (by decide) ?_
  refine z_newa (t0 := 0) hx hb (wa_hts hts wd_77) hK rfl hP hD hS hA 16 rfl (by omega) (by omega) (by omega) dX3_init_12 (fun q12 H hP hD hS => ?_)
  have hP : va_P (dC, dI) vwCl [(m0, .inr (3, [.int (iI (0 : Int)), .int (iI (2 : Int)), .int (iI (0 : Int)), .null, .int (iI (0 : Int)), .null, .null, .int (iI (0 : Int)), .null, .null, .null, .null, .int (iI (0 : Int)), .int (iI (0 : Int)), .null, .null, .null])), (q12, .inl (cI, 16, .inl (iA zZ)))] H := hP
  have hD : va_D A [(m0, .inr (3, [.int (iI (0 : Int)), .int (iI (2 : Int)), .int (iI (0 : Int)), .null, .int (iI (0 : Int)), .null, .null, .int (iI (0 : Int)), .null, .null, .null, .null, .int (iI (0 : Int)), .int (iI (0 : Int)), .null, .null, .null])), (q12, .inl (cI, 16, .inl (iA zZ)))] := hD
  refine va_put (D := (dC, dI)) (ci := 3) (v := .ref q12) (ty := (.array .int)) (C := RX3) (T := TX3) (N := 17) hx hb hts in_X3 tyX3 tyX3_ok nmX3 hown hK hP hD hS 0 rfl rfl 3 (by decide) fl_13 (fun _ h9 => h9) rfl (by decide +kernel) rfl rfl (Nat.le_of_ble_eq_true rfl) dX3_init_14 (fun H locs hP hD hS => ?_)
  have hP : va_P (dC, dI) vwCl [(m0, .inr (3, [.int (iI (0 : Int)), .int (iI (2 : Int)), .int (iI (0 : Int)), .ref q12, .int (iI (0 : Int)), .null, .null, .int (iI (0 : Int)), .null, .null, .null, .null, .int (iI (0 : Int)), .int (iI (0 : Int)), .null, .null, .null])), (q12, .inl (cI, 16, .inl (iA zZ)))] H := hP
  have hD : va_D A [(m0, .inr (3, [.int (iI (0 : Int)), .int (iI (2 : Int)), .int (iI (0 : Int)), .ref q12, .int (iI (0 : Int)), .null, .null, .int (iI (0 : Int)), .null, .null, .null, .null, .int (iI (0 : Int)), .int (iI (0 : Int)), .null, .null, .null])), (q12, .inl (cI, 16, .inl (iA zZ)))] := hD
  refine lv_aload_n hx hb dX3_init_17 rfl (lv_at hl 0 rfl) ?_
  refine lv_sipush (v := iI (192 : Int)) hx hb dX3_init_18 (by decide) ?_
  refine z_newa (t0 := 0) hx hb (wa_hts hts wd_77) hK rfl hP hD hS hA 192 rfl (by omega) (by omega) (by omega) dX3_init_21 (fun q21 H hP hD hS => ?_)
  have hP : va_P (dC, dI) vwCl [(m0, .inr (3, [.int (iI (0 : Int)), .int (iI (2 : Int)), .int (iI (0 : Int)), .ref q12, .int (iI (0 : Int)), .null, .null, .int (iI (0 : Int)), .null, .null, .null, .null, .int (iI (0 : Int)), .int (iI (0 : Int)), .null, .null, .null])), (q12, .inl (cI, 16, .inl (iA zZ))), (q21, .inl (cI, 192, .inl (iA zZ)))] H := hP
  have hD : va_D A [(m0, .inr (3, [.int (iI (0 : Int)), .int (iI (2 : Int)), .int (iI (0 : Int)), .ref q12, .int (iI (0 : Int)), .null, .null, .int (iI (0 : Int)), .null, .null, .null, .null, .int (iI (0 : Int)), .int (iI (0 : Int)), .null, .null, .null])), (q12, .inl (cI, 16, .inl (iA zZ))), (q21, .inl (cI, 192, .inl (iA zZ)))] := hD
  refine va_put (D := (dC, dI)) (ci := 3) (v := .ref q21) (ty := (.array .int)) (C := RX3) (T := TX3) (N := 17) hx hb hts in_X3 tyX3 tyX3_ok nmX3 hown hK hP hD hS 0 rfl rfl 5 (by decide) fl_17 (fun _ h9 => h9) rfl (by decide +kernel) rfl rfl (Nat.le_of_ble_eq_true rfl) dX3_init_23 (fun H locs hP hD hS => ?_)
  have hP : va_P (dC, dI) vwCl [(m0, .inr (3, [.int (iI (0 : Int)), .int (iI (2 : Int)), .int (iI (0 : Int)), .ref q12, .int (iI (0 : Int)), .ref q21, .null, .int (iI (0 : Int)), .null, .null, .null, .null, .int (iI (0 : Int)), .int (iI (0 : Int)), .null, .null, .null])), (q12, .inl (cI, 16, .inl (iA zZ))), (q21, .inl (cI, 192, .inl (iA zZ)))] H := hP
  have hD : va_D A [(m0, .inr (3, [.int (iI (0 : Int)), .int (iI (2 : Int)), .int (iI (0 : Int)), .ref q12, .int (iI (0 : Int)), .ref q21, .null, .int (iI (0 : Int)), .null, .null, .null, .null, .int (iI (0 : Int)), .int (iI (0 : Int)), .null, .null, .null])), (q12, .inl (cI, 16, .inl (iA zZ))), (q21, .inl (cI, 192, .inl (iA zZ)))] := hD
  refine lv_aload_n hx hb dX3_init_26 rfl (lv_at hl 0 rfl) ?_
  refine lv_bipush (v := iI (12 : Int)) hx hb dX3_init_27 (by decide) ?_
  refine z_newa (t0 := 0) hx hb (wa_hts hts wd_77) hK rfl hP hD hS hA 12 rfl (by omega) (by omega) (by omega) dX3_init_29 (fun q29 H hP hD hS => ?_)
  have hP : va_P (dC, dI) vwCl [(m0, .inr (3, [.int (iI (0 : Int)), .int (iI (2 : Int)), .int (iI (0 : Int)), .ref q12, .int (iI (0 : Int)), .ref q21, .null, .int (iI (0 : Int)), .null, .null, .null, .null, .int (iI (0 : Int)), .int (iI (0 : Int)), .null, .null, .null])), (q12, .inl (cI, 16, .inl (iA zZ))), (q21, .inl (cI, 192, .inl (iA zZ))), (q29, .inl (cI, 12, .inl (iA zZ)))] H := hP
  have hD : va_D A [(m0, .inr (3, [.int (iI (0 : Int)), .int (iI (2 : Int)), .int (iI (0 : Int)), .ref q12, .int (iI (0 : Int)), .ref q21, .null, .int (iI (0 : Int)), .null, .null, .null, .null, .int (iI (0 : Int)), .int (iI (0 : Int)), .null, .null, .null])), (q12, .inl (cI, 16, .inl (iA zZ))), (q21, .inl (cI, 192, .inl (iA zZ))), (q29, .inl (cI, 12, .inl (iA zZ)))] := hD
  refine va_put (D := (dC, dI)) (ci := 3) (v := .ref q29) (ty := (.array .int)) (C := RX3) (T := TX3) (N := 17) hx hb hts in_X3 tyX3 tyX3_ok nmX3 hown hK hP hD hS 0 rfl rfl 6 (by decide) fl_20 (fun _ h9 => h9) rfl (by decide +kernel) rfl rfl (Nat.le_of_ble_eq_true rfl) dX3_init_31 (fun H locs hP hD hS => ?_)
  have hP : va_P (dC, dI) vwCl [(m0, .inr (3, [.int (iI (0 : Int)), .int (iI (2 : Int)), .int (iI (0 : Int)), .ref q12, .int (iI (0 : Int)), .ref q21, .ref q29, .int (iI (0 : Int)), .null, .null, .null, .null, .int (iI (0 : Int)), .int (iI (0 : Int)), .null, .null, .null])), (q12, .inl (cI, 16, .inl (iA zZ))), (q21, .inl (cI, 192, .inl (iA zZ))), (q29, .inl (cI, 12, .inl (iA zZ)))] H := hP
  have hD : va_D A [(m0, .inr (3, [.int (iI (0 : Int)), .int (iI (2 : Int)), .int (iI (0 : Int)), .ref q12, .int (iI (0 : Int)), .ref q21, .ref q29, .int (iI (0 : Int)), .null, .null, .null, .null, .int (iI (0 : Int)), .int (iI (0 : Int)), .null, .null, .null])), (q12, .inl (cI, 16, .inl (iA zZ))), (q21, .inl (cI, 192, .inl (iA zZ))), (q29, .inl (cI, 12, .inl (iA zZ)))] := hD
  refine lv_aload_n hx hb dX3_init_34 rfl (lv_at hl 0 rfl) ?_
  refine lv_bipush (v := iI (64 : Int)) hx hb dX3_init_35 (by decide) ?_
  refine z_newa (t0 := 0) hx hb (wa_hts hts wd_77) hK rfl hP hD hS hA 64 rfl (by omega) (by omega) (by omega) dX3_init_37 (fun q37 H hP hD hS => ?_)
  have hP : va_P (dC, dI) vwCl [(m0, .inr (3, [.int (iI (0 : Int)), .int (iI (2 : Int)), .int (iI (0 : Int)), .ref q12, .int (iI (0 : Int)), .ref q21, .ref q29, .int (iI (0 : Int)), .null, .null, .null, .null, .int (iI (0 : Int)), .int (iI (0 : Int)), .null, .null, .null])), (q12, .inl (cI, 16, .inl (iA zZ))), (q21, .inl (cI, 192, .inl (iA zZ))), (q29, .inl (cI, 12, .inl (iA zZ))), (q37, .inl (cI, 64, .inl (iA zZ)))] H := hP
  have hD : va_D A [(m0, .inr (3, [.int (iI (0 : Int)), .int (iI (2 : Int)), .int (iI (0 : Int)), .ref q12, .int (iI (0 : Int)), .ref q21, .ref q29, .int (iI (0 : Int)), .null, .null, .null, .null, .int (iI (0 : Int)), .int (iI (0 : Int)), .null, .null, .null])), (q12, .inl (cI, 16, .inl (iA zZ))), (q21, .inl (cI, 192, .inl (iA zZ))), (q29, .inl (cI, 12, .inl (iA zZ))), (q37, .inl (cI, 64, .inl (iA zZ)))] := hD
  refine va_put (D := (dC, dI)) (ci := 3) (v := .ref q37) (ty := (.array .int)) (C := RX3) (T := TX3) (N := 17) hx hb hts in_X3 tyX3 tyX3_ok nmX3 hown hK hP hD hS 0 rfl rfl 8 (by decide) fl_23 (fun _ h9 => h9) rfl (by decide +kernel) rfl rfl (Nat.le_of_ble_eq_true rfl) dX3_init_39 (fun H locs hP hD hS => ?_)
  have hP : va_P (dC, dI) vwCl [(m0, .inr (3, [.int (iI (0 : Int)), .int (iI (2 : Int)), .int (iI (0 : Int)), .ref q12, .int (iI (0 : Int)), .ref q21, .ref q29, .int (iI (0 : Int)), .ref q37, .null, .null, .null, .int (iI (0 : Int)), .int (iI (0 : Int)), .null, .null, .null])), (q12, .inl (cI, 16, .inl (iA zZ))), (q21, .inl (cI, 192, .inl (iA zZ))), (q29, .inl (cI, 12, .inl (iA zZ))), (q37, .inl (cI, 64, .inl (iA zZ)))] H := hP
  have hD : va_D A [(m0, .inr (3, [.int (iI (0 : Int)), .int (iI (2 : Int)), .int (iI (0 : Int)), .ref q12, .int (iI (0 : Int)), .ref q21, .ref q29, .int (iI (0 : Int)), .ref q37, .null, .null, .null, .int (iI (0 : Int)), .int (iI (0 : Int)), .null, .null, .null])), (q12, .inl (cI, 16, .inl (iA zZ))), (q21, .inl (cI, 192, .inl (iA zZ))), (q29, .inl (cI, 12, .inl (iA zZ))), (q37, .inl (cI, 64, .inl (iA zZ)))] := hD
  refine lv_aload_n hx hb dX3_init_42 rfl (lv_at hl 0 rfl) ?_
  refine lv_bipush (v := iI (16 : Int)) hx hb dX3_init_43 (by decide) ?_
  refine z_newa (t0 := 0) hx hb (wa_hts hts wd_77) hK rfl hP hD hS hA 16 rfl (by omega) (by omega) (by omega) dX3_init_45 (fun q45 H hP hD hS => ?_)
  have hP : va_P (dC, dI) vwCl [(m0, .inr (3, [.int (iI (0 : Int)), .int (iI (2 : Int)), .int (iI (0 : Int)), .ref q12, .int (iI (0 : Int)), .ref q21, .ref q29, .int (iI (0 : Int)), .ref q37, .null, .null, .null, .int (iI (0 : Int)), .int (iI (0 : Int)), .null, .null, .null])), (q12, .inl (cI, 16, .inl (iA zZ))), (q21, .inl (cI, 192, .inl (iA zZ))), (q29, .inl (cI, 12, .inl (iA zZ))), (q37, .inl (cI, 64, .inl (iA zZ))), (q45, .inl (cI, 16, .inl (iA zZ)))] H := hP
  have hD : va_D A [(m0, .inr (3, [.int (iI (0 : Int)), .int (iI (2 : Int)), .int (iI (0 : Int)), .ref q12, .int (iI (0 : Int)), .ref q21, .ref q29, .int (iI (0 : Int)), .ref q37, .null, .null, .null, .int (iI (0 : Int)), .int (iI (0 : Int)), .null, .null, .null])), (q12, .inl (cI, 16, .inl (iA zZ))), (q21, .inl (cI, 192, .inl (iA zZ))), (q29, .inl (cI, 12, .inl (iA zZ))), (q37, .inl (cI, 64, .inl (iA zZ))), (q45, .inl (cI, 16, .inl (iA zZ)))] := hD
  refine va_put (D := (dC, dI)) (ci := 3) (v := .ref q45) (ty := (.array .int)) (C := RX3) (T := TX3) (N := 17) hx hb hts in_X3 tyX3 tyX3_ok nmX3 hown hK hP hD hS 0 rfl rfl 9 (by decide) fl_26 (fun _ h9 => h9) rfl (by decide +kernel) rfl rfl (Nat.le_of_ble_eq_true rfl) dX3_init_47 (fun H locs hP hD hS => ?_)
  have hP : va_P (dC, dI) vwCl [(m0, .inr (3, [.int (iI (0 : Int)), .int (iI (2 : Int)), .int (iI (0 : Int)), .ref q12, .int (iI (0 : Int)), .ref q21, .ref q29, .int (iI (0 : Int)), .ref q37, .ref q45, .null, .null, .int (iI (0 : Int)), .int (iI (0 : Int)), .null, .null, .null])), (q12, .inl (cI, 16, .inl (iA zZ))), (q21, .inl (cI, 192, .inl (iA zZ))), (q29, .inl (cI, 12, .inl (iA zZ))), (q37, .inl (cI, 64, .inl (iA zZ))), (q45, .inl (cI, 16, .inl (iA zZ)))] H := hP
  have hD : va_D A [(m0, .inr (3, [.int (iI (0 : Int)), .int (iI (2 : Int)), .int (iI (0 : Int)), .ref q12, .int (iI (0 : Int)), .ref q21, .ref q29, .int (iI (0 : Int)), .ref q37, .ref q45, .null, .null, .int (iI (0 : Int)), .int (iI (0 : Int)), .null, .null, .null])), (q12, .inl (cI, 16, .inl (iA zZ))), (q21, .inl (cI, 192, .inl (iA zZ))), (q29, .inl (cI, 12, .inl (iA zZ))), (q37, .inl (cI, 64, .inl (iA zZ))), (q45, .inl (cI, 16, .inl (iA zZ)))] := hD
  refine lv_aload_n hx hb dX3_init_50 rfl (lv_at hl 0 rfl) ?_
  refine lv_sipush (v := iI (256 : Int)) hx hb dX3_init_51 (by decide) ?_
  refine z_newa (t0 := 0) hx hb (wa_hts hts wd_77) hK rfl hP hD hS hA 256 rfl (by omega) (by omega) (by omega) dX3_init_54 (fun q54 H hP hD hS => ?_)
  have hP : va_P (dC, dI) vwCl [(m0, .inr (3, [.int (iI (0 : Int)), .int (iI (2 : Int)), .int (iI (0 : Int)), .ref q12, .int (iI (0 : Int)), .ref q21, .ref q29, .int (iI (0 : Int)), .ref q37, .ref q45, .null, .null, .int (iI (0 : Int)), .int (iI (0 : Int)), .null, .null, .null])), (q12, .inl (cI, 16, .inl (iA zZ))), (q21, .inl (cI, 192, .inl (iA zZ))), (q29, .inl (cI, 12, .inl (iA zZ))), (q37, .inl (cI, 64, .inl (iA zZ))), (q45, .inl (cI, 16, .inl (iA zZ))), (q54, .inl (cI, 256, .inl (iA zZ)))] H := hP
  have hD : va_D A [(m0, .inr (3, [.int (iI (0 : Int)), .int (iI (2 : Int)), .int (iI (0 : Int)), .ref q12, .int (iI (0 : Int)), .ref q21, .ref q29, .int (iI (0 : Int)), .ref q37, .ref q45, .null, .null, .int (iI (0 : Int)), .int (iI (0 : Int)), .null, .null, .null])), (q12, .inl (cI, 16, .inl (iA zZ))), (q21, .inl (cI, 192, .inl (iA zZ))), (q29, .inl (cI, 12, .inl (iA zZ))), (q37, .inl (cI, 64, .inl (iA zZ))), (q45, .inl (cI, 16, .inl (iA zZ))), (q54, .inl (cI, 256, .inl (iA zZ)))] := hD
  refine va_put (D := (dC, dI)) (ci := 3) (v := .ref q54) (ty := (.array .int)) (C := RX3) (T := TX3) (N := 17) hx hb hts in_X3 tyX3 tyX3_ok nmX3 hown hK hP hD hS 0 rfl rfl 10 (by decide) fl_29 (fun _ h9 => h9) rfl (by decide +kernel) rfl rfl (Nat.le_of_ble_eq_true rfl) dX3_init_56 (fun H locs hP hD hS => ?_)
  have hP : va_P (dC, dI) vwCl [(m0, .inr (3, [.int (iI (0 : Int)), .int (iI (2 : Int)), .int (iI (0 : Int)), .ref q12, .int (iI (0 : Int)), .ref q21, .ref q29, .int (iI (0 : Int)), .ref q37, .ref q45, .ref q54, .null, .int (iI (0 : Int)), .int (iI (0 : Int)), .null, .null, .null])), (q12, .inl (cI, 16, .inl (iA zZ))), (q21, .inl (cI, 192, .inl (iA zZ))), (q29, .inl (cI, 12, .inl (iA zZ))), (q37, .inl (cI, 64, .inl (iA zZ))), (q45, .inl (cI, 16, .inl (iA zZ))), (q54, .inl (cI, 256, .inl (iA zZ)))] H := hP
  have hD : va_D A [(m0, .inr (3, [.int (iI (0 : Int)), .int (iI (2 : Int)), .int (iI (0 : Int)), .ref q12, .int (iI (0 : Int)), .ref q21, .ref q29, .int (iI (0 : Int)), .ref q37, .ref q45, .ref q54, .null, .int (iI (0 : Int)), .int (iI (0 : Int)), .null, .null, .null])), (q12, .inl (cI, 16, .inl (iA zZ))), (q21, .inl (cI, 192, .inl (iA zZ))), (q29, .inl (cI, 12, .inl (iA zZ))), (q37, .inl (cI, 64, .inl (iA zZ))), (q45, .inl (cI, 16, .inl (iA zZ))), (q54, .inl (cI, 256, .inl (iA zZ)))] := hD
  refine lv_aload_n hx hb dX3_init_59 rfl (lv_at hl 0 rfl) ?_
  refine lv_bipush (v := iI (32 : Int)) hx hb dX3_init_60 (by decide) ?_
  refine z_newa (t0 := 0) hx hb (wa_hts hts wd_77) hK rfl hP hD hS hA 32 rfl (by omega) (by omega) (by omega) dX3_init_62 (fun q62 H hP hD hS => ?_)
  have hP : va_P (dC, dI) vwCl [(m0, .inr (3, [.int (iI (0 : Int)), .int (iI (2 : Int)), .int (iI (0 : Int)), .ref q12, .int (iI (0 : Int)), .ref q21, .ref q29, .int (iI (0 : Int)), .ref q37, .ref q45, .ref q54, .null, .int (iI (0 : Int)), .int (iI (0 : Int)), .null, .null, .null])), (q12, .inl (cI, 16, .inl (iA zZ))), (q21, .inl (cI, 192, .inl (iA zZ))), (q29, .inl (cI, 12, .inl (iA zZ))), (q37, .inl (cI, 64, .inl (iA zZ))), (q45, .inl (cI, 16, .inl (iA zZ))), (q54, .inl (cI, 256, .inl (iA zZ))), (q62, .inl (cI, 32, .inl (iA zZ)))] H := hP
  have hD : va_D A [(m0, .inr (3, [.int (iI (0 : Int)), .int (iI (2 : Int)), .int (iI (0 : Int)), .ref q12, .int (iI (0 : Int)), .ref q21, .ref q29, .int (iI (0 : Int)), .ref q37, .ref q45, .ref q54, .null, .int (iI (0 : Int)), .int (iI (0 : Int)), .null, .null, .null])), (q12, .inl (cI, 16, .inl (iA zZ))), (q21, .inl (cI, 192, .inl (iA zZ))), (q29, .inl (cI, 12, .inl (iA zZ))), (q37, .inl (cI, 64, .inl (iA zZ))), (q45, .inl (cI, 16, .inl (iA zZ))), (q54, .inl (cI, 256, .inl (iA zZ))), (q62, .inl (cI, 32, .inl (iA zZ)))] := hD
  refine va_put (D := (dC, dI)) (ci := 3) (v := .ref q62) (ty := (.array .int)) (C := RX3) (T := TX3) (N := 17) hx hb hts in_X3 tyX3 tyX3_ok nmX3 hown hK hP hD hS 0 rfl rfl 11 (by decide) fl_32 (fun _ h9 => h9) rfl (by decide +kernel) rfl rfl (Nat.le_of_ble_eq_true rfl) dX3_init_64 (fun H locs hP hD hS => ?_)
  have hP : va_P (dC, dI) vwCl [(m0, .inr (3, [.int (iI (0 : Int)), .int (iI (2 : Int)), .int (iI (0 : Int)), .ref q12, .int (iI (0 : Int)), .ref q21, .ref q29, .int (iI (0 : Int)), .ref q37, .ref q45, .ref q54, .ref q62, .int (iI (0 : Int)), .int (iI (0 : Int)), .null, .null, .null])), (q12, .inl (cI, 16, .inl (iA zZ))), (q21, .inl (cI, 192, .inl (iA zZ))), (q29, .inl (cI, 12, .inl (iA zZ))), (q37, .inl (cI, 64, .inl (iA zZ))), (q45, .inl (cI, 16, .inl (iA zZ))), (q54, .inl (cI, 256, .inl (iA zZ))), (q62, .inl (cI, 32, .inl (iA zZ)))] H := hP
  have hD : va_D A [(m0, .inr (3, [.int (iI (0 : Int)), .int (iI (2 : Int)), .int (iI (0 : Int)), .ref q12, .int (iI (0 : Int)), .ref q21, .ref q29, .int (iI (0 : Int)), .ref q37, .ref q45, .ref q54, .ref q62, .int (iI (0 : Int)), .int (iI (0 : Int)), .null, .null, .null])), (q12, .inl (cI, 16, .inl (iA zZ))), (q21, .inl (cI, 192, .inl (iA zZ))), (q29, .inl (cI, 12, .inl (iA zZ))), (q37, .inl (cI, 64, .inl (iA zZ))), (q45, .inl (cI, 16, .inl (iA zZ))), (q54, .inl (cI, 256, .inl (iA zZ))), (q62, .inl (cI, 32, .inl (iA zZ)))] := hD
  refine lv_aload_n hx hb dX3_init_67 rfl (lv_at hl 0 rfl) ?_
  refine lv_bipush (v := iI (13 : Int)) hx hb dX3_init_68 (by decide) ?_
  refine z_newa (t0 := 0) hx hb (wa_hts hts wd_77) hK rfl hP hD hS hA 13 rfl (by omega) (by omega) (by omega) dX3_init_70 (fun q70 H hP hD hS => ?_)
  have hP : va_P (dC, dI) vwCl [(m0, .inr (3, [.int (iI (0 : Int)), .int (iI (2 : Int)), .int (iI (0 : Int)), .ref q12, .int (iI (0 : Int)), .ref q21, .ref q29, .int (iI (0 : Int)), .ref q37, .ref q45, .ref q54, .ref q62, .int (iI (0 : Int)), .int (iI (0 : Int)), .null, .null, .null])), (q12, .inl (cI, 16, .inl (iA zZ))), (q21, .inl (cI, 192, .inl (iA zZ))), (q29, .inl (cI, 12, .inl (iA zZ))), (q37, .inl (cI, 64, .inl (iA zZ))), (q45, .inl (cI, 16, .inl (iA zZ))), (q54, .inl (cI, 256, .inl (iA zZ))), (q62, .inl (cI, 32, .inl (iA zZ))), (q70, .inl (cI, 13, .inl (iA zZ)))] H := hP
  have hD : va_D A [(m0, .inr (3, [.int (iI (0 : Int)), .int (iI (2 : Int)), .int (iI (0 : Int)), .ref q12, .int (iI (0 : Int)), .ref q21, .ref q29, .int (iI (0 : Int)), .ref q37, .ref q45, .ref q54, .ref q62, .int (iI (0 : Int)), .int (iI (0 : Int)), .null, .null, .null])), (q12, .inl (cI, 16, .inl (iA zZ))), (q21, .inl (cI, 192, .inl (iA zZ))), (q29, .inl (cI, 12, .inl (iA zZ))), (q37, .inl (cI, 64, .inl (iA zZ))), (q45, .inl (cI, 16, .inl (iA zZ))), (q54, .inl (cI, 256, .inl (iA zZ))), (q62, .inl (cI, 32, .inl (iA zZ))), (q70, .inl (cI, 13, .inl (iA zZ)))] := hD
  refine va_put (D := (dC, dI)) (ci := 3) (v := .ref q70) (ty := (.array .int)) (C := RX3) (T := TX3) (N := 17) hx hb hts in_X3 tyX3 tyX3_ok nmX3 hown hK hP hD hS 0 rfl rfl 14 (by decide) fl_35 (fun _ h9 => h9) rfl (by decide +kernel) rfl rfl (Nat.le_of_ble_eq_true rfl) dX3_init_72 (fun H locs hP hD hS => ?_)
  have hP : va_P (dC, dI) vwCl [(m0, .inr (3, [.int (iI (0 : Int)), .int (iI (2 : Int)), .int (iI (0 : Int)), .ref q12, .int (iI (0 : Int)), .ref q21, .ref q29, .int (iI (0 : Int)), .ref q37, .ref q45, .ref q54, .ref q62, .int (iI (0 : Int)), .int (iI (0 : Int)), .ref q70, .null, .null])), (q12, .inl (cI, 16, .inl (iA zZ))), (q21, .inl (cI, 192, .inl (iA zZ))), (q29, .inl (cI, 12, .inl (iA zZ))), (q37, .inl (cI, 64, .inl (iA zZ))), (q45, .inl (cI, 16, .inl (iA zZ))), (q54, .inl (cI, 256, .inl (iA zZ))), (q62, .inl (cI, 32, .inl (iA zZ))), (q70, .inl (cI, 13, .inl (iA zZ)))] H := hP
  have hD : va_D A [(m0, .inr (3, [.int (iI (0 : Int)), .int (iI (2 : Int)), .int (iI (0 : Int)), .ref q12, .int (iI (0 : Int)), .ref q21, .ref q29, .int (iI (0 : Int)), .ref q37, .ref q45, .ref q54, .ref q62, .int (iI (0 : Int)), .int (iI (0 : Int)), .ref q70, .null, .null])), (q12, .inl (cI, 16, .inl (iA zZ))), (q21, .inl (cI, 192, .inl (iA zZ))), (q29, .inl (cI, 12, .inl (iA zZ))), (q37, .inl (cI, 64, .inl (iA zZ))), (q45, .inl (cI, 16, .inl (iA zZ))), (q54, .inl (cI, 256, .inl (iA zZ))), (q62, .inl (cI, 32, .inl (iA zZ))), (q70, .inl (cI, 13, .inl (iA zZ)))] := hD
  refine lv_aload_n hx hb dX3_init_75 rfl (lv_at hl 0 rfl) ?_
  refine lv_bipush (v := iI (13 : Int)) hx hb dX3_init_76 (by decide) ?_
  refine z_newa (t0 := 0) hx hb (wa_hts hts wd_77) hK rfl hP hD hS hA 13 rfl (by omega) (by omega) (by omega) dX3_init_78 (fun q78 H hP hD hS => ?_)
  have hP : va_P (dC, dI) vwCl [(m0, .inr (3, [.int (iI (0 : Int)), .int (iI (2 : Int)), .int (iI (0 : Int)), .ref q12, .int (iI (0 : Int)), .ref q21, .ref q29, .int (iI (0 : Int)), .ref q37, .ref q45, .ref q54, .ref q62, .int (iI (0 : Int)), .int (iI (0 : Int)), .ref q70, .null, .null])), (q12, .inl (cI, 16, .inl (iA zZ))), (q21, .inl (cI, 192, .inl (iA zZ))), (q29, .inl (cI, 12, .inl (iA zZ))), (q37, .inl (cI, 64, .inl (iA zZ))), (q45, .inl (cI, 16, .inl (iA zZ))), (q54, .inl (cI, 256, .inl (iA zZ))), (q62, .inl (cI, 32, .inl (iA zZ))), (q70, .inl (cI, 13, .inl (iA zZ))), (q78, .inl (cI, 13, .inl (iA zZ)))] H := hP
  have hD : va_D A [(m0, .inr (3, [.int (iI (0 : Int)), .int (iI (2 : Int)), .int (iI (0 : Int)), .ref q12, .int (iI (0 : Int)), .ref q21, .ref q29, .int (iI (0 : Int)), .ref q37, .ref q45, .ref q54, .ref q62, .int (iI (0 : Int)), .int (iI (0 : Int)), .ref q70, .null, .null])), (q12, .inl (cI, 16, .inl (iA zZ))), (q21, .inl (cI, 192, .inl (iA zZ))), (q29, .inl (cI, 12, .inl (iA zZ))), (q37, .inl (cI, 64, .inl (iA zZ))), (q45, .inl (cI, 16, .inl (iA zZ))), (q54, .inl (cI, 256, .inl (iA zZ))), (q62, .inl (cI, 32, .inl (iA zZ))), (q70, .inl (cI, 13, .inl (iA zZ))), (q78, .inl (cI, 13, .inl (iA zZ)))] := hD
  refine va_put (D := (dC, dI)) (ci := 3) (v := .ref q78) (ty := (.array .int)) (C := RX3) (T := TX3) (N := 17) hx hb hts in_X3 tyX3 tyX3_ok nmX3 hown hK hP hD hS 0 rfl rfl 15 (by decide) fl_38 (fun _ h9 => h9) rfl (by decide +kernel) rfl rfl (Nat.le_of_ble_eq_true rfl) dX3_init_80 (fun H locs hP hD hS => ?_)
  have hP : va_P (dC, dI) vwCl [(m0, .inr (3, [.int (iI (0 : Int)), .int (iI (2 : Int)), .int (iI (0 : Int)), .ref q12, .int (iI (0 : Int)), .ref q21, .ref q29, .int (iI (0 : Int)), .ref q37, .ref q45, .ref q54, .ref q62, .int (iI (0 : Int)), .int (iI (0 : Int)), .ref q70, .ref q78, .null])), (q12, .inl (cI, 16, .inl (iA zZ))), (q21, .inl (cI, 192, .inl (iA zZ))), (q29, .inl (cI, 12, .inl (iA zZ))), (q37, .inl (cI, 64, .inl (iA zZ))), (q45, .inl (cI, 16, .inl (iA zZ))), (q54, .inl (cI, 256, .inl (iA zZ))), (q62, .inl (cI, 32, .inl (iA zZ))), (q70, .inl (cI, 13, .inl (iA zZ))), (q78, .inl (cI, 13, .inl (iA zZ)))] H := hP
  have hD : va_D A [(m0, .inr (3, [.int (iI (0 : Int)), .int (iI (2 : Int)), .int (iI (0 : Int)), .ref q12, .int (iI (0 : Int)), .ref q21, .ref q29, .int (iI (0 : Int)), .ref q37, .ref q45, .ref q54, .ref q62, .int (iI (0 : Int)), .int (iI (0 : Int)), .ref q70, .ref q78, .null])), (q12, .inl (cI, 16, .inl (iA zZ))), (q21, .inl (cI, 192, .inl (iA zZ))), (q29, .inl (cI, 12, .inl (iA zZ))), (q37, .inl (cI, 64, .inl (iA zZ))), (q45, .inl (cI, 16, .inl (iA zZ))), (q54, .inl (cI, 256, .inl (iA zZ))), (q62, .inl (cI, 32, .inl (iA zZ))), (q70, .inl (cI, 13, .inl (iA zZ))), (q78, .inl (cI, 13, .inl (iA zZ)))] := hD
  refine lv_aload_n hx hb dX3_init_83 rfl (lv_at hl 0 rfl) ?_
  refine lv_iconst (v := iI (5 : Int)) hx hb dX3_init_84 (by decide) ?_
  refine z_newa (t0 := 0) hx hb (wa_hts hts wd_77) hK rfl hP hD hS hA 5 rfl (by omega) (by omega) (by omega) dX3_init_85 (fun q85 H hP hD hS => ?_)
  have hP : va_P (dC, dI) vwCl [(m0, .inr (3, [.int (iI (0 : Int)), .int (iI (2 : Int)), .int (iI (0 : Int)), .ref q12, .int (iI (0 : Int)), .ref q21, .ref q29, .int (iI (0 : Int)), .ref q37, .ref q45, .ref q54, .ref q62, .int (iI (0 : Int)), .int (iI (0 : Int)), .ref q70, .ref q78, .null])), (q12, .inl (cI, 16, .inl (iA zZ))), (q21, .inl (cI, 192, .inl (iA zZ))), (q29, .inl (cI, 12, .inl (iA zZ))), (q37, .inl (cI, 64, .inl (iA zZ))), (q45, .inl (cI, 16, .inl (iA zZ))), (q54, .inl (cI, 256, .inl (iA zZ))), (q62, .inl (cI, 32, .inl (iA zZ))), (q70, .inl (cI, 13, .inl (iA zZ))), (q78, .inl (cI, 13, .inl (iA zZ))), (q85, .inl (cI, 5, .inl (iA zZ)))] H := hP
  have hD : va_D A [(m0, .inr (3, [.int (iI (0 : Int)), .int (iI (2 : Int)), .int (iI (0 : Int)), .ref q12, .int (iI (0 : Int)), .ref q21, .ref q29, .int (iI (0 : Int)), .ref q37, .ref q45, .ref q54, .ref q62, .int (iI (0 : Int)), .int (iI (0 : Int)), .ref q70, .ref q78, .null])), (q12, .inl (cI, 16, .inl (iA zZ))), (q21, .inl (cI, 192, .inl (iA zZ))), (q29, .inl (cI, 12, .inl (iA zZ))), (q37, .inl (cI, 64, .inl (iA zZ))), (q45, .inl (cI, 16, .inl (iA zZ))), (q54, .inl (cI, 256, .inl (iA zZ))), (q62, .inl (cI, 32, .inl (iA zZ))), (q70, .inl (cI, 13, .inl (iA zZ))), (q78, .inl (cI, 13, .inl (iA zZ))), (q85, .inl (cI, 5, .inl (iA zZ)))] := hD
  refine va_put (D := (dC, dI)) (ci := 3) (v := .ref q85) (ty := (.array .int)) (C := RX3) (T := TX3) (N := 17) hx hb hts in_X3 tyX3 tyX3_ok nmX3 hown hK hP hD hS 0 rfl rfl 16 (by decide) fl_41 (fun _ h9 => h9) rfl (by decide +kernel) rfl rfl (Nat.le_of_ble_eq_true rfl) dX3_init_87 (fun H locs hP hD hS => ?_)
  have hP : va_P (dC, dI) vwCl [(m0, .inr (3, [.int (iI (0 : Int)), .int (iI (2 : Int)), .int (iI (0 : Int)), .ref q12, .int (iI (0 : Int)), .ref q21, .ref q29, .int (iI (0 : Int)), .ref q37, .ref q45, .ref q54, .ref q62, .int (iI (0 : Int)), .int (iI (0 : Int)), .ref q70, .ref q78, .ref q85])), (q12, .inl (cI, 16, .inl (iA zZ))), (q21, .inl (cI, 192, .inl (iA zZ))), (q29, .inl (cI, 12, .inl (iA zZ))), (q37, .inl (cI, 64, .inl (iA zZ))), (q45, .inl (cI, 16, .inl (iA zZ))), (q54, .inl (cI, 256, .inl (iA zZ))), (q62, .inl (cI, 32, .inl (iA zZ))), (q70, .inl (cI, 13, .inl (iA zZ))), (q78, .inl (cI, 13, .inl (iA zZ))), (q85, .inl (cI, 5, .inl (iA zZ)))] H := hP
  have hD : va_D A [(m0, .inr (3, [.int (iI (0 : Int)), .int (iI (2 : Int)), .int (iI (0 : Int)), .ref q12, .int (iI (0 : Int)), .ref q21, .ref q29, .int (iI (0 : Int)), .ref q37, .ref q45, .ref q54, .ref q62, .int (iI (0 : Int)), .int (iI (0 : Int)), .ref q70, .ref q78, .ref q85])), (q12, .inl (cI, 16, .inl (iA zZ))), (q21, .inl (cI, 192, .inl (iA zZ))), (q29, .inl (cI, 12, .inl (iA zZ))), (q37, .inl (cI, 64, .inl (iA zZ))), (q45, .inl (cI, 16, .inl (iA zZ))), (q54, .inl (cI, 256, .inl (iA zZ))), (q62, .inl (cI, 32, .inl (iA zZ))), (q70, .inl (cI, 13, .inl (iA zZ))), (q78, .inl (cI, 13, .inl (iA zZ))), (q85, .inl (cI, 5, .inl (iA zZ)))] := hD
  subst hAe
  exact zw_retv ((q12, q21, q29, q37, q45, q54, q62, q70, q78, q85)) hx hb hr hlocks hQ (trivial) hP hK hD hS dX3_init_90
