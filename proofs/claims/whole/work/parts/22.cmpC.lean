set_option maxRecDepth 100000 in
set_option maxHeartbeats 4000000 in
theorem c_placeQuestion (l : Launch) (dC : Nat → ClassId) (dI : Nat → Nat → Nat) (cI : ClassId) (h0 aq ar ac ap ax : Nat) (ps : Int) (n1 w1 n w : Nat) (q x : Nat → Int) (sz : Nat) (hn : 2 ≤ n ∧ n ≤ 16) (hw : w ≤ 15) : Met l yX0_placeQuestion wsX0_placeQuestion ({ frames := 1, cells := 0, slots := 0, locals := 40 }) (wrP dC dI [(cI, .int)] [(h0, .inr (0, [.ref aq, .ref ar, .ref ac, .ref ap, .int (iI ps), .int (iI (n1 : Int)), .int (iI (w1 : Int))])), (aq, .inl (cI, 16, .inl (iA q))), (ax, .inl (cI, 16, .inl (iA x)))] sz [.ref h0, .ref ax, .int (iI (n : Int)), .int (iI (w : Int))]) (wrQv dC dI [(cI, .int)] [(h0, .inr (0, [.ref aq, .ref ar, .ref ac, .ref ap, .int (iI ps), .int (iI (n1 : Int)), .int (iI (w1 : Int))])), (aq, .inl (cI, 16, .inl (iA q))), (ax, .inl (cI, 16, .inl (iA x)))] sz (S := Unit) (fun _ => True) (fun _ => [(h0, .inr (0, [.ref aq, .ref ar, .ref ac, .ref ap, .int (iI ps), .int (iI (n : Int)), .int (iI (w : Int))])), (aq, .inl (cI, 16, .inl (iA (zC x q 0 0 n)))), (ax, .inl (cI, 16, .inl (iA x)))])) 0 0 (va_A [(h0, .inr (0, [.ref aq, .ref ar, .ref ac, .ref ap, .int (iI ps), .int (iI (n1 : Int)), .int (iI (w1 : Int))])), (aq, .inl (cI, 16, .inl (iA q))), (ax, .inl (cI, 16, .inl (iA x)))] sz) := by
  refine Met.ofW (cc := cX0_placeQuestion) (maxL := 4) (ret := none) (by decide) rfl ?_
  intro p e s m args below meth c s₁ B hml hv
  obtain ⟨rfl, hsz, hP, hK, hD0⟩ := hv
  have hx := B.exec
  have hb := B.bytes
  have hr := B.returns
  have hts : ∀ w ∈ wsX0_placeQuestion, w.before _ s = true := atoms_spec (ws := wsX0_placeQuestion) B.pre
  have hown : s.vm.findClass RX0 = some m.cls := findClass_of_methodNamed B.named
  have hlocks := B.notSynchronized
  subst hsz
  have hD := hD0.self (sz := s.heap.size)
  have hA : ∀ q9 : Nat, s.heap.size ≤ q9 → va_A [(h0, .inr (0, [.ref aq, .ref ar, .ref ac, .ref ap, .int (iI ps), .int (iI (n1 : Int)), .int (iI (w1 : Int))])), (aq, .inl (cI, 16, .inl (iA q))), (ax, .inl (cI, 16, .inl (iA x)))] s.heap.size q9 := fun q9 h => Or.inr h
  have hS : va_S (va_A [(h0, .inr (0, [.ref aq, .ref ar, .ref ac, .ref ap, .int (iI ps), .int (iI (n1 : Int)), .int (iI (w1 : Int))])), (aq, .inl (cI, 16, .inl (iA q))), (ax, .inl (cI, 16, .inl (iA x)))] s.heap.size) s.heap s.heap [] := va_S.rf
  generalize hAe : va_A [(h0, .inr (0, [.ref aq, .ref ar, .ref ac, .ref ap, .int (iI ps), .int (iI (n1 : Int)), .int (iI (w1 : Int))])), (aq, .inl (cI, 16, .inl (iA q))), (ax, .inl (cI, 16, .inl (iA x)))] s.heap.size = A at hD hA hS
  have hP : va_P (dC, dI) vwCl [(h0, .inr (0, [.ref aq, .ref ar, .ref ac, .ref ap, .int (iI ps), .int (iI (n1 : Int)), .int (iI (w1 : Int))])), (aq, .inl (cI, 16, .inl (iA q))), (ax, .inl (cI, 16, .inl (iA x)))] s.heap := hP
  have hl := lv_entry ([.ref h0, .ref ax, .int (iI (n : Int)), .int (iI (w : Int))]) (n := 4) (Nat.le_of_ble_eq_true rfl)
  rw [lg_entry_eq]
  generalize (lg_sl ([.ref h0, .ref ax, .int (iI (n : Int)), .int (iI (w : Int))]) ++ List.replicate (4 - (lg_sl ([.ref h0, .ref ax, .int (iI (n : Int)), .int (iI (w : Int))])).length) Slot.unset).toArray = ls at hl ⊢
  have hl : lv_has ls 4 [(0, .ref h0), (1, .ref ax), (2, .int (iI (n : Int))), (3, .int (iI (w : Int)))] := hl
  generalize hargs : ([.ref h0, .ref ax, .int (iI (n : Int)), .int (iI (w : Int))] : List Value).toArray = args at hts ⊢
  refine z_intro (fun R Q hR hQ => ?_)
  have hRf : R.frames = 1 := by rw [hR]; rfl
  have hRl : R.locals = 40 := by rw [hR]; rfl
  have hRc : R.cells = 0 := by rw [hR]; rfl
  have hRs : R.slots = 0 := by rw [hR]; rfl
  have in_X0 : ∀ w ∈ u_ws RX0 TX0 7, w ∈ wsX0_placeQuestion := fun w h => List.mem_cons_of_mem _ (inW_X0 w h)
  have fl_9 := wa_hts hts wd_55
  have fl_28 := wa_hts hts wd_60
  have fl_31 := wa_hts hts wd_61
  have ml_34 : (Cond.methodLink RX0 34 arraycopyName).before args s = true := wa_hts hts wd_308
  have nt_copy : (Cond.native arraycopyName).before args s = true := wa_hts hts wd_272
  have st_copy : (Cond.static arraycopyName).before args s = true := wa_hts hts wd_271
  have hSys := wa_hts hts wd_39
  clear hR hargs B
  refine lv_aload_n hx hb dX0_placeQuestion_0 rfl (lv_at hl 1 rfl) ?_
  refine lv_iconst (v := iI (0 : Int)) hx hb dX0_placeQuestion_1 (by decide) ?_
  refine lv_aload_n hx hb dX0_placeQuestion_2 rfl (lv_at hl 0 rfl) ?_
  refine va_get (D := (dC, dI)) (ci := 0) (v := .ref aq) (C := RX0) (T := TX0) (N := 7) hx hb hts in_X0 hown hK hP 0 rfl rfl 0 (by decide) fl_9 (fun _ h9 => h9) rfl dX0_placeQuestion_3 ?_
  refine lv_iconst (v := iI (0 : Int)) hx hb dX0_placeQuestion_6 (by decide) ?_
  refine lv_iload_n hx hb dX0_placeQuestion_7 rfl (lv_at hl 2 rfl) ?_
  refine z_copy hx hb (hml.trans hl.1.symm) hown ml_34 nt_copy st_copy hSys hK hP hD hS 2 1 0 rfl rfl rfl 0 0 n (by omega) (by omega) (by show 0 + (nativeFrameWords "java/lang/System" "arraycopy" 5 + 11) ≤ R.locals; rw [hRl]; decide +kernel) dX0_placeQuestion_8 (fun H locs hP hD hS => ?_)
  have hP : va_P (dC, dI) vwCl [(h0, .inr (0, [.ref aq, .ref ar, .ref ac, .ref ap, .int (iI ps), .int (iI (n1 : Int)), .int (iI (w1 : Int))])), (aq, .inl (cI, 16, .inl (iA (zC x q 0 0 n)))), (ax, .inl (cI, 16, .inl (iA x)))] H := hP
  have hD : va_D A [(h0, .inr (0, [.ref aq, .ref ar, .ref ac, .ref ap, .int (iI ps), .int (iI (n1 : Int)), .int (iI (w1 : Int))])), (aq, .inl (cI, 16, .inl (iA (zC x q 0 0 n)))), (ax, .inl (cI, 16, .inl (iA x)))] := hD
  refine lv_aload_n hx hb dX0_placeQuestion_11 rfl (lv_at hl 0 rfl) ?_
  refine lv_iload_n hx hb dX0_placeQuestion_12 rfl (lv_at hl 2 rfl) ?_
  refine va_put (D := (dC, dI)) (ci := 0) (v := .int (iI (n : Int))) (ty := .int) (C := RX0) (T := TX0) (N := 7) hx hb hts in_X0 tyX0 tyX0_ok nmX0 hown hK hP hD hS 0 rfl rfl 5 (by decide) fl_28 (fun _ h9 => h9) rfl (by decide +kernel) rfl rfl (Nat.le_of_ble_eq_true rfl) dX0_placeQuestion_13 (fun H locs hP hD hS => ?_)
  have hP : va_P (dC, dI) vwCl [(h0, .inr (0, [.ref aq, .ref ar, .ref ac, .ref ap, .int (iI ps), .int (iI (n : Int)), .int (iI (w1 : Int))])), (aq, .inl (cI, 16, .inl (iA (zC x q 0 0 n)))), (ax, .inl (cI, 16, .inl (iA x)))] H := hP
  have hD : va_D A [(h0, .inr (0, [.ref aq, .ref ar, .ref ac, .ref ap, .int (iI ps), .int (iI (n : Int)), .int (iI (w1 : Int))])), (aq, .inl (cI, 16, .inl (iA (zC x q 0 0 n)))), (ax, .inl (cI, 16, .inl (iA x)))] := hD
  refine lv_aload_n hx hb dX0_placeQuestion_16 rfl (lv_at hl 0 rfl) ?_
  refine lv_iload_n hx hb dX0_placeQuestion_17 rfl (lv_at hl 3 rfl) ?_
  refine va_put (D := (dC, dI)) (ci := 0) (v := .int (iI (w : Int))) (ty := .int) (C := RX0) (T := TX0) (N := 7) hx hb hts in_X0 tyX0 tyX0_ok nmX0 hown hK hP hD hS 0 rfl rfl 6 (by decide) fl_31 (fun _ h9 => h9) rfl (by decide +kernel) rfl rfl (Nat.le_of_ble_eq_true rfl) dX0_placeQuestion_18 (fun H locs hP hD hS => ?_)
  have hP : va_P (dC, dI) vwCl [(h0, .inr (0, [.ref aq, .ref ar, .ref ac, .ref ap, .int (iI ps), .int (iI (n : Int)), .int (iI (w : Int))])), (aq, .inl (cI, 16, .inl (iA (zC x q 0 0 n)))), (ax, .inl (cI, 16, .inl (iA x)))] H := hP
  have hD : va_D A [(h0, .inr (0, [.ref aq, .ref ar, .ref ac, .ref ap, .int (iI ps), .int (iI (n : Int)), .int (iI (w : Int))])), (aq, .inl (cI, 16, .inl (iA (zC x q 0 0 n)))), (ax, .inl (cI, 16, .inl (iA x)))] := hD
  subst hAe
  exact zw_retv (()) hx hb hr hlocks hQ (trivial) hP hK hD hS dX0_placeQuestion_21
set_option maxRecDepth 100000 in
set_option maxHeartbeats 4000000 in
theorem c_placeBeside (l : Launch) (dC : Nat → ClassId) (dI : Nat → Nat → Nat) (cI : ClassId) (h0 aq ar ac ap : Nat) (ps : Int) (n w : Nat) (ax nx f0 : Nat) (r x : Nat → Int) (sz : Nat) (hn : 2 ≤ n ∧ n ≤ 16) (hw : w ≤ 15) (hf0 : f0 + n ≤ nx ∧ nx ≤ 1000) : Met l yX0_placeBeside wsX0_placeBeside ({ frames := 1, cells := 0, slots := 0, locals := 40 }) (wrP dC dI [(cI, .int)] [(h0, .inr (0, [.ref aq, .ref ar, .ref ac, .ref ap, .int (iI ps), .int (iI (n : Int)), .int (iI (w : Int))])), (ar, .inl (cI, 16, .inl (iA r))), (ax, .inl (cI, nx, .inl (iA x)))] sz [.ref h0, .ref ax, .int (iI (f0 : Int))]) (wrQv dC dI [(cI, .int)] [(h0, .inr (0, [.ref aq, .ref ar, .ref ac, .ref ap, .int (iI ps), .int (iI (n : Int)), .int (iI (w : Int))])), (ar, .inl (cI, 16, .inl (iA r))), (ax, .inl (cI, nx, .inl (iA x)))] sz (S := Unit) (fun _ => True) (fun _ => [(h0, .inr (0, [.ref aq, .ref ar, .ref ac, .ref ap, .int (iI ps), .int (iI (n : Int)), .int (iI (w : Int))])), (ar, .inl (cI, 16, .inl (iA (zC x r f0 0 n)))), (ax, .inl (cI, nx, .inl (iA x)))])) 0 0 (va_A [(h0, .inr (0, [.ref aq, .ref ar, .ref ac, .ref ap, .int (iI ps), .int (iI (n : Int)), .int (iI (w : Int))])), (ar, .inl (cI, 16, .inl (iA r))), (ax, .inl (cI, nx, .inl (iA x)))] sz) := by
  refine Met.ofW (cc := cX0_placeBeside) (maxL := 3) (ret := none) (by decide) rfl ?_
  intro p e s m args below meth c s₁ B hml hv
  obtain ⟨rfl, hsz, hP, hK, hD0⟩ := hv
  have hx := B.exec
  have hb := B.bytes
  have hr := B.returns
  have hts : ∀ w ∈ wsX0_placeBeside, w.before _ s = true := atoms_spec (ws := wsX0_placeBeside) B.pre
  have hown : s.vm.findClass RX0 = some m.cls := findClass_of_methodNamed B.named
  have hlocks := B.notSynchronized
  subst hsz
  have hD := hD0.self (sz := s.heap.size)
  have hA : ∀ q9 : Nat, s.heap.size ≤ q9 → va_A [(h0, .inr (0, [.ref aq, .ref ar, .ref ac, .ref ap, .int (iI ps), .int (iI (n : Int)), .int (iI (w : Int))])), (ar, .inl (cI, 16, .inl (iA r))), (ax, .inl (cI, nx, .inl (iA x)))] s.heap.size q9 := fun q9 h => Or.inr h
  have hS : va_S (va_A [(h0, .inr (0, [.ref aq, .ref ar, .ref ac, .ref ap, .int (iI ps), .int (iI (n : Int)), .int (iI (w : Int))])), (ar, .inl (cI, 16, .inl (iA r))), (ax, .inl (cI, nx, .inl (iA x)))] s.heap.size) s.heap s.heap [] := va_S.rf
  generalize hAe : va_A [(h0, .inr (0, [.ref aq, .ref ar, .ref ac, .ref ap, .int (iI ps), .int (iI (n : Int)), .int (iI (w : Int))])), (ar, .inl (cI, 16, .inl (iA r))), (ax, .inl (cI, nx, .inl (iA x)))] s.heap.size = A at hD hA hS
  have hP : va_P (dC, dI) vwCl [(h0, .inr (0, [.ref aq, .ref ar, .ref ac, .ref ap, .int (iI ps), .int (iI (n : Int)), .int (iI (w : Int))])), (ar, .inl (cI, 16, .inl (iA r))), (ax, .inl (cI, nx, .inl (iA x)))] s.heap := hP
  have hl := lv_entry ([.ref h0, .ref ax, .int (iI (f0 : Int))]) (n := 3) (Nat.le_of_ble_eq_true rfl)
  rw [lg_entry_eq]
  generalize (lg_sl ([.ref h0, .ref ax, .int (iI (f0 : Int))]) ++ List.replicate (3 - (lg_sl ([.ref h0, .ref ax, .int (iI (f0 : Int))])).length) Slot.unset).toArray = ls at hl ⊢
  have hl : lv_has ls 3 [(0, .ref h0), (1, .ref ax), (2, .int (iI (f0 : Int)))] := hl
  generalize hargs : ([.ref h0, .ref ax, .int (iI (f0 : Int))] : List Value).toArray = args at hts ⊢
  refine z_intro (fun R Q hR hQ => ?_)
  have hRf : R.frames = 1 := by rw [hR]; rfl
  have hRl : R.locals = 40 := by rw [hR]; rfl
  have hRc : R.cells = 0 := by rw [hR]; rfl
  have hRs : R.slots = 0 := by rw [hR]; rfl
  have in_X0 : ∀ w ∈ u_ws RX0 TX0 7, w ∈ wsX0_placeBeside := fun w h => List.mem_cons_of_mem _ (inW_X0 w h)
  have fl_15 := wa_hts hts wd_56
  have fl_28 := wa_hts hts wd_60
  have ml_34 : (Cond.methodLink RX0 34 arraycopyName).before args s = true := wa_hts hts wd_308
  have nt_copy : (Cond.native arraycopyName).before args s = true := wa_hts hts wd_272
  have st_copy : (Cond.static arraycopyName).before args s = true := wa_hts hts wd_271
  have hSys := wa_hts hts wd_39
  clear hR hargs B
  refine lv_aload_n hx hb dX0_placeBeside_0 rfl (lv_at hl 1 rfl) ?_
  refine lv_iload_n hx hb dX0_placeBeside_1 rfl (lv_at hl 2 rfl) ?_
  refine lv_aload_n hx hb dX0_placeBeside_2 rfl (lv_at hl 0 rfl) ?_
  refine va_get (D := (dC, dI)) (ci := 0) (v := .ref ar) (C := RX0) (T := TX0) (N := 7) hx hb hts in_X0 hown hK hP 0 rfl rfl 1 (by decide) fl_15 (fun _ h9 => h9) rfl dX0_placeBeside_3 ?_
  refine lv_iconst (v := iI (0 : Int)) hx hb dX0_placeBeside_6 (by decide) ?_
  refine lv_aload_n hx hb dX0_placeBeside_7 rfl (lv_at hl 0 rfl) ?_
  refine va_get (D := (dC, dI)) (ci := 0) (v := .int (iI (n : Int))) (C := RX0) (T := TX0) (N := 7) hx hb hts in_X0 hown hK hP 0 rfl rfl 5 (by decide) fl_28 (fun _ h9 => h9) rfl dX0_placeBeside_8 ?_
  refine z_copy hx hb (hml.trans hl.1.symm) hown ml_34 nt_copy st_copy hSys hK hP hD hS 2 1 0 rfl rfl rfl f0 0 n (by omega) (by omega) (by show 0 + (nativeFrameWords "java/lang/System" "arraycopy" 5 + 11) ≤ R.locals; rw [hRl]; decide +kernel) dX0_placeBeside_11 (fun H locs hP hD hS => ?_)
  have hP : va_P (dC, dI) vwCl [(h0, .inr (0, [.ref aq, .ref ar, .ref ac, .ref ap, .int (iI ps), .int (iI (n : Int)), .int (iI (w : Int))])), (ar, .inl (cI, 16, .inl (iA (zC x r f0 0 n)))), (ax, .inl (cI, nx, .inl (iA x)))] H := hP
  have hD : va_D A [(h0, .inr (0, [.ref aq, .ref ar, .ref ac, .ref ap, .int (iI ps), .int (iI (n : Int)), .int (iI (w : Int))])), (ar, .inl (cI, 16, .inl (iA (zC x r f0 0 n)))), (ax, .inl (cI, nx, .inl (iA x)))] := hD
  subst hAe
  exact zw_retv (()) hx hb hr hlocks hQ (trivial) hP hK hD hS dX0_placeBeside_14
theorem line_ln {w i j : Nat} {q r G9 : Nat → Int} (hln : ∀ b, i - w ≤ b → b < j → G9 (16 * i + b) = cst w q r i b) : ∀ b, i - w ≤ b → b < j + 1 → zU G9 (16 * i + j) (cst w q r i j) (16 * i + b) = cst w q r i b := by
  intro b h1 h2
  by_cases e : b = j
  · subst e
    rw [zU_s]
  · rw [zU_n (by omega)]
    exact hln b h1 (by omega)
def lsI (w i j : Nat) (q r : Nat → Int) (ls9 : Int) : Prop := (∀ b, i - w ≤ b → b < j → ls9 ≤ cst w q r i b) ∧ ((ls9 = 1000000000 ∧ j = i - w) ∨ ∃ b, i - w ≤ b ∧ b < j ∧ ls9 = cst w q r i b) ∧ -2147483648 ≤ ls9 ∧ ls9 ≤ 2147483647
theorem lsI_0 {w i : Nat} {q r : Nat → Int} : lsI w i (i - w) q r 1000000000 := by
  unfold lsI
  exact ⟨fun b h1 h2 => absurd h1 (by omega), Or.inl ⟨rfl, rfl⟩, by omega, by omega⟩
theorem lsI_rg {w i j : Nat} {q r : Nat → Int} {ls9 : Int} (h : lsI w i j q r ls9) : -2147483648 ≤ ls9 ∧ ls9 ≤ 2147483647 := by
  unfold lsI at h
  exact h.2.2
theorem lsI_le {n w i j : Nat} {q r : Nat → Int} {ls9 : Int} (h : lsI w i j q r ls9) (hj : min (i + w) (n - 1) < j) : ∀ b, b < n → inb w i b → ls9 ≤ cst w q r i b := by
  unfold lsI at h
  have h1 := h.1
  clear h
  exact fun b b1 b2 => h1 b (by omega) (by omega)
theorem lsI_ex {n w i j : Nat} {q r : Nat → Int} {ls9 : Int} (h : lsI w i j q r ls9) (hj : min (i + w) (n - 1) + 1 = j) (hi : i < n) : ∃ b, b < n ∧ inb w i b ∧ ls9 = cst w q r i b := by
  unfold lsI at h
  rcases h.2.1 with ⟨e1, e2⟩ | ⟨b, b1, b2, b3⟩
  · clear h
    omega
  · clear h
    exact ⟨b, by omega, by omega, b3⟩
theorem line_ls {w i j : Nat} {q r : Nat → Int} {ls9 : Int} (hls : lsI w i j q r ls9) (hcr : 0 ≤ cst w q r i j ∧ cst w q r i j ≤ 124000000) (hj : i - w ≤ j) : lsI w i (j + 1) q r (min ls9 (cst w q r i j)) := by
  unfold lsI at hls ⊢
  obtain ⟨a1, a2, a3, a4⟩ := hls
  refine ⟨fun b h1 h2 => ?_, Or.inr ?_, by clear a2; omega, by clear a2; omega⟩
  · clear a2
    by_cases e : b = j
    · subst e; omega
    · have := a1 b h1 (by omega); omega
  · by_cases g : cst w q r i j ≤ ls9
    · exact ⟨j, hj, by clear a2; omega, by clear a2; omega⟩
    · rcases a2 with ⟨e1, e2⟩ | ⟨b, b1, b2, b3⟩
      · omega
      · exact ⟨b, b1, by omega, by omega⟩
theorem line_end {n w i j : Nat} {q r G9 : Nat → Int} (hok : ∀ a b, a < i → b < n → inb w a b → G9 (16 * a + b) = cst w q r a b) (hln : ∀ b, i - w ≤ b → b < j → G9 (16 * i + b) = cst w q r i b) (hj : min (i + w) (n - 1) < j) : ∀ a b, a < i + 1 → b < n → inb w a b → G9 (16 * a + b) = cst w q r a b := by
  intro a b h1 h2 h3
  by_cases e : a = i
  · subst e
    exact hln b (by omega) (by omega)
  · exact hok a b (by omega) h2 h3
set_option maxRecDepth 100000 in
set_option maxHeartbeats 4000000 in
theorem c_fillLine (l : Launch) (dC : Nat → ClassId) (dI : Nat → Nat → Nat) (cI : ClassId) (h0 aq ar ac ap : Nat) (ps : Int) (n w : Nat) (i : Nat) (q r G : Nat → Int) (sz : Nat) (hn : 2 ≤ n ∧ n ≤ 16) (hw : w ≤ 15) (hvq : vals n q) (hvr : vals n r) (hi : i < n) (hG : rgA G) (hG1 : ∀ a b, a < i → b < n → inb w a b → G (16 * a + b) = cst w q r a b) : Met l yX0_fillLine wsX0_fillLine ({ frames := 2, cells := 0, slots := 0, locals := 45 }) (wrP dC dI [(cI, .int)] [(h0, .inr (0, [.ref aq, .ref ar, .ref ac, .ref ap, .int (iI ps), .int (iI (n : Int)), .int (iI (w : Int))])), (aq, .inl (cI, 16, .inl (iA q))), (ar, .inl (cI, 16, .inl (iA r))), (ac, .inl (cI, 256, .inl (iA G)))] sz [.ref h0, .int (iI (i : Int))]) (wrQi dC dI [(cI, .int)] [(h0, .inr (0, [.ref aq, .ref ar, .ref ac, .ref ap, .int (iI ps), .int (iI (n : Int)), .int (iI (w : Int))])), (aq, .inl (cI, 16, .inl (iA q))), (ar, .inl (cI, 16, .inl (iA r))), (ac, .inl (cI, 256, .inl (iA G)))] sz (S := (Nat → Int)) (fun z u => rgA u ∧ (∀ a b, a < i + 1 → b < n → inb w a b → u (16 * a + b) = cst w q r a b) ∧ (∀ b, b < n → inb w i b → z ≤ cst w q r i b) ∧ (∃ b, b < n ∧ inb w i b ∧ z = cst w q r i b)) (fun u => [(h0, .inr (0, [.ref aq, .ref ar, .ref ac, .ref ap, .int (iI ps), .int (iI (n : Int)), .int (iI (w : Int))])), (aq, .inl (cI, 16, .inl (iA q))), (ar, .inl (cI, 16, .inl (iA r))), (ac, .inl (cI, 256, .inl (iA u)))])) 0 0 (va_A [(h0, .inr (0, [.ref aq, .ref ar, .ref ac, .ref ap, .int (iI ps), .int (iI (n : Int)), .int (iI (w : Int))])), (aq, .inl (cI, 16, .inl (iA q))), (ar, .inl (cI, 16, .inl (iA r))), (ac, .inl (cI, 256, .inl (iA G)))] sz) := by
  refine Met.ofW (cc := cX0_fillLine) (maxL := 6) (ret := (some .int)) (by decide) rfl ?_
  intro p e s m args below meth c s₁ B hml hv
  obtain ⟨rfl, hsz, hP, hK, hD0⟩ := hv
  have hx := B.exec
  have hb := B.bytes
  have hr := B.returns
  have hts : ∀ w ∈ wsX0_fillLine, w.before _ s = true := atoms_spec (ws := wsX0_fillLine) B.pre
  have hown : s.vm.findClass RX0 = some m.cls := findClass_of_methodNamed B.named
  have hlocks := B.notSynchronized
  subst hsz
  have hD := hD0.self (sz := s.heap.size)
  have hA : ∀ q9 : Nat, s.heap.size ≤ q9 → va_A [(h0, .inr (0, [.ref aq, .ref ar, .ref ac, .ref ap, .int (iI ps), .int (iI (n : Int)), .int (iI (w : Int))])), (aq, .inl (cI, 16, .inl (iA q))), (ar, .inl (cI, 16, .inl (iA r))), (ac, .inl (cI, 256, .inl (iA G)))] s.heap.size q9 := fun q9 h => Or.inr h
  have hS : va_S (va_A [(h0, .inr (0, [.ref aq, .ref ar, .ref ac, .ref ap, .int (iI ps), .int (iI (n : Int)), .int (iI (w : Int))])), (aq, .inl (cI, 16, .inl (iA q))), (ar, .inl (cI, 16, .inl (iA r))), (ac, .inl (cI, 256, .inl (iA G)))] s.heap.size) s.heap s.heap [] := va_S.rf
  generalize hAe : va_A [(h0, .inr (0, [.ref aq, .ref ar, .ref ac, .ref ap, .int (iI ps), .int (iI (n : Int)), .int (iI (w : Int))])), (aq, .inl (cI, 16, .inl (iA q))), (ar, .inl (cI, 16, .inl (iA r))), (ac, .inl (cI, 256, .inl (iA G)))] s.heap.size = A at hD hA hS
  have hP : va_P (dC, dI) vwCl [(h0, .inr (0, [.ref aq, .ref ar, .ref ac, .ref ap, .int (iI ps), .int (iI (n : Int)), .int (iI (w : Int))])), (aq, .inl (cI, 16, .inl (iA q))), (ar, .inl (cI, 16, .inl (iA r))), (ac, .inl (cI, 256, .inl (iA G)))] s.heap := hP
  have hl := lv_entry ([.ref h0, .int (iI (i : Int))]) (n := 6) (Nat.le_of_ble_eq_true rfl)
  rw [lg_entry_eq]
  generalize (lg_sl ([.ref h0, .int (iI (i : Int))]) ++ List.replicate (6 - (lg_sl ([.ref h0, .int (iI (i : Int))])).length) Slot.unset).toArray = ls at hl ⊢
  have hl : lv_has ls 6 [(0, .ref h0), (1, .int (iI (i : Int)))] := hl
  generalize hargs : ([.ref h0, .int (iI (i : Int))] : List Value).toArray = args at hts ⊢
  refine z_intro (fun R Q hR hQ => ?_)
  have hRf : R.frames = 2 := by rw [hR]; rfl
  have hRl : R.locals = 45 := by rw [hR]; rfl
  have hRc : R.cells = 0 := by rw [hR]; rfl
  have hRs : R.slots = 0 := by rw [hR]; rfl
  have in_X0 : ∀ w ∈ u_ws RX0 TX0 7, w ∈ wsX0_fillLine := fun w h => List.mem_cons_of_mem _ (inW_X0 w h)
  have fl_9 := wa_hts hts wd_55
  have fl_15 := wa_hts hts wd_56
  have fl_18 := wa_hts hts wd_57
  have ml_54 : (Cond.methodLink RX0 54 Lib.Math.min.name).before args s = true := wa_hts hts wd_338
  have kc_73 := wa_hts hts wd_321
  have st_min : (Cond.static Lib.Math.min.name).before args s = true := wa_hts hts wd_339
  have cd_min : (Cond.code Lib.Math.min.name Lib.Math.min.code 2 (some .int)).before args s = true := wa_hts hts wd_340
  have hMath := wa_hts hts wd_40
  clear hR hargs B
  refine z_ldc hx hb (1000000000 : Int) hown kc_73 (by decide) dX0_fillLine_0 ?_
  refine lv_istore_n (lv' := [(2, .int (iI (1000000000 : Int))), (0, .ref h0), (1, .int (iI (i : Int)))]) hx hb dX0_fillLine_2 rfl hl (by decide) rfl (fun ls hl => ?_)
  refine lv_aload_n hx hb dX0_fillLine_3 rfl (lv_at hl 1 rfl) ?_
  refine lv_iload_n hx hb dX0_fillLine_4 rfl (lv_at hl 2 rfl) ?_
  refine zr_i (va_runV (As := [.int (iI (i : Int))]) (rest := []) ⟨hx, hb, hml, hown, hts⟩ (c_last l dC dI cI h0 aq ar ac ap ps n w i hn hw (by omega)) (cwV 1 hts (ga_V wd_322 wd_324 wd_4 wd_29 wd_325) rfl rfl rfl (by decide +kernel) ⟨(show 0 + 1 ≤ R.frames by omega), (show 8 + (2 + 11) + 0 ≤ R.locals by omega)⟩) (rd_preV (q0 := 0) (ci := 0) hP hK [0] rfl rfl rfl) rfl rfl hl.1 rfl (lv_room (Nat.le_of_ble_eq_true rfl)) dX0_fillLine_5 ⟨by omega, by omega⟩) (fun zl hzl => ?_)
  refine lv_istore_n (lv' := [(3, .int (iI zl)), (2, .int (iI (1000000000 : Int))), (0, .ref h0), (1, .int (iI (i : Int)))]) hx hb dX0_fillLine_8 rfl hl (by decide) rfl (fun ls hl => ?_)
  refine lv_aload_n hx hb dX0_fillLine_9 rfl (lv_at hl 2 rfl) ?_
  refine lv_iload_n hx hb dX0_fillLine_10 rfl (lv_at hl 3 rfl) ?_
  refine zr_i (va_runV (As := [.int (iI (i : Int))]) (rest := []) ⟨hx, hb, hml, hown, hts⟩ (c_first l dC dI cI h0 aq ar ac ap ps n w i hn hw (by omega)) (cwV 1 hts (ga_V wd_326 wd_328 wd_5 wd_29 wd_329) rfl rfl rfl (by decide +kernel) ⟨(show 0 + 1 ≤ R.frames by omega), (show 8 + (2 + 11) + 0 ≤ R.locals by omega)⟩) (rd_preV (q0 := 0) (ci := 0) hP hK [0] rfl rfl rfl) rfl rfl hl.1 rfl (lv_room (Nat.le_of_ble_eq_true rfl)) dX0_fillLine_11 ⟨by omega, by omega⟩) (fun zf hzf => ?_)
  subst hzf
  refine lv_istore (lv' := [(4, .int (iI ((i - w : Nat) : Int))), (3, .int (iI zl)), (2, .int (iI (1000000000 : Int))), (0, .ref h0), (1, .int (iI (i : Int)))]) hx hb dX0_fillLine_14 hl (by decide) rfl (fun ls hl => ?_)
  have lp : ∀ (k9 : Nat) (j : Nat) (ls9 : Int) (G9 : Nat → Int) (H : Heap) (locs : List Loc) (ls : Array Slot), (i - w ≤ j ∧ j ≤ min (i + w) (n - 1) + 1) → (rgA G9) → (∀ a b, a < i → b < n → inb w a b → G9 (16 * a + b) = cst w q r a b) → (∀ b, i - w ≤ b → b < j → G9 (16 * i + b) = cst w q r i b) → (lsI w i j q r ls9) → min (i + w) (n - 1) + 1 - j = k9 → va_P (dC, dI) vwCl [(h0, .inr (0, [.ref aq, .ref ar, .ref ac, .ref ap, .int (iI ps), .int (iI (n : Int)), .int (iI (w : Int))])), (aq, .inl (cI, 16, .inl (iA q))), (ar, .inl (cI, 16, .inl (iA r))), (ac, .inl (cI, 256, .inl (iA G9)))] H → va_D A [(h0, .inr (0, [.ref aq, .ref ar, .ref ac, .ref ap, .int (iI ps), .int (iI (n : Int)), .int (iI (w : Int))])), (aq, .inl (cI, 16, .inl (iA q))), (ar, .inl (cI, 16, .inl (iA r))), (ac, .inl (cI, 256, .inl (iA G9)))] → va_S A s.heap H locs → lv_has ls 6 [(0, .ref h0), (1, .int (iI (i : Int))), (2, .int (iI ls9)), (3, .int (iI zl)), (4, .int (iI (j : Int)))] → W p l e R s m args below meth c H locs 0 0 Q (F0 m 16 ls []) := by
    intro k9
    induction k9 using Nat.strongRecOn with
    | ind k9 ih_lp =>
      intro j ls9 G9 H locs ls hj hG9 hok hln hls hk9 hP hD hS hl
      have rls := lsI_rg hls
      have hzl2 : zl = ((min (i + w) (n - 1) : Nat) : Int) := hzl
      refine lv_iload hx hb dX0_fillLine_16 (lv_at hl 4 rfl) ?_
      refine lv_iload_n hx hb dX0_fillLine_18 rfl (lv_at hl 3 rfl) ?_
      refine z_icmp_gt (tgt := 76) hx hb dX0_fillLine_19 (by decide) (by omega) (fun h19 => ?_) (fun h19 => ?_)
      · refine lv_iload_n hx hb dX0_fillLine_76 rfl (lv_at hl 2 rfl) ?_
        subst hAe
        exact zw_reti (z := ls9) (G9) hx hb hr hlocks hQ (⟨hG9, line_end hok hln (by omega), lsI_le hls (by omega), lsI_ex hls (by omega) hi⟩) hP hK hD hS dX0_fillLine_77
      · have hbj : inb w i j := by omega
        have hcr := cst_rg hvq hvr hn.2 hi (show j < n by omega) hbj
        refine lv_aload_n hx hb dX0_fillLine_22 rfl (lv_at hl 0 rfl) ?_
        refine lv_iload_n hx hb dX0_fillLine_23 rfl (lv_at hl 1 rfl) ?_
        refine lv_iload hx hb dX0_fillLine_24 (lv_at hl 4 rfl) ?_
        refine zr_i (va_runV (As := [.int (iI (i : Int)), .int (iI (j : Int))]) (rest := []) ⟨hx, hb, hml, hown, hts⟩ (c_leastBefore l dC dI cI h0 aq ar ac ap ps n w G9 i j hn hw hG9 (by omega) (by omega)) (cwV 2 hts (ga_V wd_330 wd_332 wd_6 wd_29 wd_333) rfl rfl rfl (by decide +kernel) ⟨(show 1 + 1 ≤ R.frames by omega), (show 8 + (3 + 11) + 23 ≤ R.locals by omega)⟩) (rd_preV (q0 := 0) (ci := 0) hP hK [0, 3] rfl rfl rfl) rfl rfl hl.1 rfl (lv_room (Nat.le_of_ble_eq_true rfl)) dX0_fillLine_26 ⟨by omega, by omega⟩) (fun zb hzb => ?_)
        refine lv_aload_n hx hb dX0_fillLine_29 rfl (lv_at hl 0 rfl) ?_
        refine va_get (D := (dC, dI)) (ci := 0) (v := .ref aq) (C := RX0) (T := TX0) (N := 7) hx hb hts in_X0 hown hK hP 0 rfl rfl 0 (by decide) fl_9 (fun _ h9 => h9) rfl dX0_fillLine_30 ?_
        refine lv_iload_n hx hb dX0_fillLine_33 rfl (lv_at hl 1 rfl) ?_
        refine z_iald hx hb hK hP 1 0 rfl rfl i (by omega) dX0_fillLine_34 ?_
        refine lv_aload_n hx hb dX0_fillLine_35 rfl (lv_at hl 0 rfl) ?_
        refine va_get (D := (dC, dI)) (ci := 0) (v := .ref ar) (C := RX0) (T := TX0) (N := 7) hx hb hts in_X0 hown hK hP 0 rfl rfl 1 (by decide) fl_15 (fun _ h9 => h9) rfl dX0_fillLine_36 ?_
        refine lv_iload hx hb dX0_fillLine_39 (lv_at hl 4 rfl) ?_
        refine z_iald hx hb hK hP 2 0 rfl rfl j (by omega) dX0_fillLine_41 ?_
        refine z_isub hx hb dX0_fillLine_42 ?_
        refine zr_i (va_runS (As := [.int (iI ((q i) - (r j)))]) (rest := [.int (iI zb)]) ⟨hx, hb, hml, hown, hts⟩ (c_square l dC dI cI ((q i) - (r j))) (cwS 1 hts (ga_S wd_341 wd_342 wd_29 wd_343) rfl rfl rfl (by decide +kernel) ⟨(show 0 + 1 ≤ R.frames by omega), (show 8 + (1 + 11) + 0 ≤ R.locals by omega)⟩) (rd_preS hP hK [] rfl) rfl rfl hl.1 rfl (lv_room (Nat.le_of_ble_eq_true rfl)) dX0_fillLine_43 ⟨by omega, by omega⟩) (fun zs hzs => ?_)
        refine z_iadd hx hb dX0_fillLine_46 ?_
        refine z_top (b := cst w q r i j) (by rw [hzb, hzs]; exact cst_eq hvq hvr hn.2 hi (by omega) hbj (fun b h1 h2 h3 => hok (i - 1) b (by omega) (by omega) h3) (fun h1 h2 => hln (j - 1) (by omega) (by omega))) ?_
        refine lv_istore (lv' := [(5, .int (iI (cst w q r i j))), (0, .ref h0), (1, .int (iI (i : Int))), (2, .int (iI ls9)), (3, .int (iI zl)), (4, .int (iI (j : Int)))]) hx hb dX0_fillLine_47 hl (by decide) rfl (fun ls hl => ?_)
        refine lv_aload_n hx hb dX0_fillLine_49 rfl (lv_at hl 1 rfl) ?_
        refine va_get (D := (dC, dI)) (ci := 0) (v := .ref ac) (C := RX0) (T := TX0) (N := 7) hx hb hts in_X0 hown hK hP 0 rfl rfl 2 (by decide) fl_18 (fun _ h9 => h9) rfl dX0_fillLine_50 ?_
        refine lv_bipush (v := iI (16 : Int)) hx hb dX0_fillLine_53 (by decide) ?_
        refine lv_iload_n hx hb dX0_fillLine_55 rfl (lv_at hl 2 rfl) ?_
        refine z_imul hx hb dX0_fillLine_56 ?_
        refine lv_iload hx hb dX0_fillLine_57 (lv_at hl 5 rfl) ?_
        refine z_iadd hx hb dX0_fillLine_59 ?_
        refine lv_iload hx hb dX0_fillLine_60 (lv_at hl 0 rfl) ?_
        refine z_iast hx hb hK hP hD hS 3 0 rfl rfl ((16 * i) + j) (by omega) dX0_fillLine_62 (fun H locs hP hD hS => ?_)
        have hP : va_P (dC, dI) vwCl [(h0, .inr (0, [.ref aq, .ref ar, .ref ac, .ref ap, .int (iI ps), .int (iI (n : Int)), .int (iI (w : Int))])), (aq, .inl (cI, 16, .inl (iA q))), (ar, .inl (cI, 16, .inl (iA r))), (ac, .inl (cI, 256, .inl (iA (zU G9 ((16 * i) + j) (cst w q r i j)))))] H := hP
        have hD : va_D A [(h0, .inr (0, [.ref aq, .ref ar, .ref ac, .ref ap, .int (iI ps), .int (iI (n : Int)), .int (iI (w : Int))])), (aq, .inl (cI, 16, .inl (iA q))), (ar, .inl (cI, 16, .inl (iA r))), (ac, .inl (cI, 256, .inl (iA (zU G9 ((16 * i) + j) (cst w q r i j)))))] := hD
        refine lv_iload_n hx hb dX0_fillLine_63 rfl (lv_at hl 3 rfl) ?_
        refine lv_iload hx hb dX0_fillLine_64 (lv_at hl 0 rfl) ?_
        refine z_min hx hb (hml.trans hl.1.symm) hown ml_54 st_min hMath cd_min (by omega) (by show 0 + 13 ≤ R.locals; omega) (by omega) (by omega) (by omega) dX0_fillLine_66 ?_
        refine lv_istore_n (lv' := [(2, .int (iI (min ls9 (cst w q r i j)))), (5, .int (iI (cst w q r i j))), (0, .ref h0), (1, .int (iI (i : Int))), (3, .int (iI zl)), (4, .int (iI (j : Int)))]) hx hb dX0_fillLine_69 rfl hl (by decide) rfl (fun ls hl => ?_)
        refine z_iinc (k := 5) (b := ((j + 1 : Nat) : Int)) (lv' := [(4, .int (iI ((j + 1 : Nat) : Int))), (2, .int (iI (min ls9 (cst w q r i j)))), (5, .int (iI (cst w q r i j))), (0, .ref h0), (1, .int (iI (i : Int))), (3, .int (iI zl))]) hx hb dX0_fillLine_70 hl rfl (by omega) (by decide) rfl (fun ls hl => ?_)
        refine lv_goto (tgt := 16) hx hb dX0_fillLine_73 (by decide) ?_
        exact ih_lp _ (by omega) (j + 1) (min ls9 (cst w q r i j)) (zU G9 (16 * i + j) (cst w q r i j)) H locs ls (by omega) (rgA_u hG9 (by omega)) (fun a b h1 h2 h3 => by rw [zU_n (by omega)]; exact hok a b h1 h2 h3) (line_ln hln) (line_ls hls hcr (by omega)) rfl hP hD hS (lv_sub hl [3, 4, 1, 5, 0] rfl)
  exact lp _ (i - w) 1000000000 G _ _ ls (by omega) (hG) (hG1) (fun b h1 h2 => by omega) (lsI_0) rfl hP hD hS (lv_sub hl [3, 4, 2, 1, 0] rfl)
theorem lc_ng {n w i : Nat} {q r : Nat → Int} {lim z : Int} (hng : lim ≠ -1 → ∀ a, a < i → ∃ b, b < n ∧ inb w a b ∧ cst w q r a b < lim) (h : ∃ b, b < n ∧ inb w i b ∧ z = cst w q r i b) (hz : lim ≠ -1 → z < lim) : lim ≠ -1 → ∀ a, a < i + 1 → ∃ b, b < n ∧ inb w a b ∧ cst w q r a b < lim := by
  intro h1 a ha
  by_cases e : a = i
  · subst e
    obtain ⟨b, b1, b2, b3⟩ := h
    exact ⟨b, b1, b2, by have := hz h1; omega⟩
  · exact hng h1 a (by omega)
theorem lc_no {n w i : Nat} {q r : Nat → Int} {lim : Int} (h : ∀ a, a < i → ∃ b, b < n ∧ inb w a b ∧ cst w q r a b < lim) (hi : n ≤ i) (hg : givesUp n w q r lim) : False := by
  obtain ⟨a, a1, a2⟩ := hg
  obtain ⟨b, b1, b2, b3⟩ := h a (by omega)
  have := a2 b b1 b2
  omega
set_option maxRecDepth 100000 in
set_option maxHeartbeats 4000000 in
theorem c_leastCost (l : Launch) (dC : Nat → ClassId) (dI : Nat → Nat → Nat) (cI : ClassId) (h0 aq ar ac ap : Nat) (ps : Int) (n w : Nat) (lim : Int) (q r G : Nat → Int) (sz : Nat) (hn : 2 ≤ n ∧ n ≤ 16) (hw : w ≤ 15) (hvq : vals n q) (hvr : vals n r) (hlim : -1 ≤ lim ∧ lim ≤ 2147483647) (hG : rgA G) : Met l yX0_leastCost wsX0_leastCost ({ frames := 3, cells := 0, slots := 0, locals := 70 }) (wrP dC dI [(cI, .int)] [(h0, .inr (0, [.ref aq, .ref ar, .ref ac, .ref ap, .int (iI ps), .int (iI (n : Int)), .int (iI (w : Int))])), (aq, .inl (cI, 16, .inl (iA q))), (ar, .inl (cI, 16, .inl (iA r))), (ac, .inl (cI, 256, .inl (iA G)))] sz [.ref h0, .int (iI lim)]) (wrQi dC dI [(cI, .int)] [(h0, .inr (0, [.ref aq, .ref ar, .ref ac, .ref ap, .int (iI ps), .int (iI (n : Int)), .int (iI (w : Int))])), (aq, .inl (cI, 16, .inl (iA q))), (ar, .inl (cI, 16, .inl (iA r))), (ac, .inl (cI, 256, .inl (iA G)))] sz (S := (Nat → Int)) (fun z u => rgA u ∧ ((z = -1 ∧ lim ≠ -1 ∧ givesUp n w q r lim) ∨ (z = cst w q r (n - 1) (n - 1) ∧ (lim ≠ -1 → ¬ givesUp n w q r lim) ∧ (∀ a b, a < n → b < n → inb w a b → u (16 * a + b) = cst w q r a b)))) (fun u => [(h0, .inr (0, [.ref aq, .ref ar, .ref ac, .ref ap, .int (iI ps), .int (iI (n : Int)), .int (iI (w : Int))])), (aq, .inl (cI, 16, .inl (iA q))), (ar, .inl (cI, 16, .inl (iA r))), (ac, .inl (cI, 256, .inl (iA u)))])) 0 0 (va_A [(h0, .inr (0, [.ref aq, .ref ar, .ref ac, .ref ap, .int (iI ps), .int (iI (n : Int)), .int (iI (w : Int))])), (aq, .inl (cI, 16, .inl (iA q))), (ar, .inl (cI, 16, .inl (iA r))), (ac, .inl (cI, 256, .inl (iA G)))] sz) := by
  refine Met.ofW (cc := cX0_leastCost) (maxL := 4) (ret := (some .int)) (by decide) rfl ?_
  intro p e s m args below meth c s₁ B hml hv
  obtain ⟨rfl, hsz, hP, hK, hD0⟩ := hv
  have hx := B.exec
  have hb := B.bytes
  have hr := B.returns
  have hts : ∀ w ∈ wsX0_leastCost, w.before _ s = true := atoms_spec (ws := wsX0_leastCost) B.pre
  have hown : s.vm.findClass RX0 = some m.cls := findClass_of_methodNamed B.named
  have hlocks := B.notSynchronized
  subst hsz
  have hD := hD0.self (sz := s.heap.size)
  have hA : ∀ q9 : Nat, s.heap.size ≤ q9 → va_A [(h0, .inr (0, [.ref aq, .ref ar, .ref ac, .ref ap, .int (iI ps), .int (iI (n : Int)), .int (iI (w : Int))])), (aq, .inl (cI, 16, .inl (iA q))), (ar, .inl (cI, 16, .inl (iA r))), (ac, .inl (cI, 256, .inl (iA G)))] s.heap.size q9 := fun q9 h => Or.inr h
  have hS : va_S (va_A [(h0, .inr (0, [.ref aq, .ref ar, .ref ac, .ref ap, .int (iI ps), .int (iI (n : Int)), .int (iI (w : Int))])), (aq, .inl (cI, 16, .inl (iA q))), (ar, .inl (cI, 16, .inl (iA r))), (ac, .inl (cI, 256, .inl (iA G)))] s.heap.size) s.heap s.heap [] := va_S.rf
  generalize hAe : va_A [(h0, .inr (0, [.ref aq, .ref ar, .ref ac, .ref ap, .int (iI ps), .int (iI (n : Int)), .int (iI (w : Int))])), (aq, .inl (cI, 16, .inl (iA q))), (ar, .inl (cI, 16, .inl (iA r))), (ac, .inl (cI, 256, .inl (iA G)))] s.heap.size = A at hD hA hS
  have hP : va_P (dC, dI) vwCl [(h0, .inr (0, [.ref aq, .ref ar, .ref ac, .ref ap, .int (iI ps), .int (iI (n : Int)), .int (iI (w : Int))])), (aq, .inl (cI, 16, .inl (iA q))), (ar, .inl (cI, 16, .inl (iA r))), (ac, .inl (cI, 256, .inl (iA G)))] s.heap := hP
  have hl := lv_entry ([.ref h0, .int (iI lim)]) (n := 4) (Nat.le_of_ble_eq_true rfl)
  rw [lg_entry_eq]
  generalize (lg_sl ([.ref h0, .int (iI lim)]) ++ List.replicate (4 - (lg_sl ([.ref h0, .int (iI lim)])).length) Slot.unset).toArray = ls at hl ⊢
  have hl : lv_has ls 4 [(0, .ref h0), (1, .int (iI lim))] := hl
  generalize hargs : ([.ref h0, .int (iI lim)] : List Value).toArray = args at hts ⊢
  refine z_intro (fun R Q hR hQ => ?_)
  have hRf : R.frames = 3 := by rw [hR]; rfl
  have hRl : R.locals = 70 := by rw [hR]; rfl
  have hRc : R.cells = 0 := by rw [hR]; rfl
  have hRs : R.slots = 0 := by rw [hR]; rfl
  have in_X0 : ∀ w ∈ u_ws RX0 TX0 7, w ∈ wsX0_leastCost := fun w h => List.mem_cons_of_mem _ (inW_X0 w h)
  have fl_28 := wa_hts hts wd_60
  clear hR hargs B
  refine lv_iconst (v := iI (0 : Int)) hx hb dX0_leastCost_0 (by decide) ?_
  refine lv_istore_n (lv' := [(2, .int (iI (0 : Int))), (0, .ref h0), (1, .int (iI lim))]) hx hb dX0_leastCost_1 rfl hl (by decide) rfl (fun ls hl => ?_)
  have lp : ∀ (k9 : Nat) (i : Nat) (G9 : Nat → Int) (H : Heap) (locs : List Loc) (ls : Array Slot), (i ≤ n) → (rgA G9) → (∀ a b, a < i → b < n → inb w a b → G9 (16 * a + b) = cst w q r a b) → (lim ≠ -1 → ∀ a, a < i → ∃ b, b < n ∧ inb w a b ∧ cst w q r a b < lim) → n - i = k9 → va_P (dC, dI) vwCl [(h0, .inr (0, [.ref aq, .ref ar, .ref ac, .ref ap, .int (iI ps), .int (iI (n : Int)), .int (iI (w : Int))])), (aq, .inl (cI, 16, .inl (iA q))), (ar, .inl (cI, 16, .inl (iA r))), (ac, .inl (cI, 256, .inl (iA G9)))] H → va_D A [(h0, .inr (0, [.ref aq, .ref ar, .ref ac, .ref ap, .int (iI ps), .int (iI (n : Int)), .int (iI (w : Int))])), (aq, .inl (cI, 16, .inl (iA q))), (ar, .inl (cI, 16, .inl (iA r))), (ac, .inl (cI, 256, .inl (iA G9)))] → va_S A s.heap H locs → lv_has ls 4 [(0, .ref h0), (1, .int (iI lim)), (2, .int (iI (i : Int)))] → W p l e R s m args below meth c H locs 0 0 Q (F0 m 2 ls []) := by
    intro k9
    induction k9 using Nat.strongRecOn with
    | ind k9 ih_lp =>
      intro i G9 H locs ls hi hG9 hok hng hk9 hP hD hS hl
      refine lv_iload_n hx hb dX0_leastCost_2 rfl (lv_at hl 2 rfl) ?_
      refine lv_aload_n hx hb dX0_leastCost_3 rfl (lv_at hl 0 rfl) ?_
      refine va_get (D := (dC, dI)) (ci := 0) (v := .int (iI (n : Int))) (C := RX0) (T := TX0) (N := 7) hx hb hts in_X0 hown hK hP 0 rfl rfl 5 (by decide) fl_28 (fun _ h9 => h9) rfl dX0_leastCost_4 ?_
      refine z_icmp_ge (tgt := 34) hx hb dX0_leastCost_7 (by decide) (by omega) (fun h7 => ?_) (fun h7 => ?_)
      · refine lv_aload_n hx hb dX0_leastCost_34 rfl (lv_at hl 0 rfl) ?_
        refine lv_aload_n hx hb dX0_leastCost_35 rfl (lv_at hl 0 rfl) ?_
        refine va_get (D := (dC, dI)) (ci := 0) (v := .int (iI (n : Int))) (C := RX0) (T := TX0) (N := 7) hx hb hts in_X0 hown hK hP 0 rfl rfl 5 (by decide) fl_28 (fun _ h9 => h9) rfl dX0_leastCost_36 ?_
        refine lv_iconst (v := iI (1 : Int)) hx hb dX0_leastCost_39 (by decide) ?_
        refine z_isub hx hb dX0_leastCost_40 ?_
        refine z_top (b := ((n - 1 : Nat) : Int)) (by omega) ?_
        refine lv_aload_n hx hb dX0_leastCost_41 rfl (lv_at hl 0 rfl) ?_
        refine va_get (D := (dC, dI)) (ci := 0) (v := .int (iI (n : Int))) (C := RX0) (T := TX0) (N := 7) hx hb hts in_X0 hown hK hP 0 rfl rfl 5 (by decide) fl_28 (fun _ h9 => h9) rfl dX0_leastCost_42 ?_
        refine lv_iconst (v := iI (1 : Int)) hx hb dX0_leastCost_45 (by decide) ?_
        refine z_isub hx hb dX0_leastCost_46 ?_
        refine z_top (b := ((n - 1 : Nat) : Int)) (by omega) ?_
        refine zr_i (va_runV (As := [.int (iI ((n - 1 : Nat) : Int)), .int (iI ((n - 1 : Nat) : Int))]) (rest := []) ⟨hx, hb, hml, hown, hts⟩ (c_costAt l dC dI cI h0 aq ar ac ap ps n w G9 ((n - 1 : Nat) : Int) ((n - 1 : Nat) : Int) hn hw (by omega) (by omega)) (cwV 2 hts (ga_V wd_334 wd_336 wd_7 wd_29 wd_337) rfl rfl rfl (by decide +kernel) ⟨(show 0 + 1 ≤ R.frames by omega), (show 8 + (4 + 11) + 0 ≤ R.locals by omega)⟩) (rd_preV (q0 := 0) (ci := 0) hP hK [0, 3] rfl rfl rfl) rfl rfl hl.1 rfl (lv_room (Nat.le_of_ble_eq_true rfl)) dX0_leastCost_47 ⟨by omega, by omega⟩) (fun zc hzc => ?_)
        subst hAe
        exact zw_reti (z := zc) (G9) hx hb hr hlocks hQ (⟨hG9, Or.inr ⟨by rw [hzc, gAt_in (n - 1) (n - 1) ⟨rfl, rfl⟩ (by omega)]; exact hok (n - 1) (n - 1) (by omega) (by omega) (by omega), fun h1 h2 => lc_no (hng h1) (by omega) h2, fun a b h1 h2 h3 => hok a b (by omega) h2 h3⟩⟩) hP hK hD hS dX0_leastCost_50
      · refine lv_aload_n hx hb dX0_leastCost_10 rfl (lv_at hl 0 rfl) ?_
        refine lv_iload_n hx hb dX0_leastCost_11 rfl (lv_at hl 2 rfl) ?_
        refine zw_i (wr := []) (va_runV (As := [.int (iI (i : Int))]) (rest := []) ⟨hx, hb, hml, hown, hts⟩ (c_fillLine l dC dI cI h0 aq ar ac ap ps n w i q r G9 _ hn hw hvq hvr (by omega) hG9 hok) (cwV 1 hts (ga_V wd_317 wd_319 wd_3 wd_29 wd_320) rfl rfl rfl (by decide +kernel) ⟨(show 2 + 1 ≤ R.frames by omega), (show 8 + (6 + 11) + 45 ≤ R.locals by omega)⟩) (wr_preV (q0 := 0) (ci := 0) hP hK hD [0, 1, 2, 3] (by decide) rfl rfl rfl rfl) rfl rfl hl.1 rfl (lv_room (Nat.le_of_ble_eq_true rfl)) dX0_leastCost_12 ⟨by omega, by omega⟩) hP hD hS hA [0, 1, 2, 3] [] rfl rfl (by decide) (by decide) (fun z12 u12 H locs hw12 hP hD hS => ?_)
        have hP := hP.sub (ws' := [(h0, .inr (0, [.ref aq, .ref ar, .ref ac, .ref ap, .int (iI ps), .int (iI (n : Int)), .int (iI (w : Int))])), (aq, .inl (cI, 16, .inl (iA q))), (ar, .inl (cI, 16, .inl (iA r))), (ac, .inl (cI, 256, .inl (iA u12)))]) [0, 1, 2, 3] rfl
        have hD := hD.sub (ws' := [(h0, .inr (0, [.ref aq, .ref ar, .ref ac, .ref ap, .int (iI ps), .int (iI (n : Int)), .int (iI (w : Int))])), (aq, .inl (cI, 16, .inl (iA q))), (ar, .inl (cI, 16, .inl (iA r))), (ac, .inl (cI, 256, .inl (iA u12)))]) [0, 1, 2, 3] (by decide) rfl
        have r12 : -2147483648 ≤ z12 ∧ z12 ≤ 2147483647 := by
          obtain ⟨b, b1, b2, b3⟩ := hw12.2.2.2
          have := cst_rg hvq hvr hn.2 (show i < n by omega) b1 b2
          omega
        refine lv_istore_n (lv' := [(3, .int (iI z12)), (0, .ref h0), (1, .int (iI lim)), (2, .int (iI (i : Int)))]) hx hb dX0_leastCost_15 rfl hl (by decide) rfl (fun ls hl => ?_)
        refine lv_iload_n hx hb dX0_leastCost_16 rfl (lv_at hl 2 rfl) ?_
        refine lv_iconst (v := iI (-1 : Int)) hx hb dX0_leastCost_17 (by decide) ?_
        refine z_icmp_eq (tgt := 28) hx hb dX0_leastCost_18 (by decide) (by omega) (fun h18 => ?_) (fun h18 => ?_)
        · refine z_iinc (k := 3) (b := ((i + 1 : Nat) : Int)) (lv' := [(2, .int (iI ((i + 1 : Nat) : Int))), (3, .int (iI z12)), (0, .ref h0), (1, .int (iI lim))]) hx hb dX0_leastCost_28 hl rfl (by omega) (by decide) rfl (fun ls hl => ?_)
          refine lv_goto (tgt := 2) hx hb dX0_leastCost_31 (by decide) ?_
          exact ih_lp _ (by omega) (i + 1) u12 H locs ls (by omega) (hw12.1) (hw12.2.1) (lc_ng hng hw12.2.2.2 (fun e9 => by omega)) rfl hP hD hS (lv_sub hl [2, 3, 0] rfl)
        · refine lv_iload_n hx hb dX0_leastCost_21 rfl (lv_at hl 0 rfl) ?_
          refine lv_iload_n hx hb dX0_leastCost_22 rfl (lv_at hl 2 rfl) ?_
          refine z_icmp_lt (tgt := 28) hx hb dX0_leastCost_23 (by decide) (by omega) (fun h23 => ?_) (fun h23 => ?_)
          · refine z_iinc (k := 3) (b := ((i + 1 : Nat) : Int)) (lv' := [(2, .int (iI ((i + 1 : Nat) : Int))), (3, .int (iI z12)), (0, .ref h0), (1, .int (iI lim))]) hx hb dX0_leastCost_28 hl rfl (by omega) (by decide) rfl (fun ls hl => ?_)
            refine lv_goto (tgt := 2) hx hb dX0_leastCost_31 (by decide) ?_
            exact ih_lp _ (by omega) (i + 1) u12 H locs ls (by omega) (hw12.1) (hw12.2.1) (lc_ng hng hw12.2.2.2 (fun e9 => by omega)) rfl hP hD hS (lv_sub hl [2, 3, 0] rfl)
          · refine lv_iconst (v := iI (-1 : Int)) hx hb dX0_leastCost_26 (by decide) ?_
            subst hAe
            exact zw_reti (z := (-1 : Int)) (u12) hx hb hr hlocks hQ (⟨hw12.1, Or.inl ⟨rfl, h18, i, by omega, fun b b1 b2 => Int.le_trans h23 (hw12.2.2.1 b b1 b2)⟩⟩) hP hK hD hS dX0_leastCost_27
  exact lp _ 0 G _ _ ls (by omega) (hG) (fun a b h1 => by omega) (fun _ a h1 => by omega) rfl hP hD hS (lv_sub hl [1, 2, 0] rfl)
