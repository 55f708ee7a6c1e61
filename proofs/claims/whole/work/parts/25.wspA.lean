set_option maxRecDepth 100000 in
set_option maxHeartbeats 4000000 in
theorem c_placeRow (l : Launch) (dC : Nat → ClassId) (dI : Nat → Nat → Nat) (cI : ClassId) (x0 xq xr xl xs h0 hn0 xc aq ar ac ap al ad : Nat) (ps : Int) (n w rc sc : Nat) (n1 w1 row : Nat) (q ro cq cr : Nat → Int) (sz : Nat) (hn : 2 ≤ n ∧ n ≤ 16) (hw : w ≤ 15) (hrow : row < 12) : Met l yX2_placeRow wsX2_placeRow ({ frames := 2, cells := 0, slots := 0, locals := 63 }) (wrP dC dI [(cI, .int)] [(x0, .inr (2, [.int (iI (n : Int)), .int (iI (w : Int)), .ref xq, .ref xr, .ref xl, .int (iI (rc : Int)), .ref xs, .int (iI (sc : Int)), .ref h0, .ref hn0, .ref xc])), (xq, .inl (cI, 16, .inl (iA q))), (xr, .inl (cI, 192, .inl (iA ro))), (h0, .inr (0, [.ref aq, .ref ar, .ref ac, .ref ap, .int (iI ps), .int (iI (n1 : Int)), .int (iI (w1 : Int))])), (aq, .inl (cI, 16, .inl (iA cq))), (ar, .inl (cI, 16, .inl (iA cr)))] sz [.ref x0, .int (iI (row : Int))]) (wrQv dC dI [(cI, .int)] [(x0, .inr (2, [.int (iI (n : Int)), .int (iI (w : Int)), .ref xq, .ref xr, .ref xl, .int (iI (rc : Int)), .ref xs, .int (iI (sc : Int)), .ref h0, .ref hn0, .ref xc])), (xq, .inl (cI, 16, .inl (iA q))), (xr, .inl (cI, 192, .inl (iA ro))), (h0, .inr (0, [.ref aq, .ref ar, .ref ac, .ref ap, .int (iI ps), .int (iI (n1 : Int)), .int (iI (w1 : Int))])), (aq, .inl (cI, 16, .inl (iA cq))), (ar, .inl (cI, 16, .inl (iA cr)))] sz (S := Unit) (fun _ => True) (fun _ => [(x0, .inr (2, [.int (iI (n : Int)), .int (iI (w : Int)), .ref xq, .ref xr, .ref xl, .int (iI (rc : Int)), .ref xs, .int (iI (sc : Int)), .ref h0, .ref hn0, .ref xc])), (xq, .inl (cI, 16, .inl (iA q))), (xr, .inl (cI, 192, .inl (iA ro))), (h0, .inr (0, [.ref aq, .ref ar, .ref ac, .ref ap, .int (iI ps), .int (iI (n : Int)), .int (iI (w : Int))])), (aq, .inl (cI, 16, .inl (iA (zC q cq 0 0 n)))), (ar, .inl (cI, 16, .inl (iA (zC ro cr (16 * row) 0 n))))])) 0 0 (va_A [(x0, .inr (2, [.int (iI (n : Int)), .int (iI (w : Int)), .ref xq, .ref xr, .ref xl, .int (iI (rc : Int)), .ref xs, .int (iI (sc : Int)), .ref h0, .ref hn0, .ref xc])), (xq, .inl (cI, 16, .inl (iA q))), (xr, .inl (cI, 192, .inl (iA ro))), (h0, .inr (0, [.ref aq, .ref ar, .ref ac, .ref ap, .int (iI ps), .int (iI (n1 : Int)), .int (iI (w1 : Int))])), (aq, .inl (cI, 16, .inl (iA cq))), (ar, .inl (cI, 16, .inl (iA cr)))] sz) := by
  refine Met.ofW (cc := cX2_placeRow) (maxL := 2) (ret := none) (by decide) rfl ?_
  intro p e s m args below meth c s₁ B hml hv
  obtain ⟨rfl, hsz, hP, hK, hD0⟩ := hv
  have hx := B.exec
  have hb := B.bytes
  have hr := B.returns
  have hts : ∀ w ∈ wsX2_placeRow, w.before _ s = true := atoms_spec (ws := wsX2_placeRow) B.pre
  have hown : s.vm.findClass RX2 = some m.cls := findClass_of_methodNamed B.named
  have hlocks := B.notSynchronized
  subst hsz
  have hD := hD0.self (sz := s.heap.size)
  have hA : ∀ q9 : Nat, s.heap.size ≤ q9 → va_A [(x0, .inr (2, [.int (iI (n : Int)), .int (iI (w : Int)), .ref xq, .ref xr, .ref xl, .int (iI (rc : Int)), .ref xs, .int (iI (sc : Int)), .ref h0, .ref hn0, .ref xc])), (xq, .inl (cI, 16, .inl (iA q))), (xr, .inl (cI, 192, .inl (iA ro))), (h0, .inr (0, [.ref aq, .ref ar, .ref ac, .ref ap, .int (iI ps), .int (iI (n1 : Int)), .int (iI (w1 : Int))])), (aq, .inl (cI, 16, .inl (iA cq))), (ar, .inl (cI, 16, .inl (iA cr)))] s.heap.size q9 := fun q9 h => Or.inr h
  have hS : va_S (va_A [(x0, .inr (2, [.int (iI (n : Int)), .int (iI (w : Int)), .ref xq, .ref xr, .ref xl, .int (iI (rc : Int)), .ref xs, .int (iI (sc : Int)), .ref h0, .ref hn0, .ref xc])), (xq, .inl (cI, 16, .inl (iA q))), (xr, .inl (cI, 192, .inl (iA ro))), (h0, .inr (0, [.ref aq, .ref ar, .ref ac, .ref ap, .int (iI ps), .int (iI (n1 : Int)), .int (iI (w1 : Int))])), (aq, .inl (cI, 16, .inl (iA cq))), (ar, .inl (cI, 16, .inl (iA cr)))] s.heap.size) s.heap s.heap [] := va_S.rf
  generalize hAe : va_A [(x0, .inr (2, [.int (iI (n : Int)), .int (iI (w : Int)), .ref xq, .ref xr, .ref xl, .int (iI (rc : Int)), .ref xs, .int (iI (sc : Int)), .ref h0, .ref hn0, .ref xc])), (xq, .inl (cI, 16, .inl (iA q))), (xr, .inl (cI, 192, .inl (iA ro))), (h0, .inr (0, [.ref aq, .ref ar, .ref ac, .ref ap, .int (iI ps), .int (iI (n1 : Int)), .int (iI (w1 : Int))])), (aq, .inl (cI, 16, .inl (iA cq))), (ar, .inl (cI, 16, .inl (iA cr)))] s.heap.size = A at hD hA hS
  have hP : va_P (dC, dI) vwCl [(x0, .inr (2, [.int (iI (n : Int)), .int (iI (w : Int)), .ref xq, .ref xr, .ref xl, .int (iI (rc : Int)), .ref xs, .int (iI (sc : Int)), .ref h0, .ref hn0, .ref xc])), (xq, .inl (cI, 16, .inl (iA q))), (xr, .inl (cI, 192, .inl (iA ro))), (h0, .inr (0, [.ref aq, .ref ar, .ref ac, .ref ap, .int (iI ps), .int (iI (n1 : Int)), .int (iI (w1 : Int))])), (aq, .inl (cI, 16, .inl (iA cq))), (ar, .inl (cI, 16, .inl (iA cr)))] s.heap := hP
  have hl := lv_entry ([.ref x0, .int (iI (row : Int))]) (n := 2) (Nat.le_of_ble_eq_true rfl)
  rw [lg_entry_eq]
  generalize (lg_sl ([.ref x0, .int (iI (row : Int))]) ++ List.replicate (2 - (lg_sl ([.ref x0, .int (iI (row : Int))])).length) Slot.unset).toArray = ls at hl ⊢
  have hl : lv_has ls 2 [(0, .ref x0), (1, .int (iI (row : Int)))] := hl
  generalize hargs : ([.ref x0, .int (iI (row : Int))] : List Value).toArray = args at hts ⊢
  refine z_intro (fun R Q hR hQ => ?_)
  have hRf : R.frames = 2 := by rw [hR]; rfl
  have hRl : R.locals = 63 := by rw [hR]; rfl
  have hRc : R.cells = 0 := by rw [hR]; rfl
  have hRs : R.slots = 0 := by rw [hR]; rfl
  have in_X2 : ∀ w ∈ u_ws RX2 TX2 11, w ∈ wsX2_placeRow := fun w h => List.mem_cons_of_mem _ (inW_X2 w h)
  have fl_9 := wa_hts hts wd_100
  have fl_13 := wa_hts hts wd_101
  have fl_16 := wa_hts hts wd_102
  have fl_20 := wa_hts hts wd_103
  have fl_38 := wa_hts hts wd_108
  clear hR hargs B
  refine lv_aload_n hx hb dX2_placeRow_0 rfl (lv_at hl 0 rfl) ?_
  refine va_get (D := (dC, dI)) (ci := 2) (v := .ref h0) (C := RX2) (T := TX2) (N := 11) hx hb hts in_X2 hown hK hP 0 rfl rfl 8 (by decide) fl_38 (fun _ h9 => h9) rfl dX2_placeRow_1 ?_
  refine lv_aload_n hx hb dX2_placeRow_4 rfl (lv_at hl 0 rfl) ?_
  refine va_get (D := (dC, dI)) (ci := 2) (v := .ref xq) (C := RX2) (T := TX2) (N := 11) hx hb hts in_X2 hown hK hP 0 rfl rfl 2 (by decide) fl_16 (fun _ h9 => h9) rfl dX2_placeRow_5 ?_
  refine lv_aload_n hx hb dX2_placeRow_8 rfl (lv_at hl 0 rfl) ?_
  refine va_get (D := (dC, dI)) (ci := 2) (v := .int (iI (n : Int))) (C := RX2) (T := TX2) (N := 11) hx hb hts in_X2 hown hK hP 0 rfl rfl 0 (by decide) fl_9 (fun _ h9 => h9) rfl dX2_placeRow_9 ?_
  refine lv_aload_n hx hb dX2_placeRow_12 rfl (lv_at hl 0 rfl) ?_
  refine va_get (D := (dC, dI)) (ci := 2) (v := .int (iI (w : Int))) (C := RX2) (T := TX2) (N := 11) hx hb hts in_X2 hown hK hP 0 rfl rfl 1 (by decide) fl_13 (fun _ h9 => h9) rfl dX2_placeRow_13 ?_
  refine zw_v (wr := [(x0, .inr (2, [.int (iI (n : Int)), .int (iI (w : Int)), .ref xq, .ref xr, .ref xl, .int (iI (rc : Int)), .ref xs, .int (iI (sc : Int)), .ref h0, .ref hn0, .ref xc])), (xr, .inl (cI, 192, .inl (iA ro))), (ar, .inl (cI, 16, .inl (iA cr)))]) (va_runV (As := [.ref xq, .int (iI (n : Int)), .int (iI (w : Int))]) (rest := []) ⟨hx, hb, hml, hown, hts⟩ (c_placeQuestion l dC dI cI h0 aq ar ac ap xq ps n1 w1 n w cq q _ hn hw) (cwV 3 hts (ga_V wd_304 wd_305 wd_306 wd_29 wd_307) rfl rfl rfl (by decide +kernel) ⟨(show 1 + 1 ≤ R.frames by omega), (show 8 + (4 + 11) + 40 ≤ R.locals by omega)⟩) (wr_preV (q0 := 0) (ci := 0) hP hK hD [3, 4, 1] (by decide) rfl rfl rfl rfl) rfl rfl hl.1 rfl (lv_room (Nat.le_of_ble_eq_true rfl)) dX2_placeRow_16 ⟨by omega, by omega⟩) hP hD hS hA [3, 4, 1] [0, 2, 5] rfl rfl (by decide) (by decide) (fun u16 H locs hw16 hP hD hS => ?_)
  have hP := hP.sub (ws' := [(x0, .inr (2, [.int (iI (n : Int)), .int (iI (w : Int)), .ref xq, .ref xr, .ref xl, .int (iI (rc : Int)), .ref xs, .int (iI (sc : Int)), .ref h0, .ref hn0, .ref xc])), (xq, .inl (cI, 16, .inl (iA q))), (xr, .inl (cI, 192, .inl (iA ro))), (h0, .inr (0, [.ref aq, .ref ar, .ref ac, .ref ap, .int (iI ps), .int (iI (n : Int)), .int (iI (w : Int))])), (aq, .inl (cI, 16, .inl (iA (zC q cq 0 0 n)))), (ar, .inl (cI, 16, .inl (iA cr)))]) [0, 5, 1, 3, 4, 2] rfl
  have hD := hD.sub (ws' := [(x0, .inr (2, [.int (iI (n : Int)), .int (iI (w : Int)), .ref xq, .ref xr, .ref xl, .int (iI (rc : Int)), .ref xs, .int (iI (sc : Int)), .ref h0, .ref hn0, .ref xc])), (xq, .inl (cI, 16, .inl (iA q))), (xr, .inl (cI, 192, .inl (iA ro))), (h0, .inr (0, [.ref aq, .ref ar, .ref ac, .ref ap, .int (iI ps), .int (iI (n : Int)), .int (iI (w : Int))])), (aq, .inl (cI, 16, .inl (iA (zC q cq 0 0 n)))), (ar, .inl (cI, 16, .inl (iA cr)))]) [0, 5, 1, 3, 4, 2] (by decide) rfl
  refine lv_aload_n hx hb dX2_placeRow_19 rfl (lv_at hl 0 rfl) ?_
  refine va_get (D := (dC, dI)) (ci := 2) (v := .ref h0) (C := RX2) (T := TX2) (N := 11) hx hb hts in_X2 hown hK hP 0 rfl rfl 8 (by decide) fl_38 (fun _ h9 => h9) rfl dX2_placeRow_20 ?_
  refine lv_aload_n hx hb dX2_placeRow_23 rfl (lv_at hl 0 rfl) ?_
  refine va_get (D := (dC, dI)) (ci := 2) (v := .ref xr) (C := RX2) (T := TX2) (N := 11) hx hb hts in_X2 hown hK hP 0 rfl rfl 3 (by decide) fl_20 (fun _ h9 => h9) rfl dX2_placeRow_24 ?_
  refine lv_iload_n hx hb dX2_placeRow_27 rfl (lv_at hl 1 rfl) ?_
  refine lv_bipush (v := iI (16 : Int)) hx hb dX2_placeRow_28 (by decide) ?_
  refine z_imul hx hb dX2_placeRow_30 ?_
  refine z_top (b := ((16 * row : Nat) : Int)) (by omega) ?_
  refine zw_v (wr := [(x0, .inr (2, [.int (iI (n : Int)), .int (iI (w : Int)), .ref xq, .ref xr, .ref xl, .int (iI (rc : Int)), .ref xs, .int (iI (sc : Int)), .ref h0, .ref hn0, .ref xc])), (xq, .inl (cI, 16, .inl (iA q))), (aq, .inl (cI, 16, .inl (iA (zC q cq 0 0 n))))]) (va_runV (As := [.ref xr, .int (iI ((16 * row : Nat) : Int))]) (rest := []) ⟨hx, hb, hml, hown, hts⟩ (c_placeBeside l dC dI cI h0 aq ar ac ap ps n w xr 192 (16 * row) cr ro _ hn hw (by omega)) (cwV 2 hts (ga_V wd_309 wd_310 wd_311 wd_29 wd_312) rfl rfl rfl (by decide +kernel) ⟨(show 1 + 1 ≤ R.frames by omega), (show 8 + (3 + 11) + 40 ≤ R.locals by omega)⟩) (wr_preV (q0 := 0) (ci := 0) hP hK hD [3, 5, 2] (by decide) rfl rfl rfl rfl) rfl rfl hl.1 rfl (lv_room (Nat.le_of_ble_eq_true rfl)) dX2_placeRow_31 ⟨by omega, by omega⟩) hP hD hS hA [3, 5, 2] [0, 1, 4] rfl rfl (by decide) (by decide) (fun u31 H locs hw31 hP hD hS => ?_)
  have hP := hP.sub (ws' := [(x0, .inr (2, [.int (iI (n : Int)), .int (iI (w : Int)), .ref xq, .ref xr, .ref xl, .int (iI (rc : Int)), .ref xs, .int (iI (sc : Int)), .ref h0, .ref hn0, .ref xc])), (xq, .inl (cI, 16, .inl (iA q))), (xr, .inl (cI, 192, .inl (iA ro))), (h0, .inr (0, [.ref aq, .ref ar, .ref ac, .ref ap, .int (iI ps), .int (iI (n : Int)), .int (iI (w : Int))])), (aq, .inl (cI, 16, .inl (iA (zC q cq 0 0 n)))), (ar, .inl (cI, 16, .inl (iA (zC ro cr (16 * row) 0 n))))]) [0, 1, 5, 3, 2, 4] rfl
  have hD := hD.sub (ws' := [(x0, .inr (2, [.int (iI (n : Int)), .int (iI (w : Int)), .ref xq, .ref xr, .ref xl, .int (iI (rc : Int)), .ref xs, .int (iI (sc : Int)), .ref h0, .ref hn0, .ref xc])), (xq, .inl (cI, 16, .inl (iA q))), (xr, .inl (cI, 192, .inl (iA ro))), (h0, .inr (0, [.ref aq, .ref ar, .ref ac, .ref ap, .int (iI ps), .int (iI (n : Int)), .int (iI (w : Int))])), (aq, .inl (cI, 16, .inl (iA (zC q cq 0 0 n)))), (ar, .inl (cI, 16, .inl (iA (zC ro cr (16 * row) 0 n))))]) [0, 1, 5, 3, 2, 4] (by decide) rfl
  subst hAe
  exact zw_retv (()) hx hb hr hlocks hQ (trivial) hP hK hD hS dX2_placeRow_34
theorem pas_at {n w v : Nat} {q r : Nat → Int} {lim : Int} (hb9 : ∀ k : Nat, k < v → lbd n w q r (k : Int) < lim) (hv : v < 3) (h : lim ≤ lbd n w q r (v : Int)) : (v : Int) = pas n w q r lim := by
  unfold pas
  have h3 : v = 0 ∨ v = 1 ∨ v = 2 := by omega
  rcases h3 with e | e | e
  · subst e
    have h : lim ≤ lbd n w q r 0 := h
    rw [if_pos h]
    rfl
  · subst e
    have h0 : lbd n w q r 0 < lim := hb9 0 (by omega)
    have h : lim ≤ lbd n w q r 1 := h
    rw [if_neg (Int.not_le.mpr h0), if_pos h]
    rfl
  · subst e
    have h0 : lbd n w q r 0 < lim := hb9 0 (by omega)
    have h1 : lbd n w q r 1 < lim := hb9 1 (by omega)
    have h : lim ≤ lbd n w q r 2 := h
    rw [if_neg (Int.not_le.mpr h0), if_neg (Int.not_le.mpr h1), if_pos h]
    rfl
theorem pas_no {n w : Nat} {q r : Nat → Int} {lim : Int} (hb9 : ∀ k : Nat, k < 3 → lbd n w q r (k : Int) < lim) : (-1 : Int) = pas n w q r lim := by
  unfold pas
  have h0 : lbd n w q r 0 < lim := hb9 0 (by omega)
  have h1 : lbd n w q r 1 < lim := hb9 1 (by omega)
  have h2 : lbd n w q r 2 < lim := hb9 2 (by omega)
  rw [if_neg (Int.not_le.mpr h0), if_neg (Int.not_le.mpr h1), if_neg (Int.not_le.mpr h2)]
set_option maxRecDepth 100000 in
set_option maxHeartbeats 4000000 in
theorem c_passingBound (l : Launch) (dC : Nat → ClassId) (dI : Nat → Nat → Nat) (cI : ClassId) (x0 xq xr xl xs h0 hn0 xc aq ar ac ap al ad : Nat) (ps : Int) (n w rc sc : Nat) (q r : Nat → Int) (lim : Int) (hn : 2 ≤ n ∧ n ≤ 16) (hw : w ≤ 15) (hvq : vals n q) (hvr : vals n r) (hlim : 0 ≤ lim ∧ lim ≤ 2147483647) : Met l yX2_passingBound wsX2_passingBound ({ frames := 3, cells := 0, slots := 0, locals := 71 }) (rdP dC dI [(cI, .int)] [(x0, .inr (2, [.int (iI (n : Int)), .int (iI (w : Int)), .ref xq, .ref xr, .ref xl, .int (iI (rc : Int)), .ref xs, .int (iI (sc : Int)), .ref h0, .ref hn0, .ref xc])), (h0, .inr (0, [.ref aq, .ref ar, .ref ac, .ref ap, .int (iI ps), .int (iI (n : Int)), .int (iI (w : Int))])), (aq, .inl (cI, 16, .inl (iA q))), (ar, .inl (cI, 16, .inl (iA r)))] [.ref x0, .int (iI lim)]) (rdQ (fun z => z = pas n w q r lim)) 0 0 (fun _ => False) := by
  refine Met.ofW (cc := cX2_passingBound) (maxL := 3) (ret := (some .int)) (by decide) rfl ?_
  intro p e s m args below meth c s₁ B hml hv
  obtain ⟨rfl, hP, hK⟩ := hv
  have hx := B.exec
  have hb := B.bytes
  have hr := B.returns
  have hts : ∀ w ∈ wsX2_passingBound, w.before _ s = true := atoms_spec (ws := wsX2_passingBound) B.pre
  have hown : s.vm.findClass RX2 = some m.cls := findClass_of_methodNamed B.named
  have hlocks := B.notSynchronized
  have hl := lv_entry ([.ref x0, .int (iI lim)]) (n := 3) (Nat.le_of_ble_eq_true rfl)
  rw [lg_entry_eq]
  generalize (lg_sl ([.ref x0, .int (iI lim)]) ++ List.replicate (3 - (lg_sl ([.ref x0, .int (iI lim)])).length) Slot.unset).toArray = ls at hl ⊢
  have hl : lv_has ls 3 [(0, .ref x0), (1, .int (iI lim))] := hl
  generalize hargs : ([.ref x0, .int (iI lim)] : List Value).toArray = args at hts ⊢
  refine z_intro (fun R Q hR hQ => ?_)
  have hRf : R.frames = 3 := by rw [hR]; rfl
  have hRl : R.locals = 71 := by rw [hR]; rfl
  have hRc : R.cells = 0 := by rw [hR]; rfl
  have hRs : R.slots = 0 := by rw [hR]; rfl
  have in_X2 : ∀ w ∈ u_ws RX2 TX2 11, w ∈ wsX2_passingBound := fun w h => List.mem_cons_of_mem _ (inW_X2 w h)
  have fl_38 := wa_hts hts wd_108
  clear hR hargs B
  refine lv_iconst (v := iI (0 : Int)) hx hb dX2_passingBound_0 (by decide) ?_
  refine lv_istore_n (lv' := [(2, .int (iI (0 : Int))), (0, .ref x0), (1, .int (iI lim))]) hx hb dX2_passingBound_1 rfl hl (by decide) rfl (fun ls hl => ?_)
  have lp : ∀ (k9 : Nat) (v : Nat) (ls : Array Slot), (v ≤ 3) → (∀ k : Nat, k < v → lbd n w q r (k : Int) < lim) → 3 - v = k9 → lv_has ls 3 [(0, .ref x0), (1, .int (iI lim)), (2, .int (iI (v : Int)))] → W p l e R s m args below meth c s.heap [] 0 0 Q (F0 m 2 ls []) := by
    intro k9
    induction k9 using Nat.strongRecOn with
    | ind k9 ih_lp =>
      intro v ls hv hb9 hk9 hl
      refine lv_iload_n hx hb dX2_passingBound_2 rfl (lv_at hl 2 rfl) ?_
      refine lv_iconst (v := iI (2 : Int)) hx hb dX2_passingBound_3 (by decide) ?_
      refine z_icmp_gt (tgt := 27) hx hb dX2_passingBound_4 (by decide) (by omega) (fun h4 => ?_) (fun h4 => ?_)
      · refine lv_iconst (v := iI (-1 : Int)) hx hb dX2_passingBound_27 (by decide) ?_
        exact zr_ret (z := (-1 : Int)) hx hb hr hlocks hQ (pas_no (fun k h => hb9 k (by omega))) dX2_passingBound_28
      · refine lv_aload_n hx hb dX2_passingBound_7 rfl (lv_at hl 0 rfl) ?_
        refine va_get (D := (dC, dI)) (ci := 2) (v := .ref h0) (C := RX2) (T := TX2) (N := 11) hx hb hts in_X2 hown hK hP 0 rfl rfl 8 (by decide) fl_38 (fun _ h9 => h9) rfl dX2_passingBound_8 ?_
        refine lv_iload_n hx hb dX2_passingBound_11 rfl (lv_at hl 2 rfl) ?_
        refine zr_i (va_runV (As := [.int (iI (v : Int))]) (rest := []) ⟨hx, hb, hml, hown, hts⟩ (c_lowerBound l dC dI cI h0 aq ar ac ap ps n w q r (v : Int) hn hw hvq hvr (by omega)) (cwV 1 hts (ga_V wd_352 wd_353 wd_354 wd_29 wd_355) rfl rfl rfl (by decide +kernel) ⟨(show 2 + 1 ≤ R.frames by omega), (show 8 + (2 + 11) + 50 ≤ R.locals by omega)⟩) (rd_preV (q0 := 0) (ci := 0) hP hK [1, 2, 3] rfl rfl rfl) rfl rfl hl.1 rfl (lv_room (Nat.le_of_ble_eq_true rfl)) dX2_passingBound_12 ⟨by omega, by omega⟩) (fun z12 hz12 => ?_)
        have r12 : 0 ≤ z12 ∧ z12 ≤ 128000000 := by rw [hz12]; exact lbd_rg (by omega) hvq hvr _
        refine lv_iload_n hx hb dX2_passingBound_15 rfl (lv_at hl 1 rfl) ?_
        refine z_icmp_lt (tgt := 21) hx hb dX2_passingBound_16 (by decide) (by omega) (fun h16 => ?_) (fun h16 => ?_)
        · refine z_iinc (k := 2) (b := ((v + 1 : Nat) : Int)) (lv' := [(2, .int (iI ((v + 1 : Nat) : Int))), (0, .ref x0), (1, .int (iI lim))]) hx hb dX2_passingBound_21 hl rfl (by omega) (by decide) rfl (fun ls hl => ?_)
          refine lv_goto (tgt := 2) hx hb dX2_passingBound_24 (by decide) ?_
          exact ih_lp _ (by omega) (v + 1) ls (by omega) (fun k h => by by_cases g9 : k = v; (subst g9; rw [← hz12]; exact h16); exact hb9 k (by omega)) rfl (lv_sub hl [1, 2, 0] rfl)
        · refine lv_iload_n hx hb dX2_passingBound_19 rfl (lv_at hl 2 rfl) ?_
          exact zr_ret (z := (v : Int)) hx hb hr hlocks hQ (by rw [hz12] at h16; exact pas_at hb9 (by omega) h16) dX2_passingBound_20
  exact lp _ 0 ls (by omega) (fun k h => absurd h (Nat.not_lt_zero _)) rfl (lv_sub hl [1, 2, 0] rfl)
set_option maxRecDepth 100000 in
set_option maxHeartbeats 4000000 in
theorem c_weigh (l : Launch) (dC : Nat → ClassId) (dI : Nat → Nat → Nat) (cI : ClassId) (x0 xq xr xl xs h0 hn0 xc aq ar ac ap al ad : Nat) (ps : Int) (n w rc sc : Nat) (nm wt : Nat) (pl : Int) (q r G P D T : Nat → Int) (sz : Nat) (hn : 2 ≤ n ∧ n ≤ 16) (hw : w ≤ 15) (hvq : vals n q) (hvr : vals n r) (hG : rgA G) (hlk : lok wt (nm, P, D, T)) (hwt : 1 ≤ wt ∧ wt ≤ 12) : Met l yX2_weigh wsX2_weigh ({ frames := 4, cells := 0, slots := 0, locals := 93 }) (wrP dC dI [(cI, .int)] [(x0, .inr (2, [.int (iI (n : Int)), .int (iI (w : Int)), .ref xq, .ref xr, .ref xl, .int (iI (rc : Int)), .ref xs, .int (iI (sc : Int)), .ref h0, .ref hn0, .ref xc])), (h0, .inr (0, [.ref aq, .ref ar, .ref ac, .ref ap, .int (iI ps), .int (iI (n : Int)), .int (iI (w : Int))])), (aq, .inl (cI, 16, .inl (iA q))), (ar, .inl (cI, 16, .inl (iA r))), (ac, .inl (cI, 256, .inl (iA G))), (hn0, .inr (1, [.ref al, .ref ad, .int (iI (nm : Int)), .int (iI (wt : Int))])), (al, .inl (cI, 12, .inl (iA P))), (ad, .inl (cI, 12, .inl (iA D))), (xc, .inl (cI, 5, .inl (iA T)))] sz [.ref x0, .int (iI pl)]) (wrQv dC dI [(cI, .int)] [(x0, .inr (2, [.int (iI (n : Int)), .int (iI (w : Int)), .ref xq, .ref xr, .ref xl, .int (iI (rc : Int)), .ref xs, .int (iI (sc : Int)), .ref h0, .ref hn0, .ref xc])), (h0, .inr (0, [.ref aq, .ref ar, .ref ac, .ref ap, .int (iI ps), .int (iI (n : Int)), .int (iI (w : Int))])), (aq, .inl (cI, 16, .inl (iA q))), (ar, .inl (cI, 16, .inl (iA r))), (ac, .inl (cI, 256, .inl (iA G))), (hn0, .inr (1, [.ref al, .ref ad, .int (iI (nm : Int)), .int (iI (wt : Int))])), (al, .inl (cI, 12, .inl (iA P))), (ad, .inl (cI, 12, .inl (iA D))), (xc, .inl (cI, 5, .inl (iA T)))] sz (S := (Lst × (Nat → Int))) (fun u => u.1 = wgh n w q r wt pl (nm, P, D, T) ∧ rgA u.2) (fun u => [(x0, .inr (2, [.int (iI (n : Int)), .int (iI (w : Int)), .ref xq, .ref xr, .ref xl, .int (iI (rc : Int)), .ref xs, .int (iI (sc : Int)), .ref h0, .ref hn0, .ref xc])), (h0, .inr (0, [.ref aq, .ref ar, .ref ac, .ref ap, .int (iI ps), .int (iI (n : Int)), .int (iI (w : Int))])), (aq, .inl (cI, 16, .inl (iA q))), (ar, .inl (cI, 16, .inl (iA r))), (ac, .inl (cI, 256, .inl (iA u.2))), (hn0, .inr (1, [.ref al, .ref ad, .int (iI ((u.1.1 : Nat) : Int)), .int (iI (wt : Int))])), (al, .inl (cI, 12, .inl (iA u.1.2.1))), (ad, .inl (cI, 12, .inl (iA u.1.2.2.1))), (xc, .inl (cI, 5, .inl (iA u.1.2.2.2)))])) 0 0 (va_A [(x0, .inr (2, [.int (iI (n : Int)), .int (iI (w : Int)), .ref xq, .ref xr, .ref xl, .int (iI (rc : Int)), .ref xs, .int (iI (sc : Int)), .ref h0, .ref hn0, .ref xc])), (h0, .inr (0, [.ref aq, .ref ar, .ref ac, .ref ap, .int (iI ps), .int (iI (n : Int)), .int (iI (w : Int))])), (aq, .inl (cI, 16, .inl (iA q))), (ar, .inl (cI, 16, .inl (iA r))), (ac, .inl (cI, 256, .inl (iA G))), (hn0, .inr (1, [.ref al, .ref ad, .int (iI (nm : Int)), .int (iI (wt : Int))])), (al, .inl (cI, 12, .inl (iA P))), (ad, .inl (cI, 12, .inl (iA D))), (xc, .inl (cI, 5, .inl (iA T)))] sz) := by
  refine Met.ofW (cc := cX2_weigh) (maxL := 5) (ret := none) (by decide) rfl ?_
  intro p e s m args below meth c s₁ B hml hv
  obtain ⟨rfl, hsz, hP, hK, hD0⟩ := hv
  have hx := B.exec
  have hb := B.bytes
  have hr := B.returns
  have hts : ∀ w ∈ wsX2_weigh, w.before _ s = true := atoms_spec (ws := wsX2_weigh) B.pre
  have hown : s.vm.findClass RX2 = some m.cls := findClass_of_methodNamed B.named
  have hlocks := B.notSynchronized
  subst hsz
  have hD := hD0.self (sz := s.heap.size)
  have hA : ∀ q9 : Nat, s.heap.size ≤ q9 → va_A [(x0, .inr (2, [.int (iI (n : Int)), .int (iI (w : Int)), .ref xq, .ref xr, .ref xl, .int (iI (rc : Int)), .ref xs, .int (iI (sc : Int)), .ref h0, .ref hn0, .ref xc])), (h0, .inr (0, [.ref aq, .ref ar, .ref ac, .ref ap, .int (iI ps), .int (iI (n : Int)), .int (iI (w : Int))])), (aq, .inl (cI, 16, .inl (iA q))), (ar, .inl (cI, 16, .inl (iA r))), (ac, .inl (cI, 256, .inl (iA G))), (hn0, .inr (1, [.ref al, .ref ad, .int (iI (nm : Int)), .int (iI (wt : Int))])), (al, .inl (cI, 12, .inl (iA P))), (ad, .inl (cI, 12, .inl (iA D))), (xc, .inl (cI, 5, .inl (iA T)))] s.heap.size q9 := fun q9 h => Or.inr h
  have hS : va_S (va_A [(x0, .inr (2, [.int (iI (n : Int)), .int (iI (w : Int)), .ref xq, .ref xr, .ref xl, .int (iI (rc : Int)), .ref xs, .int (iI (sc : Int)), .ref h0, .ref hn0, .ref xc])), (h0, .inr (0, [.ref aq, .ref ar, .ref ac, .ref ap, .int (iI ps), .int (iI (n : Int)), .int (iI (w : Int))])), (aq, .inl (cI, 16, .inl (iA q))), (ar, .inl (cI, 16, .inl (iA r))), (ac, .inl (cI, 256, .inl (iA G))), (hn0, .inr (1, [.ref al, .ref ad, .int (iI (nm : Int)), .int (iI (wt : Int))])), (al, .inl (cI, 12, .inl (iA P))), (ad, .inl (cI, 12, .inl (iA D))), (xc, .inl (cI, 5, .inl (iA T)))] s.heap.size) s.heap s.heap [] := va_S.rf
  generalize hAe : va_A [(x0, .inr (2, [.int (iI (n : Int)), .int (iI (w : Int)), .ref xq, .ref xr, .ref xl, .int (iI (rc : Int)), .ref xs, .int (iI (sc : Int)), .ref h0, .ref hn0, .ref xc])), (h0, .inr (0, [.ref aq, .ref ar, .ref ac, .ref ap, .int (iI ps), .int (iI (n : Int)), .int (iI (w : Int))])), (aq, .inl (cI, 16, .inl (iA q))), (ar, .inl (cI, 16, .inl (iA r))), (ac, .inl (cI, 256, .inl (iA G))), (hn0, .inr (1, [.ref al, .ref ad, .int (iI (nm : Int)), .int (iI (wt : Int))])), (al, .inl (cI, 12, .inl (iA P))), (ad, .inl (cI, 12, .inl (iA D))), (xc, .inl (cI, 5, .inl (iA T)))] s.heap.size = A at hD hA hS
  have hP : va_P (dC, dI) vwCl [(x0, .inr (2, [.int (iI (n : Int)), .int (iI (w : Int)), .ref xq, .ref xr, .ref xl, .int (iI (rc : Int)), .ref xs, .int (iI (sc : Int)), .ref h0, .ref hn0, .ref xc])), (h0, .inr (0, [.ref aq, .ref ar, .ref ac, .ref ap, .int (iI ps), .int (iI (n : Int)), .int (iI (w : Int))])), (aq, .inl (cI, 16, .inl (iA q))), (ar, .inl (cI, 16, .inl (iA r))), (ac, .inl (cI, 256, .inl (iA G))), (hn0, .inr (1, [.ref al, .ref ad, .int (iI (nm : Int)), .int (iI (wt : Int))])), (al, .inl (cI, 12, .inl (iA P))), (ad, .inl (cI, 12, .inl (iA D))), (xc, .inl (cI, 5, .inl (iA T)))] s.heap := hP
  have hl := lv_entry ([.ref x0, .int (iI pl)]) (n := 5) (Nat.le_of_ble_eq_true rfl)
  rw [lg_entry_eq]
  generalize (lg_sl ([.ref x0, .int (iI pl)]) ++ List.replicate (5 - (lg_sl ([.ref x0, .int (iI pl)])).length) Slot.unset).toArray = ls at hl ⊢
  have hl : lv_has ls 5 [(0, .ref x0), (1, .int (iI pl))] := hl
  generalize hargs : ([.ref x0, .int (iI pl)] : List Value).toArray = args at hts ⊢
  refine z_intro (fun R Q hR hQ => ?_)
  have hRf : R.frames = 4 := by rw [hR]; rfl
  have hRl : R.locals = 93 := by rw [hR]; rfl
  have hRc : R.cells = 0 := by rw [hR]; rfl
  have hRs : R.slots = 0 := by rw [hR]; rfl
  have in_X2 : ∀ w ∈ u_ws RX2 TX2 11, w ∈ wsX2_weigh := fun w h => List.mem_cons_of_mem _ (inW_X2 w h)
  have fl_38 := wa_hts hts wd_108
  have fl_45 := wa_hts hts wd_109
  have fl_49 := wa_hts hts wd_110
  clear hR hargs B
  refine lv_aload_n hx hb dX2_weigh_0 rfl (lv_at hl 0 rfl) ?_
  refine va_get (D := (dC, dI)) (ci := 2) (v := .ref hn0) (C := RX2) (T := TX2) (N := 11) hx hb hts in_X2 hown hK hP 0 rfl rfl 9 (by decide) fl_45 (fun _ h9 => h9) rfl dX2_weigh_1 ?_
  refine zr_i (va_runV (As := []) (rest := []) ⟨hx, hb, hml, hown, hts⟩ (c_limit l dC dI cI hn0 al ad nm wt D hlk.1 hwt) (cwV 0 hts (ga_V wd_414 wd_415 wd_416 wd_30 wd_417) rfl rfl rfl (by decide +kernel) ⟨(show 0 + 1 ≤ R.frames by omega), (show 8 + (1 + 11) + 0 ≤ R.locals by omega)⟩) (rd_preV (q0 := 0) (ci := 1) hP hK [5, 7] rfl rfl rfl) rfl rfl hl.1 rfl (lv_room (Nat.le_of_ble_eq_true rfl)) dX2_weigh_4 ⟨by omega, by omega⟩) (fun lim hlim => ?_)
  have hrD : rgA D := hlk.2.1
  have hrd := hrD (nm - 1)
  have hl9 : (nm = wt ∧ lim = D (nm - 1) ∧ 0 ≤ lim) ∨ (nm ≠ wt ∧ lim = -1) := by
    by_cases h9 : nm = wt
    · have h8 : 0 ≤ D (nm - 1) := hlk.2.2 (nm - 1) (by have := hwt.1; show nm - 1 < nm; omega)
      rw [if_pos h9] at hlim
      exact Or.inl ⟨h9, hlim, by rw [hlim]; exact h8⟩
    · rw [if_neg h9] at hlim
      exact Or.inr ⟨h9, hlim⟩
  refine lv_istore_n (lv' := [(2, .int (iI lim)), (0, .ref x0), (1, .int (iI pl))]) hx hb dX2_weigh_7 rfl hl (by decide) rfl (fun ls hl => ?_)
  refine lv_iload_n hx hb dX2_weigh_8 rfl (lv_at hl 0 rfl) ?_
  refine lv_iconst (v := iI (-1 : Int)) hx hb dX2_weigh_9 (by decide) ?_
  refine z_icmp_ne (tgt := 17) hx hb dX2_weigh_10 (by decide) (by omega) (fun h10 => ?_) (fun h10 => ?_)
  · refine lv_aload_n hx hb dX2_weigh_17 rfl (lv_at hl 1 rfl) ?_
    refine lv_iload_n hx hb dX2_weigh_18 rfl (lv_at hl 0 rfl) ?_
    refine zr_i (va_runV (As := [.int (iI lim)]) (rest := []) ⟨hx, hb, hml, hown, hts⟩ (c_passingBound l dC dI cI x0 xq xr xl xs h0 hn0 xc aq ar ac ap al ad ps n w rc sc q r lim hn hw hvq hvr (by omega)) (cwV 1 hts (ga_V wd_418 wd_420 wd_12 wd_28 wd_421) rfl rfl rfl (by decide +kernel) ⟨(show 3 + 1 ≤ R.frames by omega), (show 8 + (3 + 11) + 71 ≤ R.locals by omega)⟩) (rd_preV (q0 := 0) (ci := 2) hP hK [0, 1, 2, 3] rfl rfl rfl) rfl rfl hl.1 rfl (lv_room (Nat.le_of_ble_eq_true rfl)) dX2_weigh_19 ⟨by omega, by omega⟩) (fun zp hzp => ?_)
    have rp : zp = -1 ∨ (0 ≤ zp ∧ zp ≤ 2) := by rw [hzp]; exact pas_rg _ _ _ _ _
    refine lv_istore_n (lv' := [(3, .int (iI zp)), (2, .int (iI lim)), (0, .ref x0), (1, .int (iI pl))]) hx hb dX2_weigh_22 rfl hl (by decide) rfl (fun ls hl => ?_)
    refine lv_iload_n hx hb dX2_weigh_23 rfl (lv_at hl 0 rfl) ?_
    refine lv_iconst (v := iI (-1 : Int)) hx hb dX2_weigh_24 (by decide) ?_
    refine z_icmp_eq (tgt := 39) hx hb dX2_weigh_25 (by decide) (by omega) (fun h25 => ?_) (fun h25 => ?_)
    · refine lv_aload_n hx hb dX2_weigh_39 rfl (lv_at hl 2 rfl) ?_
      refine va_get (D := (dC, dI)) (ci := 2) (v := .ref xc) (C := RX2) (T := TX2) (N := 11) hx hb hts in_X2 hown hK hP 0 rfl rfl 10 (by decide) fl_49 (fun _ h9 => h9) rfl dX2_weigh_40 ?_
      refine lv_iconst (v := iI (3 : Int)) hx hb dX2_weigh_43 (by decide) ?_
      refine lv_dup2_11 hx hb dX2_weigh_44 rfl rfl ?_
      refine z_iald hx hb hK hP 8 0 rfl rfl 3 (by omega) dX2_weigh_45 ?_
      refine lv_iconst (v := iI (1 : Int)) hx hb dX2_weigh_46 (by decide) ?_
      refine z_iadd hx hb dX2_weigh_47 ?_
      refine z_iast hx hb hK hP hD hS 8 0 rfl rfl 3 (by omega) dX2_weigh_48 (fun H locs hP hD hS => ?_)
      have hP : va_P (dC, dI) vwCl [(x0, .inr (2, [.int (iI (n : Int)), .int (iI (w : Int)), .ref xq, .ref xr, .ref xl, .int (iI (rc : Int)), .ref xs, .int (iI (sc : Int)), .ref h0, .ref hn0, .ref xc])), (h0, .inr (0, [.ref aq, .ref ar, .ref ac, .ref ap, .int (iI ps), .int (iI (n : Int)), .int (iI (w : Int))])), (aq, .inl (cI, 16, .inl (iA q))), (ar, .inl (cI, 16, .inl (iA r))), (ac, .inl (cI, 256, .inl (iA G))), (hn0, .inr (1, [.ref al, .ref ad, .int (iI (nm : Int)), .int (iI (wt : Int))])), (al, .inl (cI, 12, .inl (iA P))), (ad, .inl (cI, 12, .inl (iA D))), (xc, .inl (cI, 5, .inl (iA (zU T 3 ((T 3) + (1 : Int))))))] H := hP
      have hD : va_D A [(x0, .inr (2, [.int (iI (n : Int)), .int (iI (w : Int)), .ref xq, .ref xr, .ref xl, .int (iI (rc : Int)), .ref xs, .int (iI (sc : Int)), .ref h0, .ref hn0, .ref xc])), (h0, .inr (0, [.ref aq, .ref ar, .ref ac, .ref ap, .int (iI ps), .int (iI (n : Int)), .int (iI (w : Int))])), (aq, .inl (cI, 16, .inl (iA q))), (ar, .inl (cI, 16, .inl (iA r))), (ac, .inl (cI, 256, .inl (iA G))), (hn0, .inr (1, [.ref al, .ref ad, .int (iI (nm : Int)), .int (iI (wt : Int))])), (al, .inl (cI, 12, .inl (iA P))), (ad, .inl (cI, 12, .inl (iA D))), (xc, .inl (cI, 5, .inl (iA (zU T 3 ((T 3) + (1 : Int))))))] := hD
      refine lv_aload_n hx hb dX2_weigh_49 rfl (lv_at hl 2 rfl) ?_
      refine va_get (D := (dC, dI)) (ci := 2) (v := .ref h0) (C := RX2) (T := TX2) (N := 11) hx hb hts in_X2 hown hK hP 0 rfl rfl 8 (by decide) fl_38 (fun _ h9 => h9) rfl dX2_weigh_50 ?_
      refine lv_iload_n hx hb dX2_weigh_53 rfl (lv_at hl 1 rfl) ?_
      refine zw_i (wr := [(x0, .inr (2, [.int (iI (n : Int)), .int (iI (w : Int)), .ref xq, .ref xr, .ref xl, .int (iI (rc : Int)), .ref xs, .int (iI (sc : Int)), .ref h0, .ref hn0, .ref xc])), (hn0, .inr (1, [.ref al, .ref ad, .int (iI (nm : Int)), .int (iI (wt : Int))])), (al, .inl (cI, 12, .inl (iA P))), (ad, .inl (cI, 12, .inl (iA D))), (xc, .inl (cI, 5, .inl (iA (zU T 3 ((T 3) + (1 : Int))))))]) (va_runV (As := [.int (iI lim)]) (rest := []) ⟨hx, hb, hml, hown, hts⟩ (c_leastCost l dC dI cI h0 aq ar ac ap ps n w lim q r G _ hn hw hvq hvr (by omega) hG) (cwV 1 hts (ga_V wd_313 wd_314 wd_315 wd_29 wd_316) rfl rfl rfl (by decide +kernel) ⟨(show 3 + 1 ≤ R.frames by omega), (show 8 + (4 + 11) + 70 ≤ R.locals by omega)⟩) (wr_preV (q0 := 0) (ci := 0) hP hK hD [1, 2, 3, 4] (by decide) rfl rfl rfl rfl) rfl rfl hl.1 rfl (lv_room (Nat.le_of_ble_eq_true rfl)) dX2_weigh_54 ⟨by omega, by omega⟩) hP hD hS hA [1, 2, 3, 4] [0, 5, 6, 7, 8] rfl rfl (by decide) (by decide) (fun z54 u54 H locs hw54 hP hD hS => ?_)
      have hP := hP.sub (ws' := [(x0, .inr (2, [.int (iI (n : Int)), .int (iI (w : Int)), .ref xq, .ref xr, .ref xl, .int (iI (rc : Int)), .ref xs, .int (iI (sc : Int)), .ref h0, .ref hn0, .ref xc])), (h0, .inr (0, [.ref aq, .ref ar, .ref ac, .ref ap, .int (iI ps), .int (iI (n : Int)), .int (iI (w : Int))])), (aq, .inl (cI, 16, .inl (iA q))), (ar, .inl (cI, 16, .inl (iA r))), (ac, .inl (cI, 256, .inl (iA u54))), (hn0, .inr (1, [.ref al, .ref ad, .int (iI (nm : Int)), .int (iI (wt : Int))])), (al, .inl (cI, 12, .inl (iA P))), (ad, .inl (cI, 12, .inl (iA D))), (xc, .inl (cI, 5, .inl (iA (zU T 3 ((T 3) + (1 : Int))))))]) [0, 5, 6, 7, 8, 1, 2, 3, 4] rfl
      have hD := hD.sub (ws' := [(x0, .inr (2, [.int (iI (n : Int)), .int (iI (w : Int)), .ref xq, .ref xr, .ref xl, .int (iI (rc : Int)), .ref xs, .int (iI (sc : Int)), .ref h0, .ref hn0, .ref xc])), (h0, .inr (0, [.ref aq, .ref ar, .ref ac, .ref ap, .int (iI ps), .int (iI (n : Int)), .int (iI (w : Int))])), (aq, .inl (cI, 16, .inl (iA q))), (ar, .inl (cI, 16, .inl (iA r))), (ac, .inl (cI, 256, .inl (iA u54))), (hn0, .inr (1, [.ref al, .ref ad, .int (iI (nm : Int)), .int (iI (wt : Int))])), (al, .inl (cI, 12, .inl (iA P))), (ad, .inl (cI, 12, .inl (iA D))), (xc, .inl (cI, 5, .inl (iA (zU T 3 ((T 3) + (1 : Int))))))]) [0, 5, 6, 7, 8, 1, 2, 3, 4] (by decide) rfl
      have hcr := cst_rg hvq hvr hn.2 (w := w) (i := n - 1) (j := n - 1) (by omega) (by omega) (by omega)
      have r54 : (z54 = -1 ∧ lim ≠ -1 ∧ givesUp n w q r lim) ∨ (z54 = cst w q r (n - 1) (n - 1) ∧ (lim ≠ -1 → ¬ givesUp n w q r lim)) := by
        rcases hw54.2 with h9 | h9
        · exact Or.inl h9
        · exact Or.inr ⟨h9.1, h9.2.1⟩
      have r54b : -1 ≤ z54 ∧ z54 ≤ 124000000 := by
        rcases r54 with h9 | h9
        · omega
        · omega
      refine lv_istore (lv' := [(4, .int (iI z54)), (3, .int (iI zp)), (2, .int (iI lim)), (0, .ref x0), (1, .int (iI pl))]) hx hb dX2_weigh_57 hl (by decide) rfl (fun ls hl => ?_)
      refine lv_iload hx hb dX2_weigh_59 (lv_at hl 0 rfl) ?_
      refine lv_iconst (v := iI (-1 : Int)) hx hb dX2_weigh_61 (by decide) ?_
      refine z_icmp_ne (tgt := 78) hx hb dX2_weigh_62 (by decide) (by omega) (fun h62 => ?_) (fun h62 => ?_)
      · refine lv_iload_n hx hb dX2_weigh_78 rfl (lv_at hl 2 rfl) ?_
        refine lv_iconst (v := iI (-1 : Int)) hx hb dX2_weigh_79 (by decide) ?_
        refine z_icmp_eq (tgt := 89) hx hb dX2_weigh_80 (by decide) (by omega) (fun h80 => ?_) (fun h80 => ?_)
        · refine lv_aload_n hx hb dX2_weigh_89 rfl (lv_at hl 3 rfl) ?_
          refine va_get (D := (dC, dI)) (ci := 2) (v := .ref hn0) (C := RX2) (T := TX2) (N := 11) hx hb hts in_X2 hown hK hP 0 rfl rfl 9 (by decide) fl_45 (fun _ h9 => h9) rfl dX2_weigh_90 ?_
          refine lv_iload_n hx hb dX2_weigh_93 rfl (lv_at hl 4 rfl) ?_
          refine lv_iload hx hb dX2_weigh_94 (lv_at hl 0 rfl) ?_
          refine zw_v (wr := [(x0, .inr (2, [.int (iI (n : Int)), .int (iI (w : Int)), .ref xq, .ref xr, .ref xl, .int (iI (rc : Int)), .ref xs, .int (iI (sc : Int)), .ref h0, .ref hn0, .ref xc])), (h0, .inr (0, [.ref aq, .ref ar, .ref ac, .ref ap, .int (iI ps), .int (iI (n : Int)), .int (iI (w : Int))])), (aq, .inl (cI, 16, .inl (iA q))), (ar, .inl (cI, 16, .inl (iA r))), (ac, .inl (cI, 256, .inl (iA u54))), (xc, .inl (cI, 5, .inl (iA (zU T 3 ((T 3) + (1 : Int))))))]) (va_runV (As := [.int (iI pl), .int (iI z54)]) (rest := []) ⟨hx, hb, hml, hown, hts⟩ (c_insert l dC dI cI hn0 al ad nm wt pl z54 P D _ hlk.1 hwt hrD (by omega)) (cwV 2 hts (ga_V wd_422 wd_423 wd_424 wd_30 wd_425) rfl rfl rfl (by decide +kernel) ⟨(show 1 + 1 ≤ R.frames by omega), (show 8 + (4 + 11) + 21 ≤ R.locals by omega)⟩) (wr_preV (q0 := 0) (ci := 1) hP hK hD [5, 6, 7] (by decide) rfl rfl rfl rfl) rfl rfl hl.1 rfl (lv_room (Nat.le_of_ble_eq_true rfl)) dX2_weigh_96 ⟨by omega, by omega⟩) hP hD hS hA [5, 6, 7] [0, 1, 2, 3, 4, 8] rfl rfl (by decide) (by decide) (fun u96 H locs hw96 hP hD hS => ?_)
          have hP := hP.sub (ws' := [(x0, .inr (2, [.int (iI (n : Int)), .int (iI (w : Int)), .ref xq, .ref xr, .ref xl, .int (iI (rc : Int)), .ref xs, .int (iI (sc : Int)), .ref h0, .ref hn0, .ref xc])), (h0, .inr (0, [.ref aq, .ref ar, .ref ac, .ref ap, .int (iI ps), .int (iI (n : Int)), .int (iI (w : Int))])), (aq, .inl (cI, 16, .inl (iA q))), (ar, .inl (cI, 16, .inl (iA r))), (ac, .inl (cI, 256, .inl (iA u54))), (hn0, .inr (1, [.ref al, .ref ad, .int (iI ((min (nm + 1) wt : Nat) : Int)), .int (iI (wt : Int))])), (al, .inl (cI, 12, .inl (iA (insF P (scn D z54 (min nm (wt - 1))) (min nm (wt - 1)) pl)))), (ad, .inl (cI, 12, .inl (iA (insF D (scn D z54 (min nm (wt - 1))) (min nm (wt - 1)) z54)))), (xc, .inl (cI, 5, .inl (iA (zU T 3 ((T 3) + (1 : Int))))))]) [0, 1, 2, 3, 4, 6, 7, 8, 5] rfl
          have hD := hD.sub (ws' := [(x0, .inr (2, [.int (iI (n : Int)), .int (iI (w : Int)), .ref xq, .ref xr, .ref xl, .int (iI (rc : Int)), .ref xs, .int (iI (sc : Int)), .ref h0, .ref hn0, .ref xc])), (h0, .inr (0, [.ref aq, .ref ar, .ref ac, .ref ap, .int (iI ps), .int (iI (n : Int)), .int (iI (w : Int))])), (aq, .inl (cI, 16, .inl (iA q))), (ar, .inl (cI, 16, .inl (iA r))), (ac, .inl (cI, 256, .inl (iA u54))), (hn0, .inr (1, [.ref al, .ref ad, .int (iI ((min (nm + 1) wt : Nat) : Int)), .int (iI (wt : Int))])), (al, .inl (cI, 12, .inl (iA (insF P (scn D z54 (min nm (wt - 1))) (min nm (wt - 1)) pl)))), (ad, .inl (cI, 12, .inl (iA (insF D (scn D z54 (min nm (wt - 1))) (min nm (wt - 1)) z54)))), (xc, .inl (cI, 5, .inl (iA (zU T 3 ((T 3) + (1 : Int))))))]) [0, 1, 2, 3, 4, 6, 7, 8, 5] (by decide) rfl
          have hm9 : nm = wt := by omega
          have hd9 : D (nm - 1) = lim := by omega
          have hpz : pas n w q r lim = -1 := by rw [← hzp]; omega
          have hcc : z54 = cst w q r (n - 1) (n - 1) ∧ (lim ≠ -1 → ¬ givesUp n w q r lim) := by
            rcases r54 with h9 | h9
            · omega
            · exact h9
          rw [hcc.1] at hP hD
          subst hAe
          exact zw_retv (((min (nm + 1) wt, insF P (scn D (cst w q r (n - 1) (n - 1)) (min nm (wt - 1))) (min nm (wt - 1)) pl, insF D (scn D (cst w q r (n - 1) (n - 1)) (min nm (wt - 1))) (min nm (wt - 1)) (cst w q r (n - 1) (n - 1)), bmp T 3), u54)) hx hb hr hlocks hQ (⟨(wgh_4 (Or.inr ⟨by rw [hd9]; exact hpz, by rw [hd9]; exact hcc.2 (by omega), by omega⟩)).symm, hw54.1⟩) hP hK hD hS dX2_weigh_99
        · refine lv_iload hx hb dX2_weigh_83 (lv_at hl 0 rfl) ?_
          refine lv_iload_n hx hb dX2_weigh_85 rfl (lv_at hl 2 rfl) ?_
          refine z_icmp_ge (tgt := 99) hx hb dX2_weigh_86 (by decide) (by omega) (fun h86 => ?_) (fun h86 => ?_)
          · have hm9 : nm = wt := by omega
            have hd9 : D (nm - 1) = lim := by omega
            have hpz : pas n w q r lim = -1 := by rw [← hzp]; omega
            have hcc : z54 = cst w q r (n - 1) (n - 1) ∧ (lim ≠ -1 → ¬ givesUp n w q r lim) := by
              rcases r54 with h9 | h9
              · omega
              · exact h9
            subst hAe
            exact zw_retv (((nm, P, D, bmp T 3), u54)) hx hb hr hlocks hQ (⟨(wgh_3 hm9 hd9 hpz (hcc.2 h80) (by rw [← hcc.1]; exact h86)).symm, hw54.1⟩) hP hK hD hS dX2_weigh_99
          · refine lv_aload_n hx hb dX2_weigh_89 rfl (lv_at hl 3 rfl) ?_
            refine va_get (D := (dC, dI)) (ci := 2) (v := .ref hn0) (C := RX2) (T := TX2) (N := 11) hx hb hts in_X2 hown hK hP 0 rfl rfl 9 (by decide) fl_45 (fun _ h9 => h9) rfl dX2_weigh_90 ?_
            refine lv_iload_n hx hb dX2_weigh_93 rfl (lv_at hl 4 rfl) ?_
            refine lv_iload hx hb dX2_weigh_94 (lv_at hl 0 rfl) ?_
            refine zw_v (wr := [(x0, .inr (2, [.int (iI (n : Int)), .int (iI (w : Int)), .ref xq, .ref xr, .ref xl, .int (iI (rc : Int)), .ref xs, .int (iI (sc : Int)), .ref h0, .ref hn0, .ref xc])), (h0, .inr (0, [.ref aq, .ref ar, .ref ac, .ref ap, .int (iI ps), .int (iI (n : Int)), .int (iI (w : Int))])), (aq, .inl (cI, 16, .inl (iA q))), (ar, .inl (cI, 16, .inl (iA r))), (ac, .inl (cI, 256, .inl (iA u54))), (xc, .inl (cI, 5, .inl (iA (zU T 3 ((T 3) + (1 : Int))))))]) (va_runV (As := [.int (iI pl), .int (iI z54)]) (rest := []) ⟨hx, hb, hml, hown, hts⟩ (c_insert l dC dI cI hn0 al ad nm wt pl z54 P D _ hlk.1 hwt hrD (by omega)) (cwV 2 hts (ga_V wd_422 wd_423 wd_424 wd_30 wd_425) rfl rfl rfl (by decide +kernel) ⟨(show 1 + 1 ≤ R.frames by omega), (show 8 + (4 + 11) + 21 ≤ R.locals by omega)⟩) (wr_preV (q0 := 0) (ci := 1) hP hK hD [5, 6, 7] (by decide) rfl rfl rfl rfl) rfl rfl hl.1 rfl (lv_room (Nat.le_of_ble_eq_true rfl)) dX2_weigh_96 ⟨by omega, by omega⟩) hP hD hS hA [5, 6, 7] [0, 1, 2, 3, 4, 8] rfl rfl (by decide) (by decide) (fun u96 H locs hw96 hP hD hS => ?_)
            have hP := hP.sub (ws' := [(x0, .inr (2, [.int (iI (n : Int)), .int (iI (w : Int)), .ref xq, .ref xr, .ref xl, .int (iI (rc : Int)), .ref xs, .int (iI (sc : Int)), .ref h0, .ref hn0, .ref xc])), (h0, .inr (0, [.ref aq, .ref ar, .ref ac, .ref ap, .int (iI ps), .int (iI (n : Int)), .int (iI (w : Int))])), (aq, .inl (cI, 16, .inl (iA q))), (ar, .inl (cI, 16, .inl (iA r))), (ac, .inl (cI, 256, .inl (iA u54))), (hn0, .inr (1, [.ref al, .ref ad, .int (iI ((min (nm + 1) wt : Nat) : Int)), .int (iI (wt : Int))])), (al, .inl (cI, 12, .inl (iA (insF P (scn D z54 (min nm (wt - 1))) (min nm (wt - 1)) pl)))), (ad, .inl (cI, 12, .inl (iA (insF D (scn D z54 (min nm (wt - 1))) (min nm (wt - 1)) z54)))), (xc, .inl (cI, 5, .inl (iA (zU T 3 ((T 3) + (1 : Int))))))]) [0, 1, 2, 3, 4, 6, 7, 8, 5] rfl
            have hD := hD.sub (ws' := [(x0, .inr (2, [.int (iI (n : Int)), .int (iI (w : Int)), .ref xq, .ref xr, .ref xl, .int (iI (rc : Int)), .ref xs, .int (iI (sc : Int)), .ref h0, .ref hn0, .ref xc])), (h0, .inr (0, [.ref aq, .ref ar, .ref ac, .ref ap, .int (iI ps), .int (iI (n : Int)), .int (iI (w : Int))])), (aq, .inl (cI, 16, .inl (iA q))), (ar, .inl (cI, 16, .inl (iA r))), (ac, .inl (cI, 256, .inl (iA u54))), (hn0, .inr (1, [.ref al, .ref ad, .int (iI ((min (nm + 1) wt : Nat) : Int)), .int (iI (wt : Int))])), (al, .inl (cI, 12, .inl (iA (insF P (scn D z54 (min nm (wt - 1))) (min nm (wt - 1)) pl)))), (ad, .inl (cI, 12, .inl (iA (insF D (scn D z54 (min nm (wt - 1))) (min nm (wt - 1)) z54)))), (xc, .inl (cI, 5, .inl (iA (zU T 3 ((T 3) + (1 : Int))))))]) [0, 1, 2, 3, 4, 6, 7, 8, 5] (by decide) rfl
            have hm9 : nm = wt := by omega
            have hd9 : D (nm - 1) = lim := by omega
            have hpz : pas n w q r lim = -1 := by rw [← hzp]; omega
            have hcc : z54 = cst w q r (n - 1) (n - 1) ∧ (lim ≠ -1 → ¬ givesUp n w q r lim) := by
              rcases r54 with h9 | h9
              · omega
              · exact h9
            rw [hcc.1] at hP hD
            subst hAe
            exact zw_retv (((min (nm + 1) wt, insF P (scn D (cst w q r (n - 1) (n - 1)) (min nm (wt - 1))) (min nm (wt - 1)) pl, insF D (scn D (cst w q r (n - 1) (n - 1)) (min nm (wt - 1))) (min nm (wt - 1)) (cst w q r (n - 1) (n - 1)), bmp T 3), u54)) hx hb hr hlocks hQ (⟨(wgh_4 (Or.inr ⟨by rw [hd9]; exact hpz, by rw [hd9]; exact hcc.2 (by omega), by omega⟩)).symm, hw54.1⟩) hP hK hD hS dX2_weigh_99
      · refine lv_aload_n hx hb dX2_weigh_65 rfl (lv_at hl 3 rfl) ?_
        refine va_get (D := (dC, dI)) (ci := 2) (v := .ref xc) (C := RX2) (T := TX2) (N := 11) hx hb hts in_X2 hown hK hP 0 rfl rfl 10 (by decide) fl_49 (fun _ h9 => h9) rfl dX2_weigh_66 ?_
        refine lv_iconst (v := iI (4 : Int)) hx hb dX2_weigh_69 (by decide) ?_
        refine lv_dup2_11 hx hb dX2_weigh_70 rfl rfl ?_
        refine z_iald hx hb hK hP 8 0 rfl rfl 4 (by omega) dX2_weigh_71 ?_
        refine lv_iconst (v := iI (1 : Int)) hx hb dX2_weigh_72 (by decide) ?_
        refine z_iadd hx hb dX2_weigh_73 ?_
        refine z_iast hx hb hK hP hD hS 8 0 rfl rfl 4 (by omega) dX2_weigh_74 (fun H locs hP hD hS => ?_)
        have hP : va_P (dC, dI) vwCl [(x0, .inr (2, [.int (iI (n : Int)), .int (iI (w : Int)), .ref xq, .ref xr, .ref xl, .int (iI (rc : Int)), .ref xs, .int (iI (sc : Int)), .ref h0, .ref hn0, .ref xc])), (h0, .inr (0, [.ref aq, .ref ar, .ref ac, .ref ap, .int (iI ps), .int (iI (n : Int)), .int (iI (w : Int))])), (aq, .inl (cI, 16, .inl (iA q))), (ar, .inl (cI, 16, .inl (iA r))), (ac, .inl (cI, 256, .inl (iA u54))), (hn0, .inr (1, [.ref al, .ref ad, .int (iI (nm : Int)), .int (iI (wt : Int))])), (al, .inl (cI, 12, .inl (iA P))), (ad, .inl (cI, 12, .inl (iA D))), (xc, .inl (cI, 5, .inl (iA (zU (zU T 3 ((T 3) + (1 : Int))) 4 (((zU T 3 ((T 3) + (1 : Int))) 4) + (1 : Int))))))] H := hP
        have hD : va_D A [(x0, .inr (2, [.int (iI (n : Int)), .int (iI (w : Int)), .ref xq, .ref xr, .ref xl, .int (iI (rc : Int)), .ref xs, .int (iI (sc : Int)), .ref h0, .ref hn0, .ref xc])), (h0, .inr (0, [.ref aq, .ref ar, .ref ac, .ref ap, .int (iI ps), .int (iI (n : Int)), .int (iI (w : Int))])), (aq, .inl (cI, 16, .inl (iA q))), (ar, .inl (cI, 16, .inl (iA r))), (ac, .inl (cI, 256, .inl (iA u54))), (hn0, .inr (1, [.ref al, .ref ad, .int (iI (nm : Int)), .int (iI (wt : Int))])), (al, .inl (cI, 12, .inl (iA P))), (ad, .inl (cI, 12, .inl (iA D))), (xc, .inl (cI, 5, .inl (iA (zU (zU T 3 ((T 3) + (1 : Int))) 4 (((zU T 3 ((T 3) + (1 : Int))) 4) + (1 : Int))))))] := hD
        refine lv_goto (tgt := 99) hx hb dX2_weigh_75 (by decide) ?_
        have hm9 : nm = wt := by omega
        have hd9 : D (nm - 1) = lim := by omega
        have hpz : pas n w q r lim = -1 := by rw [← hzp]; omega
        have hgu : givesUp n w q r lim := by
          rcases r54 with h9 | h9
          · exact h9.2.2
          · omega
        subst hAe
        exact zw_retv (((nm, P, D, bmp (bmp T 3) 4), u54)) hx hb hr hlocks hQ (⟨(wgh_2 hm9 hd9 hpz hgu).symm, hw54.1⟩) hP hK hD hS dX2_weigh_99
    · refine lv_aload_n hx hb dX2_weigh_28 rfl (lv_at hl 2 rfl) ?_
      refine va_get (D := (dC, dI)) (ci := 2) (v := .ref xc) (C := RX2) (T := TX2) (N := 11) hx hb hts in_X2 hown hK hP 0 rfl rfl 10 (by decide) fl_49 (fun _ h9 => h9) rfl dX2_weigh_29 ?_
      refine lv_iload_n hx hb dX2_weigh_32 rfl (lv_at hl 0 rfl) ?_
      refine lv_dup2_11 hx hb dX2_weigh_33 rfl rfl ?_
      refine z_iald hx hb hK hP 8 0 rfl rfl zp.toNat (by omega) dX2_weigh_34 ?_
      refine lv_iconst (v := iI (1 : Int)) hx hb dX2_weigh_35 (by decide) ?_
      refine z_iadd hx hb dX2_weigh_36 ?_
      refine z_iast hx hb hK hP hD hS 8 0 rfl rfl zp.toNat (by omega) dX2_weigh_37 (fun H locs hP hD hS => ?_)
      have hP : va_P (dC, dI) vwCl [(x0, .inr (2, [.int (iI (n : Int)), .int (iI (w : Int)), .ref xq, .ref xr, .ref xl, .int (iI (rc : Int)), .ref xs, .int (iI (sc : Int)), .ref h0, .ref hn0, .ref xc])), (h0, .inr (0, [.ref aq, .ref ar, .ref ac, .ref ap, .int (iI ps), .int (iI (n : Int)), .int (iI (w : Int))])), (aq, .inl (cI, 16, .inl (iA q))), (ar, .inl (cI, 16, .inl (iA r))), (ac, .inl (cI, 256, .inl (iA G))), (hn0, .inr (1, [.ref al, .ref ad, .int (iI (nm : Int)), .int (iI (wt : Int))])), (al, .inl (cI, 12, .inl (iA P))), (ad, .inl (cI, 12, .inl (iA D))), (xc, .inl (cI, 5, .inl (iA (zU T zp.toNat ((T zp.toNat) + (1 : Int))))))] H := hP
      have hD : va_D A [(x0, .inr (2, [.int (iI (n : Int)), .int (iI (w : Int)), .ref xq, .ref xr, .ref xl, .int (iI (rc : Int)), .ref xs, .int (iI (sc : Int)), .ref h0, .ref hn0, .ref xc])), (h0, .inr (0, [.ref aq, .ref ar, .ref ac, .ref ap, .int (iI ps), .int (iI (n : Int)), .int (iI (w : Int))])), (aq, .inl (cI, 16, .inl (iA q))), (ar, .inl (cI, 16, .inl (iA r))), (ac, .inl (cI, 256, .inl (iA G))), (hn0, .inr (1, [.ref al, .ref ad, .int (iI (nm : Int)), .int (iI (wt : Int))])), (al, .inl (cI, 12, .inl (iA P))), (ad, .inl (cI, 12, .inl (iA D))), (xc, .inl (cI, 5, .inl (iA (zU T zp.toNat ((T zp.toNat) + (1 : Int))))))] := hD
      have hm9 : nm = wt := by omega
      have hd9 : D (nm - 1) = lim := by omega
      subst hAe
      exact zw_retv (((nm, P, D, bmp T zp.toNat), G)) hx hb hr hlocks hQ (⟨(wgh_1 hm9 hd9 hzp.symm h25).symm, hG⟩) hP hK hD hS dX2_weigh_38
  · refine lv_iconst (v := iI (-1 : Int)) hx hb dX2_weigh_13 (by decide) ?_
    refine lv_goto (tgt := 22) hx hb dX2_weigh_14 (by decide) ?_
    refine lv_istore_n (lv' := [(3, .int (iI (-1 : Int))), (2, .int (iI lim)), (0, .ref x0), (1, .int (iI pl))]) hx hb dX2_weigh_22 rfl hl (by decide) rfl (fun ls hl => ?_)
    refine lv_iload_n hx hb dX2_weigh_23 rfl (lv_at hl 0 rfl) ?_
    refine lv_iconst (v := iI (-1 : Int)) hx hb dX2_weigh_24 (by decide) ?_
    refine z_icmp_eq (tgt := 39) hx hb dX2_weigh_25 (by decide) (by decide) (fun _ => ?_) (fun h9 => absurd h9 (by decide))
    refine lv_aload_n hx hb dX2_weigh_39 rfl (lv_at hl 2 rfl) ?_
    refine va_get (D := (dC, dI)) (ci := 2) (v := .ref xc) (C := RX2) (T := TX2) (N := 11) hx hb hts in_X2 hown hK hP 0 rfl rfl 10 (by decide) fl_49 (fun _ h9 => h9) rfl dX2_weigh_40 ?_
    refine lv_iconst (v := iI (3 : Int)) hx hb dX2_weigh_43 (by decide) ?_
    refine lv_dup2_11 hx hb dX2_weigh_44 rfl rfl ?_
    refine z_iald hx hb hK hP 8 0 rfl rfl 3 (by omega) dX2_weigh_45 ?_
    refine lv_iconst (v := iI (1 : Int)) hx hb dX2_weigh_46 (by decide) ?_
    refine z_iadd hx hb dX2_weigh_47 ?_
    refine z_iast hx hb hK hP hD hS 8 0 rfl rfl 3 (by omega) dX2_weigh_48 (fun H locs hP hD hS => ?_)
    have hP : va_P (dC, dI) vwCl [(x0, .inr (2, [.int (iI (n : Int)), .int (iI (w : Int)), .ref xq, .ref xr, .ref xl, .int (iI (rc : Int)), .ref xs, .int (iI (sc : Int)), .ref h0, .ref hn0, .ref xc])), (h0, .inr (0, [.ref aq, .ref ar, .ref ac, .ref ap, .int (iI ps), .int (iI (n : Int)), .int (iI (w : Int))])), (aq, .inl (cI, 16, .inl (iA q))), (ar, .inl (cI, 16, .inl (iA r))), (ac, .inl (cI, 256, .inl (iA G))), (hn0, .inr (1, [.ref al, .ref ad, .int (iI (nm : Int)), .int (iI (wt : Int))])), (al, .inl (cI, 12, .inl (iA P))), (ad, .inl (cI, 12, .inl (iA D))), (xc, .inl (cI, 5, .inl (iA (zU T 3 ((T 3) + (1 : Int))))))] H := hP
    have hD : va_D A [(x0, .inr (2, [.int (iI (n : Int)), .int (iI (w : Int)), .ref xq, .ref xr, .ref xl, .int (iI (rc : Int)), .ref xs, .int (iI (sc : Int)), .ref h0, .ref hn0, .ref xc])), (h0, .inr (0, [.ref aq, .ref ar, .ref ac, .ref ap, .int (iI ps), .int (iI (n : Int)), .int (iI (w : Int))])), (aq, .inl (cI, 16, .inl (iA q))), (ar, .inl (cI, 16, .inl (iA r))), (ac, .inl (cI, 256, .inl (iA G))), (hn0, .inr (1, [.ref al, .ref ad, .int (iI (nm : Int)), .int (iI (wt : Int))])), (al, .inl (cI, 12, .inl (iA P))), (ad, .inl (cI, 12, .inl (iA D))), (xc, .inl (cI, 5, .inl (iA (zU T 3 ((T 3) + (1 : Int))))))] := hD
    refine lv_aload_n hx hb dX2_weigh_49 rfl (lv_at hl 2 rfl) ?_
    refine va_get (D := (dC, dI)) (ci := 2) (v := .ref h0) (C := RX2) (T := TX2) (N := 11) hx hb hts in_X2 hown hK hP 0 rfl rfl 8 (by decide) fl_38 (fun _ h9 => h9) rfl dX2_weigh_50 ?_
    refine lv_iload_n hx hb dX2_weigh_53 rfl (lv_at hl 1 rfl) ?_
    refine zw_i (wr := [(x0, .inr (2, [.int (iI (n : Int)), .int (iI (w : Int)), .ref xq, .ref xr, .ref xl, .int (iI (rc : Int)), .ref xs, .int (iI (sc : Int)), .ref h0, .ref hn0, .ref xc])), (hn0, .inr (1, [.ref al, .ref ad, .int (iI (nm : Int)), .int (iI (wt : Int))])), (al, .inl (cI, 12, .inl (iA P))), (ad, .inl (cI, 12, .inl (iA D))), (xc, .inl (cI, 5, .inl (iA (zU T 3 ((T 3) + (1 : Int))))))]) (va_runV (As := [.int (iI lim)]) (rest := []) ⟨hx, hb, hml, hown, hts⟩ (c_leastCost l dC dI cI h0 aq ar ac ap ps n w lim q r G _ hn hw hvq hvr (by omega) hG) (cwV 1 hts (ga_V wd_313 wd_314 wd_315 wd_29 wd_316) rfl rfl rfl (by decide +kernel) ⟨(show 3 + 1 ≤ R.frames by omega), (show 8 + (4 + 11) + 70 ≤ R.locals by omega)⟩) (wr_preV (q0 := 0) (ci := 0) hP hK hD [1, 2, 3, 4] (by decide) rfl rfl rfl rfl) rfl rfl hl.1 rfl (lv_room (Nat.le_of_ble_eq_true rfl)) dX2_weigh_54 ⟨by omega, by omega⟩) hP hD hS hA [1, 2, 3, 4] [0, 5, 6, 7, 8] rfl rfl (by decide) (by decide) (fun z54 u54 H locs hw54 hP hD hS => ?_)
    have hP := hP.sub (ws' := [(x0, .inr (2, [.int (iI (n : Int)), .int (iI (w : Int)), .ref xq, .ref xr, .ref xl, .int (iI (rc : Int)), .ref xs, .int (iI (sc : Int)), .ref h0, .ref hn0, .ref xc])), (h0, .inr (0, [.ref aq, .ref ar, .ref ac, .ref ap, .int (iI ps), .int (iI (n : Int)), .int (iI (w : Int))])), (aq, .inl (cI, 16, .inl (iA q))), (ar, .inl (cI, 16, .inl (iA r))), (ac, .inl (cI, 256, .inl (iA u54))), (hn0, .inr (1, [.ref al, .ref ad, .int (iI (nm : Int)), .int (iI (wt : Int))])), (al, .inl (cI, 12, .inl (iA P))), (ad, .inl (cI, 12, .inl (iA D))), (xc, .inl (cI, 5, .inl (iA (zU T 3 ((T 3) + (1 : Int))))))]) [0, 5, 6, 7, 8, 1, 2, 3, 4] rfl
    have hD := hD.sub (ws' := [(x0, .inr (2, [.int (iI (n : Int)), .int (iI (w : Int)), .ref xq, .ref xr, .ref xl, .int (iI (rc : Int)), .ref xs, .int (iI (sc : Int)), .ref h0, .ref hn0, .ref xc])), (h0, .inr (0, [.ref aq, .ref ar, .ref ac, .ref ap, .int (iI ps), .int (iI (n : Int)), .int (iI (w : Int))])), (aq, .inl (cI, 16, .inl (iA q))), (ar, .inl (cI, 16, .inl (iA r))), (ac, .inl (cI, 256, .inl (iA u54))), (hn0, .inr (1, [.ref al, .ref ad, .int (iI (nm : Int)), .int (iI (wt : Int))])), (al, .inl (cI, 12, .inl (iA P))), (ad, .inl (cI, 12, .inl (iA D))), (xc, .inl (cI, 5, .inl (iA (zU T 3 ((T 3) + (1 : Int))))))]) [0, 5, 6, 7, 8, 1, 2, 3, 4] (by decide) rfl
    have hcr := cst_rg hvq hvr hn.2 (w := w) (i := n - 1) (j := n - 1) (by omega) (by omega) (by omega)
    have r54 : (z54 = -1 ∧ lim ≠ -1 ∧ givesUp n w q r lim) ∨ (z54 = cst w q r (n - 1) (n - 1) ∧ (lim ≠ -1 → ¬ givesUp n w q r lim)) := by
      rcases hw54.2 with h9 | h9
      · exact Or.inl h9
      · exact Or.inr ⟨h9.1, h9.2.1⟩
    have r54b : -1 ≤ z54 ∧ z54 ≤ 124000000 := by
      rcases r54 with h9 | h9
      · omega
      · omega
    refine lv_istore (lv' := [(4, .int (iI z54)), (3, .int (iI (-1 : Int))), (2, .int (iI lim)), (0, .ref x0), (1, .int (iI pl))]) hx hb dX2_weigh_57 hl (by decide) rfl (fun ls hl => ?_)
    refine lv_iload hx hb dX2_weigh_59 (lv_at hl 0 rfl) ?_
    refine lv_iconst (v := iI (-1 : Int)) hx hb dX2_weigh_61 (by decide) ?_
    refine z_icmp_ne (tgt := 78) hx hb dX2_weigh_62 (by decide) (by omega) (fun h62 => ?_) (fun h62 => ?_)
    · refine lv_iload_n hx hb dX2_weigh_78 rfl (lv_at hl 2 rfl) ?_
      refine lv_iconst (v := iI (-1 : Int)) hx hb dX2_weigh_79 (by decide) ?_
      refine z_icmp_eq (tgt := 89) hx hb dX2_weigh_80 (by decide) (by omega) (fun h80 => ?_) (fun h80 => ?_)
      · refine lv_aload_n hx hb dX2_weigh_89 rfl (lv_at hl 3 rfl) ?_
        refine va_get (D := (dC, dI)) (ci := 2) (v := .ref hn0) (C := RX2) (T := TX2) (N := 11) hx hb hts in_X2 hown hK hP 0 rfl rfl 9 (by decide) fl_45 (fun _ h9 => h9) rfl dX2_weigh_90 ?_
        refine lv_iload_n hx hb dX2_weigh_93 rfl (lv_at hl 4 rfl) ?_
        refine lv_iload hx hb dX2_weigh_94 (lv_at hl 0 rfl) ?_
        refine zw_v (wr := [(x0, .inr (2, [.int (iI (n : Int)), .int (iI (w : Int)), .ref xq, .ref xr, .ref xl, .int (iI (rc : Int)), .ref xs, .int (iI (sc : Int)), .ref h0, .ref hn0, .ref xc])), (h0, .inr (0, [.ref aq, .ref ar, .ref ac, .ref ap, .int (iI ps), .int (iI (n : Int)), .int (iI (w : Int))])), (aq, .inl (cI, 16, .inl (iA q))), (ar, .inl (cI, 16, .inl (iA r))), (ac, .inl (cI, 256, .inl (iA u54))), (xc, .inl (cI, 5, .inl (iA (zU T 3 ((T 3) + (1 : Int))))))]) (va_runV (As := [.int (iI pl), .int (iI z54)]) (rest := []) ⟨hx, hb, hml, hown, hts⟩ (c_insert l dC dI cI hn0 al ad nm wt pl z54 P D _ hlk.1 hwt hrD (by omega)) (cwV 2 hts (ga_V wd_422 wd_423 wd_424 wd_30 wd_425) rfl rfl rfl (by decide +kernel) ⟨(show 1 + 1 ≤ R.frames by omega), (show 8 + (4 + 11) + 21 ≤ R.locals by omega)⟩) (wr_preV (q0 := 0) (ci := 1) hP hK hD [5, 6, 7] (by decide) rfl rfl rfl rfl) rfl rfl hl.1 rfl (lv_room (Nat.le_of_ble_eq_true rfl)) dX2_weigh_96 ⟨by omega, by omega⟩) hP hD hS hA [5, 6, 7] [0, 1, 2, 3, 4, 8] rfl rfl (by decide) (by decide) (fun u96 H locs hw96 hP hD hS => ?_)
        have hP := hP.sub (ws' := [(x0, .inr (2, [.int (iI (n : Int)), .int (iI (w : Int)), .ref xq, .ref xr, .ref xl, .int (iI (rc : Int)), .ref xs, .int (iI (sc : Int)), .ref h0, .ref hn0, .ref xc])), (h0, .inr (0, [.ref aq, .ref ar, .ref ac, .ref ap, .int (iI ps), .int (iI (n : Int)), .int (iI (w : Int))])), (aq, .inl (cI, 16, .inl (iA q))), (ar, .inl (cI, 16, .inl (iA r))), (ac, .inl (cI, 256, .inl (iA u54))), (hn0, .inr (1, [.ref al, .ref ad, .int (iI ((min (nm + 1) wt : Nat) : Int)), .int (iI (wt : Int))])), (al, .inl (cI, 12, .inl (iA (insF P (scn D z54 (min nm (wt - 1))) (min nm (wt - 1)) pl)))), (ad, .inl (cI, 12, .inl (iA (insF D (scn D z54 (min nm (wt - 1))) (min nm (wt - 1)) z54)))), (xc, .inl (cI, 5, .inl (iA (zU T 3 ((T 3) + (1 : Int))))))]) [0, 1, 2, 3, 4, 6, 7, 8, 5] rfl
        have hD := hD.sub (ws' := [(x0, .inr (2, [.int (iI (n : Int)), .int (iI (w : Int)), .ref xq, .ref xr, .ref xl, .int (iI (rc : Int)), .ref xs, .int (iI (sc : Int)), .ref h0, .ref hn0, .ref xc])), (h0, .inr (0, [.ref aq, .ref ar, .ref ac, .ref ap, .int (iI ps), .int (iI (n : Int)), .int (iI (w : Int))])), (aq, .inl (cI, 16, .inl (iA q))), (ar, .inl (cI, 16, .inl (iA r))), (ac, .inl (cI, 256, .inl (iA u54))), (hn0, .inr (1, [.ref al, .ref ad, .int (iI ((min (nm + 1) wt : Nat) : Int)), .int (iI (wt : Int))])), (al, .inl (cI, 12, .inl (iA (insF P (scn D z54 (min nm (wt - 1))) (min nm (wt - 1)) pl)))), (ad, .inl (cI, 12, .inl (iA (insF D (scn D z54 (min nm (wt - 1))) (min nm (wt - 1)) z54)))), (xc, .inl (cI, 5, .inl (iA (zU T 3 ((T 3) + (1 : Int))))))]) [0, 1, 2, 3, 4, 6, 7, 8, 5] (by decide) rfl
        have hcc : z54 = cst w q r (n - 1) (n - 1) ∧ (lim ≠ -1 → ¬ givesUp n w q r lim) := by
          rcases r54 with h9 | h9
          · omega
          · exact h9
        have hm8 : nm ≠ wt := by omega
        rw [hcc.1] at hP hD
        subst hAe
        exact zw_retv (((min (nm + 1) wt, insF P (scn D (cst w q r (n - 1) (n - 1)) (min nm (wt - 1))) (min nm (wt - 1)) pl, insF D (scn D (cst w q r (n - 1) (n - 1)) (min nm (wt - 1))) (min nm (wt - 1)) (cst w q r (n - 1) (n - 1)), bmp T 3), u54)) hx hb hr hlocks hQ (⟨(wgh_4 (Or.inl hm8)).symm, hw54.1⟩) hP hK hD hS dX2_weigh_99
      · refine lv_iload hx hb dX2_weigh_83 (lv_at hl 0 rfl) ?_
        refine lv_iload_n hx hb dX2_weigh_85 rfl (lv_at hl 2 rfl) ?_
        refine z_icmp_ge (tgt := 99) hx hb dX2_weigh_86 (by decide) (by omega) (fun h86 => ?_) (fun h86 => ?_)
        · exfalso
          rcases r54 with h9 | h9 <;> omega
        · refine lv_aload_n hx hb dX2_weigh_89 rfl (lv_at hl 3 rfl) ?_
          refine va_get (D := (dC, dI)) (ci := 2) (v := .ref hn0) (C := RX2) (T := TX2) (N := 11) hx hb hts in_X2 hown hK hP 0 rfl rfl 9 (by decide) fl_45 (fun _ h9 => h9) rfl dX2_weigh_90 ?_
          refine lv_iload_n hx hb dX2_weigh_93 rfl (lv_at hl 4 rfl) ?_
          refine lv_iload hx hb dX2_weigh_94 (lv_at hl 0 rfl) ?_
          refine zw_v (wr := [(x0, .inr (2, [.int (iI (n : Int)), .int (iI (w : Int)), .ref xq, .ref xr, .ref xl, .int (iI (rc : Int)), .ref xs, .int (iI (sc : Int)), .ref h0, .ref hn0, .ref xc])), (h0, .inr (0, [.ref aq, .ref ar, .ref ac, .ref ap, .int (iI ps), .int (iI (n : Int)), .int (iI (w : Int))])), (aq, .inl (cI, 16, .inl (iA q))), (ar, .inl (cI, 16, .inl (iA r))), (ac, .inl (cI, 256, .inl (iA u54))), (xc, .inl (cI, 5, .inl (iA (zU T 3 ((T 3) + (1 : Int))))))]) (va_runV (As := [.int (iI pl), .int (iI z54)]) (rest := []) ⟨hx, hb, hml, hown, hts⟩ (c_insert l dC dI cI hn0 al ad nm wt pl z54 P D _ hlk.1 hwt hrD (by omega)) (cwV 2 hts (ga_V wd_422 wd_423 wd_424 wd_30 wd_425) rfl rfl rfl (by decide +kernel) ⟨(show 1 + 1 ≤ R.frames by omega), (show 8 + (4 + 11) + 21 ≤ R.locals by omega)⟩) (wr_preV (q0 := 0) (ci := 1) hP hK hD [5, 6, 7] (by decide) rfl rfl rfl rfl) rfl rfl hl.1 rfl (lv_room (Nat.le_of_ble_eq_true rfl)) dX2_weigh_96 ⟨by omega, by omega⟩) hP hD hS hA [5, 6, 7] [0, 1, 2, 3, 4, 8] rfl rfl (by decide) (by decide) (fun u96 H locs hw96 hP hD hS => ?_)
          have hP := hP.sub (ws' := [(x0, .inr (2, [.int (iI (n : Int)), .int (iI (w : Int)), .ref xq, .ref xr, .ref xl, .int (iI (rc : Int)), .ref xs, .int (iI (sc : Int)), .ref h0, .ref hn0, .ref xc])), (h0, .inr (0, [.ref aq, .ref ar, .ref ac, .ref ap, .int (iI ps), .int (iI (n : Int)), .int (iI (w : Int))])), (aq, .inl (cI, 16, .inl (iA q))), (ar, .inl (cI, 16, .inl (iA r))), (ac, .inl (cI, 256, .inl (iA u54))), (hn0, .inr (1, [.ref al, .ref ad, .int (iI ((min (nm + 1) wt : Nat) : Int)), .int (iI (wt : Int))])), (al, .inl (cI, 12, .inl (iA (insF P (scn D z54 (min nm (wt - 1))) (min nm (wt - 1)) pl)))), (ad, .inl (cI, 12, .inl (iA (insF D (scn D z54 (min nm (wt - 1))) (min nm (wt - 1)) z54)))), (xc, .inl (cI, 5, .inl (iA (zU T 3 ((T 3) + (1 : Int))))))]) [0, 1, 2, 3, 4, 6, 7, 8, 5] rfl
          have hD := hD.sub (ws' := [(x0, .inr (2, [.int (iI (n : Int)), .int (iI (w : Int)), .ref xq, .ref xr, .ref xl, .int (iI (rc : Int)), .ref xs, .int (iI (sc : Int)), .ref h0, .ref hn0, .ref xc])), (h0, .inr (0, [.ref aq, .ref ar, .ref ac, .ref ap, .int (iI ps), .int (iI (n : Int)), .int (iI (w : Int))])), (aq, .inl (cI, 16, .inl (iA q))), (ar, .inl (cI, 16, .inl (iA r))), (ac, .inl (cI, 256, .inl (iA u54))), (hn0, .inr (1, [.ref al, .ref ad, .int (iI ((min (nm + 1) wt : Nat) : Int)), .int (iI (wt : Int))])), (al, .inl (cI, 12, .inl (iA (insF P (scn D z54 (min nm (wt - 1))) (min nm (wt - 1)) pl)))), (ad, .inl (cI, 12, .inl (iA (insF D (scn D z54 (min nm (wt - 1))) (min nm (wt - 1)) z54)))), (xc, .inl (cI, 5, .inl (iA (zU T 3 ((T 3) + (1 : Int))))))]) [0, 1, 2, 3, 4, 6, 7, 8, 5] (by decide) rfl
          have hcc : z54 = cst w q r (n - 1) (n - 1) ∧ (lim ≠ -1 → ¬ givesUp n w q r lim) := by
            rcases r54 with h9 | h9
            · omega
            · exact h9
          have hm8 : nm ≠ wt := by omega
          rw [hcc.1] at hP hD
          subst hAe
          exact zw_retv (((min (nm + 1) wt, insF P (scn D (cst w q r (n - 1) (n - 1)) (min nm (wt - 1))) (min nm (wt - 1)) pl, insF D (scn D (cst w q r (n - 1) (n - 1)) (min nm (wt - 1))) (min nm (wt - 1)) (cst w q r (n - 1) (n - 1)), bmp T 3), u54)) hx hb hr hlocks hQ (⟨(wgh_4 (Or.inl hm8)).symm, hw54.1⟩) hP hK hD hS dX2_weigh_99
    · refine lv_aload_n hx hb dX2_weigh_65 rfl (lv_at hl 3 rfl) ?_
      refine va_get (D := (dC, dI)) (ci := 2) (v := .ref xc) (C := RX2) (T := TX2) (N := 11) hx hb hts in_X2 hown hK hP 0 rfl rfl 10 (by decide) fl_49 (fun _ h9 => h9) rfl dX2_weigh_66 ?_
      refine lv_iconst (v := iI (4 : Int)) hx hb dX2_weigh_69 (by decide) ?_
      refine lv_dup2_11 hx hb dX2_weigh_70 rfl rfl ?_
      refine z_iald hx hb hK hP 8 0 rfl rfl 4 (by omega) dX2_weigh_71 ?_
      refine lv_iconst (v := iI (1 : Int)) hx hb dX2_weigh_72 (by decide) ?_
      refine z_iadd hx hb dX2_weigh_73 ?_
      refine z_iast hx hb hK hP hD hS 8 0 rfl rfl 4 (by omega) dX2_weigh_74 (fun H locs hP hD hS => ?_)
      have hP : va_P (dC, dI) vwCl [(x0, .inr (2, [.int (iI (n : Int)), .int (iI (w : Int)), .ref xq, .ref xr, .ref xl, .int (iI (rc : Int)), .ref xs, .int (iI (sc : Int)), .ref h0, .ref hn0, .ref xc])), (h0, .inr (0, [.ref aq, .ref ar, .ref ac, .ref ap, .int (iI ps), .int (iI (n : Int)), .int (iI (w : Int))])), (aq, .inl (cI, 16, .inl (iA q))), (ar, .inl (cI, 16, .inl (iA r))), (ac, .inl (cI, 256, .inl (iA u54))), (hn0, .inr (1, [.ref al, .ref ad, .int (iI (nm : Int)), .int (iI (wt : Int))])), (al, .inl (cI, 12, .inl (iA P))), (ad, .inl (cI, 12, .inl (iA D))), (xc, .inl (cI, 5, .inl (iA (zU (zU T 3 ((T 3) + (1 : Int))) 4 (((zU T 3 ((T 3) + (1 : Int))) 4) + (1 : Int))))))] H := hP
      have hD : va_D A [(x0, .inr (2, [.int (iI (n : Int)), .int (iI (w : Int)), .ref xq, .ref xr, .ref xl, .int (iI (rc : Int)), .ref xs, .int (iI (sc : Int)), .ref h0, .ref hn0, .ref xc])), (h0, .inr (0, [.ref aq, .ref ar, .ref ac, .ref ap, .int (iI ps), .int (iI (n : Int)), .int (iI (w : Int))])), (aq, .inl (cI, 16, .inl (iA q))), (ar, .inl (cI, 16, .inl (iA r))), (ac, .inl (cI, 256, .inl (iA u54))), (hn0, .inr (1, [.ref al, .ref ad, .int (iI (nm : Int)), .int (iI (wt : Int))])), (al, .inl (cI, 12, .inl (iA P))), (ad, .inl (cI, 12, .inl (iA D))), (xc, .inl (cI, 5, .inl (iA (zU (zU T 3 ((T 3) + (1 : Int))) 4 (((zU T 3 ((T 3) + (1 : Int))) 4) + (1 : Int))))))] := hD
      refine lv_goto (tgt := 99) hx hb dX2_weigh_75 (by decide) ?_
      exfalso
      rcases r54 with h9 | h9 <;> omega
