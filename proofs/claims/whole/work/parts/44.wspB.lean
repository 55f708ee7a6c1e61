theorem dJ7_fill_0 : decode cJ7_fill 0 = .ok (.iconst 0, 1) := by decide +kernel
theorem dJ7_fill_1 : decode cJ7_fill 1 = .ok (.istore_n 2, 1) := by decide +kernel
theorem dJ7_fill_2 : decode cJ7_fill 2 = .ok (.aload_n 0, 1) := by decide +kernel
theorem dJ7_fill_3 : decode cJ7_fill 3 = .ok (.arraylength, 1) := by decide +kernel
theorem dJ7_fill_4 : decode cJ7_fill 4 = .ok (.istore_n 3, 1) := by decide +kernel
theorem dJ7_fill_5 : decode cJ7_fill 5 = .ok (.iload_n 2, 1) := by decide +kernel
theorem dJ7_fill_6 : decode cJ7_fill 6 = .ok (.iload_n 3, 1) := by decide +kernel
theorem dJ7_fill_7 : decode cJ7_fill 7 = .ok (.if_icmp .ge 13, 3) := by decide +kernel
theorem dJ7_fill_10 : decode cJ7_fill 10 = .ok (.aload_n 0, 1) := by decide +kernel
theorem dJ7_fill_11 : decode cJ7_fill 11 = .ok (.iload_n 2, 1) := by decide +kernel
theorem dJ7_fill_12 : decode cJ7_fill 12 = .ok (.iload_n 1, 1) := by decide +kernel
theorem dJ7_fill_13 : decode cJ7_fill 13 = .ok (.iastore, 1) := by decide +kernel
theorem dJ7_fill_14 : decode cJ7_fill 14 = .ok (.iinc 2 1, 3) := by decide +kernel
theorem dJ7_fill_17 : decode cJ7_fill 17 = .ok (.goto (-12), 3) := by decide +kernel
theorem dJ7_fill_20 : decode cJ7_fill 20 = .ok (.return_, 1) := by decide +kernel
set_option maxRecDepth 100000 in
set_option maxHeartbeats 4000000 in
theorem c_fillJ (l : Launch) (dC : Nat → ClassId) (dI : Nat → Nat → Nat) (cI : ClassId) (ax nx : Nat) (v : Int) (F : Nat → Int) (sz : Nat) (hnx : nx ≤ 1000) : Met l yJ7_fill wsJ7_fill ({ frames := 0, cells := 0, slots := 0, locals := 0 }) (wrP dC dI [(cI, .int)] [(ax, .inl (cI, nx, .inl (iA F)))] sz [.ref ax, .int (iI v)]) (wrQv dC dI [(cI, .int)] [(ax, .inl (cI, nx, .inl (iA F)))] sz (S := Unit) (fun _ => True) (fun _ => [(ax, .inl (cI, nx, .inl (iA (zF F nx v))))])) 0 0 (va_A [(ax, .inl (cI, nx, .inl (iA F)))] sz) := by
  refine va_MetF (cc := cJ7_fill) (maxL := 4) (ret := none) (by decide +kernel) rfl ?_
  intro p e s m args below meth c s₁ B hml hv
  obtain ⟨rfl, hsz, hP, hK, hD0⟩ := hv
  have hx := B.exec
  have hb := B.bytes
  have hr := B.returns
  have hts : ∀ w ∈ wsJ7_fill, w.before _ s = true := atoms_spec (ws := wsJ7_fill) B.pre
  have hown : s.vm.findClass RJ7 = some m.cls := findClass_of_methodNamed B.named
  have hlocks := B.notSynchronized
  subst hsz
  have hD := hD0.self (sz := s.heap.size)
  have hA : ∀ q9 : Nat, s.heap.size ≤ q9 → va_A [(ax, .inl (cI, nx, .inl (iA F)))] s.heap.size q9 := fun q9 h => Or.inr h
  have hS : va_S (va_A [(ax, .inl (cI, nx, .inl (iA F)))] s.heap.size) s.heap s.heap [] := va_S.rf
  generalize hAe : va_A [(ax, .inl (cI, nx, .inl (iA F)))] s.heap.size = A at hD hA hS
  have hP : va_P (dC, dI) vwCl [(ax, .inl (cI, nx, .inl (iA F)))] s.heap := hP
  have hl := lv_entry ([.ref ax, .int (iI v)]) (n := 4) (Nat.le_of_ble_eq_true rfl)
  rw [lg_entry_eq]
  generalize (lg_sl ([.ref ax, .int (iI v)]) ++ List.replicate (4 - (lg_sl ([.ref ax, .int (iI v)])).length) Slot.unset).toArray = ls at hl ⊢
  have hl : lv_has ls 4 [(0, .ref ax), (1, .int (iI v))] := hl
  generalize hargs : ([.ref ax, .int (iI v)] : List Value).toArray = args at hts ⊢
  refine z_intro (fun R Q hR hQ => ?_)
  have hRf : R.frames = 0 := by rw [hR]; rfl
  have hRl : R.locals = 0 := by rw [hR]; rfl
  have hRc : R.cells = 0 := by rw [hR]; rfl
  have hRs : R.slots = 0 := by rw [hR]; rfl
  clear hR hargs B
  refine lv_iconst (v := iI (0 : Int)) hx hb dJ7_fill_0 (by decide) ?_
  refine lv_istore_n (lv' := [(2, .int (iI (0 : Int))), (0, .ref ax), (1, .int (iI v))]) hx hb dJ7_fill_1 rfl hl (by decide) rfl (fun ls hl => ?_)
  refine lv_aload_n hx hb dJ7_fill_2 rfl (lv_at hl 1 rfl) ?_
  refine z_alen hx hb hK hP 0 0 rfl rfl dJ7_fill_3 ?_
  refine lv_istore_n (lv' := [(3, .int (iI (nx : Int))), (2, .int (iI (0 : Int))), (0, .ref ax), (1, .int (iI v))]) hx hb dJ7_fill_4 rfl hl (by decide) rfl (fun ls hl => ?_)
  have lp : ∀ (k9 : Nat) (i : Nat) (F9 : Nat → Int) (H : Heap) (locs : List Loc) (ls : Array Slot), (i ≤ nx) → (F9 = zF F i v) → nx - i = k9 → va_P (dC, dI) vwCl [(ax, .inl (cI, nx, .inl (iA F9)))] H → va_D A [(ax, .inl (cI, nx, .inl (iA F9)))] → va_S A s.heap H locs → lv_has ls 4 [(0, .ref ax), (1, .int (iI v)), (2, .int (iI (i : Int))), (3, .int (iI (nx : Int)))] → W p l e R s m args below meth c H locs 0 0 Q (F0 m 5 ls []) := by
    intro k9
    induction k9 using Nat.strongRecOn with
    | ind k9 ih_lp =>
      intro i F9 H locs ls hi hF9 hk9 hP hD hS hl
      refine lv_iload_n hx hb dJ7_fill_5 rfl (lv_at hl 2 rfl) ?_
      refine lv_iload_n hx hb dJ7_fill_6 rfl (lv_at hl 3 rfl) ?_
      refine z_icmp_ge (tgt := 20) hx hb dJ7_fill_7 (by decide) (by omega) (fun h7 => ?_) (fun h7 => ?_)
      · have ein : i = nx := by omega
        rw [hF9, ein] at hP hD
        subst hAe
        exact zw_retv (()) hx hb hr hlocks hQ (trivial) hP hK hD hS dJ7_fill_20
      · refine lv_aload_n hx hb dJ7_fill_10 rfl (lv_at hl 0 rfl) ?_
        refine lv_iload_n hx hb dJ7_fill_11 rfl (lv_at hl 2 rfl) ?_
        refine lv_iload_n hx hb dJ7_fill_12 rfl (lv_at hl 1 rfl) ?_
        refine z_iast hx hb hK hP hD hS 0 0 rfl rfl i (by omega) dJ7_fill_13 (fun H locs hP hD hS => ?_)
        have hP : va_P (dC, dI) vwCl [(ax, .inl (cI, nx, .inl (iA (zU F9 i v))))] H := hP
        have hD : va_D A [(ax, .inl (cI, nx, .inl (iA (zU F9 i v))))] := hD
        refine z_iinc (k := 2) (b := ((i + 1 : Nat) : Int)) (lv' := [(2, .int (iI ((i + 1 : Nat) : Int))), (0, .ref ax), (1, .int (iI v)), (3, .int (iI (nx : Int)))]) hx hb dJ7_fill_14 hl rfl (by omega) (by decide) rfl (fun ls hl => ?_)
        refine lv_goto (tgt := 5) hx hb dJ7_fill_17 (by decide) ?_
        exact ih_lp _ (by omega) (i + 1) (zU F9 i v) H locs ls (by omega) (by rw [hF9]; exact zF_step) rfl hP hD hS (lv_sub hl [1, 2, 0, 3] rfl)
  exact lp _ 0 F _ _ ls (by omega) ((zF_0 _ _).symm) rfl hP hD hS (lv_sub hl [2, 3, 1, 0] rfl)
set_option maxRecDepth 100000 in
set_option maxHeartbeats 4000000 in
theorem c_votesFor (l : Launch) (dC : Nat → ClassId) (dI : Nat → Nat → Nat) (cI : ClassId) (x0 xq xr xl xs h0 hn0 xc al ad : Nat) (n w rc sc nm wt : Nat) (lab : Int) (la P : Nat → Int) (hnm : nm ≤ 12) (hpl : ∀ k, k < nm → 0 ≤ P k ∧ P k < 12) (hrl : rgA la) (hlab : -2147483648 ≤ lab ∧ lab ≤ 2147483647) : Met l yX2_votesFor wsX2_votesFor ({ frames := 0, cells := 0, slots := 0, locals := 0 }) (rnP dC dI [(cI, .int)] [(x0, .inr (2, [.int (iI (n : Int)), .int (iI (w : Int)), .ref xq, .ref xr, .ref xl, .int (iI (rc : Int)), .ref xs, .int (iI (sc : Int)), .ref h0, .ref hn0, .ref xc])), (xl, .inl (cI, 12, .inl (iA la))), (hn0, .inr (1, [.ref al, .ref ad, .int (iI (nm : Int)), .int (iI (wt : Int))])), (al, .inl (cI, 12, .inl (iA P)))] [.ref x0, .int (iI lab)]) (rdQ (fun z => z = vot la P lab nm)) 0 0 (fun _ => False) := by
  refine Met.ofW (cc := cX2_votesFor) (maxL := 4) (ret := (some .int)) (by decide) rfl ?_
  intro p e s m args below meth c s₁ B hml hv
  obtain ⟨rfl, hP, hK, hNn⟩ := hv
  have hx := B.exec
  have hb := B.bytes
  have hr := B.returns
  have hts : ∀ w ∈ wsX2_votesFor, w.before _ s = true := atoms_spec (ws := wsX2_votesFor) B.pre
  have hown : s.vm.findClass RX2 = some m.cls := findClass_of_methodNamed B.named
  have hlocks := B.notSynchronized
  have hN_size := hNn.1
  have hN_distances := hNn.2.1
  have hN_places := hNn.2.2
  have hl := lv_entry ([.ref x0, .int (iI lab)]) (n := 4) (Nat.le_of_ble_eq_true rfl)
  rw [lg_entry_eq]
  generalize (lg_sl ([.ref x0, .int (iI lab)]) ++ List.replicate (4 - (lg_sl ([.ref x0, .int (iI lab)])).length) Slot.unset).toArray = ls at hl ⊢
  have hl : lv_has ls 4 [(0, .ref x0), (1, .int (iI lab))] := hl
  generalize hargs : ([.ref x0, .int (iI lab)] : List Value).toArray = args at hts ⊢
  refine z_intro (fun R Q hR hQ => ?_)
  have hRf : R.frames = 0 := by rw [hR]; rfl
  have hRl : R.locals = 0 := by rw [hR]; rfl
  have hRc : R.cells = 0 := by rw [hR]; rfl
  have hRs : R.slots = 0 := by rw [hR]; rfl
  have in_X1 : ∀ w ∈ u_ws RX1 TX1 4, w ∈ wsX2_votesFor := fun w h => List.mem_cons_of_mem _ (inW_X1 w h)
  have in_X2 : ∀ w ∈ u_ws RX2 TX2 11, w ∈ wsX2_votesFor := fun w h => List.mem_cons_of_mem _ (inW_X2 w h)
  have fl_23 := wa_hts hts wd_104
  have fl_45 := wa_hts hts wd_109
  have fl_129 := va_Nw.use (A := args) rfl hN_size
  have fl_137 := va_Nw.use (A := args) rfl hN_places
  clear hR hargs B
  refine lv_iconst (v := iI (0 : Int)) hx hb dX2_votesFor_0 (by decide) ?_
  refine lv_istore_n (lv' := [(2, .int (iI (0 : Int))), (0, .ref x0), (1, .int (iI lab))]) hx hb dX2_votesFor_1 rfl hl (by decide) rfl (fun ls hl => ?_)
  refine lv_iconst (v := iI (0 : Int)) hx hb dX2_votesFor_2 (by decide) ?_
  refine lv_istore_n (lv' := [(3, .int (iI (0 : Int))), (2, .int (iI (0 : Int))), (0, .ref x0), (1, .int (iI lab))]) hx hb dX2_votesFor_3 rfl hl (by decide) rfl (fun ls hl => ?_)
  have lp : ∀ (k9 : Nat) (i : Nat) (ls : Array Slot), (i ≤ nm) → nm - i = k9 → lv_has ls 4 [(0, .ref x0), (1, .int (iI lab)), (2, .int (iI (vot la P lab i))), (3, .int (iI (i : Int)))] → W p l e R s m args below meth c s.heap [] 0 0 Q (F0 m 4 ls []) := by
    intro k9
    induction k9 using Nat.strongRecOn with
    | ind k9 ih_lp =>
      intro i ls hi hk9 hl
      refine lv_iload_n hx hb dX2_votesFor_4 rfl (lv_at hl 3 rfl) ?_
      refine lv_aload_n hx hb dX2_votesFor_5 rfl (lv_at hl 0 rfl) ?_
      refine va_get (D := (dC, dI)) (ci := 2) (v := .ref hn0) (C := RX2) (T := TX2) (N := 11) hx hb hts in_X2 hown hK hP 0 rfl rfl 9 (by decide) fl_45 (fun _ h9 => h9) rfl dX2_votesFor_6 ?_
      refine va_getN (host := "WarpSearch") (D := (dC, dI)) (ci := 1) (v := .int (iI (nm : Int))) (C := RX1) (T := TX1) (N := 4) hx hb hts in_X1 hown hK hP 2 rfl rfl 2 (by decide) fl_129 (fun _ h9 => h9) rfl dX2_votesFor_9 ?_
      refine z_icmp_ge (tgt := 42) hx hb dX2_votesFor_12 (by decide) (by omega) (fun h12 => ?_) (fun h12 => ?_)
      · refine lv_iload_n hx hb dX2_votesFor_42 rfl (lv_at hl 2 rfl) ?_
        exact zr_ret (z := vot la P lab i) hx hb hr hlocks hQ (congrArg (vot la P lab) (by omega)) dX2_votesFor_43
      · have hpi := hpl i (by omega)
        have hri := hrl (P i).toNat
        refine lv_aload_n hx hb dX2_votesFor_15 rfl (lv_at hl 0 rfl) ?_
        refine va_get (D := (dC, dI)) (ci := 2) (v := .ref xl) (C := RX2) (T := TX2) (N := 11) hx hb hts in_X2 hown hK hP 0 rfl rfl 4 (by decide) fl_23 (fun _ h9 => h9) rfl dX2_votesFor_16 ?_
        refine lv_aload_n hx hb dX2_votesFor_19 rfl (lv_at hl 0 rfl) ?_
        refine va_get (D := (dC, dI)) (ci := 2) (v := .ref hn0) (C := RX2) (T := TX2) (N := 11) hx hb hts in_X2 hown hK hP 0 rfl rfl 9 (by decide) fl_45 (fun _ h9 => h9) rfl dX2_votesFor_20 ?_
        refine va_getN (host := "WarpSearch") (D := (dC, dI)) (ci := 1) (v := .ref al) (C := RX1) (T := TX1) (N := 4) hx hb hts in_X1 hown hK hP 2 rfl rfl 0 (by decide) fl_137 (fun _ h9 => h9) rfl dX2_votesFor_23 ?_
        refine lv_iload_n hx hb dX2_votesFor_26 rfl (lv_at hl 3 rfl) ?_
        refine z_iald hx hb hK hP 3 0 rfl rfl i (by omega) dX2_votesFor_27 ?_
        refine z_iald hx hb hK hP 1 0 rfl rfl ((P i).toNat) (by omega) dX2_votesFor_28 ?_
        refine lv_iload_n hx hb dX2_votesFor_29 rfl (lv_at hl 1 rfl) ?_
        refine z_icmp_ne (tgt := 36) hx hb dX2_votesFor_30 (by decide) (by omega) (fun h30 => ?_) (fun h30 => ?_)
        · have ev9 : vot la P lab (i + 1) = vot la P lab i := by rw [vot, if_neg h30]
          rw [← ev9] at hl
          refine z_iinc (k := 3) (b := ((i + 1 : Nat) : Int)) (lv' := [(3, .int (iI ((i + 1 : Nat) : Int))), (0, .ref x0), (1, .int (iI lab)), (2, .int (iI (vot la P lab (i + 1))))]) hx hb dX2_votesFor_36 hl rfl (by omega) (by decide) rfl (fun ls hl => ?_)
          refine lv_goto (tgt := 4) hx hb dX2_votesFor_39 (by decide) ?_
          exact ih_lp _ (by omega) (i + 1) ls (by omega) rfl (lv_sub hl [1, 2, 3, 0] rfl)
        · refine z_iinc (k := 2) (b := vot la P lab (i + 1)) (lv' := [(2, .int (iI (vot la P lab (i + 1)))), (0, .ref x0), (1, .int (iI lab)), (3, .int (iI (i : Int)))]) hx hb dX2_votesFor_33 hl rfl (by rw [vot, if_pos h30]) (by decide) rfl (fun ls hl => ?_)
          refine z_iinc (k := 3) (b := ((i + 1 : Nat) : Int)) (lv' := [(3, .int (iI ((i + 1 : Nat) : Int))), (2, .int (iI (vot la P lab (i + 1)))), (0, .ref x0), (1, .int (iI lab))]) hx hb dX2_votesFor_36 hl rfl (by omega) (by decide) rfl (fun ls hl => ?_)
          refine lv_goto (tgt := 4) hx hb dX2_votesFor_39 (by decide) ?_
          exact ih_lp _ (by omega) (i + 1) ls (by omega) rfl (lv_sub hl [2, 3, 1, 0] rfl)
  exact lp _ 0 ls (by omega) rfl (lv_sub hl [2, 3, 1, 0] rfl)
set_option maxRecDepth 100000 in
set_option maxHeartbeats 4000000 in
theorem c_searchAmong (l : Launch) (dC : Nat → ClassId) (dI : Nat → Nat → Nat) (cI : ClassId) (x0 xq xr xl xs h0 hn0 xc aq ar ac ap al ad ax nx : Nat) (ps : Int) (n w rc sc n1 w1 nm wt many apart kw : Nat) (q src cq cr G P D T : Nat → Int) (sz : Nat) (hn : 2 ≤ n ∧ n ≤ 16) (hw : w ≤ 15) (hvq : vals 16 q) (hvs : vals nx src) (hG : rgA G) (hrD : rgA D) (hkw : 1 ≤ kw ∧ kw ≤ 12) (hnx : nx ≤ 1000) (hmany : many ≤ 1000) (hsrc : ∀ i, i < many → i * apart + n ≤ nx ∧ 0 ≤ i) : Met l yX2_searchAmong wsX2_searchAmong ({ frames := 5, cells := 0, slots := 0, locals := 117 }) (wnP dC dI [(cI, .int)] [(x0, .inr (2, [.int (iI (n : Int)), .int (iI (w : Int)), .ref xq, .ref xr, .ref xl, .int (iI (rc : Int)), .ref xs, .int (iI (sc : Int)), .ref h0, .ref hn0, .ref xc])), (xq, .inl (cI, 16, .inl (iA q))), (ax, .inl (cI, nx, .inl (iA src))), (h0, .inr (0, [.ref aq, .ref ar, .ref ac, .ref ap, .int (iI ps), .int (iI (n1 : Int)), .int (iI (w1 : Int))])), (aq, .inl (cI, 16, .inl (iA cq))), (ar, .inl (cI, 16, .inl (iA cr))), (ac, .inl (cI, 256, .inl (iA G))), (hn0, .inr (1, [.ref al, .ref ad, .int (iI (nm : Int)), .int (iI (wt : Int))])), (al, .inl (cI, 12, .inl (iA P))), (ad, .inl (cI, 12, .inl (iA D))), (xc, .inl (cI, 5, .inl (iA T)))] sz [.ref x0, .ref ax, .int (iI (many : Int)), .int (iI (apart : Int)), .int (iI (kw : Int))]) (wrQi dC dI [(cI, .int)] [(x0, .inr (2, [.int (iI (n : Int)), .int (iI (w : Int)), .ref xq, .ref xr, .ref xl, .int (iI (rc : Int)), .ref xs, .int (iI (sc : Int)), .ref h0, .ref hn0, .ref xc])), (xq, .inl (cI, 16, .inl (iA q))), (ax, .inl (cI, nx, .inl (iA src))), (h0, .inr (0, [.ref aq, .ref ar, .ref ac, .ref ap, .int (iI ps), .int (iI (n1 : Int)), .int (iI (w1 : Int))])), (aq, .inl (cI, 16, .inl (iA cq))), (ar, .inl (cI, 16, .inl (iA cr))), (ac, .inl (cI, 256, .inl (iA G))), (hn0, .inr (1, [.ref al, .ref ad, .int (iI (nm : Int)), .int (iI (wt : Int))])), (al, .inl (cI, 12, .inl (iA P))), (ad, .inl (cI, 12, .inl (iA D))), (xc, .inl (cI, 5, .inl (iA T)))] sz (S := (Lst × (Nat → Int) × (Nat → Int))) (fun z u => u.1 = srch n w q (fun p9 j9 => src (p9 * apart + j9)) kw (0, P, D, zF T 5 0) many ∧ lok kw u.1 ∧ rgA u.2.2 ∧ z = (u.1.1 : Int)) (fun u => [(x0, .inr (2, [.int (iI (n : Int)), .int (iI (w : Int)), .ref xq, .ref xr, .ref xl, .int (iI (rc : Int)), .ref xs, .int (iI (sc : Int)), .ref h0, .ref hn0, .ref xc])), (xq, .inl (cI, 16, .inl (iA q))), (ax, .inl (cI, nx, .inl (iA src))), (h0, .inr (0, [.ref aq, .ref ar, .ref ac, .ref ap, .int (iI ps), .int (iI (n : Int)), .int (iI (w : Int))])), (aq, .inl (cI, 16, .inl (iA (zC q cq 0 0 n)))), (ar, .inl (cI, 16, .inl (iA u.2.1))), (ac, .inl (cI, 256, .inl (iA u.2.2))), (hn0, .inr (1, [.ref al, .ref ad, .int (iI ((u.1.1 : Nat) : Int)), .int (iI (kw : Int))])), (al, .inl (cI, 12, .inl (iA u.1.2.1))), (ad, .inl (cI, 12, .inl (iA u.1.2.2.1))), (xc, .inl (cI, 5, .inl (iA u.1.2.2.2)))])) 0 0 (va_A [(x0, .inr (2, [.int (iI (n : Int)), .int (iI (w : Int)), .ref xq, .ref xr, .ref xl, .int (iI (rc : Int)), .ref xs, .int (iI (sc : Int)), .ref h0, .ref hn0, .ref xc])), (xq, .inl (cI, 16, .inl (iA q))), (ax, .inl (cI, nx, .inl (iA src))), (h0, .inr (0, [.ref aq, .ref ar, .ref ac, .ref ap, .int (iI ps), .int (iI (n1 : Int)), .int (iI (w1 : Int))])), (aq, .inl (cI, 16, .inl (iA cq))), (ar, .inl (cI, 16, .inl (iA cr))), (ac, .inl (cI, 256, .inl (iA G))), (hn0, .inr (1, [.ref al, .ref ad, .int (iI (nm : Int)), .int (iI (wt : Int))])), (al, .inl (cI, 12, .inl (iA P))), (ad, .inl (cI, 12, .inl (iA D))), (xc, .inl (cI, 5, .inl (iA T)))] sz) := by
  refine Met.ofW (cc := cX2_searchAmong) (maxL := 6) (ret := (some .int)) (by decide) rfl ?_
  intro p e s m args below meth c s₁ B hml hv
  obtain ⟨rfl, hsz, hP, hK, hD0, hNn⟩ := hv
  have hx := B.exec
  have hb := B.bytes
  have hr := B.returns
  have hts : ∀ w ∈ wsX2_searchAmong, w.before _ s = true := atoms_spec (ws := wsX2_searchAmong) B.pre
  have hown : s.vm.findClass RX2 = some m.cls := findClass_of_methodNamed B.named
  have hlocks := B.notSynchronized
  subst hsz
  have hD := hD0.self (sz := s.heap.size)
  have hA : ∀ q9 : Nat, s.heap.size ≤ q9 → va_A [(x0, .inr (2, [.int (iI (n : Int)), .int (iI (w : Int)), .ref xq, .ref xr, .ref xl, .int (iI (rc : Int)), .ref xs, .int (iI (sc : Int)), .ref h0, .ref hn0, .ref xc])), (xq, .inl (cI, 16, .inl (iA q))), (ax, .inl (cI, nx, .inl (iA src))), (h0, .inr (0, [.ref aq, .ref ar, .ref ac, .ref ap, .int (iI ps), .int (iI (n1 : Int)), .int (iI (w1 : Int))])), (aq, .inl (cI, 16, .inl (iA cq))), (ar, .inl (cI, 16, .inl (iA cr))), (ac, .inl (cI, 256, .inl (iA G))), (hn0, .inr (1, [.ref al, .ref ad, .int (iI (nm : Int)), .int (iI (wt : Int))])), (al, .inl (cI, 12, .inl (iA P))), (ad, .inl (cI, 12, .inl (iA D))), (xc, .inl (cI, 5, .inl (iA T)))] s.heap.size q9 := fun q9 h => Or.inr h
  have hS : va_S (va_A [(x0, .inr (2, [.int (iI (n : Int)), .int (iI (w : Int)), .ref xq, .ref xr, .ref xl, .int (iI (rc : Int)), .ref xs, .int (iI (sc : Int)), .ref h0, .ref hn0, .ref xc])), (xq, .inl (cI, 16, .inl (iA q))), (ax, .inl (cI, nx, .inl (iA src))), (h0, .inr (0, [.ref aq, .ref ar, .ref ac, .ref ap, .int (iI ps), .int (iI (n1 : Int)), .int (iI (w1 : Int))])), (aq, .inl (cI, 16, .inl (iA cq))), (ar, .inl (cI, 16, .inl (iA cr))), (ac, .inl (cI, 256, .inl (iA G))), (hn0, .inr (1, [.ref al, .ref ad, .int (iI (nm : Int)), .int (iI (wt : Int))])), (al, .inl (cI, 12, .inl (iA P))), (ad, .inl (cI, 12, .inl (iA D))), (xc, .inl (cI, 5, .inl (iA T)))] s.heap.size) s.heap s.heap [] := va_S.rf
  generalize hAe : va_A [(x0, .inr (2, [.int (iI (n : Int)), .int (iI (w : Int)), .ref xq, .ref xr, .ref xl, .int (iI (rc : Int)), .ref xs, .int (iI (sc : Int)), .ref h0, .ref hn0, .ref xc])), (xq, .inl (cI, 16, .inl (iA q))), (ax, .inl (cI, nx, .inl (iA src))), (h0, .inr (0, [.ref aq, .ref ar, .ref ac, .ref ap, .int (iI ps), .int (iI (n1 : Int)), .int (iI (w1 : Int))])), (aq, .inl (cI, 16, .inl (iA cq))), (ar, .inl (cI, 16, .inl (iA cr))), (ac, .inl (cI, 256, .inl (iA G))), (hn0, .inr (1, [.ref al, .ref ad, .int (iI (nm : Int)), .int (iI (wt : Int))])), (al, .inl (cI, 12, .inl (iA P))), (ad, .inl (cI, 12, .inl (iA D))), (xc, .inl (cI, 5, .inl (iA T)))] s.heap.size = A at hD hA hS
  have hP : va_P (dC, dI) vwCl [(x0, .inr (2, [.int (iI (n : Int)), .int (iI (w : Int)), .ref xq, .ref xr, .ref xl, .int (iI (rc : Int)), .ref xs, .int (iI (sc : Int)), .ref h0, .ref hn0, .ref xc])), (xq, .inl (cI, 16, .inl (iA q))), (ax, .inl (cI, nx, .inl (iA src))), (h0, .inr (0, [.ref aq, .ref ar, .ref ac, .ref ap, .int (iI ps), .int (iI (n1 : Int)), .int (iI (w1 : Int))])), (aq, .inl (cI, 16, .inl (iA cq))), (ar, .inl (cI, 16, .inl (iA cr))), (ac, .inl (cI, 256, .inl (iA G))), (hn0, .inr (1, [.ref al, .ref ad, .int (iI (nm : Int)), .int (iI (wt : Int))])), (al, .inl (cI, 12, .inl (iA P))), (ad, .inl (cI, 12, .inl (iA D))), (xc, .inl (cI, 5, .inl (iA T)))] s.heap := hP
  have hN_size := hNn.1
  have hN_distances := hNn.2.1
  have hN_places := hNn.2.2
  have hl := lv_entry ([.ref x0, .ref ax, .int (iI (many : Int)), .int (iI (apart : Int)), .int (iI (kw : Int))]) (n := 6) (Nat.le_of_ble_eq_true rfl)
  rw [lg_entry_eq]
  generalize (lg_sl ([.ref x0, .ref ax, .int (iI (many : Int)), .int (iI (apart : Int)), .int (iI (kw : Int))]) ++ List.replicate (6 - (lg_sl ([.ref x0, .ref ax, .int (iI (many : Int)), .int (iI (apart : Int)), .int (iI (kw : Int))])).length) Slot.unset).toArray = ls at hl ⊢
  have hl : lv_has ls 6 [(0, .ref x0), (1, .ref ax), (2, .int (iI (many : Int))), (3, .int (iI (apart : Int))), (4, .int (iI (kw : Int)))] := hl
  generalize hargs : ([.ref x0, .ref ax, .int (iI (many : Int)), .int (iI (apart : Int)), .int (iI (kw : Int))] : List Value).toArray = args at hts ⊢
  refine z_intro (fun R Q hR hQ => ?_)
  have hRf : R.frames = 5 := by rw [hR]; rfl
  have hRl : R.locals = 117 := by rw [hR]; rfl
  have hRc : R.cells = 0 := by rw [hR]; rfl
  have hRs : R.slots = 0 := by rw [hR]; rfl
  have in_X1 : ∀ w ∈ u_ws RX1 TX1 4, w ∈ wsX2_searchAmong := fun w h => List.mem_cons_of_mem _ (inW_X1 w h)
  have in_X2 : ∀ w ∈ u_ws RX2 TX2 11, w ∈ wsX2_searchAmong := fun w h => List.mem_cons_of_mem _ (inW_X2 w h)
  have fl_9 := wa_hts hts wd_100
  have fl_13 := wa_hts hts wd_101
  have fl_16 := wa_hts hts wd_102
  have fl_38 := wa_hts hts wd_108
  have fl_45 := wa_hts hts wd_109
  have fl_49 := wa_hts hts wd_110
  have fl_129 := va_Nw.use (A := args) rfl hN_size
  clear hR hargs B
  refine lv_aload_n hx hb dX2_searchAmong_0 rfl (lv_at hl 0 rfl) ?_
  refine va_get (D := (dC, dI)) (ci := 2) (v := .ref hn0) (C := RX2) (T := TX2) (N := 11) hx hb hts in_X2 hown hK hP 0 rfl rfl 9 (by decide) fl_45 (fun _ h9 => h9) rfl dX2_searchAmong_1 ?_
  refine lv_iload hx hb dX2_searchAmong_4 (lv_at hl 4 rfl) ?_
  refine zw_v (wr := [(x0, .inr (2, [.int (iI (n : Int)), .int (iI (w : Int)), .ref xq, .ref xr, .ref xl, .int (iI (rc : Int)), .ref xs, .int (iI (sc : Int)), .ref h0, .ref hn0, .ref xc])), (xq, .inl (cI, 16, .inl (iA q))), (ax, .inl (cI, nx, .inl (iA src))), (h0, .inr (0, [.ref aq, .ref ar, .ref ac, .ref ap, .int (iI ps), .int (iI (n1 : Int)), .int (iI (w1 : Int))])), (aq, .inl (cI, 16, .inl (iA cq))), (ar, .inl (cI, 16, .inl (iA cr))), (ac, .inl (cI, 256, .inl (iA G))), (al, .inl (cI, 12, .inl (iA P))), (ad, .inl (cI, 12, .inl (iA D))), (xc, .inl (cI, 5, .inl (iA T)))]) (va_runV (As := [.int (iI (kw : Int))]) (rest := []) ⟨hx, hb, hml, hown, hts⟩ (c_startFor l dC dI cI hn0 al ad nm wt kw _) (cwV 1 hts (ga_V wd_213 wd_214 wd_215 wd_30 wd_216) rfl rfl rfl (by decide +kernel) ⟨(show 0 + 1 ≤ R.frames by omega), (show 8 + (2 + 11) + 0 ≤ R.locals by omega)⟩) (wr_preV (q0 := 0) (ci := 1) hP hK hD [7] (by decide) rfl rfl rfl rfl) rfl rfl hl.1 rfl (lv_room (Nat.le_of_ble_eq_true rfl)) dX2_searchAmong_6 ⟨by omega, by omega⟩) hP hD hS hA [7] [0, 1, 2, 3, 4, 5, 6, 8, 9, 10] rfl rfl (by decide) (by decide) (fun u6 H locs hw6 hP hD hS => ?_)
  have hP := hP.sub (ws' := [(x0, .inr (2, [.int (iI (n : Int)), .int (iI (w : Int)), .ref xq, .ref xr, .ref xl, .int (iI (rc : Int)), .ref xs, .int (iI (sc : Int)), .ref h0, .ref hn0, .ref xc])), (xq, .inl (cI, 16, .inl (iA q))), (ax, .inl (cI, nx, .inl (iA src))), (h0, .inr (0, [.ref aq, .ref ar, .ref ac, .ref ap, .int (iI ps), .int (iI (n1 : Int)), .int (iI (w1 : Int))])), (aq, .inl (cI, 16, .inl (iA cq))), (ar, .inl (cI, 16, .inl (iA cr))), (ac, .inl (cI, 256, .inl (iA G))), (hn0, .inr (1, [.ref al, .ref ad, .int (iI (0 : Int)), .int (iI (kw : Int))])), (al, .inl (cI, 12, .inl (iA P))), (ad, .inl (cI, 12, .inl (iA D))), (xc, .inl (cI, 5, .inl (iA T)))]) [0, 1, 2, 3, 4, 5, 6, 10, 7, 8, 9] rfl
  have hD := hD.sub (ws' := [(x0, .inr (2, [.int (iI (n : Int)), .int (iI (w : Int)), .ref xq, .ref xr, .ref xl, .int (iI (rc : Int)), .ref xs, .int (iI (sc : Int)), .ref h0, .ref hn0, .ref xc])), (xq, .inl (cI, 16, .inl (iA q))), (ax, .inl (cI, nx, .inl (iA src))), (h0, .inr (0, [.ref aq, .ref ar, .ref ac, .ref ap, .int (iI ps), .int (iI (n1 : Int)), .int (iI (w1 : Int))])), (aq, .inl (cI, 16, .inl (iA cq))), (ar, .inl (cI, 16, .inl (iA cr))), (ac, .inl (cI, 256, .inl (iA G))), (hn0, .inr (1, [.ref al, .ref ad, .int (iI (0 : Int)), .int (iI (kw : Int))])), (al, .inl (cI, 12, .inl (iA P))), (ad, .inl (cI, 12, .inl (iA D))), (xc, .inl (cI, 5, .inl (iA T)))]) [0, 1, 2, 3, 4, 5, 6, 10, 7, 8, 9] (by decide) rfl
  refine lv_aload_n hx hb dX2_searchAmong_9 rfl (lv_at hl 0 rfl) ?_
  refine va_get (D := (dC, dI)) (ci := 2) (v := .ref xc) (C := RX2) (T := TX2) (N := 11) hx hb hts in_X2 hown hK hP 0 rfl rfl 10 (by decide) fl_49 (fun _ h9 => h9) rfl dX2_searchAmong_10 ?_
  refine lv_iconst (v := iI (0 : Int)) hx hb dX2_searchAmong_13 (by decide) ?_
  refine zw_v (wr := [(x0, .inr (2, [.int (iI (n : Int)), .int (iI (w : Int)), .ref xq, .ref xr, .ref xl, .int (iI (rc : Int)), .ref xs, .int (iI (sc : Int)), .ref h0, .ref hn0, .ref xc])), (xq, .inl (cI, 16, .inl (iA q))), (ax, .inl (cI, nx, .inl (iA src))), (h0, .inr (0, [.ref aq, .ref ar, .ref ac, .ref ap, .int (iI ps), .int (iI (n1 : Int)), .int (iI (w1 : Int))])), (aq, .inl (cI, 16, .inl (iA cq))), (ar, .inl (cI, 16, .inl (iA cr))), (ac, .inl (cI, 256, .inl (iA G))), (hn0, .inr (1, [.ref al, .ref ad, .int (iI (0 : Int)), .int (iI (kw : Int))])), (al, .inl (cI, 12, .inl (iA P))), (ad, .inl (cI, 12, .inl (iA D)))]) (va_runS (As := [.ref xc, .int (iI (0 : Int))]) (rest := []) ⟨hx, hb, hml, hown, hts⟩ (c_fillJ l dC dI cI xc 5 0 T _ (by omega)) (va_cwS 2 hts (ga_S2 wd_210 wd_211 wd_36 wd_212) rfl rfl rfl (by decide +kernel) ⟨(show 0 + 1 ≤ R.frames by omega), (show 8 + (4 + 11) + 0 ≤ R.locals by omega)⟩) (wr_preS hP hK hD [10] (by decide) rfl rfl) rfl rfl hl.1 rfl (lv_room (Nat.le_of_ble_eq_true rfl)) dX2_searchAmong_14 ⟨by omega, by omega⟩) hP hD hS hA [10] [0, 1, 2, 3, 4, 5, 6, 7, 8, 9] rfl rfl (by decide) (by decide) (fun u14 H locs hw14 hP hD hS => ?_)
  have hP := hP.sub (ws' := [(x0, .inr (2, [.int (iI (n : Int)), .int (iI (w : Int)), .ref xq, .ref xr, .ref xl, .int (iI (rc : Int)), .ref xs, .int (iI (sc : Int)), .ref h0, .ref hn0, .ref xc])), (xq, .inl (cI, 16, .inl (iA q))), (ax, .inl (cI, nx, .inl (iA src))), (h0, .inr (0, [.ref aq, .ref ar, .ref ac, .ref ap, .int (iI ps), .int (iI (n1 : Int)), .int (iI (w1 : Int))])), (aq, .inl (cI, 16, .inl (iA cq))), (ar, .inl (cI, 16, .inl (iA cr))), (ac, .inl (cI, 256, .inl (iA G))), (hn0, .inr (1, [.ref al, .ref ad, .int (iI (0 : Int)), .int (iI (kw : Int))])), (al, .inl (cI, 12, .inl (iA P))), (ad, .inl (cI, 12, .inl (iA D))), (xc, .inl (cI, 5, .inl (iA (zF T 5 0))))]) [0, 1, 2, 3, 4, 5, 6, 7, 8, 9, 10] rfl
  have hD := hD.sub (ws' := [(x0, .inr (2, [.int (iI (n : Int)), .int (iI (w : Int)), .ref xq, .ref xr, .ref xl, .int (iI (rc : Int)), .ref xs, .int (iI (sc : Int)), .ref h0, .ref hn0, .ref xc])), (xq, .inl (cI, 16, .inl (iA q))), (ax, .inl (cI, nx, .inl (iA src))), (h0, .inr (0, [.ref aq, .ref ar, .ref ac, .ref ap, .int (iI ps), .int (iI (n1 : Int)), .int (iI (w1 : Int))])), (aq, .inl (cI, 16, .inl (iA cq))), (ar, .inl (cI, 16, .inl (iA cr))), (ac, .inl (cI, 256, .inl (iA G))), (hn0, .inr (1, [.ref al, .ref ad, .int (iI (0 : Int)), .int (iI (kw : Int))])), (al, .inl (cI, 12, .inl (iA P))), (ad, .inl (cI, 12, .inl (iA D))), (xc, .inl (cI, 5, .inl (iA (zF T 5 0))))]) [0, 1, 2, 3, 4, 5, 6, 7, 8, 9, 10] (by decide) rfl
  refine lv_aload_n hx hb dX2_searchAmong_17 rfl (lv_at hl 0 rfl) ?_
  refine va_get (D := (dC, dI)) (ci := 2) (v := .ref h0) (C := RX2) (T := TX2) (N := 11) hx hb hts in_X2 hown hK hP 0 rfl rfl 8 (by decide) fl_38 (fun _ h9 => h9) rfl dX2_searchAmong_18 ?_
  refine lv_aload_n hx hb dX2_searchAmong_21 rfl (lv_at hl 0 rfl) ?_
  refine va_get (D := (dC, dI)) (ci := 2) (v := .ref xq) (C := RX2) (T := TX2) (N := 11) hx hb hts in_X2 hown hK hP 0 rfl rfl 2 (by decide) fl_16 (fun _ h9 => h9) rfl dX2_searchAmong_22 ?_
  refine lv_aload_n hx hb dX2_searchAmong_25 rfl (lv_at hl 0 rfl) ?_
  refine va_get (D := (dC, dI)) (ci := 2) (v := .int (iI (n : Int))) (C := RX2) (T := TX2) (N := 11) hx hb hts in_X2 hown hK hP 0 rfl rfl 0 (by decide) fl_9 (fun _ h9 => h9) rfl dX2_searchAmong_26 ?_
  refine lv_aload_n hx hb dX2_searchAmong_29 rfl (lv_at hl 0 rfl) ?_
  refine va_get (D := (dC, dI)) (ci := 2) (v := .int (iI (w : Int))) (C := RX2) (T := TX2) (N := 11) hx hb hts in_X2 hown hK hP 0 rfl rfl 1 (by decide) fl_13 (fun _ h9 => h9) rfl dX2_searchAmong_30 ?_
  refine zw_v (wr := [(x0, .inr (2, [.int (iI (n : Int)), .int (iI (w : Int)), .ref xq, .ref xr, .ref xl, .int (iI (rc : Int)), .ref xs, .int (iI (sc : Int)), .ref h0, .ref hn0, .ref xc])), (ax, .inl (cI, nx, .inl (iA src))), (ar, .inl (cI, 16, .inl (iA cr))), (ac, .inl (cI, 256, .inl (iA G))), (hn0, .inr (1, [.ref al, .ref ad, .int (iI (0 : Int)), .int (iI (kw : Int))])), (al, .inl (cI, 12, .inl (iA P))), (ad, .inl (cI, 12, .inl (iA D))), (xc, .inl (cI, 5, .inl (iA (zF T 5 0))))]) (va_runV (As := [.ref xq, .int (iI (n : Int)), .int (iI (w : Int))]) (rest := []) ⟨hx, hb, hml, hown, hts⟩ (c_placeQuestion l dC dI cI h0 aq ar ac ap xq ps n1 w1 n w cq q _ hn hw) (cwV 3 hts (ga_V wd_304 wd_305 wd_306 wd_29 wd_307) rfl rfl rfl (by decide +kernel) ⟨(show 1 + 1 ≤ R.frames by omega), (show 8 + (4 + 11) + 40 ≤ R.locals by omega)⟩) (wr_preV (q0 := 0) (ci := 0) hP hK hD [3, 4, 1] (by decide) rfl rfl rfl rfl) rfl rfl hl.1 rfl (lv_room (Nat.le_of_ble_eq_true rfl)) dX2_searchAmong_33 ⟨by omega, by omega⟩) hP hD hS hA [3, 4, 1] [0, 2, 5, 6, 7, 8, 9, 10] rfl rfl (by decide) (by decide) (fun u33 H locs hw33 hP hD hS => ?_)
  have hP := hP.sub (ws' := [(x0, .inr (2, [.int (iI (n : Int)), .int (iI (w : Int)), .ref xq, .ref xr, .ref xl, .int (iI (rc : Int)), .ref xs, .int (iI (sc : Int)), .ref h0, .ref hn0, .ref xc])), (xq, .inl (cI, 16, .inl (iA q))), (ax, .inl (cI, nx, .inl (iA src))), (h0, .inr (0, [.ref aq, .ref ar, .ref ac, .ref ap, .int (iI ps), .int (iI (n : Int)), .int (iI (w : Int))])), (aq, .inl (cI, 16, .inl (iA (zC q cq 0 0 n)))), (ar, .inl (cI, 16, .inl (iA cr))), (ac, .inl (cI, 256, .inl (iA G))), (hn0, .inr (1, [.ref al, .ref ad, .int (iI (0 : Int)), .int (iI (kw : Int))])), (al, .inl (cI, 12, .inl (iA P))), (ad, .inl (cI, 12, .inl (iA D))), (xc, .inl (cI, 5, .inl (iA (zF T 5 0))))]) [0, 10, 1, 8, 9, 2, 3, 4, 5, 6, 7] rfl
  have hD := hD.sub (ws' := [(x0, .inr (2, [.int (iI (n : Int)), .int (iI (w : Int)), .ref xq, .ref xr, .ref xl, .int (iI (rc : Int)), .ref xs, .int (iI (sc : Int)), .ref h0, .ref hn0, .ref xc])), (xq, .inl (cI, 16, .inl (iA q))), (ax, .inl (cI, nx, .inl (iA src))), (h0, .inr (0, [.ref aq, .ref ar, .ref ac, .ref ap, .int (iI ps), .int (iI (n : Int)), .int (iI (w : Int))])), (aq, .inl (cI, 16, .inl (iA (zC q cq 0 0 n)))), (ar, .inl (cI, 16, .inl (iA cr))), (ac, .inl (cI, 256, .inl (iA G))), (hn0, .inr (1, [.ref al, .ref ad, .int (iI (0 : Int)), .int (iI (kw : Int))])), (al, .inl (cI, 12, .inl (iA P))), (ad, .inl (cI, 12, .inl (iA D))), (xc, .inl (cI, 5, .inl (iA (zF T 5 0))))]) [0, 10, 1, 8, 9, 2, 3, 4, 5, 6, 7] (by decide) rfl
  refine lv_iconst (v := iI (0 : Int)) hx hb dX2_searchAmong_36 (by decide) ?_
  refine lv_istore (lv' := [(5, .int (iI (0 : Int))), (0, .ref x0), (1, .ref ax), (2, .int (iI (many : Int))), (3, .int (iI (apart : Int))), (4, .int (iI (kw : Int)))]) hx hb dX2_searchAmong_37 hl (by decide) rfl (fun ls hl => ?_)
  have lp : ∀ (k9 : Nat) (i : Nat) (x9 : Lst) (cr9 G9 : Nat → Int) (H : Heap) (locs : List Loc) (ls : Array Slot), (i ≤ many) → (x9 = srch n w q (fun p9 j9 => src (p9 * apart + j9)) kw (0, P, D, zF T 5 0) i) → (lok kw x9) → (rgA G9) → many - i = k9 → va_P (dC, dI) vwCl [(x0, .inr (2, [.int (iI (n : Int)), .int (iI (w : Int)), .ref xq, .ref xr, .ref xl, .int (iI (rc : Int)), .ref xs, .int (iI (sc : Int)), .ref h0, .ref hn0, .ref xc])), (xq, .inl (cI, 16, .inl (iA q))), (ax, .inl (cI, nx, .inl (iA src))), (h0, .inr (0, [.ref aq, .ref ar, .ref ac, .ref ap, .int (iI ps), .int (iI (n : Int)), .int (iI (w : Int))])), (aq, .inl (cI, 16, .inl (iA (zC q cq 0 0 n)))), (ar, .inl (cI, 16, .inl (iA cr9))), (ac, .inl (cI, 256, .inl (iA G9))), (hn0, .inr (1, [.ref al, .ref ad, .int (iI ((x9.1 : Nat) : Int)), .int (iI (kw : Int))])), (al, .inl (cI, 12, .inl (iA x9.2.1))), (ad, .inl (cI, 12, .inl (iA x9.2.2.1))), (xc, .inl (cI, 5, .inl (iA x9.2.2.2)))] H → va_D A [(x0, .inr (2, [.int (iI (n : Int)), .int (iI (w : Int)), .ref xq, .ref xr, .ref xl, .int (iI (rc : Int)), .ref xs, .int (iI (sc : Int)), .ref h0, .ref hn0, .ref xc])), (xq, .inl (cI, 16, .inl (iA q))), (ax, .inl (cI, nx, .inl (iA src))), (h0, .inr (0, [.ref aq, .ref ar, .ref ac, .ref ap, .int (iI ps), .int (iI (n : Int)), .int (iI (w : Int))])), (aq, .inl (cI, 16, .inl (iA (zC q cq 0 0 n)))), (ar, .inl (cI, 16, .inl (iA cr9))), (ac, .inl (cI, 256, .inl (iA G9))), (hn0, .inr (1, [.ref al, .ref ad, .int (iI ((x9.1 : Nat) : Int)), .int (iI (kw : Int))])), (al, .inl (cI, 12, .inl (iA x9.2.1))), (ad, .inl (cI, 12, .inl (iA x9.2.2.1))), (xc, .inl (cI, 5, .inl (iA x9.2.2.2)))] → va_S A s.heap H locs → lv_has ls 6 [(0, .ref x0), (1, .ref ax), (2, .int (iI (many : Int))), (3, .int (iI (apart : Int))), (5, .int (iI (i : Int)))] → W p l e R s m args below meth c H locs 0 0 Q (F0 m 39 ls []) := by
    intro k9
    induction k9 using Nat.strongRecOn with
    | ind k9 ih_lp =>
      intro i x9 cr9 G9 H locs ls hi hx9 hlk hG9 hk9 hP hD hS hl
      refine lv_iload hx hb dX2_searchAmong_39 (lv_at hl 4 rfl) ?_
      refine lv_iload_n hx hb dX2_searchAmong_41 rfl (lv_at hl 2 rfl) ?_
      refine z_icmp_ge (tgt := 69) hx hb dX2_searchAmong_42 (by decide) (by omega) (fun h42 => ?_) (fun h42 => ?_)
      · refine lv_aload_n hx hb dX2_searchAmong_69 rfl (lv_at hl 0 rfl) ?_
        refine va_get (D := (dC, dI)) (ci := 2) (v := .ref hn0) (C := RX2) (T := TX2) (N := 11) hx hb hts in_X2 hown hK hP 0 rfl rfl 9 (by decide) fl_45 (fun _ h9 => h9) rfl dX2_searchAmong_70 ?_
        refine va_getN (host := "WarpSearch") (D := (dC, dI)) (ci := 1) (v := .int (iI ((x9.1 : Nat) : Int))) (C := RX1) (T := TX1) (N := 4) hx hb hts in_X1 hown hK hP 7 rfl rfl 2 (by decide) fl_129 (fun _ h9 => h9) rfl dX2_searchAmong_73 ?_
        have ein : i = many := by omega
        rw [ein] at hx9
        subst hAe
        exact zw_reti (z := ((x9.1 : Nat) : Int)) ((x9, cr9, G9)) hx hb hr hlocks hQ (⟨hx9, hlk, hG9, rfl⟩) hP hK hD hS dX2_searchAmong_76
      · have hap := hsrc i (by omega)
        refine lv_aload_n hx hb dX2_searchAmong_45 rfl (lv_at hl 0 rfl) ?_
        refine va_get (D := (dC, dI)) (ci := 2) (v := .ref h0) (C := RX2) (T := TX2) (N := 11) hx hb hts in_X2 hown hK hP 0 rfl rfl 8 (by decide) fl_38 (fun _ h9 => h9) rfl dX2_searchAmong_46 ?_
        refine lv_aload_n hx hb dX2_searchAmong_49 rfl (lv_at hl 1 rfl) ?_
        refine lv_iload hx hb dX2_searchAmong_50 (lv_at hl 4 rfl) ?_
        refine lv_iload_n hx hb dX2_searchAmong_52 rfl (lv_at hl 3 rfl) ?_
        refine z_imul hx hb dX2_searchAmong_53 ?_
        refine zw_v (wr := [(x0, .inr (2, [.int (iI (n : Int)), .int (iI (w : Int)), .ref xq, .ref xr, .ref xl, .int (iI (rc : Int)), .ref xs, .int (iI (sc : Int)), .ref h0, .ref hn0, .ref xc])), (xq, .inl (cI, 16, .inl (iA q))), (aq, .inl (cI, 16, .inl (iA (zC q cq 0 0 n)))), (ac, .inl (cI, 256, .inl (iA G9))), (hn0, .inr (1, [.ref al, .ref ad, .int (iI ((x9.1 : Nat) : Int)), .int (iI (kw : Int))])), (al, .inl (cI, 12, .inl (iA x9.2.1))), (ad, .inl (cI, 12, .inl (iA x9.2.2.1))), (xc, .inl (cI, 5, .inl (iA x9.2.2.2)))]) (va_runV (As := [.ref ax, .int (iI ((i : Int) * (apart : Int)))]) (rest := []) ⟨hx, hb, hml, hown, hts⟩ (c_placeBeside l dC dI cI h0 aq ar ac ap ps n w ax nx (i * apart) cr9 src _ hn hw (by omega)) (cwV 2 hts (ga_V wd_309 wd_310 wd_311 wd_29 wd_312) rfl rfl rfl (by decide +kernel) ⟨(show 1 + 1 ≤ R.frames by omega), (show 8 + (3 + 11) + 40 ≤ R.locals by omega)⟩) (wr_preV (q0 := 0) (ci := 0) hP hK hD [3, 5, 2] (by decide) rfl rfl rfl rfl) rfl rfl hl.1 rfl (lv_room (Nat.le_of_ble_eq_true rfl)) dX2_searchAmong_54 ⟨by omega, by omega⟩) hP hD hS hA [3, 5, 2] [0, 1, 4, 6, 7, 8, 9, 10] rfl rfl (by decide) (by decide) (fun u54 H locs hw54 hP hD hS => ?_)
        have hP := hP.sub (ws' := [(x0, .inr (2, [.int (iI (n : Int)), .int (iI (w : Int)), .ref xq, .ref xr, .ref xl, .int (iI (rc : Int)), .ref xs, .int (iI (sc : Int)), .ref h0, .ref hn0, .ref xc])), (xq, .inl (cI, 16, .inl (iA q))), (ax, .inl (cI, nx, .inl (iA src))), (h0, .inr (0, [.ref aq, .ref ar, .ref ac, .ref ap, .int (iI ps), .int (iI (n : Int)), .int (iI (w : Int))])), (aq, .inl (cI, 16, .inl (iA (zC q cq 0 0 n)))), (ar, .inl (cI, 16, .inl (iA (zC src cr9 (i * apart) 0 n)))), (ac, .inl (cI, 256, .inl (iA G9))), (hn0, .inr (1, [.ref al, .ref ad, .int (iI ((x9.1 : Nat) : Int)), .int (iI (kw : Int))])), (al, .inl (cI, 12, .inl (iA x9.2.1))), (ad, .inl (cI, 12, .inl (iA x9.2.2.1))), (xc, .inl (cI, 5, .inl (iA x9.2.2.2)))]) [0, 1, 10, 8, 2, 9, 3, 4, 5, 6, 7] rfl
        have hD := hD.sub (ws' := [(x0, .inr (2, [.int (iI (n : Int)), .int (iI (w : Int)), .ref xq, .ref xr, .ref xl, .int (iI (rc : Int)), .ref xs, .int (iI (sc : Int)), .ref h0, .ref hn0, .ref xc])), (xq, .inl (cI, 16, .inl (iA q))), (ax, .inl (cI, nx, .inl (iA src))), (h0, .inr (0, [.ref aq, .ref ar, .ref ac, .ref ap, .int (iI ps), .int (iI (n : Int)), .int (iI (w : Int))])), (aq, .inl (cI, 16, .inl (iA (zC q cq 0 0 n)))), (ar, .inl (cI, 16, .inl (iA (zC src cr9 (i * apart) 0 n)))), (ac, .inl (cI, 256, .inl (iA G9))), (hn0, .inr (1, [.ref al, .ref ad, .int (iI ((x9.1 : Nat) : Int)), .int (iI (kw : Int))])), (al, .inl (cI, 12, .inl (iA x9.2.1))), (ad, .inl (cI, 12, .inl (iA x9.2.2.1))), (xc, .inl (cI, 5, .inl (iA x9.2.2.2)))]) [0, 1, 10, 8, 2, 9, 3, 4, 5, 6, 7] (by decide) rfl
        have hvc : vals n (zC src cr9 (i * apart) 0 n) := vals_c hvs hap.1
        have hvq2 : vals n (zC q cq 0 0 n) := vals_c hvq (by omega)
        have hcr9 := cst_rg hvq2 hvc hn.2 (w := w) (i := n - 1) (j := n - 1) (by omega) (by omega) (by omega)
        refine lv_aload_n hx hb dX2_searchAmong_57 rfl (lv_at hl 0 rfl) ?_
        refine lv_iload hx hb dX2_searchAmong_58 (lv_at hl 4 rfl) ?_
        refine zw_v (wr := [(xq, .inl (cI, 16, .inl (iA q))), (ax, .inl (cI, nx, .inl (iA src)))]) (va_runV (As := [.int (iI (i : Int))]) (rest := []) ⟨hx, hb, hml, hown, hts⟩ (c_weigh l dC dI cI x0 xq xr xl xs h0 hn0 xc aq ar ac ap al ad ps n w rc sc x9.1 kw (i : Int) (zC q cq 0 0 n) (zC src cr9 (i * apart) 0 n) G9 x9.2.1 x9.2.2.1 x9.2.2.2 _ hn hw hvq2 hvc hG9 hlk hkw) (cwV 1 hts (ga_V wd_410 wd_412 wd_11 wd_28 wd_413) rfl rfl rfl (by decide +kernel) ⟨(show 4 + 1 ≤ R.frames by omega), (show 8 + (5 + 11) + 93 ≤ R.locals by omega)⟩) (wr_preV (q0 := 0) (ci := 2) hP hK hD [0, 3, 4, 5, 6, 7, 8, 9, 10] (by decide) rfl rfl rfl rfl) rfl rfl hl.1 rfl (lv_room (Nat.le_of_ble_eq_true rfl)) dX2_searchAmong_60 ⟨by omega, by omega⟩) hP hD hS hA [0, 3, 4, 5, 6, 7, 8, 9, 10] [1, 2] rfl rfl (by decide) (by decide) (fun u60 H locs hw60 hP hD hS => ?_)
        have hP := hP.sub (ws' := [(x0, .inr (2, [.int (iI (n : Int)), .int (iI (w : Int)), .ref xq, .ref xr, .ref xl, .int (iI (rc : Int)), .ref xs, .int (iI (sc : Int)), .ref h0, .ref hn0, .ref xc])), (xq, .inl (cI, 16, .inl (iA q))), (ax, .inl (cI, nx, .inl (iA src))), (h0, .inr (0, [.ref aq, .ref ar, .ref ac, .ref ap, .int (iI ps), .int (iI (n : Int)), .int (iI (w : Int))])), (aq, .inl (cI, 16, .inl (iA (zC q cq 0 0 n)))), (ar, .inl (cI, 16, .inl (iA (zC src cr9 (i * apart) 0 n)))), (ac, .inl (cI, 256, .inl (iA u60.2))), (hn0, .inr (1, [.ref al, .ref ad, .int (iI ((u60.1.1 : Nat) : Int)), .int (iI (kw : Int))])), (al, .inl (cI, 12, .inl (iA u60.1.2.1))), (ad, .inl (cI, 12, .inl (iA u60.1.2.2.1))), (xc, .inl (cI, 5, .inl (iA u60.1.2.2.2)))]) [2, 0, 1, 3, 4, 5, 6, 7, 8, 9, 10] rfl
        have hD := hD.sub (ws' := [(x0, .inr (2, [.int (iI (n : Int)), .int (iI (w : Int)), .ref xq, .ref xr, .ref xl, .int (iI (rc : Int)), .ref xs, .int (iI (sc : Int)), .ref h0, .ref hn0, .ref xc])), (xq, .inl (cI, 16, .inl (iA q))), (ax, .inl (cI, nx, .inl (iA src))), (h0, .inr (0, [.ref aq, .ref ar, .ref ac, .ref ap, .int (iI ps), .int (iI (n : Int)), .int (iI (w : Int))])), (aq, .inl (cI, 16, .inl (iA (zC q cq 0 0 n)))), (ar, .inl (cI, 16, .inl (iA (zC src cr9 (i * apart) 0 n)))), (ac, .inl (cI, 256, .inl (iA u60.2))), (hn0, .inr (1, [.ref al, .ref ad, .int (iI ((u60.1.1 : Nat) : Int)), .int (iI (kw : Int))])), (al, .inl (cI, 12, .inl (iA u60.1.2.1))), (ad, .inl (cI, 12, .inl (iA u60.1.2.2.1))), (xc, .inl (cI, 5, .inl (iA u60.1.2.2.2)))]) [2, 0, 1, 3, 4, 5, 6, 7, 8, 9, 10] (by decide) rfl
        refine z_iinc (k := 4) (b := ((i + 1 : Nat) : Int)) (lv' := [(5, .int (iI ((i + 1 : Nat) : Int))), (0, .ref x0), (1, .ref ax), (2, .int (iI (many : Int))), (3, .int (iI (apart : Int)))]) hx hb dX2_searchAmong_63 hl rfl (by omega) (by decide) rfl (fun ls hl => ?_)
        refine lv_goto (tgt := 39) hx hb dX2_searchAmong_66 (by decide) ?_
        exact ih_lp _ (by omega) (i + 1) u60.1 (zC src cr9 (i * apart) 0 n) u60.2 H locs ls (by omega) (by rw [hw60.1, srch, ← hx9]; exact wgh_cg (by omega) agr_0 agr_c kw (i : Int) x9) (by rw [hw60.1]; exact lok_wgh (by omega) hcr9 hlk) (hw60.2) rfl hP hD hS (lv_sub hl [1, 2, 3, 4, 0] rfl)
  exact lp _ 0 (0, P, D, zF T 5 0) cr G _ _ ls (by omega) (rfl) (⟨Nat.zero_le _, hrD, fun k h => absurd h (Nat.not_lt_zero _)⟩) (hG) rfl hP hD hS (lv_sub hl [1, 2, 3, 4, 0] rfl)
