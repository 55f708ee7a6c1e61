set_option maxRecDepth 100000 in
set_option maxHeartbeats 4000000 in
theorem c_startFor (l : Launch) (dC : Nat → ClassId) (dI : Nat → Nat → Nat) (cI : ClassId) (hn0 al ad nm wt : Nat) (k : Nat) (sz : Nat)  : Met l yX1_startFor wsX1_startFor ({ frames := 0, cells := 0, slots := 0, locals := 0 }) (wrP dC dI [(cI, .int)] [(hn0, .inr (1, [.ref al, .ref ad, .int (iI (nm : Int)), .int (iI (wt : Int))]))] sz [.ref hn0, .int (iI (k : Int))]) (wrQv dC dI [(cI, .int)] [(hn0, .inr (1, [.ref al, .ref ad, .int (iI (nm : Int)), .int (iI (wt : Int))]))] sz (S := Unit) (fun _ => True) (fun _ => [(hn0, .inr (1, [.ref al, .ref ad, .int (iI (0 : Int)), .int (iI (k : Int))]))])) 0 0 (va_A [(hn0, .inr (1, [.ref al, .ref ad, .int (iI (nm : Int)), .int (iI (wt : Int))]))] sz) := by
  refine Met.ofW (cc := cX1_startFor) (maxL := 2) (ret := none) (by decide) rfl ?_
  intro p e s m args below meth c s₁ B hml hv
  obtain ⟨rfl, hsz, hP, hK, hD0⟩ := hv
  have hx := B.exec
  have hb := B.bytes
  have hr := B.returns
  have hts : ∀ w ∈ wsX1_startFor, w.before _ s = true := atoms_spec (ws := wsX1_startFor) B.pre
  have hown : s.vm.findClass RX1 = some m.cls := findClass_of_methodNamed B.named
  have hlocks := B.notSynchronized
  subst hsz
  have hD := hD0.self (sz := s.heap.size)
  have hA : ∀ q9 : Nat, s.heap.size ≤ q9 → va_A [(hn0, .inr (1, [.ref al, .ref ad, .int (iI (nm : Int)), .int (iI (wt : Int))]))] s.heap.size q9 := fun q9 h => Or.inr h
  have hS : va_S (va_A [(hn0, .inr (1, [.ref al, .ref ad, .int (iI (nm : Int)), .int (iI (wt : Int))]))] s.heap.size) s.heap s.heap [] := va_S.rf
  generalize hAe : va_A [(hn0, .inr (1, [.ref al, .ref ad, .int (iI (nm : Int)), .int (iI (wt : Int))]))] s.heap.size = A at hD hA hS
  have hP : va_P (dC, dI) vwCl [(hn0, .inr (1, [.ref al, .ref ad, .int (iI (nm : Int)), .int (iI (wt : Int))]))] s.heap := hP
  have hl := lv_entry ([.ref hn0, .int (iI (k : Int))]) (n := 2) (Nat.le_of_ble_eq_true rfl)
  rw [lg_entry_eq]
  generalize (lg_sl ([.ref hn0, .int (iI (k : Int))]) ++ List.replicate (2 - (lg_sl ([.ref hn0, .int (iI (k : Int))])).length) Slot.unset).toArray = ls at hl ⊢
  have hl : lv_has ls 2 [(0, .ref hn0), (1, .int (iI (k : Int)))] := hl
  generalize hargs : ([.ref hn0, .int (iI (k : Int))] : List Value).toArray = args at hts ⊢
  refine z_intro (fun R Q hR hQ => ?_)
  have hRf : R.frames = 0 := by rw [hR]; rfl
  have hRl : R.locals = 0 := by rw [hR]; rfl
  have hRc : R.cells = 0 := by rw [hR]; rfl
  have hRs : R.slots = 0 := by rw [hR]; rfl
  have in_X1 : ∀ w ∈ u_ws RX1 TX1 4, w ∈ wsX1_startFor := fun w h => List.mem_cons_of_mem _ (inW_X1 w h)
  have fl_18 := wa_hts hts wd_88
  have fl_22 := wa_hts hts wd_90
  clear hR hargs B
  refine lv_aload_n hx hb dX1_startFor_0 rfl (lv_at hl 0 rfl) ?_
  refine lv_iload_n hx hb dX1_startFor_1 rfl (lv_at hl 1 rfl) ?_
  refine va_put (D := (dC, dI)) (ci := 1) (v := .int (iI (k : Int))) (ty := .int) (C := RX1) (T := TX1) (N := 4) hx hb hts in_X1 tyX1 tyX1_ok nmX1 hown hK hP hD hS 0 rfl rfl 3 (by decide) fl_22 (fun _ h9 => h9) rfl (by decide +kernel) rfl rfl (Nat.le_of_ble_eq_true rfl) dX1_startFor_2 (fun H locs hP hD hS => ?_)
  have hP : va_P (dC, dI) vwCl [(hn0, .inr (1, [.ref al, .ref ad, .int (iI (nm : Int)), .int (iI (k : Int))]))] H := hP
  have hD : va_D A [(hn0, .inr (1, [.ref al, .ref ad, .int (iI (nm : Int)), .int (iI (k : Int))]))] := hD
  refine lv_aload_n hx hb dX1_startFor_5 rfl (lv_at hl 0 rfl) ?_
  refine lv_iconst (v := iI (0 : Int)) hx hb dX1_startFor_6 (by decide) ?_
  refine va_put (D := (dC, dI)) (ci := 1) (v := .int (iI (0 : Int))) (ty := .int) (C := RX1) (T := TX1) (N := 4) hx hb hts in_X1 tyX1 tyX1_ok nmX1 hown hK hP hD hS 0 rfl rfl 2 (by decide) fl_18 (fun _ h9 => h9) rfl (by decide +kernel) rfl rfl (Nat.le_of_ble_eq_true rfl) dX1_startFor_7 (fun H locs hP hD hS => ?_)
  have hP : va_P (dC, dI) vwCl [(hn0, .inr (1, [.ref al, .ref ad, .int (iI (0 : Int)), .int (iI (k : Int))]))] H := hP
  have hD : va_D A [(hn0, .inr (1, [.ref al, .ref ad, .int (iI (0 : Int)), .int (iI (k : Int))]))] := hD
  subst hAe
  exact zw_retv (()) hx hb hr hlocks hQ (trivial) hP hK hD hS dX1_startFor_10
set_option maxRecDepth 100000 in
set_option maxHeartbeats 4000000 in
theorem c_limit (l : Launch) (dC : Nat → ClassId) (dI : Nat → Nat → Nat) (cI : ClassId) (hn0 al ad nm wt : Nat) (D : Nat → Int) (hm : nm ≤ wt) (hwt : 1 ≤ wt ∧ wt ≤ 12) : Met l yX1_limit wsX1_limit ({ frames := 0, cells := 0, slots := 0, locals := 0 }) (rdP dC dI [(cI, .int)] [(hn0, .inr (1, [.ref al, .ref ad, .int (iI (nm : Int)), .int (iI (wt : Int))])), (ad, .inl (cI, 12, .inl (iA D)))] [.ref hn0]) (rdQ (fun z => z = if nm = wt then D (nm - 1) else -1)) 0 0 (fun _ => False) := by
  refine Met.ofW (cc := cX1_limit) (maxL := 1) (ret := (some .int)) (by decide) rfl ?_
  intro p e s m args below meth c s₁ B hml hv
  obtain ⟨rfl, hP, hK⟩ := hv
  have hx := B.exec
  have hb := B.bytes
  have hr := B.returns
  have hts : ∀ w ∈ wsX1_limit, w.before _ s = true := atoms_spec (ws := wsX1_limit) B.pre
  have hown : s.vm.findClass RX1 = some m.cls := findClass_of_methodNamed B.named
  have hlocks := B.notSynchronized
  have hl := lv_entry ([.ref hn0]) (n := 1) (Nat.le_of_ble_eq_true rfl)
  rw [lg_entry_eq]
  generalize (lg_sl ([.ref hn0]) ++ List.replicate (1 - (lg_sl ([.ref hn0])).length) Slot.unset).toArray = ls at hl ⊢
  have hl : lv_has ls 1 [(0, .ref hn0)] := hl
  generalize hargs : ([.ref hn0] : List Value).toArray = args at hts ⊢
  refine z_intro (fun R Q hR hQ => ?_)
  have hRf : R.frames = 0 := by rw [hR]; rfl
  have hRl : R.locals = 0 := by rw [hR]; rfl
  have hRc : R.cells = 0 := by rw [hR]; rfl
  have hRs : R.slots = 0 := by rw [hR]; rfl
  have in_X1 : ∀ w ∈ u_ws RX1 TX1 4, w ∈ wsX1_limit := fun w h => List.mem_cons_of_mem _ (inW_X1 w h)
  have fl_15 := wa_hts hts wd_86
  have fl_18 := wa_hts hts wd_88
  have fl_22 := wa_hts hts wd_90
  clear hR hargs B
  refine lv_aload_n hx hb dX1_limit_0 rfl (lv_at hl 0 rfl) ?_
  refine va_get (D := (dC, dI)) (ci := 1) (v := .int (iI (nm : Int))) (C := RX1) (T := TX1) (N := 4) hx hb hts in_X1 hown hK hP 0 rfl rfl 2 (by decide) fl_18 (fun _ h9 => h9) rfl dX1_limit_1 ?_
  refine lv_aload_n hx hb dX1_limit_4 rfl (lv_at hl 0 rfl) ?_
  refine va_get (D := (dC, dI)) (ci := 1) (v := .int (iI (wt : Int))) (C := RX1) (T := TX1) (N := 4) hx hb hts in_X1 hown hK hP 0 rfl rfl 3 (by decide) fl_22 (fun _ h9 => h9) rfl dX1_limit_5 ?_
  refine z_icmp_ne (tgt := 25) hx hb dX1_limit_8 (by decide) (by omega) (fun h8 => ?_) (fun h8 => ?_)
  · refine lv_iconst (v := iI (-1 : Int)) hx hb dX1_limit_25 (by decide) ?_
    exact zr_ret (z := (-1 : Int)) hx hb hr hlocks hQ (by rw [if_neg (by omega)]) dX1_limit_26
  · refine lv_aload_n hx hb dX1_limit_11 rfl (lv_at hl 0 rfl) ?_
    refine va_get (D := (dC, dI)) (ci := 1) (v := .ref ad) (C := RX1) (T := TX1) (N := 4) hx hb hts in_X1 hown hK hP 0 rfl rfl 1 (by decide) fl_15 (fun _ h9 => h9) rfl dX1_limit_12 ?_
    refine lv_aload_n hx hb dX1_limit_15 rfl (lv_at hl 0 rfl) ?_
    refine va_get (D := (dC, dI)) (ci := 1) (v := .int (iI (nm : Int))) (C := RX1) (T := TX1) (N := 4) hx hb hts in_X1 hown hK hP 0 rfl rfl 2 (by decide) fl_18 (fun _ h9 => h9) rfl dX1_limit_16 ?_
    refine lv_iconst (v := iI (1 : Int)) hx hb dX1_limit_19 (by decide) ?_
    refine z_isub hx hb dX1_limit_20 ?_
    refine z_top (b := ((nm - 1 : Nat) : Int)) (by omega) ?_
    refine z_iald hx hb hK hP 1 0 rfl rfl (nm - 1) (by omega) dX1_limit_21 ?_
    refine lv_goto (tgt := 26) hx hb dX1_limit_22 (by decide) ?_
    exact zr_ret (z := D (nm - 1)) hx hb hr hlocks hQ (by rw [if_pos (by omega)]) dX1_limit_26
set_option maxRecDepth 100000 in
set_option maxHeartbeats 4000000 in
theorem c_insert (l : Launch) (dC : Nat → ClassId) (dI : Nat → Nat → Nat) (cI : ClassId) (hn0 al ad nm wt : Nat) (pl d : Int) (P D : Nat → Int) (sz : Nat) (hm : nm ≤ wt) (hwt : 1 ≤ wt ∧ wt ≤ 12) (hrD : rgA D) (hd : -2147483648 ≤ d ∧ d ≤ 2147483647) : Met l yX1_insert wsX1_insert ({ frames := 1, cells := 0, slots := 0, locals := 21 }) (wrP dC dI [(cI, .int)] [(hn0, .inr (1, [.ref al, .ref ad, .int (iI (nm : Int)), .int (iI (wt : Int))])), (al, .inl (cI, 12, .inl (iA P))), (ad, .inl (cI, 12, .inl (iA D)))] sz [.ref hn0, .int (iI pl), .int (iI d)]) (wrQv dC dI [(cI, .int)] [(hn0, .inr (1, [.ref al, .ref ad, .int (iI (nm : Int)), .int (iI (wt : Int))])), (al, .inl (cI, 12, .inl (iA P))), (ad, .inl (cI, 12, .inl (iA D)))] sz (S := Unit) (fun _ => True) (fun _ => [(hn0, .inr (1, [.ref al, .ref ad, .int (iI ((min (nm + 1) wt : Nat) : Int)), .int (iI (wt : Int))])), (al, .inl (cI, 12, .inl (iA (insF P (scn D d (min nm (wt - 1))) (min nm (wt - 1)) pl)))), (ad, .inl (cI, 12, .inl (iA (insF D (scn D d (min nm (wt - 1))) (min nm (wt - 1)) d))))])) 0 0 (va_A [(hn0, .inr (1, [.ref al, .ref ad, .int (iI (nm : Int)), .int (iI (wt : Int))])), (al, .inl (cI, 12, .inl (iA P))), (ad, .inl (cI, 12, .inl (iA D)))] sz) := by
  refine Met.ofW (cc := cX1_insert) (maxL := 4) (ret := none) (by decide) rfl ?_
  intro p e s m args below meth c s₁ B hml hv
  obtain ⟨rfl, hsz, hP, hK, hD0⟩ := hv
  have hx := B.exec
  have hb := B.bytes
  have hr := B.returns
  have hts : ∀ w ∈ wsX1_insert, w.before _ s = true := atoms_spec (ws := wsX1_insert) B.pre
  have hown : s.vm.findClass RX1 = some m.cls := findClass_of_methodNamed B.named
  have hlocks := B.notSynchronized
  subst hsz
  have hD := hD0.self (sz := s.heap.size)
  have hA : ∀ q9 : Nat, s.heap.size ≤ q9 → va_A [(hn0, .inr (1, [.ref al, .ref ad, .int (iI (nm : Int)), .int (iI (wt : Int))])), (al, .inl (cI, 12, .inl (iA P))), (ad, .inl (cI, 12, .inl (iA D)))] s.heap.size q9 := fun q9 h => Or.inr h
  have hS : va_S (va_A [(hn0, .inr (1, [.ref al, .ref ad, .int (iI (nm : Int)), .int (iI (wt : Int))])), (al, .inl (cI, 12, .inl (iA P))), (ad, .inl (cI, 12, .inl (iA D)))] s.heap.size) s.heap s.heap [] := va_S.rf
  generalize hAe : va_A [(hn0, .inr (1, [.ref al, .ref ad, .int (iI (nm : Int)), .int (iI (wt : Int))])), (al, .inl (cI, 12, .inl (iA P))), (ad, .inl (cI, 12, .inl (iA D)))] s.heap.size = A at hD hA hS
  have hP : va_P (dC, dI) vwCl [(hn0, .inr (1, [.ref al, .ref ad, .int (iI (nm : Int)), .int (iI (wt : Int))])), (al, .inl (cI, 12, .inl (iA P))), (ad, .inl (cI, 12, .inl (iA D)))] s.heap := hP
  have hl := lv_entry ([.ref hn0, .int (iI pl), .int (iI d)]) (n := 4) (Nat.le_of_ble_eq_true rfl)
  rw [lg_entry_eq]
  generalize (lg_sl ([.ref hn0, .int (iI pl), .int (iI d)]) ++ List.replicate (4 - (lg_sl ([.ref hn0, .int (iI pl), .int (iI d)])).length) Slot.unset).toArray = ls at hl ⊢
  have hl : lv_has ls 4 [(0, .ref hn0), (1, .int (iI pl)), (2, .int (iI d))] := hl
  generalize hargs : ([.ref hn0, .int (iI pl), .int (iI d)] : List Value).toArray = args at hts ⊢
  refine z_intro (fun R Q hR hQ => ?_)
  have hRf : R.frames = 1 := by rw [hR]; rfl
  have hRl : R.locals = 21 := by rw [hR]; rfl
  have hRc : R.cells = 0 := by rw [hR]; rfl
  have hRs : R.slots = 0 := by rw [hR]; rfl
  have in_X1 : ∀ w ∈ u_ws RX1 TX1 4, w ∈ wsX1_insert := fun w h => List.mem_cons_of_mem _ (inW_X1 w h)
  have fl_9 := wa_hts hts wd_84
  have fl_15 := wa_hts hts wd_86
  have fl_18 := wa_hts hts wd_88
  have fl_22 := wa_hts hts wd_90
  have ml_25 : (Cond.methodLink RX1 25 Lib.Math.min.name).before args s = true := wa_hts hts wd_426
  have st_min : (Cond.static Lib.Math.min.name).before args s = true := wa_hts hts wd_339
  have cd_min : (Cond.code Lib.Math.min.name Lib.Math.min.code 2 (some .int)).before args s = true := wa_hts hts wd_340
  have hMath := wa_hts hts wd_40
  clear hR hargs B
  refine lv_aload_n hx hb dX1_insert_0 rfl (lv_at hl 0 rfl) ?_
  refine va_get (D := (dC, dI)) (ci := 1) (v := .int (iI (nm : Int))) (C := RX1) (T := TX1) (N := 4) hx hb hts in_X1 hown hK hP 0 rfl rfl 2 (by decide) fl_18 (fun _ h9 => h9) rfl dX1_insert_1 ?_
  refine lv_aload_n hx hb dX1_insert_4 rfl (lv_at hl 0 rfl) ?_
  refine va_get (D := (dC, dI)) (ci := 1) (v := .int (iI (wt : Int))) (C := RX1) (T := TX1) (N := 4) hx hb hts in_X1 hown hK hP 0 rfl rfl 3 (by decide) fl_22 (fun _ h9 => h9) rfl dX1_insert_5 ?_
  refine lv_iconst (v := iI (1 : Int)) hx hb dX1_insert_8 (by decide) ?_
  refine z_isub hx hb dX1_insert_9 ?_
  refine z_top (b := ((wt - 1 : Nat) : Int)) (by omega) ?_
  refine z_min hx hb (hml.trans hl.1.symm) hown ml_25 st_min hMath cd_min (by omega) (by show 0 + 13 ≤ R.locals; omega) (by omega) (by omega) (by omega) dX1_insert_10 ?_
  refine z_top (b := ((min nm (wt - 1) : Nat) : Int)) (by omega) ?_
  refine lv_istore_n (lv' := [(3, .int (iI ((min nm (wt - 1) : Nat) : Int))), (0, .ref hn0), (1, .int (iI pl)), (2, .int (iI d))]) hx hb dX1_insert_13 rfl hl (by decide) rfl (fun ls hl => ?_)
  have lp : ∀ (k9 : Nat) (a : Nat) (P9 D9 : Nat → Int) (H : Heap) (locs : List Loc) (ls : Array Slot), (a ≤ min nm (wt - 1)) → (P9 = shf P a (min nm (wt - 1))) → (D9 = shf D a (min nm (wt - 1))) → (scn D d a = scn D d (min nm (wt - 1))) → a = k9 → va_P (dC, dI) vwCl [(hn0, .inr (1, [.ref al, .ref ad, .int (iI (nm : Int)), .int (iI (wt : Int))])), (al, .inl (cI, 12, .inl (iA P9))), (ad, .inl (cI, 12, .inl (iA D9)))] H → va_D A [(hn0, .inr (1, [.ref al, .ref ad, .int (iI (nm : Int)), .int (iI (wt : Int))])), (al, .inl (cI, 12, .inl (iA P9))), (ad, .inl (cI, 12, .inl (iA D9)))] → va_S A s.heap H locs → lv_has ls 4 [(0, .ref hn0), (1, .int (iI pl)), (2, .int (iI d)), (3, .int (iI (a : Int)))] → W p l e R s m args below meth c H locs 0 0 Q (F0 m 14 ls []) := by
    intro k9
    induction k9 using Nat.strongRecOn with
    | ind k9 ih_lp =>
      intro a P9 D9 H locs ls ha eP eD hsc hk9 hP hD hS hl
      have hD9 : D9 (a - 1) = D (a - 1) ∨ a = 0 := by
        by_cases h9 : a = 0
        · exact Or.inr h9
        · rw [eD]; exact Or.inl (shf_at (by omega))
      have rD9 := hrD (a - 1)
      refine lv_iload_n hx hb dX1_insert_14 rfl (lv_at hl 3 rfl) ?_
      refine z_if_le (tgt := 64) hx hb dX1_insert_15 (by decide) (by omega) (fun h15 => ?_) (fun h15 => ?_)
      · have esc : a = scn D d (min nm (wt - 1)) := by
          rw [← hsc]
          exact (scn_stop (by omega)).symm
        refine lv_aload_n hx hb dX1_insert_64 rfl (lv_at hl 0 rfl) ?_
        refine va_get (D := (dC, dI)) (ci := 1) (v := .ref al) (C := RX1) (T := TX1) (N := 4) hx hb hts in_X1 hown hK hP 0 rfl rfl 0 (by decide) fl_9 (fun _ h9 => h9) rfl dX1_insert_65 ?_
        refine lv_iload_n hx hb dX1_insert_68 rfl (lv_at hl 3 rfl) ?_
        refine lv_iload_n hx hb dX1_insert_69 rfl (lv_at hl 1 rfl) ?_
        refine z_iast hx hb hK hP hD hS 1 0 rfl rfl a (by omega) dX1_insert_70 (fun H locs hP hD hS => ?_)
        have hP : va_P (dC, dI) vwCl [(hn0, .inr (1, [.ref al, .ref ad, .int (iI (nm : Int)), .int (iI (wt : Int))])), (al, .inl (cI, 12, .inl (iA (zU P9 a pl)))), (ad, .inl (cI, 12, .inl (iA D9)))] H := hP
        have hD : va_D A [(hn0, .inr (1, [.ref al, .ref ad, .int (iI (nm : Int)), .int (iI (wt : Int))])), (al, .inl (cI, 12, .inl (iA (zU P9 a pl)))), (ad, .inl (cI, 12, .inl (iA D9)))] := hD
        refine lv_aload_n hx hb dX1_insert_71 rfl (lv_at hl 0 rfl) ?_
        refine va_get (D := (dC, dI)) (ci := 1) (v := .ref ad) (C := RX1) (T := TX1) (N := 4) hx hb hts in_X1 hown hK hP 0 rfl rfl 1 (by decide) fl_15 (fun _ h9 => h9) rfl dX1_insert_72 ?_
        refine lv_iload_n hx hb dX1_insert_75 rfl (lv_at hl 3 rfl) ?_
        refine lv_iload_n hx hb dX1_insert_76 rfl (lv_at hl 2 rfl) ?_
        refine z_iast hx hb hK hP hD hS 2 0 rfl rfl a (by omega) dX1_insert_77 (fun H locs hP hD hS => ?_)
        have hP : va_P (dC, dI) vwCl [(hn0, .inr (1, [.ref al, .ref ad, .int (iI (nm : Int)), .int (iI (wt : Int))])), (al, .inl (cI, 12, .inl (iA (zU P9 a pl)))), (ad, .inl (cI, 12, .inl (iA (zU D9 a d))))] H := hP
        have hD : va_D A [(hn0, .inr (1, [.ref al, .ref ad, .int (iI (nm : Int)), .int (iI (wt : Int))])), (al, .inl (cI, 12, .inl (iA (zU P9 a pl)))), (ad, .inl (cI, 12, .inl (iA (zU D9 a d))))] := hD
        refine lv_aload_n hx hb dX1_insert_78 rfl (lv_at hl 0 rfl) ?_
        refine lv_aload_n hx hb dX1_insert_79 rfl (lv_at hl 0 rfl) ?_
        refine va_get (D := (dC, dI)) (ci := 1) (v := .int (iI (nm : Int))) (C := RX1) (T := TX1) (N := 4) hx hb hts in_X1 hown hK hP 0 rfl rfl 2 (by decide) fl_18 (fun _ h9 => h9) rfl dX1_insert_80 ?_
        refine lv_iconst (v := iI (1 : Int)) hx hb dX1_insert_83 (by decide) ?_
        refine z_iadd hx hb dX1_insert_84 ?_
        refine lv_aload_n hx hb dX1_insert_85 rfl (lv_at hl 0 rfl) ?_
        refine va_get (D := (dC, dI)) (ci := 1) (v := .int (iI (wt : Int))) (C := RX1) (T := TX1) (N := 4) hx hb hts in_X1 hown hK hP 0 rfl rfl 3 (by decide) fl_22 (fun _ h9 => h9) rfl dX1_insert_86 ?_
        refine z_min hx hb (hml.trans hl.1.symm) hown ml_25 st_min hMath cd_min (by omega) (by show 1 + 13 ≤ R.locals; omega) (by omega) (by omega) (by omega) dX1_insert_89 ?_
        refine z_top (b := ((min (nm + 1) wt : Nat) : Int)) (by omega) ?_
        refine va_put (D := (dC, dI)) (ci := 1) (v := .int (iI ((min (nm + 1) wt : Nat) : Int))) (ty := .int) (C := RX1) (T := TX1) (N := 4) hx hb hts in_X1 tyX1 tyX1_ok nmX1 hown hK hP hD hS 0 rfl rfl 2 (by decide) fl_18 (fun _ h9 => h9) rfl (by decide +kernel) rfl rfl (Nat.le_of_ble_eq_true rfl) dX1_insert_92 (fun H locs hP hD hS => ?_)
        have hP : va_P (dC, dI) vwCl [(hn0, .inr (1, [.ref al, .ref ad, .int (iI ((min (nm + 1) wt : Nat) : Int)), .int (iI (wt : Int))])), (al, .inl (cI, 12, .inl (iA (zU P9 a pl)))), (ad, .inl (cI, 12, .inl (iA (zU D9 a d))))] H := hP
        have hD : va_D A [(hn0, .inr (1, [.ref al, .ref ad, .int (iI ((min (nm + 1) wt : Nat) : Int)), .int (iI (wt : Int))])), (al, .inl (cI, 12, .inl (iA (zU P9 a pl)))), (ad, .inl (cI, 12, .inl (iA (zU D9 a d))))] := hD
        have eP9 : zU P9 a pl = insF P (scn D d (min nm (wt - 1))) (min nm (wt - 1)) pl := by rw [eP, shf_end, esc]
        have eD9 : zU D9 a d = insF D (scn D d (min nm (wt - 1))) (min nm (wt - 1)) d := by rw [eD, shf_end, esc]
        rw [eP9, eD9] at hP hD
        subst hAe
        exact zw_retv (()) hx hb hr hlocks hQ (trivial) hP hK hD hS dX1_insert_95
      · refine lv_aload_n hx hb dX1_insert_18 rfl (lv_at hl 0 rfl) ?_
        refine va_get (D := (dC, dI)) (ci := 1) (v := .ref ad) (C := RX1) (T := TX1) (N := 4) hx hb hts in_X1 hown hK hP 0 rfl rfl 1 (by decide) fl_15 (fun _ h9 => h9) rfl dX1_insert_19 ?_
        refine lv_iload_n hx hb dX1_insert_22 rfl (lv_at hl 3 rfl) ?_
        refine lv_iconst (v := iI (1 : Int)) hx hb dX1_insert_23 (by decide) ?_
        refine z_isub hx hb dX1_insert_24 ?_
        refine z_top (b := ((a - 1 : Nat) : Int)) (by omega) ?_
        refine z_iald hx hb hK hP 2 0 rfl rfl (a - 1) (by omega) dX1_insert_25 ?_
        have eD9 : D9 (a - 1) = D (a - 1) := by omega
        have rD9b : -2147483648 ≤ D9 (a - 1) ∧ D9 (a - 1) ≤ 2147483647 := by omega
        refine lv_iload_n hx hb dX1_insert_26 rfl (lv_at hl 2 rfl) ?_
        refine z_icmp_le (tgt := 64) hx hb dX1_insert_27 (by decide) (by omega) (fun h27 => ?_) (fun h27 => ?_)
        · have esc : a = scn D d (min nm (wt - 1)) := by
            rw [← hsc]
            exact (scn_stop (by omega)).symm
          refine lv_aload_n hx hb dX1_insert_64 rfl (lv_at hl 0 rfl) ?_
          refine va_get (D := (dC, dI)) (ci := 1) (v := .ref al) (C := RX1) (T := TX1) (N := 4) hx hb hts in_X1 hown hK hP 0 rfl rfl 0 (by decide) fl_9 (fun _ h9 => h9) rfl dX1_insert_65 ?_
          refine lv_iload_n hx hb dX1_insert_68 rfl (lv_at hl 3 rfl) ?_
          refine lv_iload_n hx hb dX1_insert_69 rfl (lv_at hl 1 rfl) ?_
          refine z_iast hx hb hK hP hD hS 1 0 rfl rfl a (by omega) dX1_insert_70 (fun H locs hP hD hS => ?_)
          have hP : va_P (dC, dI) vwCl [(hn0, .inr (1, [.ref al, .ref ad, .int (iI (nm : Int)), .int (iI (wt : Int))])), (al, .inl (cI, 12, .inl (iA (zU P9 a pl)))), (ad, .inl (cI, 12, .inl (iA D9)))] H := hP
          have hD : va_D A [(hn0, .inr (1, [.ref al, .ref ad, .int (iI (nm : Int)), .int (iI (wt : Int))])), (al, .inl (cI, 12, .inl (iA (zU P9 a pl)))), (ad, .inl (cI, 12, .inl (iA D9)))] := hD
          refine lv_aload_n hx hb dX1_insert_71 rfl (lv_at hl 0 rfl) ?_
          refine va_get (D := (dC, dI)) (ci := 1) (v := .ref ad) (C := RX1) (T := TX1) (N := 4) hx hb hts in_X1 hown hK hP 0 rfl rfl 1 (by decide) fl_15 (fun _ h9 => h9) rfl dX1_insert_72 ?_
          refine lv_iload_n hx hb dX1_insert_75 rfl (lv_at hl 3 rfl) ?_
          refine lv_iload_n hx hb dX1_insert_76 rfl (lv_at hl 2 rfl) ?_
          refine z_iast hx hb hK hP hD hS 2 0 rfl rfl a (by omega) dX1_insert_77 (fun H locs hP hD hS => ?_)
          have hP : va_P (dC, dI) vwCl [(hn0, .inr (1, [.ref al, .ref ad, .int (iI (nm : Int)), .int (iI (wt : Int))])), (al, .inl (cI, 12, .inl (iA (zU P9 a pl)))), (ad, .inl (cI, 12, .inl (iA (zU D9 a d))))] H := hP
          have hD : va_D A [(hn0, .inr (1, [.ref al, .ref ad, .int (iI (nm : Int)), .int (iI (wt : Int))])), (al, .inl (cI, 12, .inl (iA (zU P9 a pl)))), (ad, .inl (cI, 12, .inl (iA (zU D9 a d))))] := hD
          refine lv_aload_n hx hb dX1_insert_78 rfl (lv_at hl 0 rfl) ?_
          refine lv_aload_n hx hb dX1_insert_79 rfl (lv_at hl 0 rfl) ?_
          refine va_get (D := (dC, dI)) (ci := 1) (v := .int (iI (nm : Int))) (C := RX1) (T := TX1) (N := 4) hx hb hts in_X1 hown hK hP 0 rfl rfl 2 (by decide) fl_18 (fun _ h9 => h9) rfl dX1_insert_80 ?_
          refine lv_iconst (v := iI (1 : Int)) hx hb dX1_insert_83 (by decide) ?_
          refine z_iadd hx hb dX1_insert_84 ?_
          refine lv_aload_n hx hb dX1_insert_85 rfl (lv_at hl 0 rfl) ?_
          refine va_get (D := (dC, dI)) (ci := 1) (v := .int (iI (wt : Int))) (C := RX1) (T := TX1) (N := 4) hx hb hts in_X1 hown hK hP 0 rfl rfl 3 (by decide) fl_22 (fun _ h9 => h9) rfl dX1_insert_86 ?_
          refine z_min hx hb (hml.trans hl.1.symm) hown ml_25 st_min hMath cd_min (by omega) (by show 1 + 13 ≤ R.locals; omega) (by omega) (by omega) (by omega) dX1_insert_89 ?_
          refine z_top (b := ((min (nm + 1) wt : Nat) : Int)) (by omega) ?_
          refine va_put (D := (dC, dI)) (ci := 1) (v := .int (iI ((min (nm + 1) wt : Nat) : Int))) (ty := .int) (C := RX1) (T := TX1) (N := 4) hx hb hts in_X1 tyX1 tyX1_ok nmX1 hown hK hP hD hS 0 rfl rfl 2 (by decide) fl_18 (fun _ h9 => h9) rfl (by decide +kernel) rfl rfl (Nat.le_of_ble_eq_true rfl) dX1_insert_92 (fun H locs hP hD hS => ?_)
          have hP : va_P (dC, dI) vwCl [(hn0, .inr (1, [.ref al, .ref ad, .int (iI ((min (nm + 1) wt : Nat) : Int)), .int (iI (wt : Int))])), (al, .inl (cI, 12, .inl (iA (zU P9 a pl)))), (ad, .inl (cI, 12, .inl (iA (zU D9 a d))))] H := hP
          have hD : va_D A [(hn0, .inr (1, [.ref al, .ref ad, .int (iI ((min (nm + 1) wt : Nat) : Int)), .int (iI (wt : Int))])), (al, .inl (cI, 12, .inl (iA (zU P9 a pl)))), (ad, .inl (cI, 12, .inl (iA (zU D9 a d))))] := hD
          have eP9 : zU P9 a pl = insF P (scn D d (min nm (wt - 1))) (min nm (wt - 1)) pl := by rw [eP, shf_end, esc]
          have eD9 : zU D9 a d = insF D (scn D d (min nm (wt - 1))) (min nm (wt - 1)) d := by rw [eD, shf_end, esc]
          rw [eP9, eD9] at hP hD
          subst hAe
          exact zw_retv (()) hx hb hr hlocks hQ (trivial) hP hK hD hS dX1_insert_95
        · have h27b : d < D (a - 1) := by omega
          refine lv_aload_n hx hb dX1_insert_30 rfl (lv_at hl 0 rfl) ?_
          refine va_get (D := (dC, dI)) (ci := 1) (v := .ref al) (C := RX1) (T := TX1) (N := 4) hx hb hts in_X1 hown hK hP 0 rfl rfl 0 (by decide) fl_9 (fun _ h9 => h9) rfl dX1_insert_31 ?_
          refine lv_iload_n hx hb dX1_insert_34 rfl (lv_at hl 3 rfl) ?_
          refine lv_aload_n hx hb dX1_insert_35 rfl (lv_at hl 0 rfl) ?_
          refine va_get (D := (dC, dI)) (ci := 1) (v := .ref al) (C := RX1) (T := TX1) (N := 4) hx hb hts in_X1 hown hK hP 0 rfl rfl 0 (by decide) fl_9 (fun _ h9 => h9) rfl dX1_insert_36 ?_
          refine lv_iload_n hx hb dX1_insert_39 rfl (lv_at hl 3 rfl) ?_
          refine lv_iconst (v := iI (1 : Int)) hx hb dX1_insert_40 (by decide) ?_
          refine z_isub hx hb dX1_insert_41 ?_
          refine z_top (b := ((a - 1 : Nat) : Int)) (by omega) ?_
          refine z_iald hx hb hK hP 1 0 rfl rfl (a - 1) (by omega) dX1_insert_42 ?_
          refine z_iast hx hb hK hP hD hS 1 0 rfl rfl a (by omega) dX1_insert_43 (fun H locs hP hD hS => ?_)
          have hP : va_P (dC, dI) vwCl [(hn0, .inr (1, [.ref al, .ref ad, .int (iI (nm : Int)), .int (iI (wt : Int))])), (al, .inl (cI, 12, .inl (iA (zU P9 a (P9 (a - 1)))))), (ad, .inl (cI, 12, .inl (iA D9)))] H := hP
          have hD : va_D A [(hn0, .inr (1, [.ref al, .ref ad, .int (iI (nm : Int)), .int (iI (wt : Int))])), (al, .inl (cI, 12, .inl (iA (zU P9 a (P9 (a - 1)))))), (ad, .inl (cI, 12, .inl (iA D9)))] := hD
          refine lv_aload_n hx hb dX1_insert_44 rfl (lv_at hl 0 rfl) ?_
          refine va_get (D := (dC, dI)) (ci := 1) (v := .ref ad) (C := RX1) (T := TX1) (N := 4) hx hb hts in_X1 hown hK hP 0 rfl rfl 1 (by decide) fl_15 (fun _ h9 => h9) rfl dX1_insert_45 ?_
          refine lv_iload_n hx hb dX1_insert_48 rfl (lv_at hl 3 rfl) ?_
          refine lv_aload_n hx hb dX1_insert_49 rfl (lv_at hl 0 rfl) ?_
          refine va_get (D := (dC, dI)) (ci := 1) (v := .ref ad) (C := RX1) (T := TX1) (N := 4) hx hb hts in_X1 hown hK hP 0 rfl rfl 1 (by decide) fl_15 (fun _ h9 => h9) rfl dX1_insert_50 ?_
          refine lv_iload_n hx hb dX1_insert_53 rfl (lv_at hl 3 rfl) ?_
          refine lv_iconst (v := iI (1 : Int)) hx hb dX1_insert_54 (by decide) ?_
          refine z_isub hx hb dX1_insert_55 ?_
          refine z_top (b := ((a - 1 : Nat) : Int)) (by omega) ?_
          refine z_iald hx hb hK hP 2 0 rfl rfl (a - 1) (by omega) dX1_insert_56 ?_
          refine z_iast hx hb hK hP hD hS 2 0 rfl rfl a (by omega) dX1_insert_57 (fun H locs hP hD hS => ?_)
          have hP : va_P (dC, dI) vwCl [(hn0, .inr (1, [.ref al, .ref ad, .int (iI (nm : Int)), .int (iI (wt : Int))])), (al, .inl (cI, 12, .inl (iA (zU P9 a (P9 (a - 1)))))), (ad, .inl (cI, 12, .inl (iA (zU D9 a (D9 (a - 1))))))] H := hP
          have hD : va_D A [(hn0, .inr (1, [.ref al, .ref ad, .int (iI (nm : Int)), .int (iI (wt : Int))])), (al, .inl (cI, 12, .inl (iA (zU P9 a (P9 (a - 1)))))), (ad, .inl (cI, 12, .inl (iA (zU D9 a (D9 (a - 1))))))] := hD
          refine z_iinc (k := 3) (b := ((a - 1 : Nat) : Int)) (lv' := [(3, .int (iI ((a - 1 : Nat) : Int))), (0, .ref hn0), (1, .int (iI pl)), (2, .int (iI d))]) hx hb dX1_insert_58 hl rfl (by omega) (by decide) rfl (fun ls hl => ?_)
          refine lv_goto (tgt := 14) hx hb dX1_insert_61 (by decide) ?_
          exact ih_lp _ (by omega) (a - 1) (zU P9 a (P9 (a - 1))) (zU D9 a (D9 (a - 1))) H locs ls (by omega) (by rw [eP]; exact shf_step (by omega) ha) (by rw [eD]; exact shf_step (by omega) ha) (by rw [← hsc]; exact (scn_on (by omega) h27b).symm) rfl hP hD hS (lv_sub hl [1, 2, 3, 0] rfl)
  exact lp _ (min nm (wt - 1)) P D _ _ ls (Nat.le_refl _) ((shf_0 _ _).symm) ((shf_0 _ _).symm) (rfl) rfl hP hD hS (lv_sub hl [1, 2, 3, 0] rfl)
