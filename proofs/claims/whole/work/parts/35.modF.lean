set_option maxRecDepth 100000 in
set_option maxHeartbeats 4000000 in
theorem c_turn (l : Launch) (dC : Nat → ClassId) (dI : Nat → Nat → Nat) (cI : ClassId) (m0 mq mn ml ms mr mg mp mpl mdi mc : Nat) (cd : Int) (n w rc sc mo fo : Nat) (pl : Int) (q r G PL DI T : Nat → Int) (sz : Nat) (hn : 2 ≤ n ∧ n ≤ 16) (hw : w ≤ 15) (hvq : vals n q) (hvr : vals n r) (hG : rgA G) (hlk : lok mo (fo, PL, DI, T)) (hmo : 1 ≤ mo ∧ mo ≤ 12) (hfo : fo ≤ mo) : Met l yX3_turn wsX3_turn ({ frames := 4, cells := 0, slots := 0, locals := 90 }) (wrP dC dI [(cI, .int)] [(m0, .inr (3, [.int (iI cd), .int (iI (n : Int)), .int (iI (w : Int)), .ref mq, .int (iI (rc : Int)), .ref mn, .ref ml, .int (iI (sc : Int)), .ref ms, .ref mr, .ref mg, .ref mp, .int (iI (mo : Int)), .int (iI (fo : Int)), .ref mpl, .ref mdi, .ref mc])), (mq, .inl (cI, 16, .inl (iA q))), (mr, .inl (cI, 16, .inl (iA r))), (mg, .inl (cI, 256, .inl (iA G))), (mpl, .inl (cI, 13, .inl (iA PL))), (mdi, .inl (cI, 13, .inl (iA DI))), (mc, .inl (cI, 5, .inl (iA T)))] sz [.ref m0, .int (iI pl)]) (wrQv dC dI [(cI, .int)] [(m0, .inr (3, [.int (iI cd), .int (iI (n : Int)), .int (iI (w : Int)), .ref mq, .int (iI (rc : Int)), .ref mn, .ref ml, .int (iI (sc : Int)), .ref ms, .ref mr, .ref mg, .ref mp, .int (iI (mo : Int)), .int (iI (fo : Int)), .ref mpl, .ref mdi, .ref mc])), (mq, .inl (cI, 16, .inl (iA q))), (mr, .inl (cI, 16, .inl (iA r))), (mg, .inl (cI, 256, .inl (iA G))), (mpl, .inl (cI, 13, .inl (iA PL))), (mdi, .inl (cI, 13, .inl (iA DI))), (mc, .inl (cI, 5, .inl (iA T)))] sz (S := (Lst × (Nat → Int))) (fun u => lsim u.1 (wgh n w q r mo pl (fo, PL, DI, T)) ∧ lok mo u.1 ∧ rgA u.2) (fun u => [(m0, .inr (3, [.int (iI cd), .int (iI (n : Int)), .int (iI (w : Int)), .ref mq, .int (iI (rc : Int)), .ref mn, .ref ml, .int (iI (sc : Int)), .ref ms, .ref mr, .ref mg, .ref mp, .int (iI (mo : Int)), .int (iI ((u.1.1 : Nat) : Int)), .ref mpl, .ref mdi, .ref mc])), (mq, .inl (cI, 16, .inl (iA q))), (mr, .inl (cI, 16, .inl (iA r))), (mg, .inl (cI, 256, .inl (iA u.2))), (mpl, .inl (cI, 13, .inl (iA u.1.2.1))), (mdi, .inl (cI, 13, .inl (iA u.1.2.2.1))), (mc, .inl (cI, 5, .inl (iA u.1.2.2.2)))])) 0 0 (va_A [(m0, .inr (3, [.int (iI cd), .int (iI (n : Int)), .int (iI (w : Int)), .ref mq, .int (iI (rc : Int)), .ref mn, .ref ml, .int (iI (sc : Int)), .ref ms, .ref mr, .ref mg, .ref mp, .int (iI (mo : Int)), .int (iI (fo : Int)), .ref mpl, .ref mdi, .ref mc])), (mq, .inl (cI, 16, .inl (iA q))), (mr, .inl (cI, 16, .inl (iA r))), (mg, .inl (cI, 256, .inl (iA G))), (mpl, .inl (cI, 13, .inl (iA PL))), (mdi, .inl (cI, 13, .inl (iA DI))), (mc, .inl (cI, 5, .inl (iA T)))] sz) := by
  refine Met.ofW (cc := cX3_turn) (maxL := 6) (ret := none) (by decide) rfl ?_
  intro p e s m args below meth c s₁ B hml hv
  obtain ⟨rfl, hsz, hP, hK, hD0⟩ := hv
  have hx := B.exec
  have hb := B.bytes
  have hr := B.returns
  have hts : ∀ w ∈ wsX3_turn, w.before _ s = true := atoms_spec (ws := wsX3_turn) B.pre
  have hown : s.vm.findClass RX3 = some m.cls := findClass_of_methodNamed B.named
  have hlocks := B.notSynchronized
  subst hsz
  have hD := hD0.self (sz := s.heap.size)
  have hA : ∀ q9 : Nat, s.heap.size ≤ q9 → va_A [(m0, .inr (3, [.int (iI cd), .int (iI (n : Int)), .int (iI (w : Int)), .ref mq, .int (iI (rc : Int)), .ref mn, .ref ml, .int (iI (sc : Int)), .ref ms, .ref mr, .ref mg, .ref mp, .int (iI (mo : Int)), .int (iI (fo : Int)), .ref mpl, .ref mdi, .ref mc])), (mq, .inl (cI, 16, .inl (iA q))), (mr, .inl (cI, 16, .inl (iA r))), (mg, .inl (cI, 256, .inl (iA G))), (mpl, .inl (cI, 13, .inl (iA PL))), (mdi, .inl (cI, 13, .inl (iA DI))), (mc, .inl (cI, 5, .inl (iA T)))] s.heap.size q9 := fun q9 h => Or.inr h
  have hS : va_S (va_A [(m0, .inr (3, [.int (iI cd), .int (iI (n : Int)), .int (iI (w : Int)), .ref mq, .int (iI (rc : Int)), .ref mn, .ref ml, .int (iI (sc : Int)), .ref ms, .ref mr, .ref mg, .ref mp, .int (iI (mo : Int)), .int (iI (fo : Int)), .ref mpl, .ref mdi, .ref mc])), (mq, .inl (cI, 16, .inl (iA q))), (mr, .inl (cI, 16, .inl (iA r))), (mg, .inl (cI, 256, .inl (iA G))), (mpl, .inl (cI, 13, .inl (iA PL))), (mdi, .inl (cI, 13, .inl (iA DI))), (mc, .inl (cI, 5, .inl (iA T)))] s.heap.size) s.heap s.heap [] := va_S.rf
  generalize hAe : va_A [(m0, .inr (3, [.int (iI cd), .int (iI (n : Int)), .int (iI (w : Int)), .ref mq, .int (iI (rc : Int)), .ref mn, .ref ml, .int (iI (sc : Int)), .ref ms, .ref mr, .ref mg, .ref mp, .int (iI (mo : Int)), .int (iI (fo : Int)), .ref mpl, .ref mdi, .ref mc])), (mq, .inl (cI, 16, .inl (iA q))), (mr, .inl (cI, 16, .inl (iA r))), (mg, .inl (cI, 256, .inl (iA G))), (mpl, .inl (cI, 13, .inl (iA PL))), (mdi, .inl (cI, 13, .inl (iA DI))), (mc, .inl (cI, 5, .inl (iA T)))] s.heap.size = A at hD hA hS
  have hP : va_P (dC, dI) vwCl [(m0, .inr (3, [.int (iI cd), .int (iI (n : Int)), .int (iI (w : Int)), .ref mq, .int (iI (rc : Int)), .ref mn, .ref ml, .int (iI (sc : Int)), .ref ms, .ref mr, .ref mg, .ref mp, .int (iI (mo : Int)), .int (iI (fo : Int)), .ref mpl, .ref mdi, .ref mc])), (mq, .inl (cI, 16, .inl (iA q))), (mr, .inl (cI, 16, .inl (iA r))), (mg, .inl (cI, 256, .inl (iA G))), (mpl, .inl (cI, 13, .inl (iA PL))), (mdi, .inl (cI, 13, .inl (iA DI))), (mc, .inl (cI, 5, .inl (iA T)))] s.heap := hP
  have hl := lv_entry ([.ref m0, .int (iI pl)]) (n := 6) (Nat.le_of_ble_eq_true rfl)
  rw [lg_entry_eq]
  generalize (lg_sl ([.ref m0, .int (iI pl)]) ++ List.replicate (6 - (lg_sl ([.ref m0, .int (iI pl)])).length) Slot.unset).toArray = ls at hl ⊢
  have hl : lv_has ls 6 [(0, .ref m0), (1, .int (iI pl))] := hl
  generalize hargs : ([.ref m0, .int (iI pl)] : List Value).toArray = args at hts ⊢
  refine z_intro (fun R Q hR hQ => ?_)
  have hRf : R.frames = 4 := by rw [hR]; rfl
  have hRl : R.locals = 90 := by rw [hR]; rfl
  have hRc : R.cells = 0 := by rw [hR]; rfl
  have hRs : R.slots = 0 := by rw [hR]; rfl
  have in_X3 : ∀ w ∈ u_ws RX3 TX3 17, w ∈ wsX3_turn := fun w h => List.mem_cons_of_mem _ (inW_X3 w h)
  have fl_7 := wa_hts hts wd_485
  have fl_35 := wa_hts hts wd_498
  have fl_38 := wa_hts hts wd_499
  have fl_54 := wa_hts hts wd_497
  have fl_94 := wa_hts hts wd_496
  clear hR hargs B
  refine lv_aload_n hx hb dX3_turn_0 rfl (lv_at hl 0 rfl) ?_
  refine va_get (D := (dC, dI)) (ci := 3) (v := .int (iI (fo : Int))) (C := RX3) (T := TX3) (N := 17) hx hb hts in_X3 hown hK hP 0 rfl rfl 13 (by decide) fl_54 (fun _ h9 => h9) rfl dX3_turn_1 ?_
  refine lv_aload_n hx hb dX3_turn_4 rfl (lv_at hl 0 rfl) ?_
  refine va_get (D := (dC, dI)) (ci := 3) (v := .int (iI (mo : Int))) (C := RX3) (T := TX3) (N := 17) hx hb hts in_X3 hown hK hP 0 rfl rfl 12 (by decide) fl_94 (fun _ h9 => h9) rfl dX3_turn_5 ?_
  refine z_icmp_ne (tgt := 15) hx hb dX3_turn_8 (by decide) (by omega) (fun h8 => ?_) (fun h8 => ?_)
  · refine lv_iconst (v := iI (0 : Int)) hx hb dX3_turn_15 (by decide) ?_
    refine lv_istore_n (lv' := [(2, .int (iI (0 : Int))), (0, .ref m0), (1, .int (iI pl))]) hx hb dX3_turn_16 rfl hl (by decide) rfl (fun ls hl => ?_)
    refine lv_iload_n hx hb dX3_turn_17 rfl (lv_at hl 0 rfl) ?_
    refine z_if_eq (tgt := 35) hx hb dX3_turn_18 (by decide) (by decide) (fun _ => ?_) (fun h9 => absurd h9 (by decide))
    refine lv_iconst (v := iI (0 : Int)) hx hb dX3_turn_35 (by decide) ?_
    refine lv_istore_n (lv' := [(3, .int (iI (0 : Int))), (2, .int (iI (0 : Int))), (0, .ref m0), (1, .int (iI pl))]) hx hb dX3_turn_36 rfl hl (by decide) rfl (fun ls hl => ?_)
    have hrD : rgA DI := hlk.2.1
    have rdl := hrD (mo - 1)
    have hfm : fo ≠ mo := by omega
    have hfl : fo ≤ mo := hlk.1
    refine lv_iconst (v := iI (0 : Int)) hx hb dX3_turn_37 (by decide) ?_
    refine lv_istore (lv' := [(4, .int (iI (0 : Int))), (3, .int (iI (0 : Int))), (2, .int (iI (0 : Int))), (0, .ref m0), (1, .int (iI pl))]) hx hb dX3_turn_38 hl (by decide) rfl (fun ls hl => ?_)
    refine lv_iload hx hb dX3_turn_40 (lv_at hl 0 rfl) ?_
    refine lv_iconst (v := iI (3 : Int)) hx hb dX3_turn_42 (by decide) ?_
    refine z_icmp_ge (tgt := 73) hx hb dX3_turn_43 (by decide) (by decide) (fun h9 => absurd h9 (by decide)) (fun _ => ?_)
    refine lv_iload_n hx hb dX3_turn_46 rfl (lv_at hl 2 rfl) ?_
    refine z_if_eq (tgt := 73) hx hb dX3_turn_47 (by decide) (by decide) (fun _ => ?_) (fun h9 => absurd h9 (by decide))
    refine lv_aload_n hx hb dX3_turn_73 rfl (lv_at hl 3 rfl) ?_
    refine lv_iconst (v := iI (3 : Int)) hx hb dX3_turn_74 (by decide) ?_
    refine zw_v (wr := [(mq, .inl (cI, 16, .inl (iA q))), (mr, .inl (cI, 16, .inl (iA r))), (mg, .inl (cI, 256, .inl (iA G))), (mpl, .inl (cI, 13, .inl (iA PL))), (mdi, .inl (cI, 13, .inl (iA DI)))]) (va_runV (As := [.int (iI (3 : Int))]) (rest := []) ⟨hx, hb, hml, hown, hts⟩ (c_tally l dC dI cI m0 mq mn ml ms mr mg mp mpl mdi mc cd n w rc sc mo fo 3 T _ (by omega)) (cwV 1 hts (ga_V wd_626 wd_628 wd_24 wd_31 wd_629) rfl rfl rfl (by decide +kernel) ⟨(show 0 + 1 ≤ R.frames by omega), (show 8 + (2 + 11) + 0 ≤ R.locals by omega)⟩) (wr_preV (q0 := 0) (ci := 3) hP hK hD [0, 6] (by decide) rfl rfl rfl rfl) rfl rfl hl.1 rfl (lv_room (Nat.le_of_ble_eq_true rfl)) dX3_turn_75 ⟨by omega, by omega⟩) hP hD hS hA [0, 6] [1, 2, 3, 4, 5] rfl rfl (by decide) (by decide) (fun u75 H locs hw75 hP hD hS => ?_)
    have hP := hP.sub (ws' := [(m0, .inr (3, [.int (iI cd), .int (iI (n : Int)), .int (iI (w : Int)), .ref mq, .int (iI (rc : Int)), .ref mn, .ref ml, .int (iI (sc : Int)), .ref ms, .ref mr, .ref mg, .ref mp, .int (iI (mo : Int)), .int (iI (fo : Int)), .ref mpl, .ref mdi, .ref mc])), (mq, .inl (cI, 16, .inl (iA q))), (mr, .inl (cI, 16, .inl (iA r))), (mg, .inl (cI, 256, .inl (iA G))), (mpl, .inl (cI, 13, .inl (iA PL))), (mdi, .inl (cI, 13, .inl (iA DI))), (mc, .inl (cI, 5, .inl (iA (bmp T 3))))]) [5, 0, 1, 2, 3, 4, 6] rfl
    have hD := hD.sub (ws' := [(m0, .inr (3, [.int (iI cd), .int (iI (n : Int)), .int (iI (w : Int)), .ref mq, .int (iI (rc : Int)), .ref mn, .ref ml, .int (iI (sc : Int)), .ref ms, .ref mr, .ref mg, .ref mp, .int (iI (mo : Int)), .int (iI (fo : Int)), .ref mpl, .ref mdi, .ref mc])), (mq, .inl (cI, 16, .inl (iA q))), (mr, .inl (cI, 16, .inl (iA r))), (mg, .inl (cI, 256, .inl (iA G))), (mpl, .inl (cI, 13, .inl (iA PL))), (mdi, .inl (cI, 13, .inl (iA DI))), (mc, .inl (cI, 5, .inl (iA (bmp T 3))))]) [5, 0, 1, 2, 3, 4, 6] (by decide) rfl
    refine lv_aload_n hx hb dX3_turn_78 rfl (lv_at hl 3 rfl) ?_
    refine zw_v (wr := [(mpl, .inl (cI, 13, .inl (iA PL))), (mdi, .inl (cI, 13, .inl (iA DI))), (mc, .inl (cI, 5, .inl (iA (bmp T 3))))]) (va_runV (As := []) (rest := []) ⟨hx, hb, hml, hown, hts⟩ (c_fill l dC dI cI m0 mq mn ml ms mr mg mp mpl mdi mc cd n w rc sc mo fo q r G _ hn hw hvq hvr hG) (cwV 0 hts (ga_V wd_575 wd_577 wd_16 wd_31 wd_578) rfl rfl rfl (by decide +kernel) ⟨(show 3 + 1 ≤ R.frames by omega), (show 8 + (5 + 11) + 66 ≤ R.locals by omega)⟩) (wr_preV (q0 := 0) (ci := 3) hP hK hD [0, 1, 2, 3] (by decide) rfl rfl rfl rfl) rfl rfl hl.1 rfl (lv_room (Nat.le_of_ble_eq_true rfl)) dX3_turn_79 ⟨by omega, by omega⟩) hP hD hS hA [0, 1, 2, 3] [4, 5, 6] rfl rfl (by decide) (by decide) (fun u79 H locs hw79 hP hD hS => ?_)
    have hP := hP.sub (ws' := [(m0, .inr (3, [.int (iI cd), .int (iI (n : Int)), .int (iI (w : Int)), .ref mq, .int (iI (rc : Int)), .ref mn, .ref ml, .int (iI (sc : Int)), .ref ms, .ref mr, .ref mg, .ref mp, .int (iI (mo : Int)), .int (iI (fo : Int)), .ref mpl, .ref mdi, .ref mc])), (mq, .inl (cI, 16, .inl (iA q))), (mr, .inl (cI, 16, .inl (iA r))), (mg, .inl (cI, 256, .inl (iA u79))), (mpl, .inl (cI, 13, .inl (iA PL))), (mdi, .inl (cI, 13, .inl (iA DI))), (mc, .inl (cI, 5, .inl (iA (bmp T 3))))]) [3, 4, 5, 6, 0, 1, 2] rfl
    have hD := hD.sub (ws' := [(m0, .inr (3, [.int (iI cd), .int (iI (n : Int)), .int (iI (w : Int)), .ref mq, .int (iI (rc : Int)), .ref mn, .ref ml, .int (iI (sc : Int)), .ref ms, .ref mr, .ref mg, .ref mp, .int (iI (mo : Int)), .int (iI (fo : Int)), .ref mpl, .ref mdi, .ref mc])), (mq, .inl (cI, 16, .inl (iA q))), (mr, .inl (cI, 16, .inl (iA r))), (mg, .inl (cI, 256, .inl (iA u79))), (mpl, .inl (cI, 13, .inl (iA PL))), (mdi, .inl (cI, 13, .inl (iA DI))), (mc, .inl (cI, 5, .inl (iA (bmp T 3))))]) [3, 4, 5, 6, 0, 1, 2] (by decide) rfl
    refine lv_iload_n hx hb dX3_turn_82 rfl (lv_at hl 2 rfl) ?_
    refine z_if_eq (tgt := 100) hx hb dX3_turn_83 (by decide) (by decide) (fun _ => ?_) (fun h9 => absurd h9 (by decide))
    refine lv_aload_n hx hb dX3_turn_100 rfl (lv_at hl 3 rfl) ?_
    refine lv_aload_n hx hb dX3_turn_101 rfl (lv_at hl 3 rfl) ?_
    refine va_get (D := (dC, dI)) (ci := 3) (v := .int (iI (n : Int))) (C := RX3) (T := TX3) (N := 17) hx hb hts in_X3 hown hK hP 0 rfl rfl 1 (by decide) fl_7 (fun _ h9 => h9) rfl dX3_turn_102 ?_
    refine lv_iconst (v := iI (1 : Int)) hx hb dX3_turn_105 (by decide) ?_
    refine z_isub hx hb dX3_turn_106 ?_
    refine z_top (b := ((n - 1 : Nat) : Int)) (by omega) ?_
    refine lv_aload_n hx hb dX3_turn_107 rfl (lv_at hl 3 rfl) ?_
    refine va_get (D := (dC, dI)) (ci := 3) (v := .int (iI (n : Int))) (C := RX3) (T := TX3) (N := 17) hx hb hts in_X3 hown hK hP 0 rfl rfl 1 (by decide) fl_7 (fun _ h9 => h9) rfl dX3_turn_108 ?_
    refine lv_iconst (v := iI (1 : Int)) hx hb dX3_turn_111 (by decide) ?_
    refine z_isub hx hb dX3_turn_112 ?_
    refine z_top (b := ((n - 1 : Nat) : Int)) (by omega) ?_
    refine zr_i (va_runV (As := [.int (iI ((n - 1 : Nat) : Int)), .int (iI ((n - 1 : Nat) : Int))]) (rest := []) ⟨hx, hb, hml, hown, hts⟩ (c_mCostAt l dC dI cI m0 mq mn ml ms mr mg mp mpl mdi mc cd n w rc sc mo fo u79 ((n - 1 : Nat) : Int) ((n - 1 : Nat) : Int) hn hw (by omega) (by omega)) (cwV 2 hts (ga_V wd_583 wd_585 wd_18 wd_31 wd_586) rfl rfl rfl (by decide +kernel) ⟨(show 2 + 1 ≤ R.frames by omega), (show 8 + (3 + 11) + 44 ≤ R.locals by omega)⟩) (rd_preV (q0 := 0) (ci := 3) hP hK [0, 3] rfl rfl rfl) rfl rfl hl.1 rfl (lv_room (Nat.le_of_ble_eq_true rfl)) dX3_turn_113 ⟨by omega, by omega⟩) (fun d9 hd9 => ?_)
    have hcr := cst_rg hvq hvr hn.2 (w := w) (i := n - 1) (j := n - 1) (by omega) (by omega) (by omega)
    have ed9 : d9 = cst w q r (n - 1) (n - 1) := by
      rw [hd9]
      unfold mAt
      rw [if_pos (by omega), show (16 * ((n - 1 : Nat) : Int) + ((n - 1 : Nat) : Int)).toNat = 16 * (n - 1) + (n - 1) by omega]
      exact hw79.2 _ _ (by omega) (by omega) (by omega)
    refine lv_istore (lv' := [(4, .int (iI d9)), (3, .int (iI (0 : Int))), (2, .int (iI (0 : Int))), (0, .ref m0), (1, .int (iI pl))]) hx hb dX3_turn_116 hl (by decide) rfl (fun ls hl => ?_)
    refine lv_iload_n hx hb dX3_turn_118 rfl (lv_at hl 2 rfl) ?_
    refine z_if_eq (tgt := 129) hx hb dX3_turn_119 (by decide) (by decide) (fun _ => ?_) (fun h9 => absurd h9 (by decide))
    refine lv_aload_n hx hb dX3_turn_129 rfl (lv_at hl 3 rfl) ?_
    refine va_get (D := (dC, dI)) (ci := 3) (v := .int (iI (fo : Int))) (C := RX3) (T := TX3) (N := 17) hx hb hts in_X3 hown hK hP 0 rfl rfl 13 (by decide) fl_54 (fun _ h9 => h9) rfl dX3_turn_130 ?_
    refine lv_istore (lv' := [(5, .int (iI (fo : Int))), (4, .int (iI d9)), (3, .int (iI (0 : Int))), (2, .int (iI (0 : Int))), (0, .ref m0), (1, .int (iI pl))]) hx hb dX3_turn_133 hl (by decide) rfl (fun ls hl => ?_)
    have lpi : ∀ (k9 : Nat) (a : Nat) (P9 D9 : Nat → Int) (H : Heap) (locs : List Loc) (ls : Array Slot), (a ≤ fo) → (P9 = shf PL a fo) → (D9 = shf DI a fo) → (scn DI d9 a = scn DI d9 fo) → a = k9 → va_P (dC, dI) vwCl [(m0, .inr (3, [.int (iI cd), .int (iI (n : Int)), .int (iI (w : Int)), .ref mq, .int (iI (rc : Int)), .ref mn, .ref ml, .int (iI (sc : Int)), .ref ms, .ref mr, .ref mg, .ref mp, .int (iI (mo : Int)), .int (iI (fo : Int)), .ref mpl, .ref mdi, .ref mc])), (mq, .inl (cI, 16, .inl (iA q))), (mr, .inl (cI, 16, .inl (iA r))), (mg, .inl (cI, 256, .inl (iA u79))), (mpl, .inl (cI, 13, .inl (iA P9))), (mdi, .inl (cI, 13, .inl (iA D9))), (mc, .inl (cI, 5, .inl (iA (bmp T 3))))] H → va_D A [(m0, .inr (3, [.int (iI cd), .int (iI (n : Int)), .int (iI (w : Int)), .ref mq, .int (iI (rc : Int)), .ref mn, .ref ml, .int (iI (sc : Int)), .ref ms, .ref mr, .ref mg, .ref mp, .int (iI (mo : Int)), .int (iI (fo : Int)), .ref mpl, .ref mdi, .ref mc])), (mq, .inl (cI, 16, .inl (iA q))), (mr, .inl (cI, 16, .inl (iA r))), (mg, .inl (cI, 256, .inl (iA u79))), (mpl, .inl (cI, 13, .inl (iA P9))), (mdi, .inl (cI, 13, .inl (iA D9))), (mc, .inl (cI, 5, .inl (iA (bmp T 3))))] → va_S A s.heap H locs → lv_has ls 6 [(0, .ref m0), (1, .int (iI pl)), (2, .int (iI (0 : Int))), (4, .int (iI d9)), (5, .int (iI (a : Int)))] → W p l e R s m args below meth c H locs 0 0 Q (F0 m 135 ls []) := by
      intro k9
      induction k9 using Nat.strongRecOn with
      | ind k9 ih_lpi =>
        intro a P9 D9 H locs ls ha eP eD hsc hk9 hP hD hS hl
        have hD9 : D9 (a - 1) = DI (a - 1) ∨ a = 0 := by
          by_cases h9 : a = 0
          · exact Or.inr h9
          · rw [eD]; exact Or.inl (shf_at (by omega))
        have rD9 := hrD (a - 1)
        refine lv_iload hx hb dX3_turn_135 (lv_at hl 4 rfl) ?_
        refine z_if_le (tgt := 192) hx hb dX3_turn_137 (by decide) (by omega) (fun h137 => ?_) (fun h137 => ?_)
        · have esc : a = scn DI d9 fo := by
            rw [← hsc]
            exact (scn_stop (by omega)).symm
          refine lv_aload_n hx hb dX3_turn_192 rfl (lv_at hl 0 rfl) ?_
          refine va_get (D := (dC, dI)) (ci := 3) (v := .ref mdi) (C := RX3) (T := TX3) (N := 17) hx hb hts in_X3 hown hK hP 0 rfl rfl 15 (by decide) fl_38 (fun _ h9 => h9) rfl dX3_turn_193 ?_
          refine lv_iload hx hb dX3_turn_196 (lv_at hl 4 rfl) ?_
          refine lv_iload hx hb dX3_turn_198 (lv_at hl 3 rfl) ?_
          refine z_iast hx hb hK hP hD hS 5 0 rfl rfl a (by omega) dX3_turn_200 (fun H locs hP hD hS => ?_)
          have hP : va_P (dC, dI) vwCl [(m0, .inr (3, [.int (iI cd), .int (iI (n : Int)), .int (iI (w : Int)), .ref mq, .int (iI (rc : Int)), .ref mn, .ref ml, .int (iI (sc : Int)), .ref ms, .ref mr, .ref mg, .ref mp, .int (iI (mo : Int)), .int (iI (fo : Int)), .ref mpl, .ref mdi, .ref mc])), (mq, .inl (cI, 16, .inl (iA q))), (mr, .inl (cI, 16, .inl (iA r))), (mg, .inl (cI, 256, .inl (iA u79))), (mpl, .inl (cI, 13, .inl (iA P9))), (mdi, .inl (cI, 13, .inl (iA (zU D9 a d9)))), (mc, .inl (cI, 5, .inl (iA (bmp T 3))))] H := hP
          have hD : va_D A [(m0, .inr (3, [.int (iI cd), .int (iI (n : Int)), .int (iI (w : Int)), .ref mq, .int (iI (rc : Int)), .ref mn, .ref ml, .int (iI (sc : Int)), .ref ms, .ref mr, .ref mg, .ref mp, .int (iI (mo : Int)), .int (iI (fo : Int)), .ref mpl, .ref mdi, .ref mc])), (mq, .inl (cI, 16, .inl (iA q))), (mr, .inl (cI, 16, .inl (iA r))), (mg, .inl (cI, 256, .inl (iA u79))), (mpl, .inl (cI, 13, .inl (iA P9))), (mdi, .inl (cI, 13, .inl (iA (zU D9 a d9)))), (mc, .inl (cI, 5, .inl (iA (bmp T 3))))] := hD
          refine lv_aload_n hx hb dX3_turn_201 rfl (lv_at hl 0 rfl) ?_
          refine va_get (D := (dC, dI)) (ci := 3) (v := .ref mpl) (C := RX3) (T := TX3) (N := 17) hx hb hts in_X3 hown hK hP 0 rfl rfl 14 (by decide) fl_35 (fun _ h9 => h9) rfl dX3_turn_202 ?_
          refine lv_iload hx hb dX3_turn_205 (lv_at hl 4 rfl) ?_
          refine lv_iload_n hx hb dX3_turn_207 rfl (lv_at hl 1 rfl) ?_
          refine z_iast hx hb hK hP hD hS 4 0 rfl rfl a (by omega) dX3_turn_208 (fun H locs hP hD hS => ?_)
          have hP : va_P (dC, dI) vwCl [(m0, .inr (3, [.int (iI cd), .int (iI (n : Int)), .int (iI (w : Int)), .ref mq, .int (iI (rc : Int)), .ref mn, .ref ml, .int (iI (sc : Int)), .ref ms, .ref mr, .ref mg, .ref mp, .int (iI (mo : Int)), .int (iI (fo : Int)), .ref mpl, .ref mdi, .ref mc])), (mq, .inl (cI, 16, .inl (iA q))), (mr, .inl (cI, 16, .inl (iA r))), (mg, .inl (cI, 256, .inl (iA u79))), (mpl, .inl (cI, 13, .inl (iA (zU P9 a pl)))), (mdi, .inl (cI, 13, .inl (iA (zU D9 a d9)))), (mc, .inl (cI, 5, .inl (iA (bmp T 3))))] H := hP
          have hD : va_D A [(m0, .inr (3, [.int (iI cd), .int (iI (n : Int)), .int (iI (w : Int)), .ref mq, .int (iI (rc : Int)), .ref mn, .ref ml, .int (iI (sc : Int)), .ref ms, .ref mr, .ref mg, .ref mp, .int (iI (mo : Int)), .int (iI (fo : Int)), .ref mpl, .ref mdi, .ref mc])), (mq, .inl (cI, 16, .inl (iA q))), (mr, .inl (cI, 16, .inl (iA r))), (mg, .inl (cI, 256, .inl (iA u79))), (mpl, .inl (cI, 13, .inl (iA (zU P9 a pl)))), (mdi, .inl (cI, 13, .inl (iA (zU D9 a d9)))), (mc, .inl (cI, 5, .inl (iA (bmp T 3))))] := hD
          refine lv_aload_n hx hb dX3_turn_209 rfl (lv_at hl 0 rfl) ?_
          refine lv_aload_n hx hb dX3_turn_210 rfl (lv_at hl 0 rfl) ?_
          refine va_get (D := (dC, dI)) (ci := 3) (v := .int (iI (fo : Int))) (C := RX3) (T := TX3) (N := 17) hx hb hts in_X3 hown hK hP 0 rfl rfl 13 (by decide) fl_54 (fun _ h9 => h9) rfl dX3_turn_211 ?_
          refine lv_aload_n hx hb dX3_turn_214 rfl (lv_at hl 0 rfl) ?_
          refine va_get (D := (dC, dI)) (ci := 3) (v := .int (iI (mo : Int))) (C := RX3) (T := TX3) (N := 17) hx hb hts in_X3 hown hK hP 0 rfl rfl 12 (by decide) fl_94 (fun _ h9 => h9) rfl dX3_turn_215 ?_
          refine z_icmp_ge (tgt := 230) hx hb dX3_turn_218 (by decide) (by omega) (fun h218 => ?_) (fun h218 => ?_)
          · refine lv_aload_n hx hb dX3_turn_230 rfl (lv_at hl 0 rfl) ?_
            refine va_get (D := (dC, dI)) (ci := 3) (v := .int (iI (mo : Int))) (C := RX3) (T := TX3) (N := 17) hx hb hts in_X3 hown hK hP 0 rfl rfl 12 (by decide) fl_94 (fun _ h9 => h9) rfl dX3_turn_231 ?_
            refine z_top (b := ((min (fo + 1) mo : Nat) : Int)) (by omega) ?_
            refine va_put (D := (dC, dI)) (ci := 3) (v := .int (iI ((min (fo + 1) mo : Nat) : Int))) (ty := .int) (C := RX3) (T := TX3) (N := 17) hx hb hts in_X3 tyX3 tyX3_ok nmX3 hown hK hP hD hS 0 rfl rfl 13 (by decide) fl_54 (fun _ h9 => h9) rfl (by decide +kernel) rfl rfl (Nat.le_of_ble_eq_true rfl) dX3_turn_234 (fun H locs hP hD hS => ?_)
            have hP : va_P (dC, dI) vwCl [(m0, .inr (3, [.int (iI cd), .int (iI (n : Int)), .int (iI (w : Int)), .ref mq, .int (iI (rc : Int)), .ref mn, .ref ml, .int (iI (sc : Int)), .ref ms, .ref mr, .ref mg, .ref mp, .int (iI (mo : Int)), .int (iI ((min (fo + 1) mo : Nat) : Int)), .ref mpl, .ref mdi, .ref mc])), (mq, .inl (cI, 16, .inl (iA q))), (mr, .inl (cI, 16, .inl (iA r))), (mg, .inl (cI, 256, .inl (iA u79))), (mpl, .inl (cI, 13, .inl (iA (zU P9 a pl)))), (mdi, .inl (cI, 13, .inl (iA (zU D9 a d9)))), (mc, .inl (cI, 5, .inl (iA (bmp T 3))))] H := hP
            have hD : va_D A [(m0, .inr (3, [.int (iI cd), .int (iI (n : Int)), .int (iI (w : Int)), .ref mq, .int (iI (rc : Int)), .ref mn, .ref ml, .int (iI (sc : Int)), .ref ms, .ref mr, .ref mg, .ref mp, .int (iI (mo : Int)), .int (iI ((min (fo + 1) mo : Nat) : Int)), .ref mpl, .ref mdi, .ref mc])), (mq, .inl (cI, 16, .inl (iA q))), (mr, .inl (cI, 16, .inl (iA r))), (mg, .inl (cI, 256, .inl (iA u79))), (mpl, .inl (cI, 13, .inl (iA (zU P9 a pl)))), (mdi, .inl (cI, 13, .inl (iA (zU D9 a d9)))), (mc, .inl (cI, 5, .inl (iA (bmp T 3))))] := hD
            have eP9 : zU P9 a pl = insF PL (scn DI (cst w q r (n - 1) (n - 1)) fo) fo pl := by rw [eP, shf_end, esc, ed9]
            have eD9 : zU D9 a d9 = insF DI (scn DI (cst w q r (n - 1) (n - 1)) fo) fo (cst w q r (n - 1) (n - 1)) := by rw [eD, shf_end, esc, ed9]
            rw [eP9, eD9] at hP hD
            subst hAe
            exact zw_retv (((min (fo + 1) mo, insF PL (scn DI (cst w q r (n - 1) (n - 1)) fo) fo pl, insF DI (scn DI (cst w q r (n - 1) (n - 1)) fo) fo (cst w q r (n - 1) (n - 1)), bmp T 3), u79)) hx hb hr hlocks hQ (⟨ins_sim (by omega) hlk.1 (Or.inl hfm), lok_ins (pl := pl) hlk hcr, hw79.1⟩) hP hK hD hS dX3_turn_237
          · refine lv_aload_n hx hb dX3_turn_221 rfl (lv_at hl 0 rfl) ?_
            refine va_get (D := (dC, dI)) (ci := 3) (v := .int (iI (fo : Int))) (C := RX3) (T := TX3) (N := 17) hx hb hts in_X3 hown hK hP 0 rfl rfl 13 (by decide) fl_54 (fun _ h9 => h9) rfl dX3_turn_222 ?_
            refine lv_iconst (v := iI (1 : Int)) hx hb dX3_turn_225 (by decide) ?_
            refine z_iadd hx hb dX3_turn_226 ?_
            refine lv_goto (tgt := 234) hx hb dX3_turn_227 (by decide) ?_
            refine z_top (b := ((min (fo + 1) mo : Nat) : Int)) (by omega) ?_
            refine va_put (D := (dC, dI)) (ci := 3) (v := .int (iI ((min (fo + 1) mo : Nat) : Int))) (ty := .int) (C := RX3) (T := TX3) (N := 17) hx hb hts in_X3 tyX3 tyX3_ok nmX3 hown hK hP hD hS 0 rfl rfl 13 (by decide) fl_54 (fun _ h9 => h9) rfl (by decide +kernel) rfl rfl (Nat.le_of_ble_eq_true rfl) dX3_turn_234 (fun H locs hP hD hS => ?_)
            have hP : va_P (dC, dI) vwCl [(m0, .inr (3, [.int (iI cd), .int (iI (n : Int)), .int (iI (w : Int)), .ref mq, .int (iI (rc : Int)), .ref mn, .ref ml, .int (iI (sc : Int)), .ref ms, .ref mr, .ref mg, .ref mp, .int (iI (mo : Int)), .int (iI ((min (fo + 1) mo : Nat) : Int)), .ref mpl, .ref mdi, .ref mc])), (mq, .inl (cI, 16, .inl (iA q))), (mr, .inl (cI, 16, .inl (iA r))), (mg, .inl (cI, 256, .inl (iA u79))), (mpl, .inl (cI, 13, .inl (iA (zU P9 a pl)))), (mdi, .inl (cI, 13, .inl (iA (zU D9 a d9)))), (mc, .inl (cI, 5, .inl (iA (bmp T 3))))] H := hP
            have hD : va_D A [(m0, .inr (3, [.int (iI cd), .int (iI (n : Int)), .int (iI (w : Int)), .ref mq, .int (iI (rc : Int)), .ref mn, .ref ml, .int (iI (sc : Int)), .ref ms, .ref mr, .ref mg, .ref mp, .int (iI (mo : Int)), .int (iI ((min (fo + 1) mo : Nat) : Int)), .ref mpl, .ref mdi, .ref mc])), (mq, .inl (cI, 16, .inl (iA q))), (mr, .inl (cI, 16, .inl (iA r))), (mg, .inl (cI, 256, .inl (iA u79))), (mpl, .inl (cI, 13, .inl (iA (zU P9 a pl)))), (mdi, .inl (cI, 13, .inl (iA (zU D9 a d9)))), (mc, .inl (cI, 5, .inl (iA (bmp T 3))))] := hD
            have eP9 : zU P9 a pl = insF PL (scn DI (cst w q r (n - 1) (n - 1)) fo) fo pl := by rw [eP, shf_end, esc, ed9]
            have eD9 : zU D9 a d9 = insF DI (scn DI (cst w q r (n - 1) (n - 1)) fo) fo (cst w q r (n - 1) (n - 1)) := by rw [eD, shf_end, esc, ed9]
            rw [eP9, eD9] at hP hD
            subst hAe
            exact zw_retv (((min (fo + 1) mo, insF PL (scn DI (cst w q r (n - 1) (n - 1)) fo) fo pl, insF DI (scn DI (cst w q r (n - 1) (n - 1)) fo) fo (cst w q r (n - 1) (n - 1)), bmp T 3), u79)) hx hb hr hlocks hQ (⟨ins_sim (by omega) hlk.1 (Or.inl hfm), lok_ins (pl := pl) hlk hcr, hw79.1⟩) hP hK hD hS dX3_turn_237
        · refine lv_aload_n hx hb dX3_turn_140 rfl (lv_at hl 0 rfl) ?_
          refine va_get (D := (dC, dI)) (ci := 3) (v := .ref mdi) (C := RX3) (T := TX3) (N := 17) hx hb hts in_X3 hown hK hP 0 rfl rfl 15 (by decide) fl_38 (fun _ h9 => h9) rfl dX3_turn_141 ?_
          refine lv_iload hx hb dX3_turn_144 (lv_at hl 4 rfl) ?_
          refine lv_iconst (v := iI (1 : Int)) hx hb dX3_turn_146 (by decide) ?_
          refine z_isub hx hb dX3_turn_147 ?_
          refine z_top (b := ((a - 1 : Nat) : Int)) (by omega) ?_
          refine z_iald hx hb hK hP 5 0 rfl rfl (a - 1) (by omega) dX3_turn_148 ?_
          have eD9 : D9 (a - 1) = DI (a - 1) := by omega
          have rD9b : -2147483648 ≤ D9 (a - 1) ∧ D9 (a - 1) ≤ 2147483647 := by omega
          refine lv_iload hx hb dX3_turn_149 (lv_at hl 3 rfl) ?_
          refine z_icmp_le (tgt := 192) hx hb dX3_turn_151 (by decide) (by omega) (fun h151 => ?_) (fun h151 => ?_)
          · have esc : a = scn DI d9 fo := by
              rw [← hsc]
              exact (scn_stop (by omega)).symm
            refine lv_aload_n hx hb dX3_turn_192 rfl (lv_at hl 0 rfl) ?_
            refine va_get (D := (dC, dI)) (ci := 3) (v := .ref mdi) (C := RX3) (T := TX3) (N := 17) hx hb hts in_X3 hown hK hP 0 rfl rfl 15 (by decide) fl_38 (fun _ h9 => h9) rfl dX3_turn_193 ?_
            refine lv_iload hx hb dX3_turn_196 (lv_at hl 4 rfl) ?_
            refine lv_iload hx hb dX3_turn_198 (lv_at hl 3 rfl) ?_
            refine z_iast hx hb hK hP hD hS 5 0 rfl rfl a (by omega) dX3_turn_200 (fun H locs hP hD hS => ?_)
            have hP : va_P (dC, dI) vwCl [(m0, .inr (3, [.int (iI cd), .int (iI (n : Int)), .int (iI (w : Int)), .ref mq, .int (iI (rc : Int)), .ref mn, .ref ml, .int (iI (sc : Int)), .ref ms, .ref mr, .ref mg, .ref mp, .int (iI (mo : Int)), .int (iI (fo : Int)), .ref mpl, .ref mdi, .ref mc])), (mq, .inl (cI, 16, .inl (iA q))), (mr, .inl (cI, 16, .inl (iA r))), (mg, .inl (cI, 256, .inl (iA u79))), (mpl, .inl (cI, 13, .inl (iA P9))), (mdi, .inl (cI, 13, .inl (iA (zU D9 a d9)))), (mc, .inl (cI, 5, .inl (iA (bmp T 3))))] H := hP
            have hD : va_D A [(m0, .inr (3, [.int (iI cd), .int (iI (n : Int)), .int (iI (w : Int)), .ref mq, .int (iI (rc : Int)), .ref mn, .ref ml, .int (iI (sc : Int)), .ref ms, .ref mr, .ref mg, .ref mp, .int (iI (mo : Int)), .int (iI (fo : Int)), .ref mpl, .ref mdi, .ref mc])), (mq, .inl (cI, 16, .inl (iA q))), (mr, .inl (cI, 16, .inl (iA r))), (mg, .inl (cI, 256, .inl (iA u79))), (mpl, .inl (cI, 13, .inl (iA P9))), (mdi, .inl (cI, 13, .inl (iA (zU D9 a d9)))), (mc, .inl (cI, 5, .inl (iA (bmp T 3))))] := hD
            refine lv_aload_n hx hb dX3_turn_201 rfl (lv_at hl 0 rfl) ?_
            refine va_get (D := (dC, dI)) (ci := 3) (v := .ref mpl) (C := RX3) (T := TX3) (N := 17) hx hb hts in_X3 hown hK hP 0 rfl rfl 14 (by decide) fl_35 (fun _ h9 => h9) rfl dX3_turn_202 ?_
            refine lv_iload hx hb dX3_turn_205 (lv_at hl 4 rfl) ?_
            refine lv_iload_n hx hb dX3_turn_207 rfl (lv_at hl 1 rfl) ?_
            refine z_iast hx hb hK hP hD hS 4 0 rfl rfl a (by omega) dX3_turn_208 (fun H locs hP hD hS => ?_)
            have hP : va_P (dC, dI) vwCl [(m0, .inr (3, [.int (iI cd), .int (iI (n : Int)), .int (iI (w : Int)), .ref mq, .int (iI (rc : Int)), .ref mn, .ref ml, .int (iI (sc : Int)), .ref ms, .ref mr, .ref mg, .ref mp, .int (iI (mo : Int)), .int (iI (fo : Int)), .ref mpl, .ref mdi, .ref mc])), (mq, .inl (cI, 16, .inl (iA q))), (mr, .inl (cI, 16, .inl (iA r))), (mg, .inl (cI, 256, .inl (iA u79))), (mpl, .inl (cI, 13, .inl (iA (zU P9 a pl)))), (mdi, .inl (cI, 13, .inl (iA (zU D9 a d9)))), (mc, .inl (cI, 5, .inl (iA (bmp T 3))))] H := hP
            have hD : va_D A [(m0, .inr (3, [.int (iI cd), .int (iI (n : Int)), .int (iI (w : Int)), .ref mq, .int (iI (rc : Int)), .ref mn, .ref ml, .int (iI (sc : Int)), .ref ms, .ref mr, .ref mg, .ref mp, .int (iI (mo : Int)), .int (iI (fo : Int)), .ref mpl, .ref mdi, .ref mc])), (mq, .inl (cI, 16, .inl (iA q))), (mr, .inl (cI, 16, .inl (iA r))), (mg, .inl (cI, 256, .inl (iA u79))), (mpl, .inl (cI, 13, .inl (iA (zU P9 a pl)))), (mdi, .inl (cI, 13, .inl (iA (zU D9 a d9)))), (mc, .inl (cI, 5, .inl (iA (bmp T 3))))] := hD
            refine lv_aload_n hx hb dX3_turn_209 rfl (lv_at hl 0 rfl) ?_
            refine lv_aload_n hx hb dX3_turn_210 rfl (lv_at hl 0 rfl) ?_
            refine va_get (D := (dC, dI)) (ci := 3) (v := .int (iI (fo : Int))) (C := RX3) (T := TX3) (N := 17) hx hb hts in_X3 hown hK hP 0 rfl rfl 13 (by decide) fl_54 (fun _ h9 => h9) rfl dX3_turn_211 ?_
            refine lv_aload_n hx hb dX3_turn_214 rfl (lv_at hl 0 rfl) ?_
            refine va_get (D := (dC, dI)) (ci := 3) (v := .int (iI (mo : Int))) (C := RX3) (T := TX3) (N := 17) hx hb hts in_X3 hown hK hP 0 rfl rfl 12 (by decide) fl_94 (fun _ h9 => h9) rfl dX3_turn_215 ?_
            refine z_icmp_ge (tgt := 230) hx hb dX3_turn_218 (by decide) (by omega) (fun h218 => ?_) (fun h218 => ?_)
            · refine lv_aload_n hx hb dX3_turn_230 rfl (lv_at hl 0 rfl) ?_
              refine va_get (D := (dC, dI)) (ci := 3) (v := .int (iI (mo : Int))) (C := RX3) (T := TX3) (N := 17) hx hb hts in_X3 hown hK hP 0 rfl rfl 12 (by decide) fl_94 (fun _ h9 => h9) rfl dX3_turn_231 ?_
              refine z_top (b := ((min (fo + 1) mo : Nat) : Int)) (by omega) ?_
              refine va_put (D := (dC, dI)) (ci := 3) (v := .int (iI ((min (fo + 1) mo : Nat) : Int))) (ty := .int) (C := RX3) (T := TX3) (N := 17) hx hb hts in_X3 tyX3 tyX3_ok nmX3 hown hK hP hD hS 0 rfl rfl 13 (by decide) fl_54 (fun _ h9 => h9) rfl (by decide +kernel) rfl rfl (Nat.le_of_ble_eq_true rfl) dX3_turn_234 (fun H locs hP hD hS => ?_)
              have hP : va_P (dC, dI) vwCl [(m0, .inr (3, [.int (iI cd), .int (iI (n : Int)), .int (iI (w : Int)), .ref mq, .int (iI (rc : Int)), .ref mn, .ref ml, .int (iI (sc : Int)), .ref ms, .ref mr, .ref mg, .ref mp, .int (iI (mo : Int)), .int (iI ((min (fo + 1) mo : Nat) : Int)), .ref mpl, .ref mdi, .ref mc])), (mq, .inl (cI, 16, .inl (iA q))), (mr, .inl (cI, 16, .inl (iA r))), (mg, .inl (cI, 256, .inl (iA u79))), (mpl, .inl (cI, 13, .inl (iA (zU P9 a pl)))), (mdi, .inl (cI, 13, .inl (iA (zU D9 a d9)))), (mc, .inl (cI, 5, .inl (iA (bmp T 3))))] H := hP
              have hD : va_D A [(m0, .inr (3, [.int (iI cd), .int (iI (n : Int)), .int (iI (w : Int)), .ref mq, .int (iI (rc : Int)), .ref mn, .ref ml, .int (iI (sc : Int)), .ref ms, .ref mr, .ref mg, .ref mp, .int (iI (mo : Int)), .int (iI ((min (fo + 1) mo : Nat) : Int)), .ref mpl, .ref mdi, .ref mc])), (mq, .inl (cI, 16, .inl (iA q))), (mr, .inl (cI, 16, .inl (iA r))), (mg, .inl (cI, 256, .inl (iA u79))), (mpl, .inl (cI, 13, .inl (iA (zU P9 a pl)))), (mdi, .inl (cI, 13, .inl (iA (zU D9 a d9)))), (mc, .inl (cI, 5, .inl (iA (bmp T 3))))] := hD
              have eP9 : zU P9 a pl = insF PL (scn DI (cst w q r (n - 1) (n - 1)) fo) fo pl := by rw [eP, shf_end, esc, ed9]
              have eD9 : zU D9 a d9 = insF DI (scn DI (cst w q r (n - 1) (n - 1)) fo) fo (cst w q r (n - 1) (n - 1)) := by rw [eD, shf_end, esc, ed9]
              rw [eP9, eD9] at hP hD
              subst hAe
              exact zw_retv (((min (fo + 1) mo, insF PL (scn DI (cst w q r (n - 1) (n - 1)) fo) fo pl, insF DI (scn DI (cst w q r (n - 1) (n - 1)) fo) fo (cst w q r (n - 1) (n - 1)), bmp T 3), u79)) hx hb hr hlocks hQ (⟨ins_sim (by omega) hlk.1 (Or.inl hfm), lok_ins (pl := pl) hlk hcr, hw79.1⟩) hP hK hD hS dX3_turn_237
            · refine lv_aload_n hx hb dX3_turn_221 rfl (lv_at hl 0 rfl) ?_
              refine va_get (D := (dC, dI)) (ci := 3) (v := .int (iI (fo : Int))) (C := RX3) (T := TX3) (N := 17) hx hb hts in_X3 hown hK hP 0 rfl rfl 13 (by decide) fl_54 (fun _ h9 => h9) rfl dX3_turn_222 ?_
              refine lv_iconst (v := iI (1 : Int)) hx hb dX3_turn_225 (by decide) ?_
              refine z_iadd hx hb dX3_turn_226 ?_
              refine lv_goto (tgt := 234) hx hb dX3_turn_227 (by decide) ?_
              refine z_top (b := ((min (fo + 1) mo : Nat) : Int)) (by omega) ?_
              refine va_put (D := (dC, dI)) (ci := 3) (v := .int (iI ((min (fo + 1) mo : Nat) : Int))) (ty := .int) (C := RX3) (T := TX3) (N := 17) hx hb hts in_X3 tyX3 tyX3_ok nmX3 hown hK hP hD hS 0 rfl rfl 13 (by decide) fl_54 (fun _ h9 => h9) rfl (by decide +kernel) rfl rfl (Nat.le_of_ble_eq_true rfl) dX3_turn_234 (fun H locs hP hD hS => ?_)
              have hP : va_P (dC, dI) vwCl [(m0, .inr (3, [.int (iI cd), .int (iI (n : Int)), .int (iI (w : Int)), .ref mq, .int (iI (rc : Int)), .ref mn, .ref ml, .int (iI (sc : Int)), .ref ms, .ref mr, .ref mg, .ref mp, .int (iI (mo : Int)), .int (iI ((min (fo + 1) mo : Nat) : Int)), .ref mpl, .ref mdi, .ref mc])), (mq, .inl (cI, 16, .inl (iA q))), (mr, .inl (cI, 16, .inl (iA r))), (mg, .inl (cI, 256, .inl (iA u79))), (mpl, .inl (cI, 13, .inl (iA (zU P9 a pl)))), (mdi, .inl (cI, 13, .inl (iA (zU D9 a d9)))), (mc, .inl (cI, 5, .inl (iA (bmp T 3))))] H := hP
              have hD : va_D A [(m0, .inr (3, [.int (iI cd), .int (iI (n : Int)), .int (iI (w : Int)), .ref mq, .int (iI (rc : Int)), .ref mn, .ref ml, .int (iI (sc : Int)), .ref ms, .ref mr, .ref mg, .ref mp, .int (iI (mo : Int)), .int (iI ((min (fo + 1) mo : Nat) : Int)), .ref mpl, .ref mdi, .ref mc])), (mq, .inl (cI, 16, .inl (iA q))), (mr, .inl (cI, 16, .inl (iA r))), (mg, .inl (cI, 256, .inl (iA u79))), (mpl, .inl (cI, 13, .inl (iA (zU P9 a pl)))), (mdi, .inl (cI, 13, .inl (iA (zU D9 a d9)))), (mc, .inl (cI, 5, .inl (iA (bmp T 3))))] := hD
              have eP9 : zU P9 a pl = insF PL (scn DI (cst w q r (n - 1) (n - 1)) fo) fo pl := by rw [eP, shf_end, esc, ed9]
              have eD9 : zU D9 a d9 = insF DI (scn DI (cst w q r (n - 1) (n - 1)) fo) fo (cst w q r (n - 1) (n - 1)) := by rw [eD, shf_end, esc, ed9]
              rw [eP9, eD9] at hP hD
              subst hAe
              exact zw_retv (((min (fo + 1) mo, insF PL (scn DI (cst w q r (n - 1) (n - 1)) fo) fo pl, insF DI (scn DI (cst w q r (n - 1) (n - 1)) fo) fo (cst w q r (n - 1) (n - 1)), bmp T 3), u79)) hx hb hr hlocks hQ (⟨ins_sim (by omega) hlk.1 (Or.inl hfm), lok_ins (pl := pl) hlk hcr, hw79.1⟩) hP hK hD hS dX3_turn_237
          · have h151b : d9 < DI (a - 1) := by omega
            refine lv_aload_n hx hb dX3_turn_154 rfl (lv_at hl 0 rfl) ?_
            refine va_get (D := (dC, dI)) (ci := 3) (v := .ref mdi) (C := RX3) (T := TX3) (N := 17) hx hb hts in_X3 hown hK hP 0 rfl rfl 15 (by decide) fl_38 (fun _ h9 => h9) rfl dX3_turn_155 ?_
            refine lv_iload hx hb dX3_turn_158 (lv_at hl 4 rfl) ?_
            refine lv_aload_n hx hb dX3_turn_160 rfl (lv_at hl 0 rfl) ?_
            refine va_get (D := (dC, dI)) (ci := 3) (v := .ref mdi) (C := RX3) (T := TX3) (N := 17) hx hb hts in_X3 hown hK hP 0 rfl rfl 15 (by decide) fl_38 (fun _ h9 => h9) rfl dX3_turn_161 ?_
            refine lv_iload hx hb dX3_turn_164 (lv_at hl 4 rfl) ?_
            refine lv_iconst (v := iI (1 : Int)) hx hb dX3_turn_166 (by decide) ?_
            refine z_isub hx hb dX3_turn_167 ?_
            refine z_top (b := ((a - 1 : Nat) : Int)) (by omega) ?_
            refine z_iald hx hb hK hP 5 0 rfl rfl (a - 1) (by omega) dX3_turn_168 ?_
            refine z_iast hx hb hK hP hD hS 5 0 rfl rfl a (by omega) dX3_turn_169 (fun H locs hP hD hS => ?_)
            have hP : va_P (dC, dI) vwCl [(m0, .inr (3, [.int (iI cd), .int (iI (n : Int)), .int (iI (w : Int)), .ref mq, .int (iI (rc : Int)), .ref mn, .ref ml, .int (iI (sc : Int)), .ref ms, .ref mr, .ref mg, .ref mp, .int (iI (mo : Int)), .int (iI (fo : Int)), .ref mpl, .ref mdi, .ref mc])), (mq, .inl (cI, 16, .inl (iA q))), (mr, .inl (cI, 16, .inl (iA r))), (mg, .inl (cI, 256, .inl (iA u79))), (mpl, .inl (cI, 13, .inl (iA P9))), (mdi, .inl (cI, 13, .inl (iA (zU D9 a (D9 (a - 1)))))), (mc, .inl (cI, 5, .inl (iA (bmp T 3))))] H := hP
            have hD : va_D A [(m0, .inr (3, [.int (iI cd), .int (iI (n : Int)), .int (iI (w : Int)), .ref mq, .int (iI (rc : Int)), .ref mn, .ref ml, .int (iI (sc : Int)), .ref ms, .ref mr, .ref mg, .ref mp, .int (iI (mo : Int)), .int (iI (fo : Int)), .ref mpl, .ref mdi, .ref mc])), (mq, .inl (cI, 16, .inl (iA q))), (mr, .inl (cI, 16, .inl (iA r))), (mg, .inl (cI, 256, .inl (iA u79))), (mpl, .inl (cI, 13, .inl (iA P9))), (mdi, .inl (cI, 13, .inl (iA (zU D9 a (D9 (a - 1)))))), (mc, .inl (cI, 5, .inl (iA (bmp T 3))))] := hD
            refine lv_aload_n hx hb dX3_turn_170 rfl (lv_at hl 0 rfl) ?_
            refine va_get (D := (dC, dI)) (ci := 3) (v := .ref mpl) (C := RX3) (T := TX3) (N := 17) hx hb hts in_X3 hown hK hP 0 rfl rfl 14 (by decide) fl_35 (fun _ h9 => h9) rfl dX3_turn_171 ?_
            refine lv_iload hx hb dX3_turn_174 (lv_at hl 4 rfl) ?_
            refine lv_aload_n hx hb dX3_turn_176 rfl (lv_at hl 0 rfl) ?_
            refine va_get (D := (dC, dI)) (ci := 3) (v := .ref mpl) (C := RX3) (T := TX3) (N := 17) hx hb hts in_X3 hown hK hP 0 rfl rfl 14 (by decide) fl_35 (fun _ h9 => h9) rfl dX3_turn_177 ?_
            refine lv_iload hx hb dX3_turn_180 (lv_at hl 4 rfl) ?_
            refine lv_iconst (v := iI (1 : Int)) hx hb dX3_turn_182 (by decide) ?_
            refine z_isub hx hb dX3_turn_183 ?_
            refine z_top (b := ((a - 1 : Nat) : Int)) (by omega) ?_
            refine z_iald hx hb hK hP 4 0 rfl rfl (a - 1) (by omega) dX3_turn_184 ?_
            refine z_iast hx hb hK hP hD hS 4 0 rfl rfl a (by omega) dX3_turn_185 (fun H locs hP hD hS => ?_)
            have hP : va_P (dC, dI) vwCl [(m0, .inr (3, [.int (iI cd), .int (iI (n : Int)), .int (iI (w : Int)), .ref mq, .int (iI (rc : Int)), .ref mn, .ref ml, .int (iI (sc : Int)), .ref ms, .ref mr, .ref mg, .ref mp, .int (iI (mo : Int)), .int (iI (fo : Int)), .ref mpl, .ref mdi, .ref mc])), (mq, .inl (cI, 16, .inl (iA q))), (mr, .inl (cI, 16, .inl (iA r))), (mg, .inl (cI, 256, .inl (iA u79))), (mpl, .inl (cI, 13, .inl (iA (zU P9 a (P9 (a - 1)))))), (mdi, .inl (cI, 13, .inl (iA (zU D9 a (D9 (a - 1)))))), (mc, .inl (cI, 5, .inl (iA (bmp T 3))))] H := hP
            have hD : va_D A [(m0, .inr (3, [.int (iI cd), .int (iI (n : Int)), .int (iI (w : Int)), .ref mq, .int (iI (rc : Int)), .ref mn, .ref ml, .int (iI (sc : Int)), .ref ms, .ref mr, .ref mg, .ref mp, .int (iI (mo : Int)), .int (iI (fo : Int)), .ref mpl, .ref mdi, .ref mc])), (mq, .inl (cI, 16, .inl (iA q))), (mr, .inl (cI, 16, .inl (iA r))), (mg, .inl (cI, 256, .inl (iA u79))), (mpl, .inl (cI, 13, .inl (iA (zU P9 a (P9 (a - 1)))))), (mdi, .inl (cI, 13, .inl (iA (zU D9 a (D9 (a - 1)))))), (mc, .inl (cI, 5, .inl (iA (bmp T 3))))] := hD
            refine z_iinc (k := 4) (b := ((a - 1 : Nat) : Int)) (lv' := [(5, .int (iI ((a - 1 : Nat) : Int))), (0, .ref m0), (1, .int (iI pl)), (2, .int (iI (0 : Int))), (4, .int (iI d9))]) hx hb dX3_turn_186 hl rfl (by omega) (by decide) rfl (fun ls hl => ?_)
            refine lv_goto (tgt := 135) hx hb dX3_turn_189 (by decide) ?_
            exact ih_lpi _ (by omega) (a - 1) (zU P9 a (P9 (a - 1))) (zU D9 a (D9 (a - 1))) H locs ls (by omega) (by rw [eP]; exact shf_step (by omega) ha) (by rw [eD]; exact shf_step (by omega) ha) (by rw [← hsc]; exact (scn_on (by omega) h151b).symm) rfl hP hD hS (lv_sub hl [1, 2, 3, 4, 0] rfl)
    exact lpi _ fo PL DI _ _ ls (Nat.le_refl _) ((shf_0 _ _).symm) ((shf_0 _ _).symm) (rfl) rfl hP hD hS (lv_sub hl [4, 5, 3, 1, 0] rfl)
  · refine lv_iconst (v := iI (1 : Int)) hx hb dX3_turn_11 (by decide) ?_
    refine lv_goto (tgt := 16) hx hb dX3_turn_12 (by decide) ?_
    refine lv_istore_n (lv' := [(2, .int (iI (1 : Int))), (0, .ref m0), (1, .int (iI pl))]) hx hb dX3_turn_16 rfl hl (by decide) rfl (fun ls hl => ?_)
    refine lv_iload_n hx hb dX3_turn_17 rfl (lv_at hl 0 rfl) ?_
    refine z_if_eq (tgt := 35) hx hb dX3_turn_18 (by decide) (by decide) (fun h9 => absurd h9 (by decide)) (fun _ => ?_)
    refine lv_aload_n hx hb dX3_turn_21 rfl (lv_at hl 1 rfl) ?_
    refine va_get (D := (dC, dI)) (ci := 3) (v := .ref mdi) (C := RX3) (T := TX3) (N := 17) hx hb hts in_X3 hown hK hP 0 rfl rfl 15 (by decide) fl_38 (fun _ h9 => h9) rfl dX3_turn_22 ?_
    refine lv_aload_n hx hb dX3_turn_25 rfl (lv_at hl 1 rfl) ?_
    refine va_get (D := (dC, dI)) (ci := 3) (v := .int (iI (mo : Int))) (C := RX3) (T := TX3) (N := 17) hx hb hts in_X3 hown hK hP 0 rfl rfl 12 (by decide) fl_94 (fun _ h9 => h9) rfl dX3_turn_26 ?_
    refine lv_iconst (v := iI (1 : Int)) hx hb dX3_turn_29 (by decide) ?_
    refine z_isub hx hb dX3_turn_30 ?_
    refine z_top (b := ((mo - 1 : Nat) : Int)) (by omega) ?_
    refine z_iald hx hb hK hP 5 0 rfl rfl (mo - 1) (by omega) dX3_turn_31 ?_
    refine lv_goto (tgt := 36) hx hb dX3_turn_32 (by decide) ?_
    refine lv_istore_n (lv' := [(3, .int (iI (DI (mo - 1)))), (2, .int (iI (1 : Int))), (0, .ref m0), (1, .int (iI pl))]) hx hb dX3_turn_36 rfl hl (by decide) rfl (fun ls hl => ?_)
    have hrD : rgA DI := hlk.2.1
    have rdl := hrD (mo - 1)
    have hfm : fo = mo := by omega
    have hd0 : 0 ≤ DI (mo - 1) := hlk.2.2 (mo - 1) (by show mo - 1 < fo; omega)
    refine lv_iconst (v := iI (0 : Int)) hx hb dX3_turn_37 (by decide) ?_
    refine lv_istore (lv' := [(4, .int (iI (0 : Int))), (3, .int (iI (DI (mo - 1)))), (2, .int (iI (1 : Int))), (0, .ref m0), (1, .int (iI pl))]) hx hb dX3_turn_38 hl (by decide) rfl (fun ls hl => ?_)
    have lpb : ∀ (k9 : Nat) (v : Nat) (ls : Array Slot), (v ≤ 3) → (∀ k : Nat, k < v → lbd n w q r (k : Int) < DI (mo - 1)) → 3 - v = k9 → lv_has ls 6 [(0, .ref m0), (1, .int (iI pl)), (2, .int (iI (1 : Int))), (3, .int (iI (DI (mo - 1)))), (4, .int (iI (v : Int)))] → W p l e R s m args below meth c s.heap [] 0 0 Q (F0 m 40 ls []) := by
      intro k9
      induction k9 using Nat.strongRecOn with
      | ind k9 ih_lpb =>
        intro v ls hv hb9 hk9 hl
        refine lv_iload hx hb dX3_turn_40 (lv_at hl 4 rfl) ?_
        refine lv_iconst (v := iI (3 : Int)) hx hb dX3_turn_42 (by decide) ?_
        refine z_icmp_ge (tgt := 73) hx hb dX3_turn_43 (by decide) (by omega) (fun h43 => ?_) (fun h43 => ?_)
        · have hpz : pas n w q r (DI (mo - 1)) = -1 := (pas_no (fun k h => hb9 k (by omega))).symm
          refine lv_aload_n hx hb dX3_turn_73 rfl (lv_at hl 0 rfl) ?_
          refine lv_iconst (v := iI (3 : Int)) hx hb dX3_turn_74 (by decide) ?_
          refine zw_v (wr := [(mq, .inl (cI, 16, .inl (iA q))), (mr, .inl (cI, 16, .inl (iA r))), (mg, .inl (cI, 256, .inl (iA G))), (mpl, .inl (cI, 13, .inl (iA PL))), (mdi, .inl (cI, 13, .inl (iA DI)))]) (va_runV (As := [.int (iI (3 : Int))]) (rest := []) ⟨hx, hb, hml, hown, hts⟩ (c_tally l dC dI cI m0 mq mn ml ms mr mg mp mpl mdi mc cd n w rc sc mo fo 3 T _ (by omega)) (cwV 1 hts (ga_V wd_626 wd_628 wd_24 wd_31 wd_629) rfl rfl rfl (by decide +kernel) ⟨(show 0 + 1 ≤ R.frames by omega), (show 8 + (2 + 11) + 0 ≤ R.locals by omega)⟩) (wr_preV (q0 := 0) (ci := 3) hP hK hD [0, 6] (by decide) rfl rfl rfl rfl) rfl rfl hl.1 rfl (lv_room (Nat.le_of_ble_eq_true rfl)) dX3_turn_75 ⟨by omega, by omega⟩) hP hD hS hA [0, 6] [1, 2, 3, 4, 5] rfl rfl (by decide) (by decide) (fun u75 H locs hw75 hP hD hS => ?_)
          have hP := hP.sub (ws' := [(m0, .inr (3, [.int (iI cd), .int (iI (n : Int)), .int (iI (w : Int)), .ref mq, .int (iI (rc : Int)), .ref mn, .ref ml, .int (iI (sc : Int)), .ref ms, .ref mr, .ref mg, .ref mp, .int (iI (mo : Int)), .int (iI (fo : Int)), .ref mpl, .ref mdi, .ref mc])), (mq, .inl (cI, 16, .inl (iA q))), (mr, .inl (cI, 16, .inl (iA r))), (mg, .inl (cI, 256, .inl (iA G))), (mpl, .inl (cI, 13, .inl (iA PL))), (mdi, .inl (cI, 13, .inl (iA DI))), (mc, .inl (cI, 5, .inl (iA (bmp T 3))))]) [5, 0, 1, 2, 3, 4, 6] rfl
          have hD := hD.sub (ws' := [(m0, .inr (3, [.int (iI cd), .int (iI (n : Int)), .int (iI (w : Int)), .ref mq, .int (iI (rc : Int)), .ref mn, .ref ml, .int (iI (sc : Int)), .ref ms, .ref mr, .ref mg, .ref mp, .int (iI (mo : Int)), .int (iI (fo : Int)), .ref mpl, .ref mdi, .ref mc])), (mq, .inl (cI, 16, .inl (iA q))), (mr, .inl (cI, 16, .inl (iA r))), (mg, .inl (cI, 256, .inl (iA G))), (mpl, .inl (cI, 13, .inl (iA PL))), (mdi, .inl (cI, 13, .inl (iA DI))), (mc, .inl (cI, 5, .inl (iA (bmp T 3))))]) [5, 0, 1, 2, 3, 4, 6] (by decide) rfl
          refine lv_aload_n hx hb dX3_turn_78 rfl (lv_at hl 0 rfl) ?_
          refine zw_v (wr := [(mpl, .inl (cI, 13, .inl (iA PL))), (mdi, .inl (cI, 13, .inl (iA DI))), (mc, .inl (cI, 5, .inl (iA (bmp T 3))))]) (va_runV (As := []) (rest := []) ⟨hx, hb, hml, hown, hts⟩ (c_fill l dC dI cI m0 mq mn ml ms mr mg mp mpl mdi mc cd n w rc sc mo fo q r G _ hn hw hvq hvr hG) (cwV 0 hts (ga_V wd_575 wd_577 wd_16 wd_31 wd_578) rfl rfl rfl (by decide +kernel) ⟨(show 3 + 1 ≤ R.frames by omega), (show 8 + (5 + 11) + 66 ≤ R.locals by omega)⟩) (wr_preV (q0 := 0) (ci := 3) hP hK hD [0, 1, 2, 3] (by decide) rfl rfl rfl rfl) rfl rfl hl.1 rfl (lv_room (Nat.le_of_ble_eq_true rfl)) dX3_turn_79 ⟨by omega, by omega⟩) hP hD hS hA [0, 1, 2, 3] [4, 5, 6] rfl rfl (by decide) (by decide) (fun u79 H locs hw79 hP hD hS => ?_)
          have hP := hP.sub (ws' := [(m0, .inr (3, [.int (iI cd), .int (iI (n : Int)), .int (iI (w : Int)), .ref mq, .int (iI (rc : Int)), .ref mn, .ref ml, .int (iI (sc : Int)), .ref ms, .ref mr, .ref mg, .ref mp, .int (iI (mo : Int)), .int (iI (fo : Int)), .ref mpl, .ref mdi, .ref mc])), (mq, .inl (cI, 16, .inl (iA q))), (mr, .inl (cI, 16, .inl (iA r))), (mg, .inl (cI, 256, .inl (iA u79))), (mpl, .inl (cI, 13, .inl (iA PL))), (mdi, .inl (cI, 13, .inl (iA DI))), (mc, .inl (cI, 5, .inl (iA (bmp T 3))))]) [3, 4, 5, 6, 0, 1, 2] rfl
          have hD := hD.sub (ws' := [(m0, .inr (3, [.int (iI cd), .int (iI (n : Int)), .int (iI (w : Int)), .ref mq, .int (iI (rc : Int)), .ref mn, .ref ml, .int (iI (sc : Int)), .ref ms, .ref mr, .ref mg, .ref mp, .int (iI (mo : Int)), .int (iI (fo : Int)), .ref mpl, .ref mdi, .ref mc])), (mq, .inl (cI, 16, .inl (iA q))), (mr, .inl (cI, 16, .inl (iA r))), (mg, .inl (cI, 256, .inl (iA u79))), (mpl, .inl (cI, 13, .inl (iA PL))), (mdi, .inl (cI, 13, .inl (iA DI))), (mc, .inl (cI, 5, .inl (iA (bmp T 3))))]) [3, 4, 5, 6, 0, 1, 2] (by decide) rfl
          refine lv_iload_n hx hb dX3_turn_82 rfl (lv_at hl 2 rfl) ?_
          refine z_if_eq (tgt := 100) hx hb dX3_turn_83 (by decide) (by decide) (fun h9 => absurd h9 (by decide)) (fun _ => ?_)
          refine lv_aload_n hx hb dX3_turn_86 rfl (lv_at hl 0 rfl) ?_
          refine lv_iload_n hx hb dX3_turn_87 rfl (lv_at hl 3 rfl) ?_
          refine zr_i (va_runV (As := [.int (iI (DI (mo - 1)))]) (rest := []) ⟨hx, hb, hml, hown, hts⟩ (c_mGivesUp l dC dI cI m0 mq mn ml ms mr mg mp mpl mdi mc cd n w rc sc mo fo q r u79 (DI (mo - 1)) hn hw hvq hvr hw79.2 (by omega)) (cwV 1 hts (ga_V wd_630 wd_632 wd_25 wd_31 wd_633) rfl rfl rfl (by decide +kernel) ⟨(show 2 + 1 ≤ R.frames by omega), (show 8 + (5 + 11) + 44 ≤ R.locals by omega)⟩) (rd_preV (q0 := 0) (ci := 3) hP hK [0, 3] rfl rfl rfl) rfl rfl hl.1 rfl (lv_room (Nat.le_of_ble_eq_true rfl)) dX3_turn_88 ⟨by omega, by omega⟩) (fun z88 hz88 => ?_)
          refine z_if_eq (tgt := 100) hx hb dX3_turn_91 (by decide) (by omega) (fun h91 => ?_) (fun h91 => ?_)
          · refine lv_aload_n hx hb dX3_turn_100 rfl (lv_at hl 0 rfl) ?_
            refine lv_aload_n hx hb dX3_turn_101 rfl (lv_at hl 0 rfl) ?_
            refine va_get (D := (dC, dI)) (ci := 3) (v := .int (iI (n : Int))) (C := RX3) (T := TX3) (N := 17) hx hb hts in_X3 hown hK hP 0 rfl rfl 1 (by decide) fl_7 (fun _ h9 => h9) rfl dX3_turn_102 ?_
            refine lv_iconst (v := iI (1 : Int)) hx hb dX3_turn_105 (by decide) ?_
            refine z_isub hx hb dX3_turn_106 ?_
            refine z_top (b := ((n - 1 : Nat) : Int)) (by omega) ?_
            refine lv_aload_n hx hb dX3_turn_107 rfl (lv_at hl 0 rfl) ?_
            refine va_get (D := (dC, dI)) (ci := 3) (v := .int (iI (n : Int))) (C := RX3) (T := TX3) (N := 17) hx hb hts in_X3 hown hK hP 0 rfl rfl 1 (by decide) fl_7 (fun _ h9 => h9) rfl dX3_turn_108 ?_
            refine lv_iconst (v := iI (1 : Int)) hx hb dX3_turn_111 (by decide) ?_
            refine z_isub hx hb dX3_turn_112 ?_
            refine z_top (b := ((n - 1 : Nat) : Int)) (by omega) ?_
            refine zr_i (va_runV (As := [.int (iI ((n - 1 : Nat) : Int)), .int (iI ((n - 1 : Nat) : Int))]) (rest := []) ⟨hx, hb, hml, hown, hts⟩ (c_mCostAt l dC dI cI m0 mq mn ml ms mr mg mp mpl mdi mc cd n w rc sc mo fo u79 ((n - 1 : Nat) : Int) ((n - 1 : Nat) : Int) hn hw (by omega) (by omega)) (cwV 2 hts (ga_V wd_583 wd_585 wd_18 wd_31 wd_586) rfl rfl rfl (by decide +kernel) ⟨(show 2 + 1 ≤ R.frames by omega), (show 8 + (3 + 11) + 44 ≤ R.locals by omega)⟩) (rd_preV (q0 := 0) (ci := 3) hP hK [0, 3] rfl rfl rfl) rfl rfl hl.1 rfl (lv_room (Nat.le_of_ble_eq_true rfl)) dX3_turn_113 ⟨by omega, by omega⟩) (fun d9 hd9 => ?_)
            have hcr := cst_rg hvq hvr hn.2 (w := w) (i := n - 1) (j := n - 1) (by omega) (by omega) (by omega)
            have ed9 : d9 = cst w q r (n - 1) (n - 1) := by
              rw [hd9]
              unfold mAt
              rw [if_pos (by omega), show (16 * ((n - 1 : Nat) : Int) + ((n - 1 : Nat) : Int)).toNat = 16 * (n - 1) + (n - 1) by omega]
              exact hw79.2 _ _ (by omega) (by omega) (by omega)
            refine lv_istore (lv' := [(4, .int (iI d9)), (0, .ref m0), (1, .int (iI pl)), (2, .int (iI (1 : Int))), (3, .int (iI (DI (mo - 1))))]) hx hb dX3_turn_116 hl (by decide) rfl (fun ls hl => ?_)
            refine lv_iload_n hx hb dX3_turn_118 rfl (lv_at hl 3 rfl) ?_
            refine z_if_eq (tgt := 129) hx hb dX3_turn_119 (by decide) (by decide) (fun h9 => absurd h9 (by decide)) (fun _ => ?_)
            refine lv_iload hx hb dX3_turn_122 (lv_at hl 0 rfl) ?_
            refine lv_iload_n hx hb dX3_turn_124 rfl (lv_at hl 4 rfl) ?_
            refine z_icmp_lt (tgt := 129) hx hb dX3_turn_125 (by decide) (by omega) (fun h125 => ?_) (fun h125 => ?_)
            · refine lv_aload_n hx hb dX3_turn_129 rfl (lv_at hl 1 rfl) ?_
              refine va_get (D := (dC, dI)) (ci := 3) (v := .int (iI (fo : Int))) (C := RX3) (T := TX3) (N := 17) hx hb hts in_X3 hown hK hP 0 rfl rfl 13 (by decide) fl_54 (fun _ h9 => h9) rfl dX3_turn_130 ?_
              refine lv_istore (lv' := [(5, .int (iI (fo : Int))), (4, .int (iI d9)), (0, .ref m0), (1, .int (iI pl)), (2, .int (iI (1 : Int))), (3, .int (iI (DI (mo - 1))))]) hx hb dX3_turn_133 hl (by decide) rfl (fun ls hl => ?_)
              have lpi : ∀ (k9 : Nat) (a : Nat) (P9 D9 : Nat → Int) (H : Heap) (locs : List Loc) (ls : Array Slot), (a ≤ fo) → (P9 = shf PL a fo) → (D9 = shf DI a fo) → (scn DI d9 a = scn DI d9 fo) → a = k9 → va_P (dC, dI) vwCl [(m0, .inr (3, [.int (iI cd), .int (iI (n : Int)), .int (iI (w : Int)), .ref mq, .int (iI (rc : Int)), .ref mn, .ref ml, .int (iI (sc : Int)), .ref ms, .ref mr, .ref mg, .ref mp, .int (iI (mo : Int)), .int (iI (fo : Int)), .ref mpl, .ref mdi, .ref mc])), (mq, .inl (cI, 16, .inl (iA q))), (mr, .inl (cI, 16, .inl (iA r))), (mg, .inl (cI, 256, .inl (iA u79))), (mpl, .inl (cI, 13, .inl (iA P9))), (mdi, .inl (cI, 13, .inl (iA D9))), (mc, .inl (cI, 5, .inl (iA (bmp T 3))))] H → va_D A [(m0, .inr (3, [.int (iI cd), .int (iI (n : Int)), .int (iI (w : Int)), .ref mq, .int (iI (rc : Int)), .ref mn, .ref ml, .int (iI (sc : Int)), .ref ms, .ref mr, .ref mg, .ref mp, .int (iI (mo : Int)), .int (iI (fo : Int)), .ref mpl, .ref mdi, .ref mc])), (mq, .inl (cI, 16, .inl (iA q))), (mr, .inl (cI, 16, .inl (iA r))), (mg, .inl (cI, 256, .inl (iA u79))), (mpl, .inl (cI, 13, .inl (iA P9))), (mdi, .inl (cI, 13, .inl (iA D9))), (mc, .inl (cI, 5, .inl (iA (bmp T 3))))] → va_S A s.heap H locs → lv_has ls 6 [(0, .ref m0), (1, .int (iI pl)), (2, .int (iI (1 : Int))), (4, .int (iI d9)), (5, .int (iI (a : Int)))] → W p l e R s m args below meth c H locs 0 0 Q (F0 m 135 ls []) := by
                intro k9
                induction k9 using Nat.strongRecOn with
                | ind k9 ih_lpi =>
                  intro a P9 D9 H locs ls ha eP eD hsc hk9 hP hD hS hl
                  have hD9 : D9 (a - 1) = DI (a - 1) ∨ a = 0 := by
                    by_cases h9 : a = 0
                    · exact Or.inr h9
                    · rw [eD]; exact Or.inl (shf_at (by omega))
                  have rD9 := hrD (a - 1)
                  refine lv_iload hx hb dX3_turn_135 (lv_at hl 4 rfl) ?_
                  refine z_if_le (tgt := 192) hx hb dX3_turn_137 (by decide) (by omega) (fun h137 => ?_) (fun h137 => ?_)
                  · have esc : a = scn DI d9 fo := by
                      rw [← hsc]
                      exact (scn_stop (by omega)).symm
                    refine lv_aload_n hx hb dX3_turn_192 rfl (lv_at hl 0 rfl) ?_
                    refine va_get (D := (dC, dI)) (ci := 3) (v := .ref mdi) (C := RX3) (T := TX3) (N := 17) hx hb hts in_X3 hown hK hP 0 rfl rfl 15 (by decide) fl_38 (fun _ h9 => h9) rfl dX3_turn_193 ?_
                    refine lv_iload hx hb dX3_turn_196 (lv_at hl 4 rfl) ?_
                    refine lv_iload hx hb dX3_turn_198 (lv_at hl 3 rfl) ?_
                    refine z_iast hx hb hK hP hD hS 5 0 rfl rfl a (by omega) dX3_turn_200 (fun H locs hP hD hS => ?_)
                    have hP : va_P (dC, dI) vwCl [(m0, .inr (3, [.int (iI cd), .int (iI (n : Int)), .int (iI (w : Int)), .ref mq, .int (iI (rc : Int)), .ref mn, .ref ml, .int (iI (sc : Int)), .ref ms, .ref mr, .ref mg, .ref mp, .int (iI (mo : Int)), .int (iI (fo : Int)), .ref mpl, .ref mdi, .ref mc])), (mq, .inl (cI, 16, .inl (iA q))), (mr, .inl (cI, 16, .inl (iA r))), (mg, .inl (cI, 256, .inl (iA u79))), (mpl, .inl (cI, 13, .inl (iA P9))), (mdi, .inl (cI, 13, .inl (iA (zU D9 a d9)))), (mc, .inl (cI, 5, .inl (iA (bmp T 3))))] H := hP
                    have hD : va_D A [(m0, .inr (3, [.int (iI cd), .int (iI (n : Int)), .int (iI (w : Int)), .ref mq, .int (iI (rc : Int)), .ref mn, .ref ml, .int (iI (sc : Int)), .ref ms, .ref mr, .ref mg, .ref mp, .int (iI (mo : Int)), .int (iI (fo : Int)), .ref mpl, .ref mdi, .ref mc])), (mq, .inl (cI, 16, .inl (iA q))), (mr, .inl (cI, 16, .inl (iA r))), (mg, .inl (cI, 256, .inl (iA u79))), (mpl, .inl (cI, 13, .inl (iA P9))), (mdi, .inl (cI, 13, .inl (iA (zU D9 a d9)))), (mc, .inl (cI, 5, .inl (iA (bmp T 3))))] := hD
                    refine lv_aload_n hx hb dX3_turn_201 rfl (lv_at hl 0 rfl) ?_
                    refine va_get (D := (dC, dI)) (ci := 3) (v := .ref mpl) (C := RX3) (T := TX3) (N := 17) hx hb hts in_X3 hown hK hP 0 rfl rfl 14 (by decide) fl_35 (fun _ h9 => h9) rfl dX3_turn_202 ?_
                    refine lv_iload hx hb dX3_turn_205 (lv_at hl 4 rfl) ?_
                    refine lv_iload_n hx hb dX3_turn_207 rfl (lv_at hl 1 rfl) ?_
                    refine z_iast hx hb hK hP hD hS 4 0 rfl rfl a (by omega) dX3_turn_208 (fun H locs hP hD hS => ?_)
                    have hP : va_P (dC, dI) vwCl [(m0, .inr (3, [.int (iI cd), .int (iI (n : Int)), .int (iI (w : Int)), .ref mq, .int (iI (rc : Int)), .ref mn, .ref ml, .int (iI (sc : Int)), .ref ms, .ref mr, .ref mg, .ref mp, .int (iI (mo : Int)), .int (iI (fo : Int)), .ref mpl, .ref mdi, .ref mc])), (mq, .inl (cI, 16, .inl (iA q))), (mr, .inl (cI, 16, .inl (iA r))), (mg, .inl (cI, 256, .inl (iA u79))), (mpl, .inl (cI, 13, .inl (iA (zU P9 a pl)))), (mdi, .inl (cI, 13, .inl (iA (zU D9 a d9)))), (mc, .inl (cI, 5, .inl (iA (bmp T 3))))] H := hP
                    have hD : va_D A [(m0, .inr (3, [.int (iI cd), .int (iI (n : Int)), .int (iI (w : Int)), .ref mq, .int (iI (rc : Int)), .ref mn, .ref ml, .int (iI (sc : Int)), .ref ms, .ref mr, .ref mg, .ref mp, .int (iI (mo : Int)), .int (iI (fo : Int)), .ref mpl, .ref mdi, .ref mc])), (mq, .inl (cI, 16, .inl (iA q))), (mr, .inl (cI, 16, .inl (iA r))), (mg, .inl (cI, 256, .inl (iA u79))), (mpl, .inl (cI, 13, .inl (iA (zU P9 a pl)))), (mdi, .inl (cI, 13, .inl (iA (zU D9 a d9)))), (mc, .inl (cI, 5, .inl (iA (bmp T 3))))] := hD
                    refine lv_aload_n hx hb dX3_turn_209 rfl (lv_at hl 0 rfl) ?_
                    refine lv_aload_n hx hb dX3_turn_210 rfl (lv_at hl 0 rfl) ?_
                    refine va_get (D := (dC, dI)) (ci := 3) (v := .int (iI (fo : Int))) (C := RX3) (T := TX3) (N := 17) hx hb hts in_X3 hown hK hP 0 rfl rfl 13 (by decide) fl_54 (fun _ h9 => h9) rfl dX3_turn_211 ?_
                    refine lv_aload_n hx hb dX3_turn_214 rfl (lv_at hl 0 rfl) ?_
                    refine va_get (D := (dC, dI)) (ci := 3) (v := .int (iI (mo : Int))) (C := RX3) (T := TX3) (N := 17) hx hb hts in_X3 hown hK hP 0 rfl rfl 12 (by decide) fl_94 (fun _ h9 => h9) rfl dX3_turn_215 ?_
                    refine z_icmp_ge (tgt := 230) hx hb dX3_turn_218 (by decide) (by omega) (fun h218 => ?_) (fun h218 => ?_)
                    · refine lv_aload_n hx hb dX3_turn_230 rfl (lv_at hl 0 rfl) ?_
                      refine va_get (D := (dC, dI)) (ci := 3) (v := .int (iI (mo : Int))) (C := RX3) (T := TX3) (N := 17) hx hb hts in_X3 hown hK hP 0 rfl rfl 12 (by decide) fl_94 (fun _ h9 => h9) rfl dX3_turn_231 ?_
                      refine z_top (b := ((min (fo + 1) mo : Nat) : Int)) (by omega) ?_
                      refine va_put (D := (dC, dI)) (ci := 3) (v := .int (iI ((min (fo + 1) mo : Nat) : Int))) (ty := .int) (C := RX3) (T := TX3) (N := 17) hx hb hts in_X3 tyX3 tyX3_ok nmX3 hown hK hP hD hS 0 rfl rfl 13 (by decide) fl_54 (fun _ h9 => h9) rfl (by decide +kernel) rfl rfl (Nat.le_of_ble_eq_true rfl) dX3_turn_234 (fun H locs hP hD hS => ?_)
                      have hP : va_P (dC, dI) vwCl [(m0, .inr (3, [.int (iI cd), .int (iI (n : Int)), .int (iI (w : Int)), .ref mq, .int (iI (rc : Int)), .ref mn, .ref ml, .int (iI (sc : Int)), .ref ms, .ref mr, .ref mg, .ref mp, .int (iI (mo : Int)), .int (iI ((min (fo + 1) mo : Nat) : Int)), .ref mpl, .ref mdi, .ref mc])), (mq, .inl (cI, 16, .inl (iA q))), (mr, .inl (cI, 16, .inl (iA r))), (mg, .inl (cI, 256, .inl (iA u79))), (mpl, .inl (cI, 13, .inl (iA (zU P9 a pl)))), (mdi, .inl (cI, 13, .inl (iA (zU D9 a d9)))), (mc, .inl (cI, 5, .inl (iA (bmp T 3))))] H := hP
                      have hD : va_D A [(m0, .inr (3, [.int (iI cd), .int (iI (n : Int)), .int (iI (w : Int)), .ref mq, .int (iI (rc : Int)), .ref mn, .ref ml, .int (iI (sc : Int)), .ref ms, .ref mr, .ref mg, .ref mp, .int (iI (mo : Int)), .int (iI ((min (fo + 1) mo : Nat) : Int)), .ref mpl, .ref mdi, .ref mc])), (mq, .inl (cI, 16, .inl (iA q))), (mr, .inl (cI, 16, .inl (iA r))), (mg, .inl (cI, 256, .inl (iA u79))), (mpl, .inl (cI, 13, .inl (iA (zU P9 a pl)))), (mdi, .inl (cI, 13, .inl (iA (zU D9 a d9)))), (mc, .inl (cI, 5, .inl (iA (bmp T 3))))] := hD
                      have hgu : ¬ givesUp n w q r (DI (mo - 1)) := by
                        rcases hz88 with h9 | h9
                        · omega
                        · exact h9.2
                      have eP9 : zU P9 a pl = insF PL (scn DI (cst w q r (n - 1) (n - 1)) fo) fo pl := by rw [eP, shf_end, esc, ed9]
                      have eD9 : zU D9 a d9 = insF DI (scn DI (cst w q r (n - 1) (n - 1)) fo) fo (cst w q r (n - 1) (n - 1)) := by rw [eD, shf_end, esc, ed9]
                      rw [eP9, eD9] at hP hD
                      subst hAe
                      exact zw_retv (((min (fo + 1) mo, insF PL (scn DI (cst w q r (n - 1) (n - 1)) fo) fo pl, insF DI (scn DI (cst w q r (n - 1) (n - 1)) fo) fo (cst w q r (n - 1) (n - 1)), bmp T 3), u79)) hx hb hr hlocks hQ (⟨ins_sim (by omega) hlk.1 (Or.inr ⟨by rw [hfm]; exact hpz, by rw [hfm]; exact hgu, by rw [hfm]; omega⟩), lok_ins (pl := pl) hlk hcr, hw79.1⟩) hP hK hD hS dX3_turn_237
                    · refine lv_aload_n hx hb dX3_turn_221 rfl (lv_at hl 0 rfl) ?_
                      refine va_get (D := (dC, dI)) (ci := 3) (v := .int (iI (fo : Int))) (C := RX3) (T := TX3) (N := 17) hx hb hts in_X3 hown hK hP 0 rfl rfl 13 (by decide) fl_54 (fun _ h9 => h9) rfl dX3_turn_222 ?_
                      refine lv_iconst (v := iI (1 : Int)) hx hb dX3_turn_225 (by decide) ?_
                      refine z_iadd hx hb dX3_turn_226 ?_
                      refine lv_goto (tgt := 234) hx hb dX3_turn_227 (by decide) ?_
                      refine z_top (b := ((min (fo + 1) mo : Nat) : Int)) (by omega) ?_
                      refine va_put (D := (dC, dI)) (ci := 3) (v := .int (iI ((min (fo + 1) mo : Nat) : Int))) (ty := .int) (C := RX3) (T := TX3) (N := 17) hx hb hts in_X3 tyX3 tyX3_ok nmX3 hown hK hP hD hS 0 rfl rfl 13 (by decide) fl_54 (fun _ h9 => h9) rfl (by decide +kernel) rfl rfl (Nat.le_of_ble_eq_true rfl) dX3_turn_234 (fun H locs hP hD hS => ?_)
                      have hP : va_P (dC, dI) vwCl [(m0, .inr (3, [.int (iI cd), .int (iI (n : Int)), .int (iI (w : Int)), .ref mq, .int (iI (rc : Int)), .ref mn, .ref ml, .int (iI (sc : Int)), .ref ms, .ref mr, .ref mg, .ref mp, .int (iI (mo : Int)), .int (iI ((min (fo + 1) mo : Nat) : Int)), .ref mpl, .ref mdi, .ref mc])), (mq, .inl (cI, 16, .inl (iA q))), (mr, .inl (cI, 16, .inl (iA r))), (mg, .inl (cI, 256, .inl (iA u79))), (mpl, .inl (cI, 13, .inl (iA (zU P9 a pl)))), (mdi, .inl (cI, 13, .inl (iA (zU D9 a d9)))), (mc, .inl (cI, 5, .inl (iA (bmp T 3))))] H := hP
                      have hD : va_D A [(m0, .inr (3, [.int (iI cd), .int (iI (n : Int)), .int (iI (w : Int)), .ref mq, .int (iI (rc : Int)), .ref mn, .ref ml, .int (iI (sc : Int)), .ref ms, .ref mr, .ref mg, .ref mp, .int (iI (mo : Int)), .int (iI ((min (fo + 1) mo : Nat) : Int)), .ref mpl, .ref mdi, .ref mc])), (mq, .inl (cI, 16, .inl (iA q))), (mr, .inl (cI, 16, .inl (iA r))), (mg, .inl (cI, 256, .inl (iA u79))), (mpl, .inl (cI, 13, .inl (iA (zU P9 a pl)))), (mdi, .inl (cI, 13, .inl (iA (zU D9 a d9)))), (mc, .inl (cI, 5, .inl (iA (bmp T 3))))] := hD
                      have hgu : ¬ givesUp n w q r (DI (mo - 1)) := by
                        rcases hz88 with h9 | h9
                        · omega
                        · exact h9.2
                      have eP9 : zU P9 a pl = insF PL (scn DI (cst w q r (n - 1) (n - 1)) fo) fo pl := by rw [eP, shf_end, esc, ed9]
                      have eD9 : zU D9 a d9 = insF DI (scn DI (cst w q r (n - 1) (n - 1)) fo) fo (cst w q r (n - 1) (n - 1)) := by rw [eD, shf_end, esc, ed9]
                      rw [eP9, eD9] at hP hD
                      subst hAe
                      exact zw_retv (((min (fo + 1) mo, insF PL (scn DI (cst w q r (n - 1) (n - 1)) fo) fo pl, insF DI (scn DI (cst w q r (n - 1) (n - 1)) fo) fo (cst w q r (n - 1) (n - 1)), bmp T 3), u79)) hx hb hr hlocks hQ (⟨ins_sim (by omega) hlk.1 (Or.inr ⟨by rw [hfm]; exact hpz, by rw [hfm]; exact hgu, by rw [hfm]; omega⟩), lok_ins (pl := pl) hlk hcr, hw79.1⟩) hP hK hD hS dX3_turn_237
                  · refine lv_aload_n hx hb dX3_turn_140 rfl (lv_at hl 0 rfl) ?_
                    refine va_get (D := (dC, dI)) (ci := 3) (v := .ref mdi) (C := RX3) (T := TX3) (N := 17) hx hb hts in_X3 hown hK hP 0 rfl rfl 15 (by decide) fl_38 (fun _ h9 => h9) rfl dX3_turn_141 ?_
                    refine lv_iload hx hb dX3_turn_144 (lv_at hl 4 rfl) ?_
                    refine lv_iconst (v := iI (1 : Int)) hx hb dX3_turn_146 (by decide) ?_
                    refine z_isub hx hb dX3_turn_147 ?_
                    refine z_top (b := ((a - 1 : Nat) : Int)) (by omega) ?_
                    refine z_iald hx hb hK hP 5 0 rfl rfl (a - 1) (by omega) dX3_turn_148 ?_
                    have eD9 : D9 (a - 1) = DI (a - 1) := by omega
                    have rD9b : -2147483648 ≤ D9 (a - 1) ∧ D9 (a - 1) ≤ 2147483647 := by omega
                    refine lv_iload hx hb dX3_turn_149 (lv_at hl 3 rfl) ?_
                    refine z_icmp_le (tgt := 192) hx hb dX3_turn_151 (by decide) (by omega) (fun h151 => ?_) (fun h151 => ?_)
                    · have esc : a = scn DI d9 fo := by
                        rw [← hsc]
                        exact (scn_stop (by omega)).symm
                      refine lv_aload_n hx hb dX3_turn_192 rfl (lv_at hl 0 rfl) ?_
                      refine va_get (D := (dC, dI)) (ci := 3) (v := .ref mdi) (C := RX3) (T := TX3) (N := 17) hx hb hts in_X3 hown hK hP 0 rfl rfl 15 (by decide) fl_38 (fun _ h9 => h9) rfl dX3_turn_193 ?_
                      refine lv_iload hx hb dX3_turn_196 (lv_at hl 4 rfl) ?_
                      refine lv_iload hx hb dX3_turn_198 (lv_at hl 3 rfl) ?_
                      refine z_iast hx hb hK hP hD hS 5 0 rfl rfl a (by omega) dX3_turn_200 (fun H locs hP hD hS => ?_)
                      have hP : va_P (dC, dI) vwCl [(m0, .inr (3, [.int (iI cd), .int (iI (n : Int)), .int (iI (w : Int)), .ref mq, .int (iI (rc : Int)), .ref mn, .ref ml, .int (iI (sc : Int)), .ref ms, .ref mr, .ref mg, .ref mp, .int (iI (mo : Int)), .int (iI (fo : Int)), .ref mpl, .ref mdi, .ref mc])), (mq, .inl (cI, 16, .inl (iA q))), (mr, .inl (cI, 16, .inl (iA r))), (mg, .inl (cI, 256, .inl (iA u79))), (mpl, .inl (cI, 13, .inl (iA P9))), (mdi, .inl (cI, 13, .inl (iA (zU D9 a d9)))), (mc, .inl (cI, 5, .inl (iA (bmp T 3))))] H := hP
                      have hD : va_D A [(m0, .inr (3, [.int (iI cd), .int (iI (n : Int)), .int (iI (w : Int)), .ref mq, .int (iI (rc : Int)), .ref mn, .ref ml, .int (iI (sc : Int)), .ref ms, .ref mr, .ref mg, .ref mp, .int (iI (mo : Int)), .int (iI (fo : Int)), .ref mpl, .ref mdi, .ref mc])), (mq, .inl (cI, 16, .inl (iA q))), (mr, .inl (cI, 16, .inl (iA r))), (mg, .inl (cI, 256, .inl (iA u79))), (mpl, .inl (cI, 13, .inl (iA P9))), (mdi, .inl (cI, 13, .inl (iA (zU D9 a d9)))), (mc, .inl (cI, 5, .inl (iA (bmp T 3))))] := hD
                      refine lv_aload_n hx hb dX3_turn_201 rfl (lv_at hl 0 rfl) ?_
                      refine va_get (D := (dC, dI)) (ci := 3) (v := .ref mpl) (C := RX3) (T := TX3) (N := 17) hx hb hts in_X3 hown hK hP 0 rfl rfl 14 (by decide) fl_35 (fun _ h9 => h9) rfl dX3_turn_202 ?_
                      refine lv_iload hx hb dX3_turn_205 (lv_at hl 4 rfl) ?_
                      refine lv_iload_n hx hb dX3_turn_207 rfl (lv_at hl 1 rfl) ?_
                      refine z_iast hx hb hK hP hD hS 4 0 rfl rfl a (by omega) dX3_turn_208 (fun H locs hP hD hS => ?_)
                      have hP : va_P (dC, dI) vwCl [(m0, .inr (3, [.int (iI cd), .int (iI (n : Int)), .int (iI (w : Int)), .ref mq, .int (iI (rc : Int)), .ref mn, .ref ml, .int (iI (sc : Int)), .ref ms, .ref mr, .ref mg, .ref mp, .int (iI (mo : Int)), .int (iI (fo : Int)), .ref mpl, .ref mdi, .ref mc])), (mq, .inl (cI, 16, .inl (iA q))), (mr, .inl (cI, 16, .inl (iA r))), (mg, .inl (cI, 256, .inl (iA u79))), (mpl, .inl (cI, 13, .inl (iA (zU P9 a pl)))), (mdi, .inl (cI, 13, .inl (iA (zU D9 a d9)))), (mc, .inl (cI, 5, .inl (iA (bmp T 3))))] H := hP
                      have hD : va_D A [(m0, .inr (3, [.int (iI cd), .int (iI (n : Int)), .int (iI (w : Int)), .ref mq, .int (iI (rc : Int)), .ref mn, .ref ml, .int (iI (sc : Int)), .ref ms, .ref mr, .ref mg, .ref mp, .int (iI (mo : Int)), .int (iI (fo : Int)), .ref mpl, .ref mdi, .ref mc])), (mq, .inl (cI, 16, .inl (iA q))), (mr, .inl (cI, 16, .inl (iA r))), (mg, .inl (cI, 256, .inl (iA u79))), (mpl, .inl (cI, 13, .inl (iA (zU P9 a pl)))), (mdi, .inl (cI, 13, .inl (iA (zU D9 a d9)))), (mc, .inl (cI, 5, .inl (iA (bmp T 3))))] := hD
                      refine lv_aload_n hx hb dX3_turn_209 rfl (lv_at hl 0 rfl) ?_
                      refine lv_aload_n hx hb dX3_turn_210 rfl (lv_at hl 0 rfl) ?_
                      refine va_get (D := (dC, dI)) (ci := 3) (v := .int (iI (fo : Int))) (C := RX3) (T := TX3) (N := 17) hx hb hts in_X3 hown hK hP 0 rfl rfl 13 (by decide) fl_54 (fun _ h9 => h9) rfl dX3_turn_211 ?_
                      refine lv_aload_n hx hb dX3_turn_214 rfl (lv_at hl 0 rfl) ?_
                      refine va_get (D := (dC, dI)) (ci := 3) (v := .int (iI (mo : Int))) (C := RX3) (T := TX3) (N := 17) hx hb hts in_X3 hown hK hP 0 rfl rfl 12 (by decide) fl_94 (fun _ h9 => h9) rfl dX3_turn_215 ?_
                      refine z_icmp_ge (tgt := 230) hx hb dX3_turn_218 (by decide) (by omega) (fun h218 => ?_) (fun h218 => ?_)
                      · refine lv_aload_n hx hb dX3_turn_230 rfl (lv_at hl 0 rfl) ?_
                        refine va_get (D := (dC, dI)) (ci := 3) (v := .int (iI (mo : Int))) (C := RX3) (T := TX3) (N := 17) hx hb hts in_X3 hown hK hP 0 rfl rfl 12 (by decide) fl_94 (fun _ h9 => h9) rfl dX3_turn_231 ?_
                        refine z_top (b := ((min (fo + 1) mo : Nat) : Int)) (by omega) ?_
                        refine va_put (D := (dC, dI)) (ci := 3) (v := .int (iI ((min (fo + 1) mo : Nat) : Int))) (ty := .int) (C := RX3) (T := TX3) (N := 17) hx hb hts in_X3 tyX3 tyX3_ok nmX3 hown hK hP hD hS 0 rfl rfl 13 (by decide) fl_54 (fun _ h9 => h9) rfl (by decide +kernel) rfl rfl (Nat.le_of_ble_eq_true rfl) dX3_turn_234 (fun H locs hP hD hS => ?_)
                        have hP : va_P (dC, dI) vwCl [(m0, .inr (3, [.int (iI cd), .int (iI (n : Int)), .int (iI (w : Int)), .ref mq, .int (iI (rc : Int)), .ref mn, .ref ml, .int (iI (sc : Int)), .ref ms, .ref mr, .ref mg, .ref mp, .int (iI (mo : Int)), .int (iI ((min (fo + 1) mo : Nat) : Int)), .ref mpl, .ref mdi, .ref mc])), (mq, .inl (cI, 16, .inl (iA q))), (mr, .inl (cI, 16, .inl (iA r))), (mg, .inl (cI, 256, .inl (iA u79))), (mpl, .inl (cI, 13, .inl (iA (zU P9 a pl)))), (mdi, .inl (cI, 13, .inl (iA (zU D9 a d9)))), (mc, .inl (cI, 5, .inl (iA (bmp T 3))))] H := hP
                        have hD : va_D A [(m0, .inr (3, [.int (iI cd), .int (iI (n : Int)), .int (iI (w : Int)), .ref mq, .int (iI (rc : Int)), .ref mn, .ref ml, .int (iI (sc : Int)), .ref ms, .ref mr, .ref mg, .ref mp, .int (iI (mo : Int)), .int (iI ((min (fo + 1) mo : Nat) : Int)), .ref mpl, .ref mdi, .ref mc])), (mq, .inl (cI, 16, .inl (iA q))), (mr, .inl (cI, 16, .inl (iA r))), (mg, .inl (cI, 256, .inl (iA u79))), (mpl, .inl (cI, 13, .inl (iA (zU P9 a pl)))), (mdi, .inl (cI, 13, .inl (iA (zU D9 a d9)))), (mc, .inl (cI, 5, .inl (iA (bmp T 3))))] := hD
                        have hgu : ¬ givesUp n w q r (DI (mo - 1)) := by
                          rcases hz88 with h9 | h9
                          · omega
                          · exact h9.2
                        have eP9 : zU P9 a pl = insF PL (scn DI (cst w q r (n - 1) (n - 1)) fo) fo pl := by rw [eP, shf_end, esc, ed9]
                        have eD9 : zU D9 a d9 = insF DI (scn DI (cst w q r (n - 1) (n - 1)) fo) fo (cst w q r (n - 1) (n - 1)) := by rw [eD, shf_end, esc, ed9]
                        rw [eP9, eD9] at hP hD
                        subst hAe
                        exact zw_retv (((min (fo + 1) mo, insF PL (scn DI (cst w q r (n - 1) (n - 1)) fo) fo pl, insF DI (scn DI (cst w q r (n - 1) (n - 1)) fo) fo (cst w q r (n - 1) (n - 1)), bmp T 3), u79)) hx hb hr hlocks hQ (⟨ins_sim (by omega) hlk.1 (Or.inr ⟨by rw [hfm]; exact hpz, by rw [hfm]; exact hgu, by rw [hfm]; omega⟩), lok_ins (pl := pl) hlk hcr, hw79.1⟩) hP hK hD hS dX3_turn_237
                      · refine lv_aload_n hx hb dX3_turn_221 rfl (lv_at hl 0 rfl) ?_
                        refine va_get (D := (dC, dI)) (ci := 3) (v := .int (iI (fo : Int))) (C := RX3) (T := TX3) (N := 17) hx hb hts in_X3 hown hK hP 0 rfl rfl 13 (by decide) fl_54 (fun _ h9 => h9) rfl dX3_turn_222 ?_
                        refine lv_iconst (v := iI (1 : Int)) hx hb dX3_turn_225 (by decide) ?_
                        refine z_iadd hx hb dX3_turn_226 ?_
                        refine lv_goto (tgt := 234) hx hb dX3_turn_227 (by decide) ?_
                        refine z_top (b := ((min (fo + 1) mo : Nat) : Int)) (by omega) ?_
                        refine va_put (D := (dC, dI)) (ci := 3) (v := .int (iI ((min (fo + 1) mo : Nat) : Int))) (ty := .int) (C := RX3) (T := TX3) (N := 17) hx hb hts in_X3 tyX3 tyX3_ok nmX3 hown hK hP hD hS 0 rfl rfl 13 (by decide) fl_54 (fun _ h9 => h9) rfl (by decide +kernel) rfl rfl (Nat.le_of_ble_eq_true rfl) dX3_turn_234 (fun H locs hP hD hS => ?_)
                        have hP : va_P (dC, dI) vwCl [(m0, .inr (3, [.int (iI cd), .int (iI (n : Int)), .int (iI (w : Int)), .ref mq, .int (iI (rc : Int)), .ref mn, .ref ml, .int (iI (sc : Int)), .ref ms, .ref mr, .ref mg, .ref mp, .int (iI (mo : Int)), .int (iI ((min (fo + 1) mo : Nat) : Int)), .ref mpl, .ref mdi, .ref mc])), (mq, .inl (cI, 16, .inl (iA q))), (mr, .inl (cI, 16, .inl (iA r))), (mg, .inl (cI, 256, .inl (iA u79))), (mpl, .inl (cI, 13, .inl (iA (zU P9 a pl)))), (mdi, .inl (cI, 13, .inl (iA (zU D9 a d9)))), (mc, .inl (cI, 5, .inl (iA (bmp T 3))))] H := hP
                        have hD : va_D A [(m0, .inr (3, [.int (iI cd), .int (iI (n : Int)), .int (iI (w : Int)), .ref mq, .int (iI (rc : Int)), .ref mn, .ref ml, .int (iI (sc : Int)), .ref ms, .ref mr, .ref mg, .ref mp, .int (iI (mo : Int)), .int (iI ((min (fo + 1) mo : Nat) : Int)), .ref mpl, .ref mdi, .ref mc])), (mq, .inl (cI, 16, .inl (iA q))), (mr, .inl (cI, 16, .inl (iA r))), (mg, .inl (cI, 256, .inl (iA u79))), (mpl, .inl (cI, 13, .inl (iA (zU P9 a pl)))), (mdi, .inl (cI, 13, .inl (iA (zU D9 a d9)))), (mc, .inl (cI, 5, .inl (iA (bmp T 3))))] := hD
                        have hgu : ¬ givesUp n w q r (DI (mo - 1)) := by
                          rcases hz88 with h9 | h9
                          · omega
                          · exact h9.2
                        have eP9 : zU P9 a pl = insF PL (scn DI (cst w q r (n - 1) (n - 1)) fo) fo pl := by rw [eP, shf_end, esc, ed9]
                        have eD9 : zU D9 a d9 = insF DI (scn DI (cst w q r (n - 1) (n - 1)) fo) fo (cst w q r (n - 1) (n - 1)) := by rw [eD, shf_end, esc, ed9]
                        rw [eP9, eD9] at hP hD
                        subst hAe
                        exact zw_retv (((min (fo + 1) mo, insF PL (scn DI (cst w q r (n - 1) (n - 1)) fo) fo pl, insF DI (scn DI (cst w q r (n - 1) (n - 1)) fo) fo (cst w q r (n - 1) (n - 1)), bmp T 3), u79)) hx hb hr hlocks hQ (⟨ins_sim (by omega) hlk.1 (Or.inr ⟨by rw [hfm]; exact hpz, by rw [hfm]; exact hgu, by rw [hfm]; omega⟩), lok_ins (pl := pl) hlk hcr, hw79.1⟩) hP hK hD hS dX3_turn_237
                    · have h151b : d9 < DI (a - 1) := by omega
                      refine lv_aload_n hx hb dX3_turn_154 rfl (lv_at hl 0 rfl) ?_
                      refine va_get (D := (dC, dI)) (ci := 3) (v := .ref mdi) (C := RX3) (T := TX3) (N := 17) hx hb hts in_X3 hown hK hP 0 rfl rfl 15 (by decide) fl_38 (fun _ h9 => h9) rfl dX3_turn_155 ?_
                      refine lv_iload hx hb dX3_turn_158 (lv_at hl 4 rfl) ?_
                      refine lv_aload_n hx hb dX3_turn_160 rfl (lv_at hl 0 rfl) ?_
                      refine va_get (D := (dC, dI)) (ci := 3) (v := .ref mdi) (C := RX3) (T := TX3) (N := 17) hx hb hts in_X3 hown hK hP 0 rfl rfl 15 (by decide) fl_38 (fun _ h9 => h9) rfl dX3_turn_161 ?_
                      refine lv_iload hx hb dX3_turn_164 (lv_at hl 4 rfl) ?_
                      refine lv_iconst (v := iI (1 : Int)) hx hb dX3_turn_166 (by decide) ?_
                      refine z_isub hx hb dX3_turn_167 ?_
                      refine z_top (b := ((a - 1 : Nat) : Int)) (by omega) ?_
                      refine z_iald hx hb hK hP 5 0 rfl rfl (a - 1) (by omega) dX3_turn_168 ?_
                      refine z_iast hx hb hK hP hD hS 5 0 rfl rfl a (by omega) dX3_turn_169 (fun H locs hP hD hS => ?_)
                      have hP : va_P (dC, dI) vwCl [(m0, .inr (3, [.int (iI cd), .int (iI (n : Int)), .int (iI (w : Int)), .ref mq, .int (iI (rc : Int)), .ref mn, .ref ml, .int (iI (sc : Int)), .ref ms, .ref mr, .ref mg, .ref mp, .int (iI (mo : Int)), .int (iI (fo : Int)), .ref mpl, .ref mdi, .ref mc])), (mq, .inl (cI, 16, .inl (iA q))), (mr, .inl (cI, 16, .inl (iA r))), (mg, .inl (cI, 256, .inl (iA u79))), (mpl, .inl (cI, 13, .inl (iA P9))), (mdi, .inl (cI, 13, .inl (iA (zU D9 a (D9 (a - 1)))))), (mc, .inl (cI, 5, .inl (iA (bmp T 3))))] H := hP
                      have hD : va_D A [(m0, .inr (3, [.int (iI cd), .int (iI (n : Int)), .int (iI (w : Int)), .ref mq, .int (iI (rc : Int)), .ref mn, .ref ml, .int (iI (sc : Int)), .ref ms, .ref mr, .ref mg, .ref mp, .int (iI (mo : Int)), .int (iI (fo : Int)), .ref mpl, .ref mdi, .ref mc])), (mq, .inl (cI, 16, .inl (iA q))), (mr, .inl (cI, 16, .inl (iA r))), (mg, .inl (cI, 256, .inl (iA u79))), (mpl, .inl (cI, 13, .inl (iA P9))), (mdi, .inl (cI, 13, .inl (iA (zU D9 a (D9 (a - 1)))))), (mc, .inl (cI, 5, .inl (iA (bmp T 3))))] := hD
                      refine lv_aload_n hx hb dX3_turn_170 rfl (lv_at hl 0 rfl) ?_
                      refine va_get (D := (dC, dI)) (ci := 3) (v := .ref mpl) (C := RX3) (T := TX3) (N := 17) hx hb hts in_X3 hown hK hP 0 rfl rfl 14 (by decide) fl_35 (fun _ h9 => h9) rfl dX3_turn_171 ?_
                      refine lv_iload hx hb dX3_turn_174 (lv_at hl 4 rfl) ?_
                      refine lv_aload_n hx hb dX3_turn_176 rfl (lv_at hl 0 rfl) ?_
                      refine va_get (D := (dC, dI)) (ci := 3) (v := .ref mpl) (C := RX3) (T := TX3) (N := 17) hx hb hts in_X3 hown hK hP 0 rfl rfl 14 (by decide) fl_35 (fun _ h9 => h9) rfl dX3_turn_177 ?_
                      refine lv_iload hx hb dX3_turn_180 (lv_at hl 4 rfl) ?_
                      refine lv_iconst (v := iI (1 : Int)) hx hb dX3_turn_182 (by decide) ?_
                      refine z_isub hx hb dX3_turn_183 ?_
                      refine z_top (b := ((a - 1 : Nat) : Int)) (by omega) ?_
                      refine z_iald hx hb hK hP 4 0 rfl rfl (a - 1) (by omega) dX3_turn_184 ?_
                      refine z_iast hx hb hK hP hD hS 4 0 rfl rfl a (by omega) dX3_turn_185 (fun H locs hP hD hS => ?_)
                      have hP : va_P (dC, dI) vwCl [(m0, .inr (3, [.int (iI cd), .int (iI (n : Int)), .int (iI (w : Int)), .ref mq, .int (iI (rc : Int)), .ref mn, .ref ml, .int (iI (sc : Int)), .ref ms, .ref mr, .ref mg, .ref mp, .int (iI (mo : Int)), .int (iI (fo : Int)), .ref mpl, .ref mdi, .ref mc])), (mq, .inl (cI, 16, .inl (iA q))), (mr, .inl (cI, 16, .inl (iA r))), (mg, .inl (cI, 256, .inl (iA u79))), (mpl, .inl (cI, 13, .inl (iA (zU P9 a (P9 (a - 1)))))), (mdi, .inl (cI, 13, .inl (iA (zU D9 a (D9 (a - 1)))))), (mc, .inl (cI, 5, .inl (iA (bmp T 3))))] H := hP
                      have hD : va_D A [(m0, .inr (3, [.int (iI cd), .int (iI (n : Int)), .int (iI (w : Int)), .ref mq, .int (iI (rc : Int)), .ref mn, .ref ml, .int (iI (sc : Int)), .ref ms, .ref mr, .ref mg, .ref mp, .int (iI (mo : Int)), .int (iI (fo : Int)), .ref mpl, .ref mdi, .ref mc])), (mq, .inl (cI, 16, .inl (iA q))), (mr, .inl (cI, 16, .inl (iA r))), (mg, .inl (cI, 256, .inl (iA u79))), (mpl, .inl (cI, 13, .inl (iA (zU P9 a (P9 (a - 1)))))), (mdi, .inl (cI, 13, .inl (iA (zU D9 a (D9 (a - 1)))))), (mc, .inl (cI, 5, .inl (iA (bmp T 3))))] := hD
                      refine z_iinc (k := 4) (b := ((a - 1 : Nat) : Int)) (lv' := [(5, .int (iI ((a - 1 : Nat) : Int))), (0, .ref m0), (1, .int (iI pl)), (2, .int (iI (1 : Int))), (4, .int (iI d9))]) hx hb dX3_turn_186 hl rfl (by omega) (by decide) rfl (fun ls hl => ?_)
                      refine lv_goto (tgt := 135) hx hb dX3_turn_189 (by decide) ?_
                      exact ih_lpi _ (by omega) (a - 1) (zU P9 a (P9 (a - 1))) (zU D9 a (D9 (a - 1))) H locs ls (by omega) (by rw [eP]; exact shf_step (by omega) ha) (by rw [eD]; exact shf_step (by omega) ha) (by rw [← hsc]; exact (scn_on (by omega) h151b).symm) rfl hP hD hS (lv_sub hl [1, 2, 3, 4, 0] rfl)
              exact lpi _ fo PL DI _ _ ls (Nat.le_refl _) ((shf_0 _ _).symm) ((shf_0 _ _).symm) (rfl) rfl hP hD hS (lv_sub hl [2, 3, 4, 1, 0] rfl)
            · have hgu : ¬ givesUp n w q r (DI (mo - 1)) := by
                rcases hz88 with h9 | h9
                · omega
                · exact h9.2
              subst hAe
              exact zw_retv (((fo, PL, DI, bmp T 3), u79)) hx hb hr hlocks hQ (⟨by rw [wgh_3 hfm (by rw [hfm]) hpz hgu (by omega)]; exact lsim.rfl', ⟨hlk.1, hlk.2.1, hlk.2.2⟩, hw79.1⟩) hP hK hD hS dX3_turn_128
          · refine lv_aload_n hx hb dX3_turn_94 rfl (lv_at hl 0 rfl) ?_
            refine lv_iconst (v := iI (4 : Int)) hx hb dX3_turn_95 (by decide) ?_
            refine zw_v (wr := [(mq, .inl (cI, 16, .inl (iA q))), (mr, .inl (cI, 16, .inl (iA r))), (mg, .inl (cI, 256, .inl (iA u79))), (mpl, .inl (cI, 13, .inl (iA PL))), (mdi, .inl (cI, 13, .inl (iA DI)))]) (va_runV (As := [.int (iI (4 : Int))]) (rest := []) ⟨hx, hb, hml, hown, hts⟩ (c_tally l dC dI cI m0 mq mn ml ms mr mg mp mpl mdi mc cd n w rc sc mo fo 4 (bmp T 3) _ (by omega)) (cwV 1 hts (ga_V wd_626 wd_628 wd_24 wd_31 wd_629) rfl rfl rfl (by decide +kernel) ⟨(show 0 + 1 ≤ R.frames by omega), (show 8 + (2 + 11) + 0 ≤ R.locals by omega)⟩) (wr_preV (q0 := 0) (ci := 3) hP hK hD [0, 6] (by decide) rfl rfl rfl rfl) rfl rfl hl.1 rfl (lv_room (Nat.le_of_ble_eq_true rfl)) dX3_turn_96 ⟨by omega, by omega⟩) hP hD hS hA [0, 6] [1, 2, 3, 4, 5] rfl rfl (by decide) (by decide) (fun u96 H locs hw96 hP hD hS => ?_)
            have hP := hP.sub (ws' := [(m0, .inr (3, [.int (iI cd), .int (iI (n : Int)), .int (iI (w : Int)), .ref mq, .int (iI (rc : Int)), .ref mn, .ref ml, .int (iI (sc : Int)), .ref ms, .ref mr, .ref mg, .ref mp, .int (iI (mo : Int)), .int (iI (fo : Int)), .ref mpl, .ref mdi, .ref mc])), (mq, .inl (cI, 16, .inl (iA q))), (mr, .inl (cI, 16, .inl (iA r))), (mg, .inl (cI, 256, .inl (iA u79))), (mpl, .inl (cI, 13, .inl (iA PL))), (mdi, .inl (cI, 13, .inl (iA DI))), (mc, .inl (cI, 5, .inl (iA (bmp (bmp T 3) 4))))]) [5, 0, 1, 2, 3, 4, 6] rfl
            have hD := hD.sub (ws' := [(m0, .inr (3, [.int (iI cd), .int (iI (n : Int)), .int (iI (w : Int)), .ref mq, .int (iI (rc : Int)), .ref mn, .ref ml, .int (iI (sc : Int)), .ref ms, .ref mr, .ref mg, .ref mp, .int (iI (mo : Int)), .int (iI (fo : Int)), .ref mpl, .ref mdi, .ref mc])), (mq, .inl (cI, 16, .inl (iA q))), (mr, .inl (cI, 16, .inl (iA r))), (mg, .inl (cI, 256, .inl (iA u79))), (mpl, .inl (cI, 13, .inl (iA PL))), (mdi, .inl (cI, 13, .inl (iA DI))), (mc, .inl (cI, 5, .inl (iA (bmp (bmp T 3) 4))))]) [5, 0, 1, 2, 3, 4, 6] (by decide) rfl
            have hgu : givesUp n w q r (DI (mo - 1)) := by
              rcases hz88 with h9 | h9
              · exact h9.2
              · omega
            subst hAe
            exact zw_retv (((fo, PL, DI, bmp (bmp T 3) 4), u79)) hx hb hr hlocks hQ (⟨by rw [wgh_2 hfm (by rw [hfm]) hpz hgu]; exact lsim.rfl', ⟨hlk.1, hlk.2.1, hlk.2.2⟩, hw79.1⟩) hP hK hD hS dX3_turn_99
        · refine lv_iload_n hx hb dX3_turn_46 rfl (lv_at hl 2 rfl) ?_
          refine z_if_eq (tgt := 73) hx hb dX3_turn_47 (by decide) (by decide) (fun h9 => absurd h9 (by decide)) (fun _ => ?_)
          refine lv_aload_n hx hb dX3_turn_50 rfl (lv_at hl 0 rfl) ?_
          refine lv_iload hx hb dX3_turn_51 (lv_at hl 4 rfl) ?_
          refine zr_i (va_runV (As := [.int (iI (v : Int))]) (rest := []) ⟨hx, hb, hml, hown, hts⟩ (c_boundOf l dC dI cI m0 mq mn ml ms mr mg mp mpl mdi mc cd n w rc sc mo fo q r (v : Int) hn hw hvq hvr (by omega)) (cwV 1 hts (ga_V wd_594 wd_596 wd_19 wd_31 wd_597) rfl rfl rfl (by decide +kernel) ⟨(show 2 + 1 ≤ R.frames by omega), (show 8 + (4 + 11) + 50 ≤ R.locals by omega)⟩) (rd_preV (q0 := 0) (ci := 3) hP hK [0, 1, 2] rfl rfl rfl) rfl rfl hl.1 rfl (lv_room (Nat.le_of_ble_eq_true rfl)) dX3_turn_53 ⟨by omega, by omega⟩) (fun z53 hz53 => ?_)
          have r53 : 0 ≤ z53 ∧ z53 ≤ 128000000 := by rw [hz53]; exact lbd_rg (by omega) hvq hvr _
          refine lv_iload_n hx hb dX3_turn_56 rfl (lv_at hl 3 rfl) ?_
          refine z_icmp_lt (tgt := 67) hx hb dX3_turn_57 (by decide) (by omega) (fun h57 => ?_) (fun h57 => ?_)
          · refine z_iinc (k := 4) (b := ((v + 1 : Nat) : Int)) (lv' := [(4, .int (iI ((v + 1 : Nat) : Int))), (0, .ref m0), (1, .int (iI pl)), (2, .int (iI (1 : Int))), (3, .int (iI (DI (mo - 1))))]) hx hb dX3_turn_67 hl rfl (by omega) (by decide) rfl (fun ls hl => ?_)
            refine lv_goto (tgt := 40) hx hb dX3_turn_70 (by decide) ?_
            exact ih_lpb _ (by omega) (v + 1) ls (by omega) (fun k h => by by_cases g9 : k = v; (subst g9; rw [← hz53]; exact h57); exact hb9 k (by omega)) rfl (lv_sub hl [1, 2, 3, 4, 0] rfl)
          · refine lv_aload_n hx hb dX3_turn_60 rfl (lv_at hl 0 rfl) ?_
            refine lv_iload hx hb dX3_turn_61 (lv_at hl 4 rfl) ?_
            refine zw_v (wr := [(mq, .inl (cI, 16, .inl (iA q))), (mr, .inl (cI, 16, .inl (iA r))), (mg, .inl (cI, 256, .inl (iA G))), (mpl, .inl (cI, 13, .inl (iA PL))), (mdi, .inl (cI, 13, .inl (iA DI)))]) (va_runV (As := [.int (iI (v : Int))]) (rest := []) ⟨hx, hb, hml, hown, hts⟩ (c_tally l dC dI cI m0 mq mn ml ms mr mg mp mpl mdi mc cd n w rc sc mo fo v T _ (by omega)) (cwV 1 hts (ga_V wd_626 wd_628 wd_24 wd_31 wd_629) rfl rfl rfl (by decide +kernel) ⟨(show 0 + 1 ≤ R.frames by omega), (show 8 + (2 + 11) + 0 ≤ R.locals by omega)⟩) (wr_preV (q0 := 0) (ci := 3) hP hK hD [0, 6] (by decide) rfl rfl rfl rfl) rfl rfl hl.1 rfl (lv_room (Nat.le_of_ble_eq_true rfl)) dX3_turn_63 ⟨by omega, by omega⟩) hP hD hS hA [0, 6] [1, 2, 3, 4, 5] rfl rfl (by decide) (by decide) (fun u63 H locs hw63 hP hD hS => ?_)
            have hP := hP.sub (ws' := [(m0, .inr (3, [.int (iI cd), .int (iI (n : Int)), .int (iI (w : Int)), .ref mq, .int (iI (rc : Int)), .ref mn, .ref ml, .int (iI (sc : Int)), .ref ms, .ref mr, .ref mg, .ref mp, .int (iI (mo : Int)), .int (iI (fo : Int)), .ref mpl, .ref mdi, .ref mc])), (mq, .inl (cI, 16, .inl (iA q))), (mr, .inl (cI, 16, .inl (iA r))), (mg, .inl (cI, 256, .inl (iA G))), (mpl, .inl (cI, 13, .inl (iA PL))), (mdi, .inl (cI, 13, .inl (iA DI))), (mc, .inl (cI, 5, .inl (iA (bmp T v))))]) [5, 0, 1, 2, 3, 4, 6] rfl
            have hD := hD.sub (ws' := [(m0, .inr (3, [.int (iI cd), .int (iI (n : Int)), .int (iI (w : Int)), .ref mq, .int (iI (rc : Int)), .ref mn, .ref ml, .int (iI (sc : Int)), .ref ms, .ref mr, .ref mg, .ref mp, .int (iI (mo : Int)), .int (iI (fo : Int)), .ref mpl, .ref mdi, .ref mc])), (mq, .inl (cI, 16, .inl (iA q))), (mr, .inl (cI, 16, .inl (iA r))), (mg, .inl (cI, 256, .inl (iA G))), (mpl, .inl (cI, 13, .inl (iA PL))), (mdi, .inl (cI, 13, .inl (iA DI))), (mc, .inl (cI, 5, .inl (iA (bmp T v))))]) [5, 0, 1, 2, 3, 4, 6] (by decide) rfl
            subst hAe
            exact zw_retv (((fo, PL, DI, bmp T v), G)) hx hb hr hlocks hQ (⟨by rw [wgh_1 hfm (by rw [hfm]) (pas_at hb9 (by omega) (by rw [← hz53]; exact h57)).symm (by omega)]; exact lsim.rfl', ⟨hlk.1, hlk.2.1, hlk.2.2⟩, hG⟩) hP hK hD hS dX3_turn_66
    exact lpb _ 0 ls (by omega) (fun k h => absurd h (Nat.not_lt_zero _)) rfl (lv_sub hl [3, 4, 2, 1, 0] rfl)
