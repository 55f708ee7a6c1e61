set_option maxRecDepth 100000 in
set_option maxHeartbeats 4000000 in
theorem c_fill (l : Launch) (dC : Nat → ClassId) (dI : Nat → Nat → Nat) (cI : ClassId) (m0 mq mn ml ms mr mg mp mpl mdi mc : Nat) (cd : Int) (n w rc sc mo fo : Nat) (q r G : Nat → Int) (sz : Nat) (hn : 2 ≤ n ∧ n ≤ 16) (hw : w ≤ 15) (hvq : vals n q) (hvr : vals n r) (hG : rgA G) : Met l yX3_fill wsX3_fill ({ frames := 3, cells := 0, slots := 0, locals := 66 }) (wrP dC dI [(cI, .int)] [(m0, .inr (3, [.int (iI cd), .int (iI (n : Int)), .int (iI (w : Int)), .ref mq, .int (iI (rc : Int)), .ref mn, .ref ml, .int (iI (sc : Int)), .ref ms, .ref mr, .ref mg, .ref mp, .int (iI (mo : Int)), .int (iI (fo : Int)), .ref mpl, .ref mdi, .ref mc])), (mq, .inl (cI, 16, .inl (iA q))), (mr, .inl (cI, 16, .inl (iA r))), (mg, .inl (cI, 256, .inl (iA G)))] sz [.ref m0]) (wrQv dC dI [(cI, .int)] [(m0, .inr (3, [.int (iI cd), .int (iI (n : Int)), .int (iI (w : Int)), .ref mq, .int (iI (rc : Int)), .ref mn, .ref ml, .int (iI (sc : Int)), .ref ms, .ref mr, .ref mg, .ref mp, .int (iI (mo : Int)), .int (iI (fo : Int)), .ref mpl, .ref mdi, .ref mc])), (mq, .inl (cI, 16, .inl (iA q))), (mr, .inl (cI, 16, .inl (iA r))), (mg, .inl (cI, 256, .inl (iA G)))] sz (S := (Nat → Int)) (fun u => rgA u ∧ ∀ a b, a < n → b < n → inb w a b → u (16 * a + b) = cst w q r a b) (fun u => [(m0, .inr (3, [.int (iI cd), .int (iI (n : Int)), .int (iI (w : Int)), .ref mq, .int (iI (rc : Int)), .ref mn, .ref ml, .int (iI (sc : Int)), .ref ms, .ref mr, .ref mg, .ref mp, .int (iI (mo : Int)), .int (iI (fo : Int)), .ref mpl, .ref mdi, .ref mc])), (mq, .inl (cI, 16, .inl (iA q))), (mr, .inl (cI, 16, .inl (iA r))), (mg, .inl (cI, 256, .inl (iA u)))])) 0 0 (va_A [(m0, .inr (3, [.int (iI cd), .int (iI (n : Int)), .int (iI (w : Int)), .ref mq, .int (iI (rc : Int)), .ref mn, .ref ml, .int (iI (sc : Int)), .ref ms, .ref mr, .ref mg, .ref mp, .int (iI (mo : Int)), .int (iI (fo : Int)), .ref mpl, .ref mdi, .ref mc])), (mq, .inl (cI, 16, .inl (iA q))), (mr, .inl (cI, 16, .inl (iA r))), (mg, .inl (cI, 256, .inl (iA G)))] sz) := by
  refine Met.ofW (cc := cX3_fill) (maxL := 5) (ret := none) (by decide) rfl ?_
  intro p e s m args below meth c s₁ B hml hv
  obtain ⟨rfl, hsz, hP, hK, hD0⟩ := hv
  have hx := B.exec
  have hb := B.bytes
  have hr := B.returns
  have hts : ∀ w ∈ wsX3_fill, w.before _ s = true := atoms_spec (ws := wsX3_fill) B.pre
  have hown : s.vm.findClass RX3 = some m.cls := findClass_of_methodNamed B.named
  have hlocks := B.notSynchronized
  subst hsz
  have hD := hD0.self (sz := s.heap.size)
  have hA : ∀ q9 : Nat, s.heap.size ≤ q9 → va_A [(m0, .inr (3, [.int (iI cd), .int (iI (n : Int)), .int (iI (w : Int)), .ref mq, .int (iI (rc : Int)), .ref mn, .ref ml, .int (iI (sc : Int)), .ref ms, .ref mr, .ref mg, .ref mp, .int (iI (mo : Int)), .int (iI (fo : Int)), .ref mpl, .ref mdi, .ref mc])), (mq, .inl (cI, 16, .inl (iA q))), (mr, .inl (cI, 16, .inl (iA r))), (mg, .inl (cI, 256, .inl (iA G)))] s.heap.size q9 := fun q9 h => Or.inr h
  have hS : va_S (va_A [(m0, .inr (3, [.int (iI cd), .int (iI (n : Int)), .int (iI (w : Int)), .ref mq, .int (iI (rc : Int)), .ref mn, .ref ml, .int (iI (sc : Int)), .ref ms, .ref mr, .ref mg, .ref mp, .int (iI (mo : Int)), .int (iI (fo : Int)), .ref mpl, .ref mdi, .ref mc])), (mq, .inl (cI, 16, .inl (iA q))), (mr, .inl (cI, 16, .inl (iA r))), (mg, .inl (cI, 256, .inl (iA G)))] s.heap.size) s.heap s.heap [] := va_S.rf
  generalize hAe : va_A [(m0, .inr (3, [.int (iI cd), .int (iI (n : Int)), .int (iI (w : Int)), .ref mq, .int (iI (rc : Int)), .ref mn, .ref ml, .int (iI (sc : Int)), .ref ms, .ref mr, .ref mg, .ref mp, .int (iI (mo : Int)), .int (iI (fo : Int)), .ref mpl, .ref mdi, .ref mc])), (mq, .inl (cI, 16, .inl (iA q))), (mr, .inl (cI, 16, .inl (iA r))), (mg, .inl (cI, 256, .inl (iA G)))] s.heap.size = A at hD hA hS
  have hP : va_P (dC, dI) vwCl [(m0, .inr (3, [.int (iI cd), .int (iI (n : Int)), .int (iI (w : Int)), .ref mq, .int (iI (rc : Int)), .ref mn, .ref ml, .int (iI (sc : Int)), .ref ms, .ref mr, .ref mg, .ref mp, .int (iI (mo : Int)), .int (iI (fo : Int)), .ref mpl, .ref mdi, .ref mc])), (mq, .inl (cI, 16, .inl (iA q))), (mr, .inl (cI, 16, .inl (iA r))), (mg, .inl (cI, 256, .inl (iA G)))] s.heap := hP
  have hl := lv_entry ([.ref m0]) (n := 5) (Nat.le_of_ble_eq_true rfl)
  rw [lg_entry_eq]
  generalize (lg_sl ([.ref m0]) ++ List.replicate (5 - (lg_sl ([.ref m0])).length) Slot.unset).toArray = ls at hl ⊢
  have hl : lv_has ls 5 [(0, .ref m0)] := hl
  generalize hargs : ([.ref m0] : List Value).toArray = args at hts ⊢
  refine z_intro (fun R Q hR hQ => ?_)
  have hRf : R.frames = 3 := by rw [hR]; rfl
  have hRl : R.locals = 66 := by rw [hR]; rfl
  have hRc : R.cells = 0 := by rw [hR]; rfl
  have hRs : R.slots = 0 := by rw [hR]; rfl
  have in_X3 : ∀ w ∈ u_ws RX3 TX3 17, w ∈ wsX3_fill := fun w h => List.mem_cons_of_mem _ (inW_X3 w h)
  have fl_7 := wa_hts hts wd_485
  have fl_13 := wa_hts hts wd_487
  have fl_26 := wa_hts hts wd_493
  have fl_29 := wa_hts hts wd_494
  clear hR hargs B
  refine lv_iconst (v := iI (0 : Int)) hx hb dX3_fill_0 (by decide) ?_
  refine lv_istore_n (lv' := [(1, .int (iI (0 : Int))), (0, .ref m0)]) hx hb dX3_fill_1 rfl hl (by decide) rfl (fun ls hl => ?_)
  have lpo : ∀ (k9 : Nat) (j : Nat) (G9 : Nat → Int) (H : Heap) (locs : List Loc) (ls : Array Slot), (j ≤ n) → (rgA G9) → (∀ a b, a < n → b < n → b < j → inb w a b → G9 (16 * a + b) = cst w q r a b) → n - j = k9 → va_P (dC, dI) vwCl [(m0, .inr (3, [.int (iI cd), .int (iI (n : Int)), .int (iI (w : Int)), .ref mq, .int (iI (rc : Int)), .ref mn, .ref ml, .int (iI (sc : Int)), .ref ms, .ref mr, .ref mg, .ref mp, .int (iI (mo : Int)), .int (iI (fo : Int)), .ref mpl, .ref mdi, .ref mc])), (mq, .inl (cI, 16, .inl (iA q))), (mr, .inl (cI, 16, .inl (iA r))), (mg, .inl (cI, 256, .inl (iA G9)))] H → va_D A [(m0, .inr (3, [.int (iI cd), .int (iI (n : Int)), .int (iI (w : Int)), .ref mq, .int (iI (rc : Int)), .ref mn, .ref ml, .int (iI (sc : Int)), .ref ms, .ref mr, .ref mg, .ref mp, .int (iI (mo : Int)), .int (iI (fo : Int)), .ref mpl, .ref mdi, .ref mc])), (mq, .inl (cI, 16, .inl (iA q))), (mr, .inl (cI, 16, .inl (iA r))), (mg, .inl (cI, 256, .inl (iA G9)))] → va_S A s.heap H locs → lv_has ls 5 [(0, .ref m0), (1, .int (iI (j : Int)))] → W p l e R s m args below meth c H locs 0 0 Q (F0 m 2 ls []) := by
    intro k9
    induction k9 using Nat.strongRecOn with
    | ind k9 ih_lpo =>
      intro j G9 H locs ls hj hG9 hok hk9 hP hD hS hl
      refine lv_iload_n hx hb dX3_fill_2 rfl (lv_at hl 1 rfl) ?_
      refine lv_aload_n hx hb dX3_fill_3 rfl (lv_at hl 0 rfl) ?_
      refine va_get (D := (dC, dI)) (ci := 3) (v := .int (iI (n : Int))) (C := RX3) (T := TX3) (N := 17) hx hb hts in_X3 hown hK hP 0 rfl rfl 1 (by decide) fl_7 (fun _ h9 => h9) rfl dX3_fill_4 ?_
      refine z_icmp_ge (tgt := 116) hx hb dX3_fill_7 (by decide) (by omega) (fun h7 => ?_) (fun h7 => ?_)
      · subst hAe
        exact zw_retv (G9) hx hb hr hlocks hQ (⟨hG9, fun a b h1 h2 h3 => hok a b h1 h2 (by omega) h3⟩) hP hK hD hS dX3_fill_116
      · refine lv_iconst (v := iI (0 : Int)) hx hb dX3_fill_10 (by decide) ?_
        refine lv_istore_n (lv' := [(2, .int (iI (0 : Int))), (0, .ref m0), (1, .int (iI (j : Int)))]) hx hb dX3_fill_11 rfl hl (by decide) rfl (fun ls hl => ?_)
        have lpi : ∀ (k9 : Nat) (i : Nat) (G9 : Nat → Int) (H : Heap) (locs : List Loc) (ls : Array Slot), (i ≤ n) → (rgA G9) → (∀ a b, a < n → b < n → (b < j ∨ (b = j ∧ a < i)) → inb w a b → G9 (16 * a + b) = cst w q r a b) → n - i = k9 → va_P (dC, dI) vwCl [(m0, .inr (3, [.int (iI cd), .int (iI (n : Int)), .int (iI (w : Int)), .ref mq, .int (iI (rc : Int)), .ref mn, .ref ml, .int (iI (sc : Int)), .ref ms, .ref mr, .ref mg, .ref mp, .int (iI (mo : Int)), .int (iI (fo : Int)), .ref mpl, .ref mdi, .ref mc])), (mq, .inl (cI, 16, .inl (iA q))), (mr, .inl (cI, 16, .inl (iA r))), (mg, .inl (cI, 256, .inl (iA G9)))] H → va_D A [(m0, .inr (3, [.int (iI cd), .int (iI (n : Int)), .int (iI (w : Int)), .ref mq, .int (iI (rc : Int)), .ref mn, .ref ml, .int (iI (sc : Int)), .ref ms, .ref mr, .ref mg, .ref mp, .int (iI (mo : Int)), .int (iI (fo : Int)), .ref mpl, .ref mdi, .ref mc])), (mq, .inl (cI, 16, .inl (iA q))), (mr, .inl (cI, 16, .inl (iA r))), (mg, .inl (cI, 256, .inl (iA G9)))] → va_S A s.heap H locs → lv_has ls 5 [(0, .ref m0), (1, .int (iI (j : Int))), (2, .int (iI (i : Int)))] → W p l e R s m args below meth c H locs 0 0 Q (F0 m 12 ls []) := by
          intro k9
          induction k9 using Nat.strongRecOn with
          | ind k9 ih_lpi =>
            intro i G9 H locs ls hi hG9 hok hk9 hP hD hS hl
            refine lv_iload_n hx hb dX3_fill_12 rfl (lv_at hl 2 rfl) ?_
            refine lv_aload_n hx hb dX3_fill_13 rfl (lv_at hl 0 rfl) ?_
            refine va_get (D := (dC, dI)) (ci := 3) (v := .int (iI (n : Int))) (C := RX3) (T := TX3) (N := 17) hx hb hts in_X3 hown hK hP 0 rfl rfl 1 (by decide) fl_7 (fun _ h9 => h9) rfl dX3_fill_14 ?_
            refine z_icmp_ge (tgt := 110) hx hb dX3_fill_17 (by decide) (by omega) (fun h17 => ?_) (fun h17 => ?_)
            · refine z_iinc (k := 1) (b := ((j + 1 : Nat) : Int)) (lv' := [(1, .int (iI ((j + 1 : Nat) : Int))), (0, .ref m0), (2, .int (iI (i : Int)))]) hx hb dX3_fill_110 hl rfl (by omega) (by decide) rfl (fun ls hl => ?_)
              refine lv_goto (tgt := 2) hx hb dX3_fill_113 (by decide) ?_
              exact ih_lpo _ (by omega) (j + 1) G9 H locs ls (by omega) (hG9) (fun a b h1 h2 h3 h4 => hok a b h1 h2 (by omega) h4) rfl hP hD hS (lv_sub hl [1, 0] rfl)
            · refine lv_aload_n hx hb dX3_fill_20 rfl (lv_at hl 0 rfl) ?_
              refine lv_iload_n hx hb dX3_fill_21 rfl (lv_at hl 2 rfl) ?_
              refine lv_iload_n hx hb dX3_fill_22 rfl (lv_at hl 1 rfl) ?_
              refine zr_i (va_runV (As := [.int (iI (i : Int)), .int (iI (j : Int))]) (rest := []) ⟨hx, hb, hml, hown, hts⟩ (c_inBand l dC dI cI m0 mq mn ml ms mr mg mp mpl mdi mc cd n w rc sc mo fo (i : Int) (j : Int) hn hw (by omega) (by omega)) (cwV 2 hts (ga_V wd_579 wd_581 wd_17 wd_31 wd_582) rfl rfl rfl (by decide +kernel) ⟨(show 1 + 1 ≤ R.frames by omega), (show 8 + (3 + 11) + 22 ≤ R.locals by omega)⟩) (rd_preV (q0 := 0) (ci := 3) hP hK [0] rfl rfl rfl) rfl rfl hl.1 rfl (lv_room (Nat.le_of_ble_eq_true rfl)) dX3_fill_23 ⟨by omega, by omega⟩) (fun z23 hz23 => ?_)
              refine z_if_eq (tgt := 104) hx hb dX3_fill_26 (by decide) (by omega) (fun h26 => ?_) (fun h26 => ?_)
              · refine z_iinc (k := 2) (b := ((i + 1 : Nat) : Int)) (lv' := [(2, .int (iI ((i + 1 : Nat) : Int))), (0, .ref m0), (1, .int (iI (j : Int)))]) hx hb dX3_fill_104 hl rfl (by omega) (by decide) rfl (fun ls hl => ?_)
                refine lv_goto (tgt := 12) hx hb dX3_fill_107 (by decide) ?_
                exact ih_lpi _ (by omega) (i + 1) G9 H locs ls (by omega) (hG9) (fun a b h1 h2 h3 h4 => hok a b h1 h2 (by omega) h4) rfl hP hD hS (lv_sub hl [1, 2, 0] rfl)
              · have hbj : inb w i j := by omega
                have hcr := cst_rg hvq hvr hn.2 (show i < n by omega) (show j < n by omega) hbj
                refine lv_aload_n hx hb dX3_fill_29 rfl (lv_at hl 0 rfl) ?_
                refine va_get (D := (dC, dI)) (ci := 3) (v := .ref mq) (C := RX3) (T := TX3) (N := 17) hx hb hts in_X3 hown hK hP 0 rfl rfl 3 (by decide) fl_13 (fun _ h9 => h9) rfl dX3_fill_30 ?_
                refine lv_iload_n hx hb dX3_fill_33 rfl (lv_at hl 2 rfl) ?_
                refine z_iald hx hb hK hP 1 0 rfl rfl i (by omega) dX3_fill_34 ?_
                refine lv_aload_n hx hb dX3_fill_35 rfl (lv_at hl 0 rfl) ?_
                refine va_get (D := (dC, dI)) (ci := 3) (v := .ref mr) (C := RX3) (T := TX3) (N := 17) hx hb hts in_X3 hown hK hP 0 rfl rfl 9 (by decide) fl_26 (fun _ h9 => h9) rfl dX3_fill_36 ?_
                refine lv_iload_n hx hb dX3_fill_39 rfl (lv_at hl 1 rfl) ?_
                refine z_iald hx hb hK hP 2 0 rfl rfl j (by omega) dX3_fill_40 ?_
                refine z_isub hx hb dX3_fill_41 ?_
                refine lv_istore_n (lv' := [(3, .int (iI ((q i) - (r j)))), (0, .ref m0), (1, .int (iI (j : Int))), (2, .int (iI (i : Int)))]) hx hb dX3_fill_42 rfl hl (by decide) rfl (fun ls hl => ?_)
                refine lv_aload_n hx hb dX3_fill_43 rfl (lv_at hl 1 rfl) ?_
                refine lv_iload_n hx hb dX3_fill_44 rfl (lv_at hl 3 rfl) ?_
                refine lv_iconst (v := iI (1 : Int)) hx hb dX3_fill_45 (by decide) ?_
                refine z_isub hx hb dX3_fill_46 ?_
                refine lv_iload_n hx hb dX3_fill_47 rfl (lv_at hl 2 rfl) ?_
                refine lv_iconst (v := iI (1 : Int)) hx hb dX3_fill_48 (by decide) ?_
                refine z_isub hx hb dX3_fill_49 ?_
                refine zr_i (va_runV (As := [.int (iI ((i : Int) - (1 : Int))), .int (iI ((j : Int) - (1 : Int)))]) (rest := []) ⟨hx, hb, hml, hown, hts⟩ (c_mCostAt l dC dI cI m0 mq mn ml ms mr mg mp mpl mdi mc cd n w rc sc mo fo G9 ((i : Int) - (1 : Int)) ((j : Int) - (1 : Int)) hn hw (by omega) (by omega)) (cwV 2 hts (ga_V wd_583 wd_585 wd_18 wd_31 wd_586) rfl rfl rfl (by decide +kernel) ⟨(show 2 + 1 ≤ R.frames by omega), (show 8 + (3 + 11) + 44 ≤ R.locals by omega)⟩) (rd_preV (q0 := 0) (ci := 3) hP hK [0, 3] rfl rfl rfl) rfl rfl hl.1 rfl (lv_room (Nat.le_of_ble_eq_true rfl)) dX3_fill_50 ⟨by omega, by omega⟩) (fun z50 hz50 => ?_)
                refine lv_aload_n hx hb dX3_fill_53 rfl (lv_at hl 1 rfl) ?_
                refine lv_iload_n hx hb dX3_fill_54 rfl (lv_at hl 3 rfl) ?_
                refine lv_iconst (v := iI (1 : Int)) hx hb dX3_fill_55 (by decide) ?_
                refine z_isub hx hb dX3_fill_56 ?_
                refine lv_iload_n hx hb dX3_fill_57 rfl (lv_at hl 2 rfl) ?_
                refine zr_i (va_runV (As := [.int (iI ((i : Int) - (1 : Int))), .int (iI (j : Int))]) (rest := [.int (iI z50)]) ⟨hx, hb, hml, hown, hts⟩ (c_mCostAt l dC dI cI m0 mq mn ml ms mr mg mp mpl mdi mc cd n w rc sc mo fo G9 ((i : Int) - (1 : Int)) (j : Int) hn hw (by omega) (by omega)) (cwV 2 hts (ga_V wd_583 wd_585 wd_18 wd_31 wd_586) rfl rfl rfl (by decide +kernel) ⟨(show 2 + 1 ≤ R.frames by omega), (show 8 + (3 + 11) + 44 ≤ R.locals by omega)⟩) (rd_preV (q0 := 0) (ci := 3) hP hK [0, 3] rfl rfl rfl) rfl rfl hl.1 rfl (lv_room (Nat.le_of_ble_eq_true rfl)) dX3_fill_58 ⟨by omega, by omega⟩) (fun z58 hz58 => ?_)
                refine lv_aload_n hx hb dX3_fill_61 rfl (lv_at hl 1 rfl) ?_
                refine lv_iload_n hx hb dX3_fill_62 rfl (lv_at hl 3 rfl) ?_
                refine lv_iload_n hx hb dX3_fill_63 rfl (lv_at hl 2 rfl) ?_
                refine lv_iconst (v := iI (1 : Int)) hx hb dX3_fill_64 (by decide) ?_
                refine z_isub hx hb dX3_fill_65 ?_
                refine zr_i (va_runV (As := [.int (iI (i : Int)), .int (iI ((j : Int) - (1 : Int)))]) (rest := [.int (iI z58), .int (iI z50)]) ⟨hx, hb, hml, hown, hts⟩ (c_mCostAt l dC dI cI m0 mq mn ml ms mr mg mp mpl mdi mc cd n w rc sc mo fo G9 (i : Int) ((j : Int) - (1 : Int)) hn hw (by omega) (by omega)) (cwV 2 hts (ga_V wd_583 wd_585 wd_18 wd_31 wd_586) rfl rfl rfl (by decide +kernel) ⟨(show 2 + 1 ≤ R.frames by omega), (show 8 + (3 + 11) + 44 ≤ R.locals by omega)⟩) (rd_preV (q0 := 0) (ci := 3) hP hK [0, 3] rfl rfl rfl) rfl rfl hl.1 rfl (lv_room (Nat.le_of_ble_eq_true rfl)) dX3_fill_66 ⟨by omega, by omega⟩) (fun z66 hz66 => ?_)
                have r50 : -2147483648 ≤ z50 ∧ z50 ≤ 2147483647 := by rw [hz50]; exact mAt_rg hG9 _ _
                have r58 : -2147483648 ≤ z58 ∧ z58 ≤ 2147483647 := by rw [hz58]; exact mAt_rg hG9 _ _
                have r66 : -2147483648 ≤ z66 ∧ z66 ≤ 2147483647 := by rw [hz66]; exact mAt_rg hG9 _ _
                refine zr_i (va_runS (As := [.int (iI z58), .int (iI z66)]) (rest := [.int (iI z50)]) ⟨hx, hb, hml, hown, hts⟩ (c_lesser l dC dI cI z58 z66 (by omega) (by omega)) (cwS 2 hts (ga_S wd_587 wd_588 wd_31 wd_589) rfl rfl rfl (by decide +kernel) ⟨(show 0 + 1 ≤ R.frames by omega), (show 8 + (2 + 11) + 0 ≤ R.locals by omega)⟩) (rd_preS hP hK [] rfl) rfl rfl hl.1 rfl (lv_room (Nat.le_of_ble_eq_true rfl)) dX3_fill_69 ⟨by omega, by omega⟩) (fun z69 hz69 => ?_)
                have r69 : -2147483648 ≤ z69 ∧ z69 ≤ 2147483647 := by rw [hz69]; exact lsr_rg r58 r66
                refine zr_i (va_runS (As := [.int (iI z50), .int (iI z69)]) (rest := []) ⟨hx, hb, hml, hown, hts⟩ (c_lesser l dC dI cI z50 z69 (by omega) (by omega)) (cwS 2 hts (ga_S wd_587 wd_588 wd_31 wd_589) rfl rfl rfl (by decide +kernel) ⟨(show 0 + 1 ≤ R.frames by omega), (show 8 + (2 + 11) + 0 ≤ R.locals by omega)⟩) (rd_preS hP hK [] rfl) rfl rfl hl.1 rfl (lv_room (Nat.le_of_ble_eq_true rfl)) dX3_fill_72 ⟨by omega, by omega⟩) (fun z72 hz72 => ?_)
                refine lv_istore (lv' := [(4, .int (iI z72)), (3, .int (iI ((q i) - (r j)))), (0, .ref m0), (1, .int (iI (j : Int))), (2, .int (iI (i : Int)))]) hx hb dX3_fill_75 hl (by decide) rfl (fun ls hl => ?_)
                refine lv_aload_n hx hb dX3_fill_77 rfl (lv_at hl 2 rfl) ?_
                refine va_get (D := (dC, dI)) (ci := 3) (v := .ref mg) (C := RX3) (T := TX3) (N := 17) hx hb hts in_X3 hown hK hP 0 rfl rfl 10 (by decide) fl_29 (fun _ h9 => h9) rfl dX3_fill_78 ?_
                refine lv_bipush (v := iI (16 : Int)) hx hb dX3_fill_81 (by decide) ?_
                refine lv_iload_n hx hb dX3_fill_83 rfl (lv_at hl 4 rfl) ?_
                refine z_imul hx hb dX3_fill_84 ?_
                refine lv_iload_n hx hb dX3_fill_85 rfl (lv_at hl 3 rfl) ?_
                refine z_iadd hx hb dX3_fill_86 ?_
                refine lv_iload_n hx hb dX3_fill_87 rfl (lv_at hl 1 rfl) ?_
                refine lv_iload_n hx hb dX3_fill_88 rfl (lv_at hl 1 rfl) ?_
                refine z_imul hx hb dX3_fill_89 ?_
                refine lv_iload_n hx hb dX3_fill_90 rfl (lv_at hl 4 rfl) ?_
                refine lv_iload_n hx hb dX3_fill_91 rfl (lv_at hl 3 rfl) ?_
                refine z_iadd hx hb dX3_fill_92 ?_
                refine z_if_ne (tgt := 100) hx hb dX3_fill_93 (by decide) (by omega) (fun h93 => ?_) (fun h93 => ?_)
                · refine lv_iload hx hb dX3_fill_100 (lv_at hl 0 rfl) ?_
                  refine z_iadd hx hb dX3_fill_102 ?_
                  refine z_top (b := cst w q r i j) (by rw [hz72, hz69, hz50, hz58, hz66]; exact cst_m hvq hvr hn.2 (by omega) (by omega) hbj (by omega) (fun a b h1 h2 h3 h4 h5 h6 => hok a b h1 h2 (by omega) h6)) ?_
                  refine z_iast hx hb hK hP hD hS 3 0 rfl rfl ((16 * i) + j) (by omega) dX3_fill_103 (fun H locs hP hD hS => ?_)
                  have hP : va_P (dC, dI) vwCl [(m0, .inr (3, [.int (iI cd), .int (iI (n : Int)), .int (iI (w : Int)), .ref mq, .int (iI (rc : Int)), .ref mn, .ref ml, .int (iI (sc : Int)), .ref ms, .ref mr, .ref mg, .ref mp, .int (iI (mo : Int)), .int (iI (fo : Int)), .ref mpl, .ref mdi, .ref mc])), (mq, .inl (cI, 16, .inl (iA q))), (mr, .inl (cI, 16, .inl (iA r))), (mg, .inl (cI, 256, .inl (iA (zU G9 ((16 * i) + j) (cst w q r i j)))))] H := hP
                  have hD : va_D A [(m0, .inr (3, [.int (iI cd), .int (iI (n : Int)), .int (iI (w : Int)), .ref mq, .int (iI (rc : Int)), .ref mn, .ref ml, .int (iI (sc : Int)), .ref ms, .ref mr, .ref mg, .ref mp, .int (iI (mo : Int)), .int (iI (fo : Int)), .ref mpl, .ref mdi, .ref mc])), (mq, .inl (cI, 16, .inl (iA q))), (mr, .inl (cI, 16, .inl (iA r))), (mg, .inl (cI, 256, .inl (iA (zU G9 ((16 * i) + j) (cst w q r i j)))))] := hD
                  refine z_iinc (k := 4) (b := ((i + 1 : Nat) : Int)) (lv' := [(2, .int (iI ((i + 1 : Nat) : Int))), (4, .int (iI z72)), (3, .int (iI ((q i) - (r j)))), (0, .ref m0), (1, .int (iI (j : Int)))]) hx hb dX3_fill_104 hl rfl (by omega) (by decide) rfl (fun ls hl => ?_)
                  refine lv_goto (tgt := 12) hx hb dX3_fill_107 (by decide) ?_
                  exact ih_lpi _ (by omega) (i + 1) (zU G9 (16 * i + j) (cst w q r i j)) H locs ls (by omega) (rgA_u hG9 (by omega)) (fun a b h1 h2 h3 h4 => by by_cases g9 : a = i ∧ b = j; (obtain ⟨g1, g2⟩ := g9; subst g1; subst g2; rw [zU_s]); (rw [zU_n (by omega)]; exact hok a b h1 h2 (by omega) h4)) rfl hP hD hS (lv_sub hl [3, 4, 0] rfl)
                · refine lv_iconst (v := iI (0 : Int)) hx hb dX3_fill_96 (by decide) ?_
                  refine lv_goto (tgt := 102) hx hb dX3_fill_97 (by decide) ?_
                  refine z_iadd hx hb dX3_fill_102 ?_
                  refine z_top (b := cst w q r i j) (by have e1 : i = 0 := (by omega); have e2 : j = 0 := (by omega); subst e1; subst e2; rw [cst]; unfold sqd; omega) ?_
                  refine z_iast hx hb hK hP hD hS 3 0 rfl rfl ((16 * i) + j) (by omega) dX3_fill_103 (fun H locs hP hD hS => ?_)
                  have hP : va_P (dC, dI) vwCl [(m0, .inr (3, [.int (iI cd), .int (iI (n : Int)), .int (iI (w : Int)), .ref mq, .int (iI (rc : Int)), .ref mn, .ref ml, .int (iI (sc : Int)), .ref ms, .ref mr, .ref mg, .ref mp, .int (iI (mo : Int)), .int (iI (fo : Int)), .ref mpl, .ref mdi, .ref mc])), (mq, .inl (cI, 16, .inl (iA q))), (mr, .inl (cI, 16, .inl (iA r))), (mg, .inl (cI, 256, .inl (iA (zU G9 ((16 * i) + j) (cst w q r i j)))))] H := hP
                  have hD : va_D A [(m0, .inr (3, [.int (iI cd), .int (iI (n : Int)), .int (iI (w : Int)), .ref mq, .int (iI (rc : Int)), .ref mn, .ref ml, .int (iI (sc : Int)), .ref ms, .ref mr, .ref mg, .ref mp, .int (iI (mo : Int)), .int (iI (fo : Int)), .ref mpl, .ref mdi, .ref mc])), (mq, .inl (cI, 16, .inl (iA q))), (mr, .inl (cI, 16, .inl (iA r))), (mg, .inl (cI, 256, .inl (iA (zU G9 ((16 * i) + j) (cst w q r i j)))))] := hD
                  refine z_iinc (k := 4) (b := ((i + 1 : Nat) : Int)) (lv' := [(2, .int (iI ((i + 1 : Nat) : Int))), (4, .int (iI z72)), (3, .int (iI ((q i) - (r j)))), (0, .ref m0), (1, .int (iI (j : Int)))]) hx hb dX3_fill_104 hl rfl (by omega) (by decide) rfl (fun ls hl => ?_)
                  refine lv_goto (tgt := 12) hx hb dX3_fill_107 (by decide) ?_
                  exact ih_lpi _ (by omega) (i + 1) (zU G9 (16 * i + j) (cst w q r i j)) H locs ls (by omega) (rgA_u hG9 (by omega)) (fun a b h1 h2 h3 h4 => by by_cases g9 : a = i ∧ b = j; (obtain ⟨g1, g2⟩ := g9; subst g1; subst g2; rw [zU_s]); (rw [zU_n (by omega)]; exact hok a b h1 h2 (by omega) h4)) rfl hP hD hS (lv_sub hl [3, 4, 0] rfl)
        exact lpi _ 0 G9 _ _ ls (by omega) (hG9) (fun a b h1 h2 h3 h4 => hok a b h1 h2 (by omega) h4) rfl hP hD hS (lv_sub hl [1, 2, 0] rfl)
  exact lpo _ 0 G _ _ ls (by omega) (hG) (fun a b h1 h2 h3 => absurd h3 (Nat.not_lt_zero _)) rfl hP hD hS (lv_sub hl [1, 0] rfl)
