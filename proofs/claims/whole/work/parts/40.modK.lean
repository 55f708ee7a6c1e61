set_option maxRecDepth 100000 in
set_option maxHeartbeats 4000000 in
theorem c_mKeep (l : Launch) (dC : Nat → ClassId) (dI : Nat → Nat → Nat) (cI : ClassId) (m0 mq mn ml ms mr mg mp mpl mdi mc : Nat) (cd : Int) (n w rc sc mo fo : Nat) (v : Int) (q X la : Nat → Int) (sz : Nat) (hn : 2 ≤ n ∧ n ≤ 16) (hrc : rc ≤ 12) (hv : -2147483648 ≤ v ∧ v ≤ 2147483647) : Met l yX3_keep wsX3_keep ({ frames := 1, cells := 0, slots := 0, locals := 22 }) (wrP dC dI [(cI, .int)] [(m0, .inr (3, [.int (iI cd), .int (iI (n : Int)), .int (iI (w : Int)), .ref mq, .int (iI (rc : Int)), .ref mn, .ref ml, .int (iI (sc : Int)), .ref ms, .ref mr, .ref mg, .ref mp, .int (iI (mo : Int)), .int (iI (fo : Int)), .ref mpl, .ref mdi, .ref mc])), (mq, .inl (cI, 16, .inl (iA q))), (mn, .inl (cI, 192, .inl (iA X))), (ml, .inl (cI, 12, .inl (iA la)))] sz [.ref m0, .int (iI v)]) (wrQi dC dI [(cI, .int)] [(m0, .inr (3, [.int (iI cd), .int (iI (n : Int)), .int (iI (w : Int)), .ref mq, .int (iI (rc : Int)), .ref mn, .ref ml, .int (iI (sc : Int)), .ref ms, .ref mr, .ref mg, .ref mp, .int (iI (mo : Int)), .int (iI (fo : Int)), .ref mpl, .ref mdi, .ref mc])), (mq, .inl (cI, 16, .inl (iA q))), (mn, .inl (cI, 192, .inl (iA X))), (ml, .inl (cI, 12, .inl (iA la)))] sz (S := (Int × (Nat → Int) × (Nat → Int) × Nat)) (fun z u => ((0 ≤ v ∧ v ≤ 7) ∧ rc < 12 ∧ u = (0, zC q X 0 (16 * rc) n, zU la rc v, rc + 1) ∧ z = (rc : Int)) ∨ ((v < 0 ∨ 7 < v) ∧ u = (1, X, la, rc) ∧ z = 0) ∨ ((0 ≤ v ∧ v ≤ 7) ∧ rc = 12 ∧ u = (2, X, la, rc) ∧ z = 0)) (fun u => [(m0, .inr (3, [.int (iI u.1), .int (iI (n : Int)), .int (iI (w : Int)), .ref mq, .int (iI ((u.2.2.2 : Nat) : Int)), .ref mn, .ref ml, .int (iI (sc : Int)), .ref ms, .ref mr, .ref mg, .ref mp, .int (iI (mo : Int)), .int (iI (fo : Int)), .ref mpl, .ref mdi, .ref mc])), (mq, .inl (cI, 16, .inl (iA q))), (mn, .inl (cI, 192, .inl (iA u.2.1))), (ml, .inl (cI, 12, .inl (iA u.2.2.1)))])) 0 0 (va_A [(m0, .inr (3, [.int (iI cd), .int (iI (n : Int)), .int (iI (w : Int)), .ref mq, .int (iI (rc : Int)), .ref mn, .ref ml, .int (iI (sc : Int)), .ref ms, .ref mr, .ref mg, .ref mp, .int (iI (mo : Int)), .int (iI (fo : Int)), .ref mpl, .ref mdi, .ref mc])), (mq, .inl (cI, 16, .inl (iA q))), (mn, .inl (cI, 192, .inl (iA X))), (ml, .inl (cI, 12, .inl (iA la)))] sz) := by
  refine Met.ofW (cc := cX3_keep) (maxL := 3) (ret := (some .int)) (by decide) rfl ?_
  intro p e s m args below meth c s₁ B hml hv
  obtain ⟨rfl, hsz, hP, hK, hD0⟩ := hv
  have hx := B.exec
  have hb := B.bytes
  have hr := B.returns
  have hts : ∀ w ∈ wsX3_keep, w.before _ s = true := atoms_spec (ws := wsX3_keep) B.pre
  have hown : s.vm.findClass RX3 = some m.cls := findClass_of_methodNamed B.named
  have hlocks := B.notSynchronized
  subst hsz
  have hD := hD0.self (sz := s.heap.size)
  have hA : ∀ q9 : Nat, s.heap.size ≤ q9 → va_A [(m0, .inr (3, [.int (iI cd), .int (iI (n : Int)), .int (iI (w : Int)), .ref mq, .int (iI (rc : Int)), .ref mn, .ref ml, .int (iI (sc : Int)), .ref ms, .ref mr, .ref mg, .ref mp, .int (iI (mo : Int)), .int (iI (fo : Int)), .ref mpl, .ref mdi, .ref mc])), (mq, .inl (cI, 16, .inl (iA q))), (mn, .inl (cI, 192, .inl (iA X))), (ml, .inl (cI, 12, .inl (iA la)))] s.heap.size q9 := fun q9 h => Or.inr h
  have hS : va_S (va_A [(m0, .inr (3, [.int (iI cd), .int (iI (n : Int)), .int (iI (w : Int)), .ref mq, .int (iI (rc : Int)), .ref mn, .ref ml, .int (iI (sc : Int)), .ref ms, .ref mr, .ref mg, .ref mp, .int (iI (mo : Int)), .int (iI (fo : Int)), .ref mpl, .ref mdi, .ref mc])), (mq, .inl (cI, 16, .inl (iA q))), (mn, .inl (cI, 192, .inl (iA X))), (ml, .inl (cI, 12, .inl (iA la)))] s.heap.size) s.heap s.heap [] := va_S.rf
  generalize hAe : va_A [(m0, .inr (3, [.int (iI cd), .int (iI (n : Int)), .int (iI (w : Int)), .ref mq, .int (iI (rc : Int)), .ref mn, .ref ml, .int (iI (sc : Int)), .ref ms, .ref mr, .ref mg, .ref mp, .int (iI (mo : Int)), .int (iI (fo : Int)), .ref mpl, .ref mdi, .ref mc])), (mq, .inl (cI, 16, .inl (iA q))), (mn, .inl (cI, 192, .inl (iA X))), (ml, .inl (cI, 12, .inl (iA la)))] s.heap.size = A at hD hA hS
  have hP : va_P (dC, dI) vwCl [(m0, .inr (3, [.int (iI cd), .int (iI (n : Int)), .int (iI (w : Int)), .ref mq, .int (iI (rc : Int)), .ref mn, .ref ml, .int (iI (sc : Int)), .ref ms, .ref mr, .ref mg, .ref mp, .int (iI (mo : Int)), .int (iI (fo : Int)), .ref mpl, .ref mdi, .ref mc])), (mq, .inl (cI, 16, .inl (iA q))), (mn, .inl (cI, 192, .inl (iA X))), (ml, .inl (cI, 12, .inl (iA la)))] s.heap := hP
  have hl := lv_entry ([.ref m0, .int (iI v)]) (n := 3) (Nat.le_of_ble_eq_true rfl)
  rw [lg_entry_eq]
  generalize (lg_sl ([.ref m0, .int (iI v)]) ++ List.replicate (3 - (lg_sl ([.ref m0, .int (iI v)])).length) Slot.unset).toArray = ls at hl ⊢
  have hl : lv_has ls 3 [(0, .ref m0), (1, .int (iI v))] := hl
  generalize hargs : ([.ref m0, .int (iI v)] : List Value).toArray = args at hts ⊢
  refine z_intro (fun R Q hR hQ => ?_)
  have hRf : R.frames = 1 := by rw [hR]; rfl
  have hRl : R.locals = 22 := by rw [hR]; rfl
  have hRc : R.cells = 0 := by rw [hR]; rfl
  have hRs : R.slots = 0 := by rw [hR]; rfl
  have in_X3 : ∀ w ∈ u_ws RX3 TX3 17, w ∈ wsX3_keep := fun w h => List.mem_cons_of_mem _ (inW_X3 w h)
  have fl_7 := wa_hts hts wd_485
  have fl_13 := wa_hts hts wd_487
  have fl_17 := wa_hts hts wd_489
  have fl_20 := wa_hts hts wd_490
  have fl_44 := wa_hts hts wd_484
  have fl_51 := wa_hts hts wd_488
  clear hR hargs B
  refine lv_aload_n hx hb dX3_keep_0 rfl (lv_at hl 0 rfl) ?_
  refine lv_iload_n hx hb dX3_keep_1 rfl (lv_at hl 1 rfl) ?_
  refine lv_iconst (v := iI (0 : Int)) hx hb dX3_keep_2 (by decide) ?_
  refine lv_bipush (v := iI (7 : Int)) hx hb dX3_keep_3 (by decide) ?_
  refine zr_i (va_runS (As := [.int (iI v), .int (iI (0 : Int)), .int (iI (7 : Int))]) (rest := [.ref m0]) ⟨hx, hb, hml, hown, hts⟩ (c_within l dC dI cI v (0 : Int) (7 : Int) (by omega) (by omega) (by omega)) (cwS 3 hts (ga_S wd_544 wd_545 wd_31 wd_546) rfl rfl rfl (by decide +kernel) ⟨(show 0 + 1 ≤ R.frames by omega), (show 8 + (3 + 11) + 0 ≤ R.locals by omega)⟩) (rd_preS hP hK [] rfl) rfl rfl hl.1 rfl (lv_room (Nat.le_of_ble_eq_true rfl)) dX3_keep_5 ⟨by omega, by omega⟩) (fun z5 hz5 => ?_)
  refine z_if_ne (tgt := 15) hx hb dX3_keep_8 (by decide) (by omega) (fun h8 => ?_) (fun h8 => ?_)
  · refine lv_aload_n hx hb dX3_keep_15 rfl (lv_at hl 0 rfl) ?_
    refine va_get (D := (dC, dI)) (ci := 3) (v := .int (iI (rc : Int))) (C := RX3) (T := TX3) (N := 17) hx hb hts in_X3 hown hK hP 0 rfl rfl 4 (by decide) fl_51 (fun _ h9 => h9) rfl dX3_keep_16 ?_
    refine lv_bipush (v := iI (12 : Int)) hx hb dX3_keep_19 (by decide) ?_
    refine z_icmp_ne (tgt := 28) hx hb dX3_keep_21 (by decide) (by omega) (fun h21 => ?_) (fun h21 => ?_)
    · refine lv_iconst (v := iI (0 : Int)) hx hb dX3_keep_28 (by decide) ?_
      refine va_put (D := (dC, dI)) (ci := 3) (v := .int (iI (0 : Int))) (ty := .int) (C := RX3) (T := TX3) (N := 17) hx hb hts in_X3 tyX3 tyX3_ok nmX3 hown hK hP hD hS 0 rfl rfl 0 (by decide) fl_44 (fun _ h9 => h9) rfl (by decide +kernel) rfl rfl (Nat.le_of_ble_eq_true rfl) dX3_keep_29 (fun H locs hP hD hS => ?_)
      have hP : va_P (dC, dI) vwCl [(m0, .inr (3, [.int (iI (0 : Int)), .int (iI (n : Int)), .int (iI (w : Int)), .ref mq, .int (iI (rc : Int)), .ref mn, .ref ml, .int (iI (sc : Int)), .ref ms, .ref mr, .ref mg, .ref mp, .int (iI (mo : Int)), .int (iI (fo : Int)), .ref mpl, .ref mdi, .ref mc])), (mq, .inl (cI, 16, .inl (iA q))), (mn, .inl (cI, 192, .inl (iA X))), (ml, .inl (cI, 12, .inl (iA la)))] H := hP
      have hD : va_D A [(m0, .inr (3, [.int (iI (0 : Int)), .int (iI (n : Int)), .int (iI (w : Int)), .ref mq, .int (iI (rc : Int)), .ref mn, .ref ml, .int (iI (sc : Int)), .ref ms, .ref mr, .ref mg, .ref mp, .int (iI (mo : Int)), .int (iI (fo : Int)), .ref mpl, .ref mdi, .ref mc])), (mq, .inl (cI, 16, .inl (iA q))), (mn, .inl (cI, 192, .inl (iA X))), (ml, .inl (cI, 12, .inl (iA la)))] := hD
      refine lv_aload_n hx hb dX3_keep_32 rfl (lv_at hl 0 rfl) ?_
      refine va_get (D := (dC, dI)) (ci := 3) (v := .int (iI (0 : Int))) (C := RX3) (T := TX3) (N := 17) hx hb hts in_X3 hown hK hP 0 rfl rfl 0 (by decide) fl_44 (fun _ h9 => h9) rfl dX3_keep_33 ?_
      refine z_if_le (tgt := 41) hx hb dX3_keep_36 (by decide) (by decide) (fun _ => ?_) (fun h9 => absurd h9 (by decide))
      refine lv_iconst (v := iI (0 : Int)) hx hb dX3_keep_41 (by decide) ?_
      refine lv_istore_n (lv' := [(2, .int (iI (0 : Int))), (0, .ref m0), (1, .int (iI v))]) hx hb dX3_keep_42 rfl hl (by decide) rfl (fun ls hl => ?_)
      have lp : ∀ (k9 : Nat) (i : Nat) (X9 : Nat → Int) (H : Heap) (locs : List Loc) (ls : Array Slot), (i ≤ n) → (X9 = zC q X 0 (16 * rc) i) → n - i = k9 → va_P (dC, dI) vwCl [(m0, .inr (3, [.int (iI (0 : Int)), .int (iI (n : Int)), .int (iI (w : Int)), .ref mq, .int (iI (rc : Int)), .ref mn, .ref ml, .int (iI (sc : Int)), .ref ms, .ref mr, .ref mg, .ref mp, .int (iI (mo : Int)), .int (iI (fo : Int)), .ref mpl, .ref mdi, .ref mc])), (mq, .inl (cI, 16, .inl (iA q))), (mn, .inl (cI, 192, .inl (iA X9))), (ml, .inl (cI, 12, .inl (iA la)))] H → va_D A [(m0, .inr (3, [.int (iI (0 : Int)), .int (iI (n : Int)), .int (iI (w : Int)), .ref mq, .int (iI (rc : Int)), .ref mn, .ref ml, .int (iI (sc : Int)), .ref ms, .ref mr, .ref mg, .ref mp, .int (iI (mo : Int)), .int (iI (fo : Int)), .ref mpl, .ref mdi, .ref mc])), (mq, .inl (cI, 16, .inl (iA q))), (mn, .inl (cI, 192, .inl (iA X9))), (ml, .inl (cI, 12, .inl (iA la)))] → va_S A s.heap H locs → lv_has ls 3 [(0, .ref m0), (1, .int (iI v)), (2, .int (iI (i : Int)))] → W p l e R s m args below meth c H locs 0 0 Q (F0 m 43 ls []) := by
        intro k9
        induction k9 using Nat.strongRecOn with
        | ind k9 ih_lp =>
          intro i X9 H locs ls hi hX9 hk9 hP hD hS hl
          refine lv_iload_n hx hb dX3_keep_43 rfl (lv_at hl 2 rfl) ?_
          refine lv_aload_n hx hb dX3_keep_44 rfl (lv_at hl 0 rfl) ?_
          refine va_get (D := (dC, dI)) (ci := 3) (v := .int (iI (n : Int))) (C := RX3) (T := TX3) (N := 17) hx hb hts in_X3 hown hK hP 0 rfl rfl 1 (by decide) fl_7 (fun _ h9 => h9) rfl dX3_keep_45 ?_
          refine z_icmp_ge (tgt := 77) hx hb dX3_keep_48 (by decide) (by omega) (fun h48 => ?_) (fun h48 => ?_)
          · refine lv_aload_n hx hb dX3_keep_77 rfl (lv_at hl 0 rfl) ?_
            refine va_get (D := (dC, dI)) (ci := 3) (v := .ref ml) (C := RX3) (T := TX3) (N := 17) hx hb hts in_X3 hown hK hP 0 rfl rfl 6 (by decide) fl_20 (fun _ h9 => h9) rfl dX3_keep_78 ?_
            refine lv_aload_n hx hb dX3_keep_81 rfl (lv_at hl 0 rfl) ?_
            refine va_get (D := (dC, dI)) (ci := 3) (v := .int (iI (rc : Int))) (C := RX3) (T := TX3) (N := 17) hx hb hts in_X3 hown hK hP 0 rfl rfl 4 (by decide) fl_51 (fun _ h9 => h9) rfl dX3_keep_82 ?_
            refine lv_iload_n hx hb dX3_keep_85 rfl (lv_at hl 1 rfl) ?_
            refine z_iast hx hb hK hP hD hS 3 0 rfl rfl rc (by omega) dX3_keep_86 (fun H locs hP hD hS => ?_)
            have hP : va_P (dC, dI) vwCl [(m0, .inr (3, [.int (iI (0 : Int)), .int (iI (n : Int)), .int (iI (w : Int)), .ref mq, .int (iI (rc : Int)), .ref mn, .ref ml, .int (iI (sc : Int)), .ref ms, .ref mr, .ref mg, .ref mp, .int (iI (mo : Int)), .int (iI (fo : Int)), .ref mpl, .ref mdi, .ref mc])), (mq, .inl (cI, 16, .inl (iA q))), (mn, .inl (cI, 192, .inl (iA X9))), (ml, .inl (cI, 12, .inl (iA (zU la rc v))))] H := hP
            have hD : va_D A [(m0, .inr (3, [.int (iI (0 : Int)), .int (iI (n : Int)), .int (iI (w : Int)), .ref mq, .int (iI (rc : Int)), .ref mn, .ref ml, .int (iI (sc : Int)), .ref ms, .ref mr, .ref mg, .ref mp, .int (iI (mo : Int)), .int (iI (fo : Int)), .ref mpl, .ref mdi, .ref mc])), (mq, .inl (cI, 16, .inl (iA q))), (mn, .inl (cI, 192, .inl (iA X9))), (ml, .inl (cI, 12, .inl (iA (zU la rc v))))] := hD
            refine lv_aload_n hx hb dX3_keep_87 rfl (lv_at hl 0 rfl) ?_
            refine lv_dup hx hb dX3_keep_88 rfl ?_
            refine va_get (D := (dC, dI)) (ci := 3) (v := .int (iI (rc : Int))) (C := RX3) (T := TX3) (N := 17) hx hb hts in_X3 hown hK hP 0 rfl rfl 4 (by decide) fl_51 (fun _ h9 => h9) rfl dX3_keep_89 ?_
            refine lv_iconst (v := iI (1 : Int)) hx hb dX3_keep_92 (by decide) ?_
            refine z_iadd hx hb dX3_keep_93 ?_
            refine z_top (b := ((rc + 1 : Nat) : Int)) (by omega) ?_
            refine va_put (D := (dC, dI)) (ci := 3) (v := .int (iI ((rc + 1 : Nat) : Int))) (ty := .int) (C := RX3) (T := TX3) (N := 17) hx hb hts in_X3 tyX3 tyX3_ok nmX3 hown hK hP hD hS 0 rfl rfl 4 (by decide) fl_51 (fun _ h9 => h9) rfl (by decide +kernel) rfl rfl (Nat.le_of_ble_eq_true rfl) dX3_keep_94 (fun H locs hP hD hS => ?_)
            have hP : va_P (dC, dI) vwCl [(m0, .inr (3, [.int (iI (0 : Int)), .int (iI (n : Int)), .int (iI (w : Int)), .ref mq, .int (iI ((rc + 1 : Nat) : Int)), .ref mn, .ref ml, .int (iI (sc : Int)), .ref ms, .ref mr, .ref mg, .ref mp, .int (iI (mo : Int)), .int (iI (fo : Int)), .ref mpl, .ref mdi, .ref mc])), (mq, .inl (cI, 16, .inl (iA q))), (mn, .inl (cI, 192, .inl (iA X9))), (ml, .inl (cI, 12, .inl (iA (zU la rc v))))] H := hP
            have hD : va_D A [(m0, .inr (3, [.int (iI (0 : Int)), .int (iI (n : Int)), .int (iI (w : Int)), .ref mq, .int (iI ((rc + 1 : Nat) : Int)), .ref mn, .ref ml, .int (iI (sc : Int)), .ref ms, .ref mr, .ref mg, .ref mp, .int (iI (mo : Int)), .int (iI (fo : Int)), .ref mpl, .ref mdi, .ref mc])), (mq, .inl (cI, 16, .inl (iA q))), (mn, .inl (cI, 192, .inl (iA X9))), (ml, .inl (cI, 12, .inl (iA (zU la rc v))))] := hD
            refine lv_aload_n hx hb dX3_keep_97 rfl (lv_at hl 0 rfl) ?_
            refine va_get (D := (dC, dI)) (ci := 3) (v := .int (iI ((rc + 1 : Nat) : Int))) (C := RX3) (T := TX3) (N := 17) hx hb hts in_X3 hown hK hP 0 rfl rfl 4 (by decide) fl_51 (fun _ h9 => h9) rfl dX3_keep_98 ?_
            refine lv_iconst (v := iI (1 : Int)) hx hb dX3_keep_101 (by decide) ?_
            refine z_isub hx hb dX3_keep_102 ?_
            refine z_top (b := (rc : Int)) (by omega) ?_
            have ein : i = n := by omega
            rw [hX9, ein] at hP hD
            subst hAe
            exact zw_reti (z := (rc : Int)) ((0, zC q X 0 (16 * rc) n, zU la rc v, rc + 1)) hx hb hr hlocks hQ (Or.inl ⟨by omega, by omega, rfl, rfl⟩) hP hK hD hS dX3_keep_103
          · refine lv_aload_n hx hb dX3_keep_51 rfl (lv_at hl 0 rfl) ?_
            refine va_get (D := (dC, dI)) (ci := 3) (v := .ref mn) (C := RX3) (T := TX3) (N := 17) hx hb hts in_X3 hown hK hP 0 rfl rfl 5 (by decide) fl_17 (fun _ h9 => h9) rfl dX3_keep_52 ?_
            refine lv_bipush (v := iI (16 : Int)) hx hb dX3_keep_55 (by decide) ?_
            refine lv_aload_n hx hb dX3_keep_57 rfl (lv_at hl 0 rfl) ?_
            refine va_get (D := (dC, dI)) (ci := 3) (v := .int (iI (rc : Int))) (C := RX3) (T := TX3) (N := 17) hx hb hts in_X3 hown hK hP 0 rfl rfl 4 (by decide) fl_51 (fun _ h9 => h9) rfl dX3_keep_58 ?_
            refine z_imul hx hb dX3_keep_61 ?_
            refine lv_iload_n hx hb dX3_keep_62 rfl (lv_at hl 2 rfl) ?_
            refine z_iadd hx hb dX3_keep_63 ?_
            refine lv_aload_n hx hb dX3_keep_64 rfl (lv_at hl 0 rfl) ?_
            refine va_get (D := (dC, dI)) (ci := 3) (v := .ref mq) (C := RX3) (T := TX3) (N := 17) hx hb hts in_X3 hown hK hP 0 rfl rfl 3 (by decide) fl_13 (fun _ h9 => h9) rfl dX3_keep_65 ?_
            refine lv_iload_n hx hb dX3_keep_68 rfl (lv_at hl 2 rfl) ?_
            refine z_iald hx hb hK hP 1 0 rfl rfl i (by omega) dX3_keep_69 ?_
            refine z_iast hx hb hK hP hD hS 2 0 rfl rfl ((16 * rc) + i) (by omega) dX3_keep_70 (fun H locs hP hD hS => ?_)
            have hP : va_P (dC, dI) vwCl [(m0, .inr (3, [.int (iI (0 : Int)), .int (iI (n : Int)), .int (iI (w : Int)), .ref mq, .int (iI (rc : Int)), .ref mn, .ref ml, .int (iI (sc : Int)), .ref ms, .ref mr, .ref mg, .ref mp, .int (iI (mo : Int)), .int (iI (fo : Int)), .ref mpl, .ref mdi, .ref mc])), (mq, .inl (cI, 16, .inl (iA q))), (mn, .inl (cI, 192, .inl (iA (zU X9 ((16 * rc) + i) (q i))))), (ml, .inl (cI, 12, .inl (iA la)))] H := hP
            have hD : va_D A [(m0, .inr (3, [.int (iI (0 : Int)), .int (iI (n : Int)), .int (iI (w : Int)), .ref mq, .int (iI (rc : Int)), .ref mn, .ref ml, .int (iI (sc : Int)), .ref ms, .ref mr, .ref mg, .ref mp, .int (iI (mo : Int)), .int (iI (fo : Int)), .ref mpl, .ref mdi, .ref mc])), (mq, .inl (cI, 16, .inl (iA q))), (mn, .inl (cI, 192, .inl (iA (zU X9 ((16 * rc) + i) (q i))))), (ml, .inl (cI, 12, .inl (iA la)))] := hD
            refine z_iinc (k := 2) (b := ((i + 1 : Nat) : Int)) (lv' := [(2, .int (iI ((i + 1 : Nat) : Int))), (0, .ref m0), (1, .int (iI v))]) hx hb dX3_keep_71 hl rfl (by omega) (by decide) rfl (fun ls hl => ?_)
            refine lv_goto (tgt := 43) hx hb dX3_keep_74 (by decide) ?_
            exact ih_lp _ (by omega) (i + 1) (zU X9 (16 * rc + i) (q i)) H locs ls (by omega) (by rw [hX9]; exact zC_stepD) rfl hP hD hS (lv_sub hl [1, 2, 0] rfl)
      exact lp _ 0 X _ _ ls (by omega) ((zC_0 _ _ _ _).symm) rfl hP hD hS (lv_sub hl [1, 2, 0] rfl)
    · refine lv_iconst (v := iI (2 : Int)) hx hb dX3_keep_24 (by decide) ?_
      refine lv_goto (tgt := 29) hx hb dX3_keep_25 (by decide) ?_
      refine va_put (D := (dC, dI)) (ci := 3) (v := .int (iI (2 : Int))) (ty := .int) (C := RX3) (T := TX3) (N := 17) hx hb hts in_X3 tyX3 tyX3_ok nmX3 hown hK hP hD hS 0 rfl rfl 0 (by decide) fl_44 (fun _ h9 => h9) rfl (by decide +kernel) rfl rfl (Nat.le_of_ble_eq_true rfl) dX3_keep_29 (fun H locs hP hD hS => ?_)
      have hP : va_P (dC, dI) vwCl [(m0, .inr (3, [.int (iI (2 : Int)), .int (iI (n : Int)), .int (iI (w : Int)), .ref mq, .int (iI (rc : Int)), .ref mn, .ref ml, .int (iI (sc : Int)), .ref ms, .ref mr, .ref mg, .ref mp, .int (iI (mo : Int)), .int (iI (fo : Int)), .ref mpl, .ref mdi, .ref mc])), (mq, .inl (cI, 16, .inl (iA q))), (mn, .inl (cI, 192, .inl (iA X))), (ml, .inl (cI, 12, .inl (iA la)))] H := hP
      have hD : va_D A [(m0, .inr (3, [.int (iI (2 : Int)), .int (iI (n : Int)), .int (iI (w : Int)), .ref mq, .int (iI (rc : Int)), .ref mn, .ref ml, .int (iI (sc : Int)), .ref ms, .ref mr, .ref mg, .ref mp, .int (iI (mo : Int)), .int (iI (fo : Int)), .ref mpl, .ref mdi, .ref mc])), (mq, .inl (cI, 16, .inl (iA q))), (mn, .inl (cI, 192, .inl (iA X))), (ml, .inl (cI, 12, .inl (iA la)))] := hD
      refine lv_aload_n hx hb dX3_keep_32 rfl (lv_at hl 0 rfl) ?_
      refine va_get (D := (dC, dI)) (ci := 3) (v := .int (iI (2 : Int))) (C := RX3) (T := TX3) (N := 17) hx hb hts in_X3 hown hK hP 0 rfl rfl 0 (by decide) fl_44 (fun _ h9 => h9) rfl dX3_keep_33 ?_
      refine z_if_le (tgt := 41) hx hb dX3_keep_36 (by decide) (by decide) (fun h9 => absurd h9 (by decide)) (fun _ => ?_)
      refine lv_iconst (v := iI (0 : Int)) hx hb dX3_keep_39 (by decide) ?_
      subst hAe
      exact zw_reti (z := (0 : Int)) (((2 : Int), X, la, rc)) hx hb hr hlocks hQ (Or.inr (Or.inr ⟨by omega, by omega, rfl, rfl⟩)) hP hK hD hS dX3_keep_40
  · refine lv_iconst (v := iI (1 : Int)) hx hb dX3_keep_11 (by decide) ?_
    refine lv_goto (tgt := 29) hx hb dX3_keep_12 (by decide) ?_
    refine va_put (D := (dC, dI)) (ci := 3) (v := .int (iI (1 : Int))) (ty := .int) (C := RX3) (T := TX3) (N := 17) hx hb hts in_X3 tyX3 tyX3_ok nmX3 hown hK hP hD hS 0 rfl rfl 0 (by decide) fl_44 (fun _ h9 => h9) rfl (by decide +kernel) rfl rfl (Nat.le_of_ble_eq_true rfl) dX3_keep_29 (fun H locs hP hD hS => ?_)
    have hP : va_P (dC, dI) vwCl [(m0, .inr (3, [.int (iI (1 : Int)), .int (iI (n : Int)), .int (iI (w : Int)), .ref mq, .int (iI (rc : Int)), .ref mn, .ref ml, .int (iI (sc : Int)), .ref ms, .ref mr, .ref mg, .ref mp, .int (iI (mo : Int)), .int (iI (fo : Int)), .ref mpl, .ref mdi, .ref mc])), (mq, .inl (cI, 16, .inl (iA q))), (mn, .inl (cI, 192, .inl (iA X))), (ml, .inl (cI, 12, .inl (iA la)))] H := hP
    have hD : va_D A [(m0, .inr (3, [.int (iI (1 : Int)), .int (iI (n : Int)), .int (iI (w : Int)), .ref mq, .int (iI (rc : Int)), .ref mn, .ref ml, .int (iI (sc : Int)), .ref ms, .ref mr, .ref mg, .ref mp, .int (iI (mo : Int)), .int (iI (fo : Int)), .ref mpl, .ref mdi, .ref mc])), (mq, .inl (cI, 16, .inl (iA q))), (mn, .inl (cI, 192, .inl (iA X))), (ml, .inl (cI, 12, .inl (iA la)))] := hD
    refine lv_aload_n hx hb dX3_keep_32 rfl (lv_at hl 0 rfl) ?_
    refine va_get (D := (dC, dI)) (ci := 3) (v := .int (iI (1 : Int))) (C := RX3) (T := TX3) (N := 17) hx hb hts in_X3 hown hK hP 0 rfl rfl 0 (by decide) fl_44 (fun _ h9 => h9) rfl dX3_keep_33 ?_
    refine z_if_le (tgt := 41) hx hb dX3_keep_36 (by decide) (by decide) (fun h9 => absurd h9 (by decide)) (fun _ => ?_)
    refine lv_iconst (v := iI (0 : Int)) hx hb dX3_keep_39 (by decide) ?_
    subst hAe
    exact zw_reti (z := (0 : Int)) (((1 : Int), X, la, rc)) hx hb hr hlocks hQ (Or.inr (Or.inl ⟨by omega, rfl, rfl⟩)) hP hK hD hS dX3_keep_40
set_option maxRecDepth 100000 in
set_option maxHeartbeats 4000000 in
theorem c_mPush (l : Launch) (dC : Nat → ClassId) (dI : Nat → Nat → Nat) (cI : ClassId) (m0 mq mn ml ms mr mg mp mpl mdi mc : Nat) (cd : Int) (n w rc sc mo fo : Nat) (v : Int) (X : Nat → Int) (sz : Nat) (hsc : sc ≤ 64) (hv : -2147483648 ≤ v ∧ v ≤ 2147483647) : Met l yX3_push wsX3_push ({ frames := 1, cells := 0, slots := 0, locals := 22 }) (wrP dC dI [(cI, .int)] [(m0, .inr (3, [.int (iI cd), .int (iI (n : Int)), .int (iI (w : Int)), .ref mq, .int (iI (rc : Int)), .ref mn, .ref ml, .int (iI (sc : Int)), .ref ms, .ref mr, .ref mg, .ref mp, .int (iI (mo : Int)), .int (iI (fo : Int)), .ref mpl, .ref mdi, .ref mc])), (ms, .inl (cI, 64, .inl (iA X)))] sz [.ref m0, .int (iI v)]) (wrQi dC dI [(cI, .int)] [(m0, .inr (3, [.int (iI cd), .int (iI (n : Int)), .int (iI (w : Int)), .ref mq, .int (iI (rc : Int)), .ref mn, .ref ml, .int (iI (sc : Int)), .ref ms, .ref mr, .ref mg, .ref mp, .int (iI (mo : Int)), .int (iI (fo : Int)), .ref mpl, .ref mdi, .ref mc])), (ms, .inl (cI, 64, .inl (iA X)))] sz (S := (Int × (Nat → Int) × Nat)) (fun z u => ((-1000 ≤ v ∧ v ≤ 1000) ∧ sc < 64 ∧ u = (0, zU X sc v, sc + 1) ∧ z = ((sc + 1 : Nat) : Int)) ∨ ((v < -1000 ∨ 1000 < v) ∧ u = (1, X, sc) ∧ z = 0) ∨ ((-1000 ≤ v ∧ v ≤ 1000) ∧ sc = 64 ∧ u = (2, X, sc) ∧ z = 0)) (fun u => [(m0, .inr (3, [.int (iI u.1), .int (iI (n : Int)), .int (iI (w : Int)), .ref mq, .int (iI (rc : Int)), .ref mn, .ref ml, .int (iI ((u.2.2 : Nat) : Int)), .ref ms, .ref mr, .ref mg, .ref mp, .int (iI (mo : Int)), .int (iI (fo : Int)), .ref mpl, .ref mdi, .ref mc])), (ms, .inl (cI, 64, .inl (iA u.2.1)))])) 0 0 (va_A [(m0, .inr (3, [.int (iI cd), .int (iI (n : Int)), .int (iI (w : Int)), .ref mq, .int (iI (rc : Int)), .ref mn, .ref ml, .int (iI (sc : Int)), .ref ms, .ref mr, .ref mg, .ref mp, .int (iI (mo : Int)), .int (iI (fo : Int)), .ref mpl, .ref mdi, .ref mc])), (ms, .inl (cI, 64, .inl (iA X)))] sz) := by
  refine Met.ofW (cc := cX3_push) (maxL := 2) (ret := (some .int)) (by decide) rfl ?_
  intro p e s m args below meth c s₁ B hml hv
  obtain ⟨rfl, hsz, hP, hK, hD0⟩ := hv
  have hx := B.exec
  have hb := B.bytes
  have hr := B.returns
  have hts : ∀ w ∈ wsX3_push, w.before _ s = true := atoms_spec (ws := wsX3_push) B.pre
  have hown : s.vm.findClass RX3 = some m.cls := findClass_of_methodNamed B.named
  have hlocks := B.notSynchronized
  subst hsz
  have hD := hD0.self (sz := s.heap.size)
  have hA : ∀ q9 : Nat, s.heap.size ≤ q9 → va_A [(m0, .inr (3, [.int (iI cd), .int (iI (n : Int)), .int (iI (w : Int)), .ref mq, .int (iI (rc : Int)), .ref mn, .ref ml, .int (iI (sc : Int)), .ref ms, .ref mr, .ref mg, .ref mp, .int (iI (mo : Int)), .int (iI (fo : Int)), .ref mpl, .ref mdi, .ref mc])), (ms, .inl (cI, 64, .inl (iA X)))] s.heap.size q9 := fun q9 h => Or.inr h
  have hS : va_S (va_A [(m0, .inr (3, [.int (iI cd), .int (iI (n : Int)), .int (iI (w : Int)), .ref mq, .int (iI (rc : Int)), .ref mn, .ref ml, .int (iI (sc : Int)), .ref ms, .ref mr, .ref mg, .ref mp, .int (iI (mo : Int)), .int (iI (fo : Int)), .ref mpl, .ref mdi, .ref mc])), (ms, .inl (cI, 64, .inl (iA X)))] s.heap.size) s.heap s.heap [] := va_S.rf
  generalize hAe : va_A [(m0, .inr (3, [.int (iI cd), .int (iI (n : Int)), .int (iI (w : Int)), .ref mq, .int (iI (rc : Int)), .ref mn, .ref ml, .int (iI (sc : Int)), .ref ms, .ref mr, .ref mg, .ref mp, .int (iI (mo : Int)), .int (iI (fo : Int)), .ref mpl, .ref mdi, .ref mc])), (ms, .inl (cI, 64, .inl (iA X)))] s.heap.size = A at hD hA hS
  have hP : va_P (dC, dI) vwCl [(m0, .inr (3, [.int (iI cd), .int (iI (n : Int)), .int (iI (w : Int)), .ref mq, .int (iI (rc : Int)), .ref mn, .ref ml, .int (iI (sc : Int)), .ref ms, .ref mr, .ref mg, .ref mp, .int (iI (mo : Int)), .int (iI (fo : Int)), .ref mpl, .ref mdi, .ref mc])), (ms, .inl (cI, 64, .inl (iA X)))] s.heap := hP
  have hl := lv_entry ([.ref m0, .int (iI v)]) (n := 2) (Nat.le_of_ble_eq_true rfl)
  rw [lg_entry_eq]
  generalize (lg_sl ([.ref m0, .int (iI v)]) ++ List.replicate (2 - (lg_sl ([.ref m0, .int (iI v)])).length) Slot.unset).toArray = ls at hl ⊢
  have hl : lv_has ls 2 [(0, .ref m0), (1, .int (iI v))] := hl
  generalize hargs : ([.ref m0, .int (iI v)] : List Value).toArray = args at hts ⊢
  refine z_intro (fun R Q hR hQ => ?_)
  have hRf : R.frames = 1 := by rw [hR]; rfl
  have hRl : R.locals = 22 := by rw [hR]; rfl
  have hRc : R.cells = 0 := by rw [hR]; rfl
  have hRs : R.slots = 0 := by rw [hR]; rfl
  have in_X3 : ∀ w ∈ u_ws RX3 TX3 17, w ∈ wsX3_push := fun w h => List.mem_cons_of_mem _ (inW_X3 w h)
  have fl_23 := wa_hts hts wd_492
  have fl_44 := wa_hts hts wd_484
  have fl_109 := wa_hts hts wd_491
  clear hR hargs B
  refine lv_aload_n hx hb dX3_push_0 rfl (lv_at hl 0 rfl) ?_
  refine lv_iload_n hx hb dX3_push_1 rfl (lv_at hl 1 rfl) ?_
  refine lv_sipush (v := iI (-1000 : Int)) hx hb dX3_push_2 (by decide) ?_
  refine lv_sipush (v := iI (1000 : Int)) hx hb dX3_push_5 (by decide) ?_
  refine zr_i (va_runS (As := [.int (iI v), .int (iI (-1000 : Int)), .int (iI (1000 : Int))]) (rest := [.ref m0]) ⟨hx, hb, hml, hown, hts⟩ (c_within l dC dI cI v (-1000 : Int) (1000 : Int) (by omega) (by omega) (by omega)) (cwS 3 hts (ga_S wd_544 wd_545 wd_31 wd_546) rfl rfl rfl (by decide +kernel) ⟨(show 0 + 1 ≤ R.frames by omega), (show 8 + (3 + 11) + 0 ≤ R.locals by omega)⟩) (rd_preS hP hK [] rfl) rfl rfl hl.1 rfl (lv_room (Nat.le_of_ble_eq_true rfl)) dX3_push_8 ⟨by omega, by omega⟩) (fun z8 hz8 => ?_)
  refine z_if_ne (tgt := 18) hx hb dX3_push_11 (by decide) (by omega) (fun h11 => ?_) (fun h11 => ?_)
  · refine lv_aload_n hx hb dX3_push_18 rfl (lv_at hl 0 rfl) ?_
    refine va_get (D := (dC, dI)) (ci := 3) (v := .int (iI (sc : Int))) (C := RX3) (T := TX3) (N := 17) hx hb hts in_X3 hown hK hP 0 rfl rfl 7 (by decide) fl_109 (fun _ h9 => h9) rfl dX3_push_19 ?_
    refine lv_bipush (v := iI (64 : Int)) hx hb dX3_push_22 (by decide) ?_
    refine z_icmp_ne (tgt := 31) hx hb dX3_push_24 (by decide) (by omega) (fun h24 => ?_) (fun h24 => ?_)
    · refine lv_iconst (v := iI (0 : Int)) hx hb dX3_push_31 (by decide) ?_
      refine va_put (D := (dC, dI)) (ci := 3) (v := .int (iI (0 : Int))) (ty := .int) (C := RX3) (T := TX3) (N := 17) hx hb hts in_X3 tyX3 tyX3_ok nmX3 hown hK hP hD hS 0 rfl rfl 0 (by decide) fl_44 (fun _ h9 => h9) rfl (by decide +kernel) rfl rfl (Nat.le_of_ble_eq_true rfl) dX3_push_32 (fun H locs hP hD hS => ?_)
      have hP : va_P (dC, dI) vwCl [(m0, .inr (3, [.int (iI (0 : Int)), .int (iI (n : Int)), .int (iI (w : Int)), .ref mq, .int (iI (rc : Int)), .ref mn, .ref ml, .int (iI (sc : Int)), .ref ms, .ref mr, .ref mg, .ref mp, .int (iI (mo : Int)), .int (iI (fo : Int)), .ref mpl, .ref mdi, .ref mc])), (ms, .inl (cI, 64, .inl (iA X)))] H := hP
      have hD : va_D A [(m0, .inr (3, [.int (iI (0 : Int)), .int (iI (n : Int)), .int (iI (w : Int)), .ref mq, .int (iI (rc : Int)), .ref mn, .ref ml, .int (iI (sc : Int)), .ref ms, .ref mr, .ref mg, .ref mp, .int (iI (mo : Int)), .int (iI (fo : Int)), .ref mpl, .ref mdi, .ref mc])), (ms, .inl (cI, 64, .inl (iA X)))] := hD
      refine lv_aload_n hx hb dX3_push_35 rfl (lv_at hl 0 rfl) ?_
      refine va_get (D := (dC, dI)) (ci := 3) (v := .int (iI (0 : Int))) (C := RX3) (T := TX3) (N := 17) hx hb hts in_X3 hown hK hP 0 rfl rfl 0 (by decide) fl_44 (fun _ h9 => h9) rfl dX3_push_36 ?_
      refine z_if_le (tgt := 44) hx hb dX3_push_39 (by decide) (by decide) (fun _ => ?_) (fun h9 => absurd h9 (by decide))
      refine lv_aload_n hx hb dX3_push_44 rfl (lv_at hl 0 rfl) ?_
      refine va_get (D := (dC, dI)) (ci := 3) (v := .ref ms) (C := RX3) (T := TX3) (N := 17) hx hb hts in_X3 hown hK hP 0 rfl rfl 8 (by decide) fl_23 (fun _ h9 => h9) rfl dX3_push_45 ?_
      refine lv_aload_n hx hb dX3_push_48 rfl (lv_at hl 0 rfl) ?_
      refine va_get (D := (dC, dI)) (ci := 3) (v := .int (iI (sc : Int))) (C := RX3) (T := TX3) (N := 17) hx hb hts in_X3 hown hK hP 0 rfl rfl 7 (by decide) fl_109 (fun _ h9 => h9) rfl dX3_push_49 ?_
      refine lv_iload_n hx hb dX3_push_52 rfl (lv_at hl 1 rfl) ?_
      refine z_iast hx hb hK hP hD hS 1 0 rfl rfl sc (by omega) dX3_push_53 (fun H locs hP hD hS => ?_)
      have hP : va_P (dC, dI) vwCl [(m0, .inr (3, [.int (iI (0 : Int)), .int (iI (n : Int)), .int (iI (w : Int)), .ref mq, .int (iI (rc : Int)), .ref mn, .ref ml, .int (iI (sc : Int)), .ref ms, .ref mr, .ref mg, .ref mp, .int (iI (mo : Int)), .int (iI (fo : Int)), .ref mpl, .ref mdi, .ref mc])), (ms, .inl (cI, 64, .inl (iA (zU X sc v))))] H := hP
      have hD : va_D A [(m0, .inr (3, [.int (iI (0 : Int)), .int (iI (n : Int)), .int (iI (w : Int)), .ref mq, .int (iI (rc : Int)), .ref mn, .ref ml, .int (iI (sc : Int)), .ref ms, .ref mr, .ref mg, .ref mp, .int (iI (mo : Int)), .int (iI (fo : Int)), .ref mpl, .ref mdi, .ref mc])), (ms, .inl (cI, 64, .inl (iA (zU X sc v))))] := hD
      refine lv_aload_n hx hb dX3_push_54 rfl (lv_at hl 0 rfl) ?_
      refine lv_dup hx hb dX3_push_55 rfl ?_
      refine va_get (D := (dC, dI)) (ci := 3) (v := .int (iI (sc : Int))) (C := RX3) (T := TX3) (N := 17) hx hb hts in_X3 hown hK hP 0 rfl rfl 7 (by decide) fl_109 (fun _ h9 => h9) rfl dX3_push_56 ?_
      refine lv_iconst (v := iI (1 : Int)) hx hb dX3_push_59 (by decide) ?_
      refine z_iadd hx hb dX3_push_60 ?_
      refine z_top (b := ((sc + 1 : Nat) : Int)) (by omega) ?_
      refine va_put (D := (dC, dI)) (ci := 3) (v := .int (iI ((sc + 1 : Nat) : Int))) (ty := .int) (C := RX3) (T := TX3) (N := 17) hx hb hts in_X3 tyX3 tyX3_ok nmX3 hown hK hP hD hS 0 rfl rfl 7 (by decide) fl_109 (fun _ h9 => h9) rfl (by decide +kernel) rfl rfl (Nat.le_of_ble_eq_true rfl) dX3_push_61 (fun H locs hP hD hS => ?_)
      have hP : va_P (dC, dI) vwCl [(m0, .inr (3, [.int (iI (0 : Int)), .int (iI (n : Int)), .int (iI (w : Int)), .ref mq, .int (iI (rc : Int)), .ref mn, .ref ml, .int (iI ((sc + 1 : Nat) : Int)), .ref ms, .ref mr, .ref mg, .ref mp, .int (iI (mo : Int)), .int (iI (fo : Int)), .ref mpl, .ref mdi, .ref mc])), (ms, .inl (cI, 64, .inl (iA (zU X sc v))))] H := hP
      have hD : va_D A [(m0, .inr (3, [.int (iI (0 : Int)), .int (iI (n : Int)), .int (iI (w : Int)), .ref mq, .int (iI (rc : Int)), .ref mn, .ref ml, .int (iI ((sc + 1 : Nat) : Int)), .ref ms, .ref mr, .ref mg, .ref mp, .int (iI (mo : Int)), .int (iI (fo : Int)), .ref mpl, .ref mdi, .ref mc])), (ms, .inl (cI, 64, .inl (iA (zU X sc v))))] := hD
      refine lv_aload_n hx hb dX3_push_64 rfl (lv_at hl 0 rfl) ?_
      refine va_get (D := (dC, dI)) (ci := 3) (v := .int (iI ((sc + 1 : Nat) : Int))) (C := RX3) (T := TX3) (N := 17) hx hb hts in_X3 hown hK hP 0 rfl rfl 7 (by decide) fl_109 (fun _ h9 => h9) rfl dX3_push_65 ?_
      subst hAe
      exact zw_reti (z := ((sc + 1 : Nat) : Int)) ((0, zU X sc v, sc + 1)) hx hb hr hlocks hQ (Or.inl ⟨by omega, by omega, rfl, rfl⟩) hP hK hD hS dX3_push_68
    · refine lv_iconst (v := iI (2 : Int)) hx hb dX3_push_27 (by decide) ?_
      refine lv_goto (tgt := 32) hx hb dX3_push_28 (by decide) ?_
      refine va_put (D := (dC, dI)) (ci := 3) (v := .int (iI (2 : Int))) (ty := .int) (C := RX3) (T := TX3) (N := 17) hx hb hts in_X3 tyX3 tyX3_ok nmX3 hown hK hP hD hS 0 rfl rfl 0 (by decide) fl_44 (fun _ h9 => h9) rfl (by decide +kernel) rfl rfl (Nat.le_of_ble_eq_true rfl) dX3_push_32 (fun H locs hP hD hS => ?_)
      have hP : va_P (dC, dI) vwCl [(m0, .inr (3, [.int (iI (2 : Int)), .int (iI (n : Int)), .int (iI (w : Int)), .ref mq, .int (iI (rc : Int)), .ref mn, .ref ml, .int (iI (sc : Int)), .ref ms, .ref mr, .ref mg, .ref mp, .int (iI (mo : Int)), .int (iI (fo : Int)), .ref mpl, .ref mdi, .ref mc])), (ms, .inl (cI, 64, .inl (iA X)))] H := hP
      have hD : va_D A [(m0, .inr (3, [.int (iI (2 : Int)), .int (iI (n : Int)), .int (iI (w : Int)), .ref mq, .int (iI (rc : Int)), .ref mn, .ref ml, .int (iI (sc : Int)), .ref ms, .ref mr, .ref mg, .ref mp, .int (iI (mo : Int)), .int (iI (fo : Int)), .ref mpl, .ref mdi, .ref mc])), (ms, .inl (cI, 64, .inl (iA X)))] := hD
      refine lv_aload_n hx hb dX3_push_35 rfl (lv_at hl 0 rfl) ?_
      refine va_get (D := (dC, dI)) (ci := 3) (v := .int (iI (2 : Int))) (C := RX3) (T := TX3) (N := 17) hx hb hts in_X3 hown hK hP 0 rfl rfl 0 (by decide) fl_44 (fun _ h9 => h9) rfl dX3_push_36 ?_
      refine z_if_le (tgt := 44) hx hb dX3_push_39 (by decide) (by decide) (fun h9 => absurd h9 (by decide)) (fun _ => ?_)
      refine lv_iconst (v := iI (0 : Int)) hx hb dX3_push_42 (by decide) ?_
      subst hAe
      exact zw_reti (z := (0 : Int)) (((2 : Int), X, sc)) hx hb hr hlocks hQ (Or.inr (Or.inr ⟨by omega, by omega, rfl, rfl⟩)) hP hK hD hS dX3_push_43
  · refine lv_iconst (v := iI (1 : Int)) hx hb dX3_push_14 (by decide) ?_
    refine lv_goto (tgt := 32) hx hb dX3_push_15 (by decide) ?_
    refine va_put (D := (dC, dI)) (ci := 3) (v := .int (iI (1 : Int))) (ty := .int) (C := RX3) (T := TX3) (N := 17) hx hb hts in_X3 tyX3 tyX3_ok nmX3 hown hK hP hD hS 0 rfl rfl 0 (by decide) fl_44 (fun _ h9 => h9) rfl (by decide +kernel) rfl rfl (Nat.le_of_ble_eq_true rfl) dX3_push_32 (fun H locs hP hD hS => ?_)
    have hP : va_P (dC, dI) vwCl [(m0, .inr (3, [.int (iI (1 : Int)), .int (iI (n : Int)), .int (iI (w : Int)), .ref mq, .int (iI (rc : Int)), .ref mn, .ref ml, .int (iI (sc : Int)), .ref ms, .ref mr, .ref mg, .ref mp, .int (iI (mo : Int)), .int (iI (fo : Int)), .ref mpl, .ref mdi, .ref mc])), (ms, .inl (cI, 64, .inl (iA X)))] H := hP
    have hD : va_D A [(m0, .inr (3, [.int (iI (1 : Int)), .int (iI (n : Int)), .int (iI (w : Int)), .ref mq, .int (iI (rc : Int)), .ref mn, .ref ml, .int (iI (sc : Int)), .ref ms, .ref mr, .ref mg, .ref mp, .int (iI (mo : Int)), .int (iI (fo : Int)), .ref mpl, .ref mdi, .ref mc])), (ms, .inl (cI, 64, .inl (iA X)))] := hD
    refine lv_aload_n hx hb dX3_push_35 rfl (lv_at hl 0 rfl) ?_
    refine va_get (D := (dC, dI)) (ci := 3) (v := .int (iI (1 : Int))) (C := RX3) (T := TX3) (N := 17) hx hb hts in_X3 hown hK hP 0 rfl rfl 0 (by decide) fl_44 (fun _ h9 => h9) rfl dX3_push_36 ?_
    refine z_if_le (tgt := 44) hx hb dX3_push_39 (by decide) (by decide) (fun h9 => absurd h9 (by decide)) (fun _ => ?_)
    refine lv_iconst (v := iI (0 : Int)) hx hb dX3_push_42 (by decide) ?_
    subst hAe
    exact zw_reti (z := (0 : Int)) (((1 : Int), X, sc)) hx hb hr hlocks hQ (Or.inr (Or.inl ⟨by omega, rfl, rfl⟩)) hP hK hD hS dX3_push_43
set_option maxRecDepth 100000 in
set_option maxHeartbeats 4000000 in
theorem c_mShift (l : Launch) (dC : Nat → ClassId) (dI : Nat → Nat → Nat) (cI : ClassId) (m0 mq mn ml ms mr mg mp mpl mdi mc : Nat) (cd : Int) (n w rc sc mo fo : Nat) (v : Int) (X : Nat → Int) (sz : Nat) (hsc : sc ≤ 64) (hv : -2147483648 ≤ v ∧ v ≤ 2147483647) : Met l yX3_shift wsX3_shift ({ frames := 1, cells := 0, slots := 0, locals := 22 }) (wrP dC dI [(cI, .int)] [(m0, .inr (3, [.int (iI cd), .int (iI (n : Int)), .int (iI (w : Int)), .ref mq, .int (iI (rc : Int)), .ref mn, .ref ml, .int (iI (sc : Int)), .ref ms, .ref mr, .ref mg, .ref mp, .int (iI (mo : Int)), .int (iI (fo : Int)), .ref mpl, .ref mdi, .ref mc])), (ms, .inl (cI, 64, .inl (iA X)))] sz [.ref m0, .int (iI v)]) (wrQv dC dI [(cI, .int)] [(m0, .inr (3, [.int (iI cd), .int (iI (n : Int)), .int (iI (w : Int)), .ref mq, .int (iI (rc : Int)), .ref mn, .ref ml, .int (iI (sc : Int)), .ref ms, .ref mr, .ref mg, .ref mp, .int (iI (mo : Int)), .int (iI (fo : Int)), .ref mpl, .ref mdi, .ref mc])), (ms, .inl (cI, 64, .inl (iA X)))] sz (S := (Int × (Nat → Int) × Nat)) (fun u => ((0 ≤ v ∧ v ≤ (sc : Int)) ∧ u = (0, zC X X v.toNat 0 (sc - v.toNat), sc - v.toNat)) ∨ ((v < 0 ∨ (sc : Int) < v) ∧ u = (1, X, sc))) (fun u => [(m0, .inr (3, [.int (iI u.1), .int (iI (n : Int)), .int (iI (w : Int)), .ref mq, .int (iI (rc : Int)), .ref mn, .ref ml, .int (iI ((u.2.2 : Nat) : Int)), .ref ms, .ref mr, .ref mg, .ref mp, .int (iI (mo : Int)), .int (iI (fo : Int)), .ref mpl, .ref mdi, .ref mc])), (ms, .inl (cI, 64, .inl (iA u.2.1)))])) 0 0 (va_A [(m0, .inr (3, [.int (iI cd), .int (iI (n : Int)), .int (iI (w : Int)), .ref mq, .int (iI (rc : Int)), .ref mn, .ref ml, .int (iI (sc : Int)), .ref ms, .ref mr, .ref mg, .ref mp, .int (iI (mo : Int)), .int (iI (fo : Int)), .ref mpl, .ref mdi, .ref mc])), (ms, .inl (cI, 64, .inl (iA X)))] sz) := by
  refine Met.ofW (cc := cX3_shift) (maxL := 3) (ret := none) (by decide) rfl ?_
  intro p e s m args below meth c s₁ B hml hv
  obtain ⟨rfl, hsz, hP, hK, hD0⟩ := hv
  have hx := B.exec
  have hb := B.bytes
  have hr := B.returns
  have hts : ∀ w ∈ wsX3_shift, w.before _ s = true := atoms_spec (ws := wsX3_shift) B.pre
  have hown : s.vm.findClass RX3 = some m.cls := findClass_of_methodNamed B.named
  have hlocks := B.notSynchronized
  subst hsz
  have hD := hD0.self (sz := s.heap.size)
  have hA : ∀ q9 : Nat, s.heap.size ≤ q9 → va_A [(m0, .inr (3, [.int (iI cd), .int (iI (n : Int)), .int (iI (w : Int)), .ref mq, .int (iI (rc : Int)), .ref mn, .ref ml, .int (iI (sc : Int)), .ref ms, .ref mr, .ref mg, .ref mp, .int (iI (mo : Int)), .int (iI (fo : Int)), .ref mpl, .ref mdi, .ref mc])), (ms, .inl (cI, 64, .inl (iA X)))] s.heap.size q9 := fun q9 h => Or.inr h
  have hS : va_S (va_A [(m0, .inr (3, [.int (iI cd), .int (iI (n : Int)), .int (iI (w : Int)), .ref mq, .int (iI (rc : Int)), .ref mn, .ref ml, .int (iI (sc : Int)), .ref ms, .ref mr, .ref mg, .ref mp, .int (iI (mo : Int)), .int (iI (fo : Int)), .ref mpl, .ref mdi, .ref mc])), (ms, .inl (cI, 64, .inl (iA X)))] s.heap.size) s.heap s.heap [] := va_S.rf
  generalize hAe : va_A [(m0, .inr (3, [.int (iI cd), .int (iI (n : Int)), .int (iI (w : Int)), .ref mq, .int (iI (rc : Int)), .ref mn, .ref ml, .int (iI (sc : Int)), .ref ms, .ref mr, .ref mg, .ref mp, .int (iI (mo : Int)), .int (iI (fo : Int)), .ref mpl, .ref mdi, .ref mc])), (ms, .inl (cI, 64, .inl (iA X)))] s.heap.size = A at hD hA hS
  have hP : va_P (dC, dI) vwCl [(m0, .inr (3, [.int (iI cd), .int (iI (n : Int)), .int (iI (w : Int)), .ref mq, .int (iI (rc : Int)), .ref mn, .ref ml, .int (iI (sc : Int)), .ref ms, .ref mr, .ref mg, .ref mp, .int (iI (mo : Int)), .int (iI (fo : Int)), .ref mpl, .ref mdi, .ref mc])), (ms, .inl (cI, 64, .inl (iA X)))] s.heap := hP
  have hl := lv_entry ([.ref m0, .int (iI v)]) (n := 3) (Nat.le_of_ble_eq_true rfl)
  rw [lg_entry_eq]
  generalize (lg_sl ([.ref m0, .int (iI v)]) ++ List.replicate (3 - (lg_sl ([.ref m0, .int (iI v)])).length) Slot.unset).toArray = ls at hl ⊢
  have hl : lv_has ls 3 [(0, .ref m0), (1, .int (iI v))] := hl
  generalize hargs : ([.ref m0, .int (iI v)] : List Value).toArray = args at hts ⊢
  refine z_intro (fun R Q hR hQ => ?_)
  have hRf : R.frames = 1 := by rw [hR]; rfl
  have hRl : R.locals = 22 := by rw [hR]; rfl
  have hRc : R.cells = 0 := by rw [hR]; rfl
  have hRs : R.slots = 0 := by rw [hR]; rfl
  have in_X3 : ∀ w ∈ u_ws RX3 TX3 17, w ∈ wsX3_shift := fun w h => List.mem_cons_of_mem _ (inW_X3 w h)
  have fl_23 := wa_hts hts wd_492
  have fl_44 := wa_hts hts wd_484
  have fl_109 := wa_hts hts wd_491
  clear hR hargs B
  refine lv_aload_n hx hb dX3_shift_0 rfl (lv_at hl 0 rfl) ?_
  refine lv_iload_n hx hb dX3_shift_1 rfl (lv_at hl 1 rfl) ?_
  refine lv_iconst (v := iI (0 : Int)) hx hb dX3_shift_2 (by decide) ?_
  refine lv_aload_n hx hb dX3_shift_3 rfl (lv_at hl 0 rfl) ?_
  refine va_get (D := (dC, dI)) (ci := 3) (v := .int (iI (sc : Int))) (C := RX3) (T := TX3) (N := 17) hx hb hts in_X3 hown hK hP 0 rfl rfl 7 (by decide) fl_109 (fun _ h9 => h9) rfl dX3_shift_4 ?_
  refine zr_i (va_runS (As := [.int (iI v), .int (iI (0 : Int)), .int (iI (sc : Int))]) (rest := [.ref m0]) ⟨hx, hb, hml, hown, hts⟩ (c_within l dC dI cI v (0 : Int) (sc : Int) (by omega) (by omega) (by omega)) (cwS 3 hts (ga_S wd_544 wd_545 wd_31 wd_546) rfl rfl rfl (by decide +kernel) ⟨(show 0 + 1 ≤ R.frames by omega), (show 8 + (3 + 11) + 0 ≤ R.locals by omega)⟩) (rd_preS hP hK [] rfl) rfl rfl hl.1 rfl (lv_room (Nat.le_of_ble_eq_true rfl)) dX3_shift_7 ⟨by omega, by omega⟩) (fun z7 hz7 => ?_)
  refine z_if_eq (tgt := 17) hx hb dX3_shift_10 (by decide) (by omega) (fun h10 => ?_) (fun h10 => ?_)
  · refine lv_iconst (v := iI (1 : Int)) hx hb dX3_shift_17 (by decide) ?_
    refine va_put (D := (dC, dI)) (ci := 3) (v := .int (iI (1 : Int))) (ty := .int) (C := RX3) (T := TX3) (N := 17) hx hb hts in_X3 tyX3 tyX3_ok nmX3 hown hK hP hD hS 0 rfl rfl 0 (by decide) fl_44 (fun _ h9 => h9) rfl (by decide +kernel) rfl rfl (Nat.le_of_ble_eq_true rfl) dX3_shift_18 (fun H locs hP hD hS => ?_)
    have hP : va_P (dC, dI) vwCl [(m0, .inr (3, [.int (iI (1 : Int)), .int (iI (n : Int)), .int (iI (w : Int)), .ref mq, .int (iI (rc : Int)), .ref mn, .ref ml, .int (iI (sc : Int)), .ref ms, .ref mr, .ref mg, .ref mp, .int (iI (mo : Int)), .int (iI (fo : Int)), .ref mpl, .ref mdi, .ref mc])), (ms, .inl (cI, 64, .inl (iA X)))] H := hP
    have hD : va_D A [(m0, .inr (3, [.int (iI (1 : Int)), .int (iI (n : Int)), .int (iI (w : Int)), .ref mq, .int (iI (rc : Int)), .ref mn, .ref ml, .int (iI (sc : Int)), .ref ms, .ref mr, .ref mg, .ref mp, .int (iI (mo : Int)), .int (iI (fo : Int)), .ref mpl, .ref mdi, .ref mc])), (ms, .inl (cI, 64, .inl (iA X)))] := hD
    refine lv_aload_n hx hb dX3_shift_21 rfl (lv_at hl 0 rfl) ?_
    refine va_get (D := (dC, dI)) (ci := 3) (v := .int (iI (1 : Int))) (C := RX3) (T := TX3) (N := 17) hx hb hts in_X3 hown hK hP 0 rfl rfl 0 (by decide) fl_44 (fun _ h9 => h9) rfl dX3_shift_22 ?_
    refine z_if_ne (tgt := 68) hx hb dX3_shift_25 (by decide) (by decide) (fun _ => ?_) (fun h9 => absurd h9 (by decide))
    subst hAe
    exact zw_retv ((1, X, sc)) hx hb hr hlocks hQ (Or.inr ⟨by omega, rfl⟩) hP hK hD hS dX3_shift_68
  · refine lv_iconst (v := iI (0 : Int)) hx hb dX3_shift_13 (by decide) ?_
    refine lv_goto (tgt := 18) hx hb dX3_shift_14 (by decide) ?_
    refine va_put (D := (dC, dI)) (ci := 3) (v := .int (iI (0 : Int))) (ty := .int) (C := RX3) (T := TX3) (N := 17) hx hb hts in_X3 tyX3 tyX3_ok nmX3 hown hK hP hD hS 0 rfl rfl 0 (by decide) fl_44 (fun _ h9 => h9) rfl (by decide +kernel) rfl rfl (Nat.le_of_ble_eq_true rfl) dX3_shift_18 (fun H locs hP hD hS => ?_)
    have hP : va_P (dC, dI) vwCl [(m0, .inr (3, [.int (iI (0 : Int)), .int (iI (n : Int)), .int (iI (w : Int)), .ref mq, .int (iI (rc : Int)), .ref mn, .ref ml, .int (iI (sc : Int)), .ref ms, .ref mr, .ref mg, .ref mp, .int (iI (mo : Int)), .int (iI (fo : Int)), .ref mpl, .ref mdi, .ref mc])), (ms, .inl (cI, 64, .inl (iA X)))] H := hP
    have hD : va_D A [(m0, .inr (3, [.int (iI (0 : Int)), .int (iI (n : Int)), .int (iI (w : Int)), .ref mq, .int (iI (rc : Int)), .ref mn, .ref ml, .int (iI (sc : Int)), .ref ms, .ref mr, .ref mg, .ref mp, .int (iI (mo : Int)), .int (iI (fo : Int)), .ref mpl, .ref mdi, .ref mc])), (ms, .inl (cI, 64, .inl (iA X)))] := hD
    refine lv_aload_n hx hb dX3_shift_21 rfl (lv_at hl 0 rfl) ?_
    refine va_get (D := (dC, dI)) (ci := 3) (v := .int (iI (0 : Int))) (C := RX3) (T := TX3) (N := 17) hx hb hts in_X3 hown hK hP 0 rfl rfl 0 (by decide) fl_44 (fun _ h9 => h9) rfl dX3_shift_22 ?_
    refine z_if_ne (tgt := 68) hx hb dX3_shift_25 (by decide) (by decide) (fun h9 => absurd h9 (by decide)) (fun _ => ?_)
    refine lv_aload_n hx hb dX3_shift_28 rfl (lv_at hl 0 rfl) ?_
    refine lv_aload_n hx hb dX3_shift_29 rfl (lv_at hl 0 rfl) ?_
    refine va_get (D := (dC, dI)) (ci := 3) (v := .int (iI (sc : Int))) (C := RX3) (T := TX3) (N := 17) hx hb hts in_X3 hown hK hP 0 rfl rfl 7 (by decide) fl_109 (fun _ h9 => h9) rfl dX3_shift_30 ?_
    refine lv_iload_n hx hb dX3_shift_33 rfl (lv_at hl 1 rfl) ?_
    refine z_isub hx hb dX3_shift_34 ?_
    refine z_top (b := ((sc - v.toNat : Nat) : Int)) (by omega) ?_
    refine va_put (D := (dC, dI)) (ci := 3) (v := .int (iI ((sc - v.toNat : Nat) : Int))) (ty := .int) (C := RX3) (T := TX3) (N := 17) hx hb hts in_X3 tyX3 tyX3_ok nmX3 hown hK hP hD hS 0 rfl rfl 7 (by decide) fl_109 (fun _ h9 => h9) rfl (by decide +kernel) rfl rfl (Nat.le_of_ble_eq_true rfl) dX3_shift_35 (fun H locs hP hD hS => ?_)
    have hP : va_P (dC, dI) vwCl [(m0, .inr (3, [.int (iI (0 : Int)), .int (iI (n : Int)), .int (iI (w : Int)), .ref mq, .int (iI (rc : Int)), .ref mn, .ref ml, .int (iI ((sc - v.toNat : Nat) : Int)), .ref ms, .ref mr, .ref mg, .ref mp, .int (iI (mo : Int)), .int (iI (fo : Int)), .ref mpl, .ref mdi, .ref mc])), (ms, .inl (cI, 64, .inl (iA X)))] H := hP
    have hD : va_D A [(m0, .inr (3, [.int (iI (0 : Int)), .int (iI (n : Int)), .int (iI (w : Int)), .ref mq, .int (iI (rc : Int)), .ref mn, .ref ml, .int (iI ((sc - v.toNat : Nat) : Int)), .ref ms, .ref mr, .ref mg, .ref mp, .int (iI (mo : Int)), .int (iI (fo : Int)), .ref mpl, .ref mdi, .ref mc])), (ms, .inl (cI, 64, .inl (iA X)))] := hD
    refine lv_iconst (v := iI (0 : Int)) hx hb dX3_shift_38 (by decide) ?_
    refine lv_istore_n (lv' := [(2, .int (iI (0 : Int))), (0, .ref m0), (1, .int (iI v))]) hx hb dX3_shift_39 rfl hl (by decide) rfl (fun ls hl => ?_)
    have lp : ∀ (k9 : Nat) (i : Nat) (X9 : Nat → Int) (H : Heap) (locs : List Loc) (ls : Array Slot), (i ≤ sc - v.toNat) → (X9 = zC X X v.toNat 0 i) → sc - v.toNat - i = k9 → va_P (dC, dI) vwCl [(m0, .inr (3, [.int (iI (0 : Int)), .int (iI (n : Int)), .int (iI (w : Int)), .ref mq, .int (iI (rc : Int)), .ref mn, .ref ml, .int (iI ((sc - v.toNat : Nat) : Int)), .ref ms, .ref mr, .ref mg, .ref mp, .int (iI (mo : Int)), .int (iI (fo : Int)), .ref mpl, .ref mdi, .ref mc])), (ms, .inl (cI, 64, .inl (iA X9)))] H → va_D A [(m0, .inr (3, [.int (iI (0 : Int)), .int (iI (n : Int)), .int (iI (w : Int)), .ref mq, .int (iI (rc : Int)), .ref mn, .ref ml, .int (iI ((sc - v.toNat : Nat) : Int)), .ref ms, .ref mr, .ref mg, .ref mp, .int (iI (mo : Int)), .int (iI (fo : Int)), .ref mpl, .ref mdi, .ref mc])), (ms, .inl (cI, 64, .inl (iA X9)))] → va_S A s.heap H locs → lv_has ls 3 [(0, .ref m0), (1, .int (iI v)), (2, .int (iI (i : Int)))] → W p l e R s m args below meth c H locs 0 0 Q (F0 m 40 ls []) := by
      intro k9
      induction k9 using Nat.strongRecOn with
      | ind k9 ih_lp =>
        intro i X9 H locs ls hi hX9 hk9 hP hD hS hl
        refine lv_iload_n hx hb dX3_shift_40 rfl (lv_at hl 2 rfl) ?_
        refine lv_aload_n hx hb dX3_shift_41 rfl (lv_at hl 0 rfl) ?_
        refine va_get (D := (dC, dI)) (ci := 3) (v := .int (iI ((sc - v.toNat : Nat) : Int))) (C := RX3) (T := TX3) (N := 17) hx hb hts in_X3 hown hK hP 0 rfl rfl 7 (by decide) fl_109 (fun _ h9 => h9) rfl dX3_shift_42 ?_
        refine z_icmp_ge (tgt := 68) hx hb dX3_shift_45 (by decide) (by omega) (fun h45 => ?_) (fun h45 => ?_)
        · have ein : i = sc - v.toNat := by omega
          rw [hX9, ein] at hP hD
          subst hAe
          exact zw_retv ((0, zC X X v.toNat 0 (sc - v.toNat), sc - v.toNat)) hx hb hr hlocks hQ (Or.inl ⟨by omega, rfl⟩) hP hK hD hS dX3_shift_68
        · refine lv_aload_n hx hb dX3_shift_48 rfl (lv_at hl 0 rfl) ?_
          refine va_get (D := (dC, dI)) (ci := 3) (v := .ref ms) (C := RX3) (T := TX3) (N := 17) hx hb hts in_X3 hown hK hP 0 rfl rfl 8 (by decide) fl_23 (fun _ h9 => h9) rfl dX3_shift_49 ?_
          refine lv_iload_n hx hb dX3_shift_52 rfl (lv_at hl 2 rfl) ?_
          refine lv_aload_n hx hb dX3_shift_53 rfl (lv_at hl 0 rfl) ?_
          refine va_get (D := (dC, dI)) (ci := 3) (v := .ref ms) (C := RX3) (T := TX3) (N := 17) hx hb hts in_X3 hown hK hP 0 rfl rfl 8 (by decide) fl_23 (fun _ h9 => h9) rfl dX3_shift_54 ?_
          refine lv_iload_n hx hb dX3_shift_57 rfl (lv_at hl 2 rfl) ?_
          refine lv_iload_n hx hb dX3_shift_58 rfl (lv_at hl 1 rfl) ?_
          refine z_iadd hx hb dX3_shift_59 ?_
          refine z_iald hx hb hK hP 1 0 rfl rfl (i + v.toNat) (by omega) dX3_shift_60 ?_
          refine z_iast hx hb hK hP hD hS 1 0 rfl rfl i (by omega) dX3_shift_61 (fun H locs hP hD hS => ?_)
          have hP : va_P (dC, dI) vwCl [(m0, .inr (3, [.int (iI (0 : Int)), .int (iI (n : Int)), .int (iI (w : Int)), .ref mq, .int (iI (rc : Int)), .ref mn, .ref ml, .int (iI ((sc - v.toNat : Nat) : Int)), .ref ms, .ref mr, .ref mg, .ref mp, .int (iI (mo : Int)), .int (iI (fo : Int)), .ref mpl, .ref mdi, .ref mc])), (ms, .inl (cI, 64, .inl (iA (zU X9 i (X9 (i + v.toNat))))))] H := hP
          have hD : va_D A [(m0, .inr (3, [.int (iI (0 : Int)), .int (iI (n : Int)), .int (iI (w : Int)), .ref mq, .int (iI (rc : Int)), .ref mn, .ref ml, .int (iI ((sc - v.toNat : Nat) : Int)), .ref ms, .ref mr, .ref mg, .ref mp, .int (iI (mo : Int)), .int (iI (fo : Int)), .ref mpl, .ref mdi, .ref mc])), (ms, .inl (cI, 64, .inl (iA (zU X9 i (X9 (i + v.toNat))))))] := hD
          refine z_iinc (k := 2) (b := ((i + 1 : Nat) : Int)) (lv' := [(2, .int (iI ((i + 1 : Nat) : Int))), (0, .ref m0), (1, .int (iI v))]) hx hb dX3_shift_62 hl rfl (by omega) (by decide) rfl (fun ls hl => ?_)
          refine lv_goto (tgt := 40) hx hb dX3_shift_65 (by decide) ?_
          exact ih_lp _ (by omega) (i + 1) (zU X9 i (X9 (i + v.toNat))) H locs ls (by omega) (by rw [hX9, zC_self]; exact zC_step0) rfl hP hD hS (lv_sub hl [1, 2, 0] rfl)
    exact lp _ 0 X _ _ ls (by omega) ((zC_0 _ _ _ _).symm) rfl hP hD hS (lv_sub hl [1, 2, 0] rfl)
set_option maxRecDepth 100000 in
set_option maxHeartbeats 4000000 in
theorem c_mCount (l : Launch) (dC : Nat → ClassId) (dI : Nat → Nat → Nat) (cI : ClassId) (m0 mq mn ml ms mr mg mp mpl mdi mc : Nat) (cd : Int) (n w rc sc mo fo : Nat) (v : Int) (T : Nat → Int) (sz : Nat) (hv : -2147483648 ≤ v ∧ v ≤ 2147483647) : Met l yX3_count wsX3_count ({ frames := 1, cells := 0, slots := 0, locals := 22 }) (wrP dC dI [(cI, .int)] [(m0, .inr (3, [.int (iI cd), .int (iI (n : Int)), .int (iI (w : Int)), .ref mq, .int (iI (rc : Int)), .ref mn, .ref ml, .int (iI (sc : Int)), .ref ms, .ref mr, .ref mg, .ref mp, .int (iI (mo : Int)), .int (iI (fo : Int)), .ref mpl, .ref mdi, .ref mc])), (mc, .inl (cI, 5, .inl (iA T)))] sz [.ref m0, .int (iI v)]) (wrQi dC dI [(cI, .int)] [(m0, .inr (3, [.int (iI cd), .int (iI (n : Int)), .int (iI (w : Int)), .ref mq, .int (iI (rc : Int)), .ref mn, .ref ml, .int (iI (sc : Int)), .ref ms, .ref mr, .ref mg, .ref mp, .int (iI (mo : Int)), .int (iI (fo : Int)), .ref mpl, .ref mdi, .ref mc])), (mc, .inl (cI, 5, .inl (iA T)))] sz (S := Int) (fun z u => ((0 ≤ v ∧ v ≤ 4) ∧ u = 0 ∧ z = T v.toNat) ∨ ((v < 0 ∨ 4 < v) ∧ u = 1 ∧ z = 0)) (fun u => [(m0, .inr (3, [.int (iI u), .int (iI (n : Int)), .int (iI (w : Int)), .ref mq, .int (iI (rc : Int)), .ref mn, .ref ml, .int (iI (sc : Int)), .ref ms, .ref mr, .ref mg, .ref mp, .int (iI (mo : Int)), .int (iI (fo : Int)), .ref mpl, .ref mdi, .ref mc])), (mc, .inl (cI, 5, .inl (iA T)))])) 0 0 (va_A [(m0, .inr (3, [.int (iI cd), .int (iI (n : Int)), .int (iI (w : Int)), .ref mq, .int (iI (rc : Int)), .ref mn, .ref ml, .int (iI (sc : Int)), .ref ms, .ref mr, .ref mg, .ref mp, .int (iI (mo : Int)), .int (iI (fo : Int)), .ref mpl, .ref mdi, .ref mc])), (mc, .inl (cI, 5, .inl (iA T)))] sz) := by
  refine Met.ofW (cc := cX3_count) (maxL := 2) (ret := (some .int)) (by decide) rfl ?_
  intro p e s m args below meth c s₁ B hml hv
  obtain ⟨rfl, hsz, hP, hK, hD0⟩ := hv
  have hx := B.exec
  have hb := B.bytes
  have hr := B.returns
  have hts : ∀ w ∈ wsX3_count, w.before _ s = true := atoms_spec (ws := wsX3_count) B.pre
  have hown : s.vm.findClass RX3 = some m.cls := findClass_of_methodNamed B.named
  have hlocks := B.notSynchronized
  subst hsz
  have hD := hD0.self (sz := s.heap.size)
  have hA : ∀ q9 : Nat, s.heap.size ≤ q9 → va_A [(m0, .inr (3, [.int (iI cd), .int (iI (n : Int)), .int (iI (w : Int)), .ref mq, .int (iI (rc : Int)), .ref mn, .ref ml, .int (iI (sc : Int)), .ref ms, .ref mr, .ref mg, .ref mp, .int (iI (mo : Int)), .int (iI (fo : Int)), .ref mpl, .ref mdi, .ref mc])), (mc, .inl (cI, 5, .inl (iA T)))] s.heap.size q9 := fun q9 h => Or.inr h
  have hS : va_S (va_A [(m0, .inr (3, [.int (iI cd), .int (iI (n : Int)), .int (iI (w : Int)), .ref mq, .int (iI (rc : Int)), .ref mn, .ref ml, .int (iI (sc : Int)), .ref ms, .ref mr, .ref mg, .ref mp, .int (iI (mo : Int)), .int (iI (fo : Int)), .ref mpl, .ref mdi, .ref mc])), (mc, .inl (cI, 5, .inl (iA T)))] s.heap.size) s.heap s.heap [] := va_S.rf
  generalize hAe : va_A [(m0, .inr (3, [.int (iI cd), .int (iI (n : Int)), .int (iI (w : Int)), .ref mq, .int (iI (rc : Int)), .ref mn, .ref ml, .int (iI (sc : Int)), .ref ms, .ref mr, .ref mg, .ref mp, .int (iI (mo : Int)), .int (iI (fo : Int)), .ref mpl, .ref mdi, .ref mc])), (mc, .inl (cI, 5, .inl (iA T)))] s.heap.size = A at hD hA hS
  have hP : va_P (dC, dI) vwCl [(m0, .inr (3, [.int (iI cd), .int (iI (n : Int)), .int (iI (w : Int)), .ref mq, .int (iI (rc : Int)), .ref mn, .ref ml, .int (iI (sc : Int)), .ref ms, .ref mr, .ref mg, .ref mp, .int (iI (mo : Int)), .int (iI (fo : Int)), .ref mpl, .ref mdi, .ref mc])), (mc, .inl (cI, 5, .inl (iA T)))] s.heap := hP
  have hl := lv_entry ([.ref m0, .int (iI v)]) (n := 2) (Nat.le_of_ble_eq_true rfl)
  rw [lg_entry_eq]
  generalize (lg_sl ([.ref m0, .int (iI v)]) ++ List.replicate (2 - (lg_sl ([.ref m0, .int (iI v)])).length) Slot.unset).toArray = ls at hl ⊢
  have hl : lv_has ls 2 [(0, .ref m0), (1, .int (iI v))] := hl
  generalize hargs : ([.ref m0, .int (iI v)] : List Value).toArray = args at hts ⊢
  refine z_intro (fun R Q hR hQ => ?_)
  have hRf : R.frames = 1 := by rw [hR]; rfl
  have hRl : R.locals = 22 := by rw [hR]; rfl
  have hRc : R.cells = 0 := by rw [hR]; rfl
  have hRs : R.slots = 0 := by rw [hR]; rfl
  have in_X3 : ∀ w ∈ u_ws RX3 TX3 17, w ∈ wsX3_count := fun w h => List.mem_cons_of_mem _ (inW_X3 w h)
  have fl_41 := wa_hts hts wd_500
  have fl_44 := wa_hts hts wd_484
  clear hR hargs B
  refine lv_aload_n hx hb dX3_count_0 rfl (lv_at hl 0 rfl) ?_
  refine lv_iload_n hx hb dX3_count_1 rfl (lv_at hl 1 rfl) ?_
  refine lv_iconst (v := iI (0 : Int)) hx hb dX3_count_2 (by decide) ?_
  refine lv_iconst (v := iI (4 : Int)) hx hb dX3_count_3 (by decide) ?_
  refine zr_i (va_runS (As := [.int (iI v), .int (iI (0 : Int)), .int (iI (4 : Int))]) (rest := [.ref m0]) ⟨hx, hb, hml, hown, hts⟩ (c_within l dC dI cI v (0 : Int) (4 : Int) (by omega) (by omega) (by omega)) (cwS 3 hts (ga_S wd_544 wd_545 wd_31 wd_546) rfl rfl rfl (by decide +kernel) ⟨(show 0 + 1 ≤ R.frames by omega), (show 8 + (3 + 11) + 0 ≤ R.locals by omega)⟩) (rd_preS hP hK [] rfl) rfl rfl hl.1 rfl (lv_room (Nat.le_of_ble_eq_true rfl)) dX3_count_4 ⟨by omega, by omega⟩) (fun z4 hz4 => ?_)
  refine z_if_eq (tgt := 14) hx hb dX3_count_7 (by decide) (by omega) (fun h7 => ?_) (fun h7 => ?_)
  · refine lv_iconst (v := iI (1 : Int)) hx hb dX3_count_14 (by decide) ?_
    refine va_put (D := (dC, dI)) (ci := 3) (v := .int (iI (1 : Int))) (ty := .int) (C := RX3) (T := TX3) (N := 17) hx hb hts in_X3 tyX3 tyX3_ok nmX3 hown hK hP hD hS 0 rfl rfl 0 (by decide) fl_44 (fun _ h9 => h9) rfl (by decide +kernel) rfl rfl (Nat.le_of_ble_eq_true rfl) dX3_count_15 (fun H locs hP hD hS => ?_)
    have hP : va_P (dC, dI) vwCl [(m0, .inr (3, [.int (iI (1 : Int)), .int (iI (n : Int)), .int (iI (w : Int)), .ref mq, .int (iI (rc : Int)), .ref mn, .ref ml, .int (iI (sc : Int)), .ref ms, .ref mr, .ref mg, .ref mp, .int (iI (mo : Int)), .int (iI (fo : Int)), .ref mpl, .ref mdi, .ref mc])), (mc, .inl (cI, 5, .inl (iA T)))] H := hP
    have hD : va_D A [(m0, .inr (3, [.int (iI (1 : Int)), .int (iI (n : Int)), .int (iI (w : Int)), .ref mq, .int (iI (rc : Int)), .ref mn, .ref ml, .int (iI (sc : Int)), .ref ms, .ref mr, .ref mg, .ref mp, .int (iI (mo : Int)), .int (iI (fo : Int)), .ref mpl, .ref mdi, .ref mc])), (mc, .inl (cI, 5, .inl (iA T)))] := hD
    refine lv_aload_n hx hb dX3_count_18 rfl (lv_at hl 0 rfl) ?_
    refine va_get (D := (dC, dI)) (ci := 3) (v := .int (iI (1 : Int))) (C := RX3) (T := TX3) (N := 17) hx hb hts in_X3 hown hK hP 0 rfl rfl 0 (by decide) fl_44 (fun _ h9 => h9) rfl dX3_count_19 ?_
    refine z_if_le (tgt := 29) hx hb dX3_count_22 (by decide) (by decide) (fun h9 => absurd h9 (by decide)) (fun _ => ?_)
    refine lv_iconst (v := iI (0 : Int)) hx hb dX3_count_25 (by decide) ?_
    refine lv_goto (tgt := 35) hx hb dX3_count_26 (by decide) ?_
    subst hAe
    exact zw_reti (z := (0 : Int)) ((1 : Int)) hx hb hr hlocks hQ (Or.inr ⟨by omega, rfl, rfl⟩) hP hK hD hS dX3_count_35
  · refine lv_iconst (v := iI (0 : Int)) hx hb dX3_count_10 (by decide) ?_
    refine lv_goto (tgt := 15) hx hb dX3_count_11 (by decide) ?_
    refine va_put (D := (dC, dI)) (ci := 3) (v := .int (iI (0 : Int))) (ty := .int) (C := RX3) (T := TX3) (N := 17) hx hb hts in_X3 tyX3 tyX3_ok nmX3 hown hK hP hD hS 0 rfl rfl 0 (by decide) fl_44 (fun _ h9 => h9) rfl (by decide +kernel) rfl rfl (Nat.le_of_ble_eq_true rfl) dX3_count_15 (fun H locs hP hD hS => ?_)
    have hP : va_P (dC, dI) vwCl [(m0, .inr (3, [.int (iI (0 : Int)), .int (iI (n : Int)), .int (iI (w : Int)), .ref mq, .int (iI (rc : Int)), .ref mn, .ref ml, .int (iI (sc : Int)), .ref ms, .ref mr, .ref mg, .ref mp, .int (iI (mo : Int)), .int (iI (fo : Int)), .ref mpl, .ref mdi, .ref mc])), (mc, .inl (cI, 5, .inl (iA T)))] H := hP
    have hD : va_D A [(m0, .inr (3, [.int (iI (0 : Int)), .int (iI (n : Int)), .int (iI (w : Int)), .ref mq, .int (iI (rc : Int)), .ref mn, .ref ml, .int (iI (sc : Int)), .ref ms, .ref mr, .ref mg, .ref mp, .int (iI (mo : Int)), .int (iI (fo : Int)), .ref mpl, .ref mdi, .ref mc])), (mc, .inl (cI, 5, .inl (iA T)))] := hD
    refine lv_aload_n hx hb dX3_count_18 rfl (lv_at hl 0 rfl) ?_
    refine va_get (D := (dC, dI)) (ci := 3) (v := .int (iI (0 : Int))) (C := RX3) (T := TX3) (N := 17) hx hb hts in_X3 hown hK hP 0 rfl rfl 0 (by decide) fl_44 (fun _ h9 => h9) rfl dX3_count_19 ?_
    refine z_if_le (tgt := 29) hx hb dX3_count_22 (by decide) (by decide) (fun _ => ?_) (fun h9 => absurd h9 (by decide))
    refine lv_aload_n hx hb dX3_count_29 rfl (lv_at hl 0 rfl) ?_
    refine va_get (D := (dC, dI)) (ci := 3) (v := .ref mc) (C := RX3) (T := TX3) (N := 17) hx hb hts in_X3 hown hK hP 0 rfl rfl 16 (by decide) fl_41 (fun _ h9 => h9) rfl dX3_count_30 ?_
    refine lv_iload_n hx hb dX3_count_33 rfl (lv_at hl 1 rfl) ?_
    refine z_iald hx hb hK hP 1 0 rfl rfl v.toNat (by omega) dX3_count_34 ?_
    subst hAe
    exact zw_reti (z := T v.toNat) ((0 : Int)) hx hb hr hlocks hQ (Or.inl ⟨by omega, rfl, rfl⟩) hP hK hD hS dX3_count_35
set_option maxRecDepth 100000 in
set_option maxHeartbeats 4000000 in
theorem c_mFound (l : Launch) (dC : Nat → ClassId) (dI : Nat → Nat → Nat) (cI : ClassId) (m0 mq mn ml ms mr mg mp mpl mdi mc : Nat) (cd : Int) (n w rc sc mo fo : Nat) (v b9 : Int) (PL DI : Nat → Int) (sz : Nat) (hv : -2147483648 ≤ v ∧ v ≤ 2147483647) (hb9 : b9 = 0 ∨ b9 = 1) (hfo : fo ≤ 12) : Met l yX3_found wsX3_found ({ frames := 1, cells := 0, slots := 0, locals := 22 }) (wrP dC dI [(cI, .int)] [(m0, .inr (3, [.int (iI cd), .int (iI (n : Int)), .int (iI (w : Int)), .ref mq, .int (iI (rc : Int)), .ref mn, .ref ml, .int (iI (sc : Int)), .ref ms, .ref mr, .ref mg, .ref mp, .int (iI (mo : Int)), .int (iI (fo : Int)), .ref mpl, .ref mdi, .ref mc])), (mpl, .inl (cI, 13, .inl (iA PL))), (mdi, .inl (cI, 13, .inl (iA DI)))] sz [.ref m0, .int (iI v), .int (iI b9)]) (wrQi dC dI [(cI, .int)] [(m0, .inr (3, [.int (iI cd), .int (iI (n : Int)), .int (iI (w : Int)), .ref mq, .int (iI (rc : Int)), .ref mn, .ref ml, .int (iI (sc : Int)), .ref ms, .ref mr, .ref mg, .ref mp, .int (iI (mo : Int)), .int (iI (fo : Int)), .ref mpl, .ref mdi, .ref mc])), (mpl, .inl (cI, 13, .inl (iA PL))), (mdi, .inl (cI, 13, .inl (iA DI)))] sz (S := Int) (fun z u => ((0 ≤ v ∧ v < (fo : Int)) ∧ u = 0 ∧ z = if b9 ≠ 0 then DI v.toNat else PL v.toNat) ∨ ((v < 0 ∨ (fo : Int) ≤ v) ∧ u = 1 ∧ z = 0)) (fun u => [(m0, .inr (3, [.int (iI u), .int (iI (n : Int)), .int (iI (w : Int)), .ref mq, .int (iI (rc : Int)), .ref mn, .ref ml, .int (iI (sc : Int)), .ref ms, .ref mr, .ref mg, .ref mp, .int (iI (mo : Int)), .int (iI (fo : Int)), .ref mpl, .ref mdi, .ref mc])), (mpl, .inl (cI, 13, .inl (iA PL))), (mdi, .inl (cI, 13, .inl (iA DI)))])) 0 0 (va_A [(m0, .inr (3, [.int (iI cd), .int (iI (n : Int)), .int (iI (w : Int)), .ref mq, .int (iI (rc : Int)), .ref mn, .ref ml, .int (iI (sc : Int)), .ref ms, .ref mr, .ref mg, .ref mp, .int (iI (mo : Int)), .int (iI (fo : Int)), .ref mpl, .ref mdi, .ref mc])), (mpl, .inl (cI, 13, .inl (iA PL))), (mdi, .inl (cI, 13, .inl (iA DI)))] sz) := by
  refine Met.ofW (cc := cX3_found) (maxL := 3) (ret := (some .int)) (by decide) rfl ?_
  intro p e s m args below meth c s₁ B hml hv
  obtain ⟨rfl, hsz, hP, hK, hD0⟩ := hv
  have hx := B.exec
  have hb := B.bytes
  have hr := B.returns
  have hts : ∀ w ∈ wsX3_found, w.before _ s = true := atoms_spec (ws := wsX3_found) B.pre
  have hown : s.vm.findClass RX3 = some m.cls := findClass_of_methodNamed B.named
  have hlocks := B.notSynchronized
  subst hsz
  have hD := hD0.self (sz := s.heap.size)
  have hA : ∀ q9 : Nat, s.heap.size ≤ q9 → va_A [(m0, .inr (3, [.int (iI cd), .int (iI (n : Int)), .int (iI (w : Int)), .ref mq, .int (iI (rc : Int)), .ref mn, .ref ml, .int (iI (sc : Int)), .ref ms, .ref mr, .ref mg, .ref mp, .int (iI (mo : Int)), .int (iI (fo : Int)), .ref mpl, .ref mdi, .ref mc])), (mpl, .inl (cI, 13, .inl (iA PL))), (mdi, .inl (cI, 13, .inl (iA DI)))] s.heap.size q9 := fun q9 h => Or.inr h
  have hS : va_S (va_A [(m0, .inr (3, [.int (iI cd), .int (iI (n : Int)), .int (iI (w : Int)), .ref mq, .int (iI (rc : Int)), .ref mn, .ref ml, .int (iI (sc : Int)), .ref ms, .ref mr, .ref mg, .ref mp, .int (iI (mo : Int)), .int (iI (fo : Int)), .ref mpl, .ref mdi, .ref mc])), (mpl, .inl (cI, 13, .inl (iA PL))), (mdi, .inl (cI, 13, .inl (iA DI)))] s.heap.size) s.heap s.heap [] := va_S.rf
  generalize hAe : va_A [(m0, .inr (3, [.int (iI cd), .int (iI (n : Int)), .int (iI (w : Int)), .ref mq, .int (iI (rc : Int)), .ref mn, .ref ml, .int (iI (sc : Int)), .ref ms, .ref mr, .ref mg, .ref mp, .int (iI (mo : Int)), .int (iI (fo : Int)), .ref mpl, .ref mdi, .ref mc])), (mpl, .inl (cI, 13, .inl (iA PL))), (mdi, .inl (cI, 13, .inl (iA DI)))] s.heap.size = A at hD hA hS
  have hP : va_P (dC, dI) vwCl [(m0, .inr (3, [.int (iI cd), .int (iI (n : Int)), .int (iI (w : Int)), .ref mq, .int (iI (rc : Int)), .ref mn, .ref ml, .int (iI (sc : Int)), .ref ms, .ref mr, .ref mg, .ref mp, .int (iI (mo : Int)), .int (iI (fo : Int)), .ref mpl, .ref mdi, .ref mc])), (mpl, .inl (cI, 13, .inl (iA PL))), (mdi, .inl (cI, 13, .inl (iA DI)))] s.heap := hP
  have hl := lv_entry ([.ref m0, .int (iI v), .int (iI b9)]) (n := 3) (Nat.le_of_ble_eq_true rfl)
  rw [lg_entry_eq]
  generalize (lg_sl ([.ref m0, .int (iI v), .int (iI b9)]) ++ List.replicate (3 - (lg_sl ([.ref m0, .int (iI v), .int (iI b9)])).length) Slot.unset).toArray = ls at hl ⊢
  have hl : lv_has ls 3 [(0, .ref m0), (1, .int (iI v)), (2, .int (iI b9))] := hl
  generalize hargs : ([.ref m0, .int (iI v), .int (iI b9)] : List Value).toArray = args at hts ⊢
  refine z_intro (fun R Q hR hQ => ?_)
  have hRf : R.frames = 1 := by rw [hR]; rfl
  have hRl : R.locals = 22 := by rw [hR]; rfl
  have hRc : R.cells = 0 := by rw [hR]; rfl
  have hRs : R.slots = 0 := by rw [hR]; rfl
  have in_X3 : ∀ w ∈ u_ws RX3 TX3 17, w ∈ wsX3_found := fun w h => List.mem_cons_of_mem _ (inW_X3 w h)
  have fl_35 := wa_hts hts wd_498
  have fl_38 := wa_hts hts wd_499
  have fl_44 := wa_hts hts wd_484
  have fl_54 := wa_hts hts wd_497
  clear hR hargs B
  refine lv_aload_n hx hb dX3_found_0 rfl (lv_at hl 0 rfl) ?_
  refine lv_iload_n hx hb dX3_found_1 rfl (lv_at hl 1 rfl) ?_
  refine lv_iconst (v := iI (0 : Int)) hx hb dX3_found_2 (by decide) ?_
  refine lv_aload_n hx hb dX3_found_3 rfl (lv_at hl 0 rfl) ?_
  refine va_get (D := (dC, dI)) (ci := 3) (v := .int (iI (fo : Int))) (C := RX3) (T := TX3) (N := 17) hx hb hts in_X3 hown hK hP 0 rfl rfl 13 (by decide) fl_54 (fun _ h9 => h9) rfl dX3_found_4 ?_
  refine lv_iconst (v := iI (1 : Int)) hx hb dX3_found_7 (by decide) ?_
  refine z_isub hx hb dX3_found_8 ?_
  refine z_top (b := (fo : Int) - 1) (by omega) ?_
  refine zr_i (va_runS (As := [.int (iI v), .int (iI (0 : Int)), .int (iI ((fo : Int) - 1))]) (rest := [.ref m0]) ⟨hx, hb, hml, hown, hts⟩ (c_within l dC dI cI v (0 : Int) ((fo : Int) - 1) (by omega) (by omega) (by omega)) (cwS 3 hts (ga_S wd_544 wd_545 wd_31 wd_546) rfl rfl rfl (by decide +kernel) ⟨(show 0 + 1 ≤ R.frames by omega), (show 8 + (3 + 11) + 0 ≤ R.locals by omega)⟩) (rd_preS hP hK [] rfl) rfl rfl hl.1 rfl (lv_room (Nat.le_of_ble_eq_true rfl)) dX3_found_9 ⟨by omega, by omega⟩) (fun z9 hz9 => ?_)
  refine z_if_eq (tgt := 19) hx hb dX3_found_12 (by decide) (by omega) (fun h12 => ?_) (fun h12 => ?_)
  · refine lv_iconst (v := iI (1 : Int)) hx hb dX3_found_19 (by decide) ?_
    refine va_put (D := (dC, dI)) (ci := 3) (v := .int (iI (1 : Int))) (ty := .int) (C := RX3) (T := TX3) (N := 17) hx hb hts in_X3 tyX3 tyX3_ok nmX3 hown hK hP hD hS 0 rfl rfl 0 (by decide) fl_44 (fun _ h9 => h9) rfl (by decide +kernel) rfl rfl (Nat.le_of_ble_eq_true rfl) dX3_found_20 (fun H locs hP hD hS => ?_)
    have hP : va_P (dC, dI) vwCl [(m0, .inr (3, [.int (iI (1 : Int)), .int (iI (n : Int)), .int (iI (w : Int)), .ref mq, .int (iI (rc : Int)), .ref mn, .ref ml, .int (iI (sc : Int)), .ref ms, .ref mr, .ref mg, .ref mp, .int (iI (mo : Int)), .int (iI (fo : Int)), .ref mpl, .ref mdi, .ref mc])), (mpl, .inl (cI, 13, .inl (iA PL))), (mdi, .inl (cI, 13, .inl (iA DI)))] H := hP
    have hD : va_D A [(m0, .inr (3, [.int (iI (1 : Int)), .int (iI (n : Int)), .int (iI (w : Int)), .ref mq, .int (iI (rc : Int)), .ref mn, .ref ml, .int (iI (sc : Int)), .ref ms, .ref mr, .ref mg, .ref mp, .int (iI (mo : Int)), .int (iI (fo : Int)), .ref mpl, .ref mdi, .ref mc])), (mpl, .inl (cI, 13, .inl (iA PL))), (mdi, .inl (cI, 13, .inl (iA DI)))] := hD
    refine lv_aload_n hx hb dX3_found_23 rfl (lv_at hl 0 rfl) ?_
    refine va_get (D := (dC, dI)) (ci := 3) (v := .int (iI (1 : Int))) (C := RX3) (T := TX3) (N := 17) hx hb hts in_X3 hown hK hP 0 rfl rfl 0 (by decide) fl_44 (fun _ h9 => h9) rfl dX3_found_24 ?_
    refine z_if_le (tgt := 34) hx hb dX3_found_27 (by decide) (by decide) (fun h9 => absurd h9 (by decide)) (fun _ => ?_)
    refine lv_iconst (v := iI (0 : Int)) hx hb dX3_found_30 (by decide) ?_
    refine lv_goto (tgt := 53) hx hb dX3_found_31 (by decide) ?_
    subst hAe
    exact zw_reti (z := (0 : Int)) ((1 : Int)) hx hb hr hlocks hQ (Or.inr ⟨by omega, rfl, rfl⟩) hP hK hD hS dX3_found_53
  · refine lv_iconst (v := iI (0 : Int)) hx hb dX3_found_15 (by decide) ?_
    refine lv_goto (tgt := 20) hx hb dX3_found_16 (by decide) ?_
    refine va_put (D := (dC, dI)) (ci := 3) (v := .int (iI (0 : Int))) (ty := .int) (C := RX3) (T := TX3) (N := 17) hx hb hts in_X3 tyX3 tyX3_ok nmX3 hown hK hP hD hS 0 rfl rfl 0 (by decide) fl_44 (fun _ h9 => h9) rfl (by decide +kernel) rfl rfl (Nat.le_of_ble_eq_true rfl) dX3_found_20 (fun H locs hP hD hS => ?_)
    have hP : va_P (dC, dI) vwCl [(m0, .inr (3, [.int (iI (0 : Int)), .int (iI (n : Int)), .int (iI (w : Int)), .ref mq, .int (iI (rc : Int)), .ref mn, .ref ml, .int (iI (sc : Int)), .ref ms, .ref mr, .ref mg, .ref mp, .int (iI (mo : Int)), .int (iI (fo : Int)), .ref mpl, .ref mdi, .ref mc])), (mpl, .inl (cI, 13, .inl (iA PL))), (mdi, .inl (cI, 13, .inl (iA DI)))] H := hP
    have hD : va_D A [(m0, .inr (3, [.int (iI (0 : Int)), .int (iI (n : Int)), .int (iI (w : Int)), .ref mq, .int (iI (rc : Int)), .ref mn, .ref ml, .int (iI (sc : Int)), .ref ms, .ref mr, .ref mg, .ref mp, .int (iI (mo : Int)), .int (iI (fo : Int)), .ref mpl, .ref mdi, .ref mc])), (mpl, .inl (cI, 13, .inl (iA PL))), (mdi, .inl (cI, 13, .inl (iA DI)))] := hD
    refine lv_aload_n hx hb dX3_found_23 rfl (lv_at hl 0 rfl) ?_
    refine va_get (D := (dC, dI)) (ci := 3) (v := .int (iI (0 : Int))) (C := RX3) (T := TX3) (N := 17) hx hb hts in_X3 hown hK hP 0 rfl rfl 0 (by decide) fl_44 (fun _ h9 => h9) rfl dX3_found_24 ?_
    refine z_if_le (tgt := 34) hx hb dX3_found_27 (by decide) (by decide) (fun _ => ?_) (fun h9 => absurd h9 (by decide))
    refine lv_iload_n hx hb dX3_found_34 rfl (lv_at hl 2 rfl) ?_
    refine z_if_eq (tgt := 47) hx hb dX3_found_35 (by decide) (by omega) (fun h35 => ?_) (fun h35 => ?_)
    · refine lv_aload_n hx hb dX3_found_47 rfl (lv_at hl 0 rfl) ?_
      refine va_get (D := (dC, dI)) (ci := 3) (v := .ref mpl) (C := RX3) (T := TX3) (N := 17) hx hb hts in_X3 hown hK hP 0 rfl rfl 14 (by decide) fl_35 (fun _ h9 => h9) rfl dX3_found_48 ?_
      refine lv_iload_n hx hb dX3_found_51 rfl (lv_at hl 1 rfl) ?_
      refine z_iald hx hb hK hP 1 0 rfl rfl v.toNat (by omega) dX3_found_52 ?_
      subst hAe
      exact zw_reti (z := PL v.toNat) ((0 : Int)) hx hb hr hlocks hQ (Or.inl ⟨by omega, rfl, by rw [if_neg (by omega)]⟩) hP hK hD hS dX3_found_53
    · refine lv_aload_n hx hb dX3_found_38 rfl (lv_at hl 0 rfl) ?_
      refine va_get (D := (dC, dI)) (ci := 3) (v := .ref mdi) (C := RX3) (T := TX3) (N := 17) hx hb hts in_X3 hown hK hP 0 rfl rfl 15 (by decide) fl_38 (fun _ h9 => h9) rfl dX3_found_39 ?_
      refine lv_iload_n hx hb dX3_found_42 rfl (lv_at hl 1 rfl) ?_
      refine z_iald hx hb hK hP 2 0 rfl rfl v.toNat (by omega) dX3_found_43 ?_
      refine lv_goto (tgt := 53) hx hb dX3_found_44 (by decide) ?_
      subst hAe
      exact zw_reti (z := DI v.toNat) ((0 : Int)) hx hb hr hlocks hQ (Or.inl ⟨by omega, rfl, by rw [if_pos h35]⟩) hP hK hD hS dX3_found_53
