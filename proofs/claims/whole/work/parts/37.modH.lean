set_option maxRecDepth 100000 in
set_option maxHeartbeats 4000000 in
theorem c_mRecall (l : Launch) (dC : Nat → ClassId) (dI : Nat → Nat → Nat) (cI : ClassId) (m0 mq mn ml ms mr mg mp mpl mdi mc : Nat) (cd : Int) (n w rc sc mo fo : Nat) (r9 : Int) (q X : Nat → Int) (sz : Nat) (hn : 2 ≤ n ∧ n ≤ 16) (hw : w ≤ 15) (hrc : rc ≤ 12) (hr9 : -2147483648 ≤ r9 ∧ r9 ≤ 2147483647) : Met l yX3_recall wsX3_recall ({ frames := 2, cells := 0, slots := 0, locals := 43 }) (wrP dC dI [(cI, .int)] [(m0, .inr (3, [.int (iI cd), .int (iI (n : Int)), .int (iI (w : Int)), .ref mq, .int (iI (rc : Int)), .ref mn, .ref ml, .int (iI (sc : Int)), .ref ms, .ref mr, .ref mg, .ref mp, .int (iI (mo : Int)), .int (iI (fo : Int)), .ref mpl, .ref mdi, .ref mc])), (mq, .inl (cI, 16, .inl (iA q))), (mn, .inl (cI, 192, .inl (iA X)))] sz [.ref m0, .int (iI r9)]) (wrQv dC dI [(cI, .int)] [(m0, .inr (3, [.int (iI cd), .int (iI (n : Int)), .int (iI (w : Int)), .ref mq, .int (iI (rc : Int)), .ref mn, .ref ml, .int (iI (sc : Int)), .ref ms, .ref mr, .ref mg, .ref mp, .int (iI (mo : Int)), .int (iI (fo : Int)), .ref mpl, .ref mdi, .ref mc])), (mq, .inl (cI, 16, .inl (iA q))), (mn, .inl (cI, 192, .inl (iA X)))] sz (S := (Int × (Nat → Int))) (fun u => ((0 ≤ r9 ∧ r9 < (rc : Int)) ∧ u = (0, zC X q (16 * r9.toNat) 0 n)) ∨ ((r9 < 0 ∨ (rc : Int) ≤ r9) ∧ u = (1, q))) (fun u => [(m0, .inr (3, [.int (iI u.1), .int (iI (n : Int)), .int (iI (w : Int)), .ref mq, .int (iI (rc : Int)), .ref mn, .ref ml, .int (iI (sc : Int)), .ref ms, .ref mr, .ref mg, .ref mp, .int (iI (mo : Int)), .int (iI (fo : Int)), .ref mpl, .ref mdi, .ref mc])), (mq, .inl (cI, 16, .inl (iA u.2))), (mn, .inl (cI, 192, .inl (iA X)))])) 0 0 (va_A [(m0, .inr (3, [.int (iI cd), .int (iI (n : Int)), .int (iI (w : Int)), .ref mq, .int (iI (rc : Int)), .ref mn, .ref ml, .int (iI (sc : Int)), .ref ms, .ref mr, .ref mg, .ref mp, .int (iI (mo : Int)), .int (iI (fo : Int)), .ref mpl, .ref mdi, .ref mc])), (mq, .inl (cI, 16, .inl (iA q))), (mn, .inl (cI, 192, .inl (iA X)))] sz) := by
  refine Met.ofW (cc := cX3_recall) (maxL := 3) (ret := none) (by decide) rfl ?_
  intro p e s m args below meth c s₁ B hml hv
  obtain ⟨rfl, hsz, hP, hK, hD0⟩ := hv
  have hx := B.exec
  have hb := B.bytes
  have hr := B.returns
  have hts : ∀ w ∈ wsX3_recall, w.before _ s = true := atoms_spec (ws := wsX3_recall) B.pre
  have hown : s.vm.findClass RX3 = some m.cls := findClass_of_methodNamed B.named
  have hlocks := B.notSynchronized
  subst hsz
  have hD := hD0.self (sz := s.heap.size)
  have hA : ∀ q9 : Nat, s.heap.size ≤ q9 → va_A [(m0, .inr (3, [.int (iI cd), .int (iI (n : Int)), .int (iI (w : Int)), .ref mq, .int (iI (rc : Int)), .ref mn, .ref ml, .int (iI (sc : Int)), .ref ms, .ref mr, .ref mg, .ref mp, .int (iI (mo : Int)), .int (iI (fo : Int)), .ref mpl, .ref mdi, .ref mc])), (mq, .inl (cI, 16, .inl (iA q))), (mn, .inl (cI, 192, .inl (iA X)))] s.heap.size q9 := fun q9 h => Or.inr h
  have hS : va_S (va_A [(m0, .inr (3, [.int (iI cd), .int (iI (n : Int)), .int (iI (w : Int)), .ref mq, .int (iI (rc : Int)), .ref mn, .ref ml, .int (iI (sc : Int)), .ref ms, .ref mr, .ref mg, .ref mp, .int (iI (mo : Int)), .int (iI (fo : Int)), .ref mpl, .ref mdi, .ref mc])), (mq, .inl (cI, 16, .inl (iA q))), (mn, .inl (cI, 192, .inl (iA X)))] s.heap.size) s.heap s.heap [] := va_S.rf
  generalize hAe : va_A [(m0, .inr (3, [.int (iI cd), .int (iI (n : Int)), .int (iI (w : Int)), .ref mq, .int (iI (rc : Int)), .ref mn, .ref ml, .int (iI (sc : Int)), .ref ms, .ref mr, .ref mg, .ref mp, .int (iI (mo : Int)), .int (iI (fo : Int)), .ref mpl, .ref mdi, .ref mc])), (mq, .inl (cI, 16, .inl (iA q))), (mn, .inl (cI, 192, .inl (iA X)))] s.heap.size = A at hD hA hS
  have hP : va_P (dC, dI) vwCl [(m0, .inr (3, [.int (iI cd), .int (iI (n : Int)), .int (iI (w : Int)), .ref mq, .int (iI (rc : Int)), .ref mn, .ref ml, .int (iI (sc : Int)), .ref ms, .ref mr, .ref mg, .ref mp, .int (iI (mo : Int)), .int (iI (fo : Int)), .ref mpl, .ref mdi, .ref mc])), (mq, .inl (cI, 16, .inl (iA q))), (mn, .inl (cI, 192, .inl (iA X)))] s.heap := hP
  have hl := lv_entry ([.ref m0, .int (iI r9)]) (n := 3) (Nat.le_of_ble_eq_true rfl)
  rw [lg_entry_eq]
  generalize (lg_sl ([.ref m0, .int (iI r9)]) ++ List.replicate (3 - (lg_sl ([.ref m0, .int (iI r9)])).length) Slot.unset).toArray = ls at hl ⊢
  have hl : lv_has ls 3 [(0, .ref m0), (1, .int (iI r9))] := hl
  generalize hargs : ([.ref m0, .int (iI r9)] : List Value).toArray = args at hts ⊢
  refine z_intro (fun R Q hR hQ => ?_)
  have hRf : R.frames = 2 := by rw [hR]; rfl
  have hRl : R.locals = 43 := by rw [hR]; rfl
  have hRc : R.cells = 0 := by rw [hR]; rfl
  have hRs : R.slots = 0 := by rw [hR]; rfl
  have in_X3 : ∀ w ∈ u_ws RX3 TX3 17, w ∈ wsX3_recall := fun w h => List.mem_cons_of_mem _ (inW_X3 w h)
  have fl_7 := wa_hts hts wd_485
  have fl_13 := wa_hts hts wd_487
  have fl_17 := wa_hts hts wd_489
  clear hR hargs B
  refine lv_aload_n hx hb dX3_recall_0 rfl (lv_at hl 0 rfl) ?_
  refine lv_iload_n hx hb dX3_recall_1 rfl (lv_at hl 1 rfl) ?_
  refine zw_i (wr := [(mq, .inl (cI, 16, .inl (iA q))), (mn, .inl (cI, 192, .inl (iA X)))]) (va_runV (As := [.int (iI r9)]) (rest := []) ⟨hx, hb, hml, hown, hts⟩ (c_isRow l dC dI cI m0 mq mn ml ms mr mg mp mpl mdi mc cd n w rc sc mo fo r9 _ hr9 hrc) (cwV 1 hts (ga_V wd_559 wd_561 wd_14 wd_31 wd_562) rfl rfl rfl (by decide +kernel) ⟨(show 1 + 1 ≤ R.frames by omega), (show 8 + (2 + 11) + 22 ≤ R.locals by omega)⟩) (wr_preV (q0 := 0) (ci := 3) hP hK hD [0] (by decide) rfl rfl rfl rfl) rfl rfl hl.1 rfl (lv_room (Nat.le_of_ble_eq_true rfl)) dX3_recall_2 ⟨by omega, by omega⟩) hP hD hS hA [0] [1, 2] rfl rfl (by decide) (by decide) (fun z2 u2 H locs hw2 hP hD hS => ?_)
  have hP := hP.sub (ws' := [(m0, .inr (3, [.int (iI u2), .int (iI (n : Int)), .int (iI (w : Int)), .ref mq, .int (iI (rc : Int)), .ref mn, .ref ml, .int (iI (sc : Int)), .ref ms, .ref mr, .ref mg, .ref mp, .int (iI (mo : Int)), .int (iI (fo : Int)), .ref mpl, .ref mdi, .ref mc])), (mq, .inl (cI, 16, .inl (iA q))), (mn, .inl (cI, 192, .inl (iA X)))]) [2, 0, 1] rfl
  have hD := hD.sub (ws' := [(m0, .inr (3, [.int (iI u2), .int (iI (n : Int)), .int (iI (w : Int)), .ref mq, .int (iI (rc : Int)), .ref mn, .ref ml, .int (iI (sc : Int)), .ref ms, .ref mr, .ref mg, .ref mp, .int (iI (mo : Int)), .int (iI (fo : Int)), .ref mpl, .ref mdi, .ref mc])), (mq, .inl (cI, 16, .inl (iA q))), (mn, .inl (cI, 192, .inl (iA X)))]) [2, 0, 1] (by decide) rfl
  refine z_if_eq (tgt := 41) hx hb dX3_recall_5 (by decide) (by omega) (fun h5 => ?_) (fun h5 => ?_)
  · have eu : u2 = 1 := by omega
    subst hAe
    exact zw_retv ((u2, q)) hx hb hr hlocks hQ (Or.inr ⟨by omega, by rw [eu]⟩) hP hK hD hS dX3_recall_41
  · refine lv_iconst (v := iI (0 : Int)) hx hb dX3_recall_8 (by decide) ?_
    refine lv_istore_n (lv' := [(2, .int (iI (0 : Int))), (0, .ref m0), (1, .int (iI r9))]) hx hb dX3_recall_9 rfl hl (by decide) rfl (fun ls hl => ?_)
    have lp : ∀ (k9 : Nat) (i : Nat) (q9 : Nat → Int) (H : Heap) (locs : List Loc) (ls : Array Slot), (i ≤ n) → (q9 = zC X q (16 * r9.toNat) 0 i) → n - i = k9 → va_P (dC, dI) vwCl [(m0, .inr (3, [.int (iI u2), .int (iI (n : Int)), .int (iI (w : Int)), .ref mq, .int (iI (rc : Int)), .ref mn, .ref ml, .int (iI (sc : Int)), .ref ms, .ref mr, .ref mg, .ref mp, .int (iI (mo : Int)), .int (iI (fo : Int)), .ref mpl, .ref mdi, .ref mc])), (mq, .inl (cI, 16, .inl (iA q9))), (mn, .inl (cI, 192, .inl (iA X)))] H → va_D A [(m0, .inr (3, [.int (iI u2), .int (iI (n : Int)), .int (iI (w : Int)), .ref mq, .int (iI (rc : Int)), .ref mn, .ref ml, .int (iI (sc : Int)), .ref ms, .ref mr, .ref mg, .ref mp, .int (iI (mo : Int)), .int (iI (fo : Int)), .ref mpl, .ref mdi, .ref mc])), (mq, .inl (cI, 16, .inl (iA q9))), (mn, .inl (cI, 192, .inl (iA X)))] → va_S A s.heap H locs → lv_has ls 3 [(0, .ref m0), (1, .int (iI r9)), (2, .int (iI (i : Int)))] → W p l e R s m args below meth c H locs 0 0 Q (F0 m 10 ls []) := by
      intro k9
      induction k9 using Nat.strongRecOn with
      | ind k9 ih_lp =>
        intro i q9 H locs ls hi hq9 hk9 hP hD hS hl
        refine lv_iload_n hx hb dX3_recall_10 rfl (lv_at hl 2 rfl) ?_
        refine lv_aload_n hx hb dX3_recall_11 rfl (lv_at hl 0 rfl) ?_
        refine va_get (D := (dC, dI)) (ci := 3) (v := .int (iI (n : Int))) (C := RX3) (T := TX3) (N := 17) hx hb hts in_X3 hown hK hP 0 rfl rfl 1 (by decide) fl_7 (fun _ h9 => h9) rfl dX3_recall_12 ?_
        refine z_icmp_ge (tgt := 41) hx hb dX3_recall_15 (by decide) (by omega) (fun h15 => ?_) (fun h15 => ?_)
        · have ein : i = n := by omega
          have eu : u2 = 0 := by omega
          rw [hq9, ein] at hP hD
          subst hAe
          exact zw_retv ((u2, zC X q (16 * r9.toNat) 0 n)) hx hb hr hlocks hQ (Or.inl ⟨by omega, by rw [eu]⟩) hP hK hD hS dX3_recall_41
        · refine lv_aload_n hx hb dX3_recall_18 rfl (lv_at hl 0 rfl) ?_
          refine va_get (D := (dC, dI)) (ci := 3) (v := .ref mq) (C := RX3) (T := TX3) (N := 17) hx hb hts in_X3 hown hK hP 0 rfl rfl 3 (by decide) fl_13 (fun _ h9 => h9) rfl dX3_recall_19 ?_
          refine lv_iload_n hx hb dX3_recall_22 rfl (lv_at hl 2 rfl) ?_
          refine lv_aload_n hx hb dX3_recall_23 rfl (lv_at hl 0 rfl) ?_
          refine va_get (D := (dC, dI)) (ci := 3) (v := .ref mn) (C := RX3) (T := TX3) (N := 17) hx hb hts in_X3 hown hK hP 0 rfl rfl 5 (by decide) fl_17 (fun _ h9 => h9) rfl dX3_recall_24 ?_
          refine lv_bipush (v := iI (16 : Int)) hx hb dX3_recall_27 (by decide) ?_
          refine lv_iload_n hx hb dX3_recall_29 rfl (lv_at hl 1 rfl) ?_
          refine z_imul hx hb dX3_recall_30 ?_
          refine lv_iload_n hx hb dX3_recall_31 rfl (lv_at hl 2 rfl) ?_
          refine z_iadd hx hb dX3_recall_32 ?_
          refine z_iald hx hb hK hP 2 0 rfl rfl (16 * r9.toNat + i) (by omega) dX3_recall_33 ?_
          refine z_iast hx hb hK hP hD hS 1 0 rfl rfl i (by omega) dX3_recall_34 (fun H locs hP hD hS => ?_)
          have hP : va_P (dC, dI) vwCl [(m0, .inr (3, [.int (iI u2), .int (iI (n : Int)), .int (iI (w : Int)), .ref mq, .int (iI (rc : Int)), .ref mn, .ref ml, .int (iI (sc : Int)), .ref ms, .ref mr, .ref mg, .ref mp, .int (iI (mo : Int)), .int (iI (fo : Int)), .ref mpl, .ref mdi, .ref mc])), (mq, .inl (cI, 16, .inl (iA (zU q9 i (X (16 * r9.toNat + i)))))), (mn, .inl (cI, 192, .inl (iA X)))] H := hP
          have hD : va_D A [(m0, .inr (3, [.int (iI u2), .int (iI (n : Int)), .int (iI (w : Int)), .ref mq, .int (iI (rc : Int)), .ref mn, .ref ml, .int (iI (sc : Int)), .ref ms, .ref mr, .ref mg, .ref mp, .int (iI (mo : Int)), .int (iI (fo : Int)), .ref mpl, .ref mdi, .ref mc])), (mq, .inl (cI, 16, .inl (iA (zU q9 i (X (16 * r9.toNat + i)))))), (mn, .inl (cI, 192, .inl (iA X)))] := hD
          refine z_iinc (k := 2) (b := ((i + 1 : Nat) : Int)) (lv' := [(2, .int (iI ((i + 1 : Nat) : Int))), (0, .ref m0), (1, .int (iI r9))]) hx hb dX3_recall_35 hl rfl (by omega) (by decide) rfl (fun ls hl => ?_)
          refine lv_goto (tgt := 10) hx hb dX3_recall_38 (by decide) ?_
          exact ih_lp _ (by omega) (i + 1) (zU q9 i (X (16 * r9.toNat + i))) H locs ls (by omega) (by rw [hq9]; exact zC_step0) rfl hP hD hS (lv_sub hl [1, 2, 0] rfl)
    exact lp _ 0 q _ _ ls (by omega) ((zC_0 _ _ _ _).symm) rfl hP hD hS (lv_sub hl [1, 2, 0] rfl)
set_option maxRecDepth 100000 in
set_option maxHeartbeats 4000000 in
theorem c_mDistance (l : Launch) (dC : Nat → ClassId) (dI : Nat → Nat → Nat) (cI : ClassId) (m0 mq mn ml ms mr mg mp mpl mdi mc : Nat) (cd : Int) (n w rc sc mo fo : Nat) (r9 : Int) (q X r G : Nat → Int) (sz : Nat) (hn : 2 ≤ n ∧ n ≤ 16) (hw : w ≤ 15) (hrc : rc ≤ 12) (hr9 : -2147483648 ≤ r9 ∧ r9 ≤ 2147483647) (hvq : vals n q) (hvX : vals 192 X) (hG : rgA G) : Met l yX3_distance wsX3_distance ({ frames := 4, cells := 0, slots := 0, locals := 90 }) (wrP dC dI [(cI, .int)] [(m0, .inr (3, [.int (iI cd), .int (iI (n : Int)), .int (iI (w : Int)), .ref mq, .int (iI (rc : Int)), .ref mn, .ref ml, .int (iI (sc : Int)), .ref ms, .ref mr, .ref mg, .ref mp, .int (iI (mo : Int)), .int (iI (fo : Int)), .ref mpl, .ref mdi, .ref mc])), (mq, .inl (cI, 16, .inl (iA q))), (mn, .inl (cI, 192, .inl (iA X))), (mr, .inl (cI, 16, .inl (iA r))), (mg, .inl (cI, 256, .inl (iA G)))] sz [.ref m0, .int (iI r9)]) (wrQi dC dI [(cI, .int)] [(m0, .inr (3, [.int (iI cd), .int (iI (n : Int)), .int (iI (w : Int)), .ref mq, .int (iI (rc : Int)), .ref mn, .ref ml, .int (iI (sc : Int)), .ref ms, .ref mr, .ref mg, .ref mp, .int (iI (mo : Int)), .int (iI (fo : Int)), .ref mpl, .ref mdi, .ref mc])), (mq, .inl (cI, 16, .inl (iA q))), (mn, .inl (cI, 192, .inl (iA X))), (mr, .inl (cI, 16, .inl (iA r))), (mg, .inl (cI, 256, .inl (iA G)))] sz (S := (Int × (Nat → Int) × (Nat → Int))) (fun z u => ((0 ≤ r9 ∧ r9 < (rc : Int)) ∧ u.1 = 0 ∧ u.2.1 = (zC X r (16 * r9.toNat) 0 n) ∧ rgA u.2.2 ∧ z = cst w q (zC X r (16 * r9.toNat) 0 n) (n - 1) (n - 1)) ∨ ((r9 < 0 ∨ (rc : Int) ≤ r9) ∧ u = (1, r, G) ∧ z = 0)) (fun u => [(m0, .inr (3, [.int (iI u.1), .int (iI (n : Int)), .int (iI (w : Int)), .ref mq, .int (iI (rc : Int)), .ref mn, .ref ml, .int (iI (sc : Int)), .ref ms, .ref mr, .ref mg, .ref mp, .int (iI (mo : Int)), .int (iI (fo : Int)), .ref mpl, .ref mdi, .ref mc])), (mq, .inl (cI, 16, .inl (iA q))), (mn, .inl (cI, 192, .inl (iA X))), (mr, .inl (cI, 16, .inl (iA u.2.1))), (mg, .inl (cI, 256, .inl (iA u.2.2)))])) 0 0 (va_A [(m0, .inr (3, [.int (iI cd), .int (iI (n : Int)), .int (iI (w : Int)), .ref mq, .int (iI (rc : Int)), .ref mn, .ref ml, .int (iI (sc : Int)), .ref ms, .ref mr, .ref mg, .ref mp, .int (iI (mo : Int)), .int (iI (fo : Int)), .ref mpl, .ref mdi, .ref mc])), (mq, .inl (cI, 16, .inl (iA q))), (mn, .inl (cI, 192, .inl (iA X))), (mr, .inl (cI, 16, .inl (iA r))), (mg, .inl (cI, 256, .inl (iA G)))] sz) := by
  refine Met.ofW (cc := cX3_distance) (maxL := 2) (ret := (some .int)) (by decide) rfl ?_
  intro p e s m args below meth c s₁ B hml hv
  obtain ⟨rfl, hsz, hP, hK, hD0⟩ := hv
  have hx := B.exec
  have hb := B.bytes
  have hr := B.returns
  have hts : ∀ w ∈ wsX3_distance, w.before _ s = true := atoms_spec (ws := wsX3_distance) B.pre
  have hown : s.vm.findClass RX3 = some m.cls := findClass_of_methodNamed B.named
  have hlocks := B.notSynchronized
  subst hsz
  have hD := hD0.self (sz := s.heap.size)
  have hA : ∀ q9 : Nat, s.heap.size ≤ q9 → va_A [(m0, .inr (3, [.int (iI cd), .int (iI (n : Int)), .int (iI (w : Int)), .ref mq, .int (iI (rc : Int)), .ref mn, .ref ml, .int (iI (sc : Int)), .ref ms, .ref mr, .ref mg, .ref mp, .int (iI (mo : Int)), .int (iI (fo : Int)), .ref mpl, .ref mdi, .ref mc])), (mq, .inl (cI, 16, .inl (iA q))), (mn, .inl (cI, 192, .inl (iA X))), (mr, .inl (cI, 16, .inl (iA r))), (mg, .inl (cI, 256, .inl (iA G)))] s.heap.size q9 := fun q9 h => Or.inr h
  have hS : va_S (va_A [(m0, .inr (3, [.int (iI cd), .int (iI (n : Int)), .int (iI (w : Int)), .ref mq, .int (iI (rc : Int)), .ref mn, .ref ml, .int (iI (sc : Int)), .ref ms, .ref mr, .ref mg, .ref mp, .int (iI (mo : Int)), .int (iI (fo : Int)), .ref mpl, .ref mdi, .ref mc])), (mq, .inl (cI, 16, .inl (iA q))), (mn, .inl (cI, 192, .inl (iA X))), (mr, .inl (cI, 16, .inl (iA r))), (mg, .inl (cI, 256, .inl (iA G)))] s.heap.size) s.heap s.heap [] := va_S.rf
  generalize hAe : va_A [(m0, .inr (3, [.int (iI cd), .int (iI (n : Int)), .int (iI (w : Int)), .ref mq, .int (iI (rc : Int)), .ref mn, .ref ml, .int (iI (sc : Int)), .ref ms, .ref mr, .ref mg, .ref mp, .int (iI (mo : Int)), .int (iI (fo : Int)), .ref mpl, .ref mdi, .ref mc])), (mq, .inl (cI, 16, .inl (iA q))), (mn, .inl (cI, 192, .inl (iA X))), (mr, .inl (cI, 16, .inl (iA r))), (mg, .inl (cI, 256, .inl (iA G)))] s.heap.size = A at hD hA hS
  have hP : va_P (dC, dI) vwCl [(m0, .inr (3, [.int (iI cd), .int (iI (n : Int)), .int (iI (w : Int)), .ref mq, .int (iI (rc : Int)), .ref mn, .ref ml, .int (iI (sc : Int)), .ref ms, .ref mr, .ref mg, .ref mp, .int (iI (mo : Int)), .int (iI (fo : Int)), .ref mpl, .ref mdi, .ref mc])), (mq, .inl (cI, 16, .inl (iA q))), (mn, .inl (cI, 192, .inl (iA X))), (mr, .inl (cI, 16, .inl (iA r))), (mg, .inl (cI, 256, .inl (iA G)))] s.heap := hP
  have hl := lv_entry ([.ref m0, .int (iI r9)]) (n := 2) (Nat.le_of_ble_eq_true rfl)
  rw [lg_entry_eq]
  generalize (lg_sl ([.ref m0, .int (iI r9)]) ++ List.replicate (2 - (lg_sl ([.ref m0, .int (iI r9)])).length) Slot.unset).toArray = ls at hl ⊢
  have hl : lv_has ls 2 [(0, .ref m0), (1, .int (iI r9))] := hl
  generalize hargs : ([.ref m0, .int (iI r9)] : List Value).toArray = args at hts ⊢
  refine z_intro (fun R Q hR hQ => ?_)
  have hRf : R.frames = 4 := by rw [hR]; rfl
  have hRl : R.locals = 90 := by rw [hR]; rfl
  have hRc : R.cells = 0 := by rw [hR]; rfl
  have hRs : R.slots = 0 := by rw [hR]; rfl
  have in_X3 : ∀ w ∈ u_ws RX3 TX3 17, w ∈ wsX3_distance := fun w h => List.mem_cons_of_mem _ (inW_X3 w h)
  have fl_7 := wa_hts hts wd_485
  clear hR hargs B
  refine lv_aload_n hx hb dX3_distance_0 rfl (lv_at hl 0 rfl) ?_
  refine lv_iload_n hx hb dX3_distance_1 rfl (lv_at hl 1 rfl) ?_
  refine zw_i (wr := [(mq, .inl (cI, 16, .inl (iA q))), (mn, .inl (cI, 192, .inl (iA X))), (mr, .inl (cI, 16, .inl (iA r))), (mg, .inl (cI, 256, .inl (iA G)))]) (va_runV (As := [.int (iI r9)]) (rest := []) ⟨hx, hb, hml, hown, hts⟩ (c_isRow l dC dI cI m0 mq mn ml ms mr mg mp mpl mdi mc cd n w rc sc mo fo r9 _ hr9 hrc) (cwV 1 hts (ga_V wd_559 wd_561 wd_14 wd_31 wd_562) rfl rfl rfl (by decide +kernel) ⟨(show 1 + 1 ≤ R.frames by omega), (show 8 + (2 + 11) + 22 ≤ R.locals by omega)⟩) (wr_preV (q0 := 0) (ci := 3) hP hK hD [0] (by decide) rfl rfl rfl rfl) rfl rfl hl.1 rfl (lv_room (Nat.le_of_ble_eq_true rfl)) dX3_distance_2 ⟨by omega, by omega⟩) hP hD hS hA [0] [1, 2, 3, 4] rfl rfl (by decide) (by decide) (fun z2 u2 H locs hw2 hP hD hS => ?_)
  have hP := hP.sub (ws' := [(m0, .inr (3, [.int (iI u2), .int (iI (n : Int)), .int (iI (w : Int)), .ref mq, .int (iI (rc : Int)), .ref mn, .ref ml, .int (iI (sc : Int)), .ref ms, .ref mr, .ref mg, .ref mp, .int (iI (mo : Int)), .int (iI (fo : Int)), .ref mpl, .ref mdi, .ref mc])), (mq, .inl (cI, 16, .inl (iA q))), (mn, .inl (cI, 192, .inl (iA X))), (mr, .inl (cI, 16, .inl (iA r))), (mg, .inl (cI, 256, .inl (iA G)))]) [4, 0, 1, 2, 3] rfl
  have hD := hD.sub (ws' := [(m0, .inr (3, [.int (iI u2), .int (iI (n : Int)), .int (iI (w : Int)), .ref mq, .int (iI (rc : Int)), .ref mn, .ref ml, .int (iI (sc : Int)), .ref ms, .ref mr, .ref mg, .ref mp, .int (iI (mo : Int)), .int (iI (fo : Int)), .ref mpl, .ref mdi, .ref mc])), (mq, .inl (cI, 16, .inl (iA q))), (mn, .inl (cI, 192, .inl (iA X))), (mr, .inl (cI, 16, .inl (iA r))), (mg, .inl (cI, 256, .inl (iA G)))]) [4, 0, 1, 2, 3] (by decide) rfl
  refine z_if_ne (tgt := 10) hx hb dX3_distance_5 (by decide) (by omega) (fun h5 => ?_) (fun h5 => ?_)
  · refine lv_aload_n hx hb dX3_distance_10 rfl (lv_at hl 0 rfl) ?_
    refine lv_iload_n hx hb dX3_distance_11 rfl (lv_at hl 1 rfl) ?_
    refine z_top (b := ((r9.toNat : Nat) : Int)) (by omega) ?_
    refine zw_v (wr := [(mq, .inl (cI, 16, .inl (iA q))), (mg, .inl (cI, 256, .inl (iA G)))]) (va_runV (As := [.int (iI ((r9.toNat : Nat) : Int))]) (rest := []) ⟨hx, hb, hml, hown, hts⟩ (c_takeRow l dC dI cI m0 mq mn ml ms mr mg mp mpl mdi mc u2 n w rc sc mo fo r9.toNat r X _ hn hw (by omega)) (cwV 1 hts (ga_V wd_571 wd_573 wd_15 wd_31 wd_574) rfl rfl rfl (by decide +kernel) ⟨(show 0 + 1 ≤ R.frames by omega), (show 8 + (3 + 11) + 0 ≤ R.locals by omega)⟩) (wr_preV (q0 := 0) (ci := 3) hP hK hD [0, 3, 2] (by decide) rfl rfl rfl rfl) rfl rfl hl.1 rfl (lv_room (Nat.le_of_ble_eq_true rfl)) dX3_distance_12 ⟨by omega, by omega⟩) hP hD hS hA [0, 3, 2] [1, 4] rfl rfl (by decide) (by decide) (fun u12 H locs hw12 hP hD hS => ?_)
    have hP := hP.sub (ws' := [(m0, .inr (3, [.int (iI u2), .int (iI (n : Int)), .int (iI (w : Int)), .ref mq, .int (iI (rc : Int)), .ref mn, .ref ml, .int (iI (sc : Int)), .ref ms, .ref mr, .ref mg, .ref mp, .int (iI (mo : Int)), .int (iI (fo : Int)), .ref mpl, .ref mdi, .ref mc])), (mq, .inl (cI, 16, .inl (iA q))), (mn, .inl (cI, 192, .inl (iA X))), (mr, .inl (cI, 16, .inl (iA (zC X r (16 * r9.toNat) 0 n)))), (mg, .inl (cI, 256, .inl (iA G)))]) [2, 0, 4, 3, 1] rfl
    have hD := hD.sub (ws' := [(m0, .inr (3, [.int (iI u2), .int (iI (n : Int)), .int (iI (w : Int)), .ref mq, .int (iI (rc : Int)), .ref mn, .ref ml, .int (iI (sc : Int)), .ref ms, .ref mr, .ref mg, .ref mp, .int (iI (mo : Int)), .int (iI (fo : Int)), .ref mpl, .ref mdi, .ref mc])), (mq, .inl (cI, 16, .inl (iA q))), (mn, .inl (cI, 192, .inl (iA X))), (mr, .inl (cI, 16, .inl (iA (zC X r (16 * r9.toNat) 0 n)))), (mg, .inl (cI, 256, .inl (iA G)))]) [2, 0, 4, 3, 1] (by decide) rfl
    refine lv_aload_n hx hb dX3_distance_15 rfl (lv_at hl 0 rfl) ?_
    have hvr : vals n (zC X r (16 * r9.toNat) 0 n) := vals_c hvX (by omega)
    refine zw_v (wr := [(mn, .inl (cI, 192, .inl (iA X)))]) (va_runV (As := []) (rest := []) ⟨hx, hb, hml, hown, hts⟩ (c_fill l dC dI cI m0 mq mn ml ms mr mg mp mpl mdi mc u2 n w rc sc mo fo q (zC X r (16 * r9.toNat) 0 n) G _ hn hw hvq hvr hG) (cwV 0 hts (ga_V wd_575 wd_577 wd_16 wd_31 wd_578) rfl rfl rfl (by decide +kernel) ⟨(show 3 + 1 ≤ R.frames by omega), (show 8 + (5 + 11) + 66 ≤ R.locals by omega)⟩) (wr_preV (q0 := 0) (ci := 3) hP hK hD [0, 1, 3, 4] (by decide) rfl rfl rfl rfl) rfl rfl hl.1 rfl (lv_room (Nat.le_of_ble_eq_true rfl)) dX3_distance_16 ⟨by omega, by omega⟩) hP hD hS hA [0, 1, 3, 4] [2] rfl rfl (by decide) (by decide) (fun u16 H locs hw16 hP hD hS => ?_)
    have hP := hP.sub (ws' := [(m0, .inr (3, [.int (iI u2), .int (iI (n : Int)), .int (iI (w : Int)), .ref mq, .int (iI (rc : Int)), .ref mn, .ref ml, .int (iI (sc : Int)), .ref ms, .ref mr, .ref mg, .ref mp, .int (iI (mo : Int)), .int (iI (fo : Int)), .ref mpl, .ref mdi, .ref mc])), (mq, .inl (cI, 16, .inl (iA q))), (mn, .inl (cI, 192, .inl (iA X))), (mr, .inl (cI, 16, .inl (iA (zC X r (16 * r9.toNat) 0 n)))), (mg, .inl (cI, 256, .inl (iA u16)))]) [1, 2, 0, 3, 4] rfl
    have hD := hD.sub (ws' := [(m0, .inr (3, [.int (iI u2), .int (iI (n : Int)), .int (iI (w : Int)), .ref mq, .int (iI (rc : Int)), .ref mn, .ref ml, .int (iI (sc : Int)), .ref ms, .ref mr, .ref mg, .ref mp, .int (iI (mo : Int)), .int (iI (fo : Int)), .ref mpl, .ref mdi, .ref mc])), (mq, .inl (cI, 16, .inl (iA q))), (mn, .inl (cI, 192, .inl (iA X))), (mr, .inl (cI, 16, .inl (iA (zC X r (16 * r9.toNat) 0 n)))), (mg, .inl (cI, 256, .inl (iA u16)))]) [1, 2, 0, 3, 4] (by decide) rfl
    refine lv_aload_n hx hb dX3_distance_19 rfl (lv_at hl 0 rfl) ?_
    refine lv_aload_n hx hb dX3_distance_20 rfl (lv_at hl 0 rfl) ?_
    refine va_get (D := (dC, dI)) (ci := 3) (v := .int (iI (n : Int))) (C := RX3) (T := TX3) (N := 17) hx hb hts in_X3 hown hK hP 0 rfl rfl 1 (by decide) fl_7 (fun _ h9 => h9) rfl dX3_distance_21 ?_
    refine lv_iconst (v := iI (1 : Int)) hx hb dX3_distance_24 (by decide) ?_
    refine z_isub hx hb dX3_distance_25 ?_
    refine z_top (b := ((n - 1 : Nat) : Int)) (by omega) ?_
    refine lv_aload_n hx hb dX3_distance_26 rfl (lv_at hl 0 rfl) ?_
    refine va_get (D := (dC, dI)) (ci := 3) (v := .int (iI (n : Int))) (C := RX3) (T := TX3) (N := 17) hx hb hts in_X3 hown hK hP 0 rfl rfl 1 (by decide) fl_7 (fun _ h9 => h9) rfl dX3_distance_27 ?_
    refine lv_iconst (v := iI (1 : Int)) hx hb dX3_distance_30 (by decide) ?_
    refine z_isub hx hb dX3_distance_31 ?_
    refine z_top (b := ((n - 1 : Nat) : Int)) (by omega) ?_
    refine zr_i (va_runV (As := [.int (iI ((n - 1 : Nat) : Int)), .int (iI ((n - 1 : Nat) : Int))]) (rest := []) ⟨hx, hb, hml, hown, hts⟩ (c_mCostAt l dC dI cI m0 mq mn ml ms mr mg mp mpl mdi mc u2 n w rc sc mo fo u16 ((n - 1 : Nat) : Int) ((n - 1 : Nat) : Int) hn hw (by omega) (by omega)) (cwV 2 hts (ga_V wd_583 wd_585 wd_18 wd_31 wd_586) rfl rfl rfl (by decide +kernel) ⟨(show 2 + 1 ≤ R.frames by omega), (show 8 + (3 + 11) + 44 ≤ R.locals by omega)⟩) (rd_preV (q0 := 0) (ci := 3) hP hK [0, 4] rfl rfl rfl) rfl rfl hl.1 rfl (lv_room (Nat.le_of_ble_eq_true rfl)) dX3_distance_32 ⟨by omega, by omega⟩) (fun d9 hd9 => ?_)
    subst hAe
    exact zw_reti (z := d9) ((u2, (zC X r (16 * r9.toNat) 0 n), u16)) hx hb hr hlocks hQ (Or.inl ⟨by omega, by omega, rfl, hw16.1, by rw [hd9]; unfold mAt; rw [if_pos (by omega), show (16 * ((n - 1 : Nat) : Int) + ((n - 1 : Nat) : Int)).toNat = 16 * (n - 1) + (n - 1) by omega]; exact hw16.2 _ _ (by omega) (by omega) (by omega)⟩) hP hK hD hS dX3_distance_35
  · refine lv_iconst (v := iI (0 : Int)) hx hb dX3_distance_8 (by decide) ?_
    subst hAe
    exact zw_reti (z := (0 : Int)) ((u2, r, G)) hx hb hr hlocks hQ (Or.inr ⟨by omega, by rw [show u2 = 1 by omega], rfl⟩) hP hK hD hS dX3_distance_9
set_option maxRecDepth 100000 in
set_option maxHeartbeats 4000000 in
theorem c_mBound (l : Launch) (dC : Nat → ClassId) (dI : Nat → Nat → Nat) (cI : ClassId) (m0 mq mn ml ms mr mg mp mpl mdi mc : Nat) (cd : Int) (n w rc sc mo fo : Nat) (r9 which : Int) (q X r : Nat → Int) (sz : Nat) (hn : 2 ≤ n ∧ n ≤ 16) (hw : w ≤ 15) (hrc : rc ≤ 12) (hr9 : -2147483648 ≤ r9 ∧ r9 ≤ 2147483647) (hwh : -2147483648 ≤ which ∧ which ≤ 2147483647) (hvq : vals n q) (hvX : vals 192 X) : Met l yX3_bound wsX3_bound ({ frames := 3, cells := 0, slots := 0, locals := 73 }) (wrP dC dI [(cI, .int)] [(m0, .inr (3, [.int (iI cd), .int (iI (n : Int)), .int (iI (w : Int)), .ref mq, .int (iI (rc : Int)), .ref mn, .ref ml, .int (iI (sc : Int)), .ref ms, .ref mr, .ref mg, .ref mp, .int (iI (mo : Int)), .int (iI (fo : Int)), .ref mpl, .ref mdi, .ref mc])), (mq, .inl (cI, 16, .inl (iA q))), (mn, .inl (cI, 192, .inl (iA X))), (mr, .inl (cI, 16, .inl (iA r)))] sz [.ref m0, .int (iI r9), .int (iI which)]) (wrQi dC dI [(cI, .int)] [(m0, .inr (3, [.int (iI cd), .int (iI (n : Int)), .int (iI (w : Int)), .ref mq, .int (iI (rc : Int)), .ref mn, .ref ml, .int (iI (sc : Int)), .ref ms, .ref mr, .ref mg, .ref mp, .int (iI (mo : Int)), .int (iI (fo : Int)), .ref mpl, .ref mdi, .ref mc])), (mq, .inl (cI, 16, .inl (iA q))), (mn, .inl (cI, 192, .inl (iA X))), (mr, .inl (cI, 16, .inl (iA r)))] sz (S := (Int × (Nat → Int))) (fun z u => ((0 ≤ r9 ∧ r9 < (rc : Int)) ∧ (0 ≤ which ∧ which ≤ 2) ∧ u = (0, (zC X r (16 * r9.toNat) 0 n)) ∧ z = lbd n w q (zC X r (16 * r9.toNat) 0 n) which) ∨ ((r9 < 0 ∨ (rc : Int) ≤ r9) ∧ u = (1, r) ∧ z = 0) ∨ ((0 ≤ r9 ∧ r9 < (rc : Int)) ∧ (which < 0 ∨ 2 < which) ∧ u = (2, r) ∧ z = 0)) (fun u => [(m0, .inr (3, [.int (iI u.1), .int (iI (n : Int)), .int (iI (w : Int)), .ref mq, .int (iI (rc : Int)), .ref mn, .ref ml, .int (iI (sc : Int)), .ref ms, .ref mr, .ref mg, .ref mp, .int (iI (mo : Int)), .int (iI (fo : Int)), .ref mpl, .ref mdi, .ref mc])), (mq, .inl (cI, 16, .inl (iA q))), (mn, .inl (cI, 192, .inl (iA X))), (mr, .inl (cI, 16, .inl (iA u.2)))])) 0 0 (va_A [(m0, .inr (3, [.int (iI cd), .int (iI (n : Int)), .int (iI (w : Int)), .ref mq, .int (iI (rc : Int)), .ref mn, .ref ml, .int (iI (sc : Int)), .ref ms, .ref mr, .ref mg, .ref mp, .int (iI (mo : Int)), .int (iI (fo : Int)), .ref mpl, .ref mdi, .ref mc])), (mq, .inl (cI, 16, .inl (iA q))), (mn, .inl (cI, 192, .inl (iA X))), (mr, .inl (cI, 16, .inl (iA r)))] sz) := by
  refine Met.ofW (cc := cX3_bound) (maxL := 3) (ret := (some .int)) (by decide) rfl ?_
  intro p e s m args below meth c s₁ B hml hv
  obtain ⟨rfl, hsz, hP, hK, hD0⟩ := hv
  have hx := B.exec
  have hb := B.bytes
  have hr := B.returns
  have hts : ∀ w ∈ wsX3_bound, w.before _ s = true := atoms_spec (ws := wsX3_bound) B.pre
  have hown : s.vm.findClass RX3 = some m.cls := findClass_of_methodNamed B.named
  have hlocks := B.notSynchronized
  subst hsz
  have hD := hD0.self (sz := s.heap.size)
  have hA : ∀ q9 : Nat, s.heap.size ≤ q9 → va_A [(m0, .inr (3, [.int (iI cd), .int (iI (n : Int)), .int (iI (w : Int)), .ref mq, .int (iI (rc : Int)), .ref mn, .ref ml, .int (iI (sc : Int)), .ref ms, .ref mr, .ref mg, .ref mp, .int (iI (mo : Int)), .int (iI (fo : Int)), .ref mpl, .ref mdi, .ref mc])), (mq, .inl (cI, 16, .inl (iA q))), (mn, .inl (cI, 192, .inl (iA X))), (mr, .inl (cI, 16, .inl (iA r)))] s.heap.size q9 := fun q9 h => Or.inr h
  have hS : va_S (va_A [(m0, .inr (3, [.int (iI cd), .int (iI (n : Int)), .int (iI (w : Int)), .ref mq, .int (iI (rc : Int)), .ref mn, .ref ml, .int (iI (sc : Int)), .ref ms, .ref mr, .ref mg, .ref mp, .int (iI (mo : Int)), .int (iI (fo : Int)), .ref mpl, .ref mdi, .ref mc])), (mq, .inl (cI, 16, .inl (iA q))), (mn, .inl (cI, 192, .inl (iA X))), (mr, .inl (cI, 16, .inl (iA r)))] s.heap.size) s.heap s.heap [] := va_S.rf
  generalize hAe : va_A [(m0, .inr (3, [.int (iI cd), .int (iI (n : Int)), .int (iI (w : Int)), .ref mq, .int (iI (rc : Int)), .ref mn, .ref ml, .int (iI (sc : Int)), .ref ms, .ref mr, .ref mg, .ref mp, .int (iI (mo : Int)), .int (iI (fo : Int)), .ref mpl, .ref mdi, .ref mc])), (mq, .inl (cI, 16, .inl (iA q))), (mn, .inl (cI, 192, .inl (iA X))), (mr, .inl (cI, 16, .inl (iA r)))] s.heap.size = A at hD hA hS
  have hP : va_P (dC, dI) vwCl [(m0, .inr (3, [.int (iI cd), .int (iI (n : Int)), .int (iI (w : Int)), .ref mq, .int (iI (rc : Int)), .ref mn, .ref ml, .int (iI (sc : Int)), .ref ms, .ref mr, .ref mg, .ref mp, .int (iI (mo : Int)), .int (iI (fo : Int)), .ref mpl, .ref mdi, .ref mc])), (mq, .inl (cI, 16, .inl (iA q))), (mn, .inl (cI, 192, .inl (iA X))), (mr, .inl (cI, 16, .inl (iA r)))] s.heap := hP
  have hl := lv_entry ([.ref m0, .int (iI r9), .int (iI which)]) (n := 3) (Nat.le_of_ble_eq_true rfl)
  rw [lg_entry_eq]
  generalize (lg_sl ([.ref m0, .int (iI r9), .int (iI which)]) ++ List.replicate (3 - (lg_sl ([.ref m0, .int (iI r9), .int (iI which)])).length) Slot.unset).toArray = ls at hl ⊢
  have hl : lv_has ls 3 [(0, .ref m0), (1, .int (iI r9)), (2, .int (iI which))] := hl
  generalize hargs : ([.ref m0, .int (iI r9), .int (iI which)] : List Value).toArray = args at hts ⊢
  refine z_intro (fun R Q hR hQ => ?_)
  have hRf : R.frames = 3 := by rw [hR]; rfl
  have hRl : R.locals = 73 := by rw [hR]; rfl
  have hRc : R.cells = 0 := by rw [hR]; rfl
  have hRs : R.slots = 0 := by rw [hR]; rfl
  have in_X3 : ∀ w ∈ u_ws RX3 TX3 17, w ∈ wsX3_bound := fun w h => List.mem_cons_of_mem _ (inW_X3 w h)
  have fl_44 := wa_hts hts wd_484
  clear hR hargs B
  refine lv_aload_n hx hb dX3_bound_0 rfl (lv_at hl 0 rfl) ?_
  refine lv_iload_n hx hb dX3_bound_1 rfl (lv_at hl 1 rfl) ?_
  refine zw_i (wr := [(mq, .inl (cI, 16, .inl (iA q))), (mn, .inl (cI, 192, .inl (iA X))), (mr, .inl (cI, 16, .inl (iA r)))]) (va_runV (As := [.int (iI r9)]) (rest := []) ⟨hx, hb, hml, hown, hts⟩ (c_isRow l dC dI cI m0 mq mn ml ms mr mg mp mpl mdi mc cd n w rc sc mo fo r9 _ hr9 hrc) (cwV 1 hts (ga_V wd_559 wd_561 wd_14 wd_31 wd_562) rfl rfl rfl (by decide +kernel) ⟨(show 1 + 1 ≤ R.frames by omega), (show 8 + (2 + 11) + 22 ≤ R.locals by omega)⟩) (wr_preV (q0 := 0) (ci := 3) hP hK hD [0] (by decide) rfl rfl rfl rfl) rfl rfl hl.1 rfl (lv_room (Nat.le_of_ble_eq_true rfl)) dX3_bound_2 ⟨by omega, by omega⟩) hP hD hS hA [0] [1, 2, 3] rfl rfl (by decide) (by decide) (fun z2 u2 H locs hw2 hP hD hS => ?_)
  have hP := hP.sub (ws' := [(m0, .inr (3, [.int (iI u2), .int (iI (n : Int)), .int (iI (w : Int)), .ref mq, .int (iI (rc : Int)), .ref mn, .ref ml, .int (iI (sc : Int)), .ref ms, .ref mr, .ref mg, .ref mp, .int (iI (mo : Int)), .int (iI (fo : Int)), .ref mpl, .ref mdi, .ref mc])), (mq, .inl (cI, 16, .inl (iA q))), (mn, .inl (cI, 192, .inl (iA X))), (mr, .inl (cI, 16, .inl (iA r)))]) [3, 0, 1, 2] rfl
  have hD := hD.sub (ws' := [(m0, .inr (3, [.int (iI u2), .int (iI (n : Int)), .int (iI (w : Int)), .ref mq, .int (iI (rc : Int)), .ref mn, .ref ml, .int (iI (sc : Int)), .ref ms, .ref mr, .ref mg, .ref mp, .int (iI (mo : Int)), .int (iI (fo : Int)), .ref mpl, .ref mdi, .ref mc])), (mq, .inl (cI, 16, .inl (iA q))), (mn, .inl (cI, 192, .inl (iA X))), (mr, .inl (cI, 16, .inl (iA r)))]) [3, 0, 1, 2] (by decide) rfl
  refine z_if_ne (tgt := 10) hx hb dX3_bound_5 (by decide) (by omega) (fun h5 => ?_) (fun h5 => ?_)
  · refine lv_aload_n hx hb dX3_bound_10 rfl (lv_at hl 0 rfl) ?_
    refine lv_iload_n hx hb dX3_bound_11 rfl (lv_at hl 2 rfl) ?_
    refine lv_iconst (v := iI (0 : Int)) hx hb dX3_bound_12 (by decide) ?_
    refine lv_iconst (v := iI (2 : Int)) hx hb dX3_bound_13 (by decide) ?_
    refine zr_i (va_runS (As := [.int (iI which), .int (iI (0 : Int)), .int (iI (2 : Int))]) (rest := [.ref m0]) ⟨hx, hb, hml, hown, hts⟩ (c_within l dC dI cI which (0 : Int) (2 : Int) (by omega) (by omega) (by omega)) (cwS 3 hts (ga_S wd_544 wd_545 wd_31 wd_546) rfl rfl rfl (by decide +kernel) ⟨(show 0 + 1 ≤ R.frames by omega), (show 8 + (3 + 11) + 0 ≤ R.locals by omega)⟩) (rd_preS hP hK [] rfl) rfl rfl hl.1 rfl (lv_room (Nat.le_of_ble_eq_true rfl)) dX3_bound_14 ⟨by omega, by omega⟩) (fun z14 hz14 => ?_)
    refine z_if_eq (tgt := 24) hx hb dX3_bound_17 (by decide) (by omega) (fun h17 => ?_) (fun h17 => ?_)
    · refine lv_iconst (v := iI (2 : Int)) hx hb dX3_bound_24 (by decide) ?_
      refine va_put (D := (dC, dI)) (ci := 3) (v := .int (iI (2 : Int))) (ty := .int) (C := RX3) (T := TX3) (N := 17) hx hb hts in_X3 tyX3 tyX3_ok nmX3 hown hK hP hD hS 0 rfl rfl 0 (by decide) fl_44 (fun _ h9 => h9) rfl (by decide +kernel) rfl rfl (Nat.le_of_ble_eq_true rfl) dX3_bound_25 (fun H locs hP hD hS => ?_)
      have hP : va_P (dC, dI) vwCl [(m0, .inr (3, [.int (iI (2 : Int)), .int (iI (n : Int)), .int (iI (w : Int)), .ref mq, .int (iI (rc : Int)), .ref mn, .ref ml, .int (iI (sc : Int)), .ref ms, .ref mr, .ref mg, .ref mp, .int (iI (mo : Int)), .int (iI (fo : Int)), .ref mpl, .ref mdi, .ref mc])), (mq, .inl (cI, 16, .inl (iA q))), (mn, .inl (cI, 192, .inl (iA X))), (mr, .inl (cI, 16, .inl (iA r)))] H := hP
      have hD : va_D A [(m0, .inr (3, [.int (iI (2 : Int)), .int (iI (n : Int)), .int (iI (w : Int)), .ref mq, .int (iI (rc : Int)), .ref mn, .ref ml, .int (iI (sc : Int)), .ref ms, .ref mr, .ref mg, .ref mp, .int (iI (mo : Int)), .int (iI (fo : Int)), .ref mpl, .ref mdi, .ref mc])), (mq, .inl (cI, 16, .inl (iA q))), (mn, .inl (cI, 192, .inl (iA X))), (mr, .inl (cI, 16, .inl (iA r)))] := hD
      refine lv_aload_n hx hb dX3_bound_28 rfl (lv_at hl 0 rfl) ?_
      refine va_get (D := (dC, dI)) (ci := 3) (v := .int (iI (2 : Int))) (C := RX3) (T := TX3) (N := 17) hx hb hts in_X3 hown hK hP 0 rfl rfl 0 (by decide) fl_44 (fun _ h9 => h9) rfl dX3_bound_29 ?_
      refine z_if_le (tgt := 37) hx hb dX3_bound_32 (by decide) (by decide) (fun h9 => absurd h9 (by decide)) (fun _ => ?_)
      refine lv_iconst (v := iI (0 : Int)) hx hb dX3_bound_35 (by decide) ?_
      subst hAe
      exact zw_reti (z := (0 : Int)) ((2, r)) hx hb hr hlocks hQ (Or.inr (Or.inr ⟨by omega, by omega, rfl, rfl⟩)) hP hK hD hS dX3_bound_36
    · refine lv_iconst (v := iI (0 : Int)) hx hb dX3_bound_20 (by decide) ?_
      refine lv_goto (tgt := 25) hx hb dX3_bound_21 (by decide) ?_
      refine va_put (D := (dC, dI)) (ci := 3) (v := .int (iI (0 : Int))) (ty := .int) (C := RX3) (T := TX3) (N := 17) hx hb hts in_X3 tyX3 tyX3_ok nmX3 hown hK hP hD hS 0 rfl rfl 0 (by decide) fl_44 (fun _ h9 => h9) rfl (by decide +kernel) rfl rfl (Nat.le_of_ble_eq_true rfl) dX3_bound_25 (fun H locs hP hD hS => ?_)
      have hP : va_P (dC, dI) vwCl [(m0, .inr (3, [.int (iI (0 : Int)), .int (iI (n : Int)), .int (iI (w : Int)), .ref mq, .int (iI (rc : Int)), .ref mn, .ref ml, .int (iI (sc : Int)), .ref ms, .ref mr, .ref mg, .ref mp, .int (iI (mo : Int)), .int (iI (fo : Int)), .ref mpl, .ref mdi, .ref mc])), (mq, .inl (cI, 16, .inl (iA q))), (mn, .inl (cI, 192, .inl (iA X))), (mr, .inl (cI, 16, .inl (iA r)))] H := hP
      have hD : va_D A [(m0, .inr (3, [.int (iI (0 : Int)), .int (iI (n : Int)), .int (iI (w : Int)), .ref mq, .int (iI (rc : Int)), .ref mn, .ref ml, .int (iI (sc : Int)), .ref ms, .ref mr, .ref mg, .ref mp, .int (iI (mo : Int)), .int (iI (fo : Int)), .ref mpl, .ref mdi, .ref mc])), (mq, .inl (cI, 16, .inl (iA q))), (mn, .inl (cI, 192, .inl (iA X))), (mr, .inl (cI, 16, .inl (iA r)))] := hD
      refine lv_aload_n hx hb dX3_bound_28 rfl (lv_at hl 0 rfl) ?_
      refine va_get (D := (dC, dI)) (ci := 3) (v := .int (iI (0 : Int))) (C := RX3) (T := TX3) (N := 17) hx hb hts in_X3 hown hK hP 0 rfl rfl 0 (by decide) fl_44 (fun _ h9 => h9) rfl dX3_bound_29 ?_
      refine z_if_le (tgt := 37) hx hb dX3_bound_32 (by decide) (by decide) (fun _ => ?_) (fun h9 => absurd h9 (by decide))
      refine lv_aload_n hx hb dX3_bound_37 rfl (lv_at hl 0 rfl) ?_
      refine lv_iload_n hx hb dX3_bound_38 rfl (lv_at hl 1 rfl) ?_
      refine z_top (b := ((r9.toNat : Nat) : Int)) (by omega) ?_
      refine zw_v (wr := [(mq, .inl (cI, 16, .inl (iA q)))]) (va_runV (As := [.int (iI ((r9.toNat : Nat) : Int))]) (rest := []) ⟨hx, hb, hml, hown, hts⟩ (c_takeRow l dC dI cI m0 mq mn ml ms mr mg mp mpl mdi mc (0 : Int) n w rc sc mo fo r9.toNat r X _ hn hw (by omega)) (cwV 1 hts (ga_V wd_571 wd_573 wd_15 wd_31 wd_574) rfl rfl rfl (by decide +kernel) ⟨(show 0 + 1 ≤ R.frames by omega), (show 8 + (3 + 11) + 0 ≤ R.locals by omega)⟩) (wr_preV (q0 := 0) (ci := 3) hP hK hD [0, 3, 2] (by decide) rfl rfl rfl rfl) rfl rfl hl.1 rfl (lv_room (Nat.le_of_ble_eq_true rfl)) dX3_bound_39 ⟨by omega, by omega⟩) hP hD hS hA [0, 3, 2] [1] rfl rfl (by decide) (by decide) (fun u39 H locs hw39 hP hD hS => ?_)
      have hP := hP.sub (ws' := [(m0, .inr (3, [.int (iI (0 : Int)), .int (iI (n : Int)), .int (iI (w : Int)), .ref mq, .int (iI (rc : Int)), .ref mn, .ref ml, .int (iI (sc : Int)), .ref ms, .ref mr, .ref mg, .ref mp, .int (iI (mo : Int)), .int (iI (fo : Int)), .ref mpl, .ref mdi, .ref mc])), (mq, .inl (cI, 16, .inl (iA q))), (mn, .inl (cI, 192, .inl (iA X))), (mr, .inl (cI, 16, .inl (iA (zC X r (16 * r9.toNat) 0 n))))]) [1, 0, 3, 2] rfl
      have hD := hD.sub (ws' := [(m0, .inr (3, [.int (iI (0 : Int)), .int (iI (n : Int)), .int (iI (w : Int)), .ref mq, .int (iI (rc : Int)), .ref mn, .ref ml, .int (iI (sc : Int)), .ref ms, .ref mr, .ref mg, .ref mp, .int (iI (mo : Int)), .int (iI (fo : Int)), .ref mpl, .ref mdi, .ref mc])), (mq, .inl (cI, 16, .inl (iA q))), (mn, .inl (cI, 192, .inl (iA X))), (mr, .inl (cI, 16, .inl (iA (zC X r (16 * r9.toNat) 0 n))))]) [1, 0, 3, 2] (by decide) rfl
      refine lv_aload_n hx hb dX3_bound_42 rfl (lv_at hl 0 rfl) ?_
      refine lv_iload_n hx hb dX3_bound_43 rfl (lv_at hl 2 rfl) ?_
      have hvr : vals n (zC X r (16 * r9.toNat) 0 n) := vals_c hvX (by omega)
      refine zr_i (va_runV (As := [.int (iI which)]) (rest := []) ⟨hx, hb, hml, hown, hts⟩ (c_boundOf l dC dI cI m0 mq mn ml ms mr mg mp mpl mdi mc (0 : Int) n w rc sc mo fo q (zC X r (16 * r9.toNat) 0 n) which hn hw hvq hvr (by omega)) (cwV 1 hts (ga_V wd_594 wd_596 wd_19 wd_31 wd_597) rfl rfl rfl (by decide +kernel) ⟨(show 2 + 1 ≤ R.frames by omega), (show 8 + (4 + 11) + 50 ≤ R.locals by omega)⟩) (rd_preV (q0 := 0) (ci := 3) hP hK [0, 1, 3] rfl rfl rfl) rfl rfl hl.1 rfl (lv_room (Nat.le_of_ble_eq_true rfl)) dX3_bound_44 ⟨by omega, by omega⟩) (fun b9 hb9 => ?_)
      subst hAe
      exact zw_reti (z := b9) ((0, (zC X r (16 * r9.toNat) 0 n))) hx hb hr hlocks hQ (Or.inl ⟨by omega, by omega, rfl, hb9⟩) hP hK hD hS dX3_bound_47
  · refine lv_iconst (v := iI (0 : Int)) hx hb dX3_bound_8 (by decide) ?_
    subst hAe
    exact zw_reti (z := (0 : Int)) ((u2, r)) hx hb hr hlocks hQ (Or.inr (Or.inl ⟨by omega, by rw [show u2 = 1 by omega], rfl⟩)) hP hK hD hS dX3_bound_9
