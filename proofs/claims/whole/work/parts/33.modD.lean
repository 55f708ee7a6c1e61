theorem wk_path {w n : Nat} {q r : Nat → Int} {t : Nat} {i j : Int} {P9 : Nat → Int} (hij : pseq w n q r (t + 1) = (i, j)) (hpt : ∀ u, u < t + 1 → P9 u = 16 * (pseq w n q r u).1 + (pseq w n q r u).2) : ∀ u, u < t + 1 + 1 → zU P9 (t + 1) (16 * i + j) u = 16 * (pseq w n q r u).1 + (pseq w n q r u).2 := by
  intro u hu
  by_cases g : u = t + 1
  · subst g
    rw [zU_s, hij]
  · rw [zU_n g]
    exact hpt u (by omega)
set_option maxRecDepth 100000 in
set_option maxHeartbeats 4000000 in
theorem c_walk (l : Launch) (dC : Nat → ClassId) (dI : Nat → Nat → Nat) (cI : ClassId) (m0 mq mn ml ms mr mg mp mpl mdi mc : Nat) (cd : Int) (n w rc sc mo fo : Nat) (q r G P : Nat → Int) (sz : Nat) (hn : 2 ≤ n ∧ n ≤ 16) (hw : w ≤ 15) (hvq : vals n q) (hvr : vals n r) (hfull : ∀ a b, a < n → b < n → inb w a b → G (16 * a + b) = cst w q r a b) : Met l yX3_walk wsX3_walk ({ frames := 3, cells := 0, slots := 0, locals := 66 }) (wrP dC dI [(cI, .int)] [(m0, .inr (3, [.int (iI cd), .int (iI (n : Int)), .int (iI (w : Int)), .ref mq, .int (iI (rc : Int)), .ref mn, .ref ml, .int (iI (sc : Int)), .ref ms, .ref mr, .ref mg, .ref mp, .int (iI (mo : Int)), .int (iI (fo : Int)), .ref mpl, .ref mdi, .ref mc])), (mg, .inl (cI, 256, .inl (iA G))), (mp, .inl (cI, 32, .inl (iA P)))] sz [.ref m0]) (wrQi dC dI [(cI, .int)] [(m0, .inr (3, [.int (iI cd), .int (iI (n : Int)), .int (iI (w : Int)), .ref mq, .int (iI (rc : Int)), .ref mn, .ref ml, .int (iI (sc : Int)), .ref ms, .ref mr, .ref mg, .ref mp, .int (iI (mo : Int)), .int (iI (fo : Int)), .ref mpl, .ref mdi, .ref mc])), (mg, .inl (cI, 256, .inl (iA G))), (mp, .inl (cI, 32, .inl (iA P)))] sz (S := (Nat × (Nat → Int))) (fun z u => z = (u.1 : Int) ∧ isMany w n q r u.1 ∧ u.1 ≤ 31 ∧ ∀ v, v < u.1 → u.2 v = 16 * (pseq w n q r v).1 + (pseq w n q r v).2) (fun u => [(m0, .inr (3, [.int (iI cd), .int (iI (n : Int)), .int (iI (w : Int)), .ref mq, .int (iI (rc : Int)), .ref mn, .ref ml, .int (iI (sc : Int)), .ref ms, .ref mr, .ref mg, .ref mp, .int (iI (mo : Int)), .int (iI (fo : Int)), .ref mpl, .ref mdi, .ref mc])), (mg, .inl (cI, 256, .inl (iA G))), (mp, .inl (cI, 32, .inl (iA u.2)))])) 0 0 (va_A [(m0, .inr (3, [.int (iI cd), .int (iI (n : Int)), .int (iI (w : Int)), .ref mq, .int (iI (rc : Int)), .ref mn, .ref ml, .int (iI (sc : Int)), .ref ms, .ref mr, .ref mg, .ref mp, .int (iI (mo : Int)), .int (iI (fo : Int)), .ref mpl, .ref mdi, .ref mc])), (mg, .inl (cI, 256, .inl (iA G))), (mp, .inl (cI, 32, .inl (iA P)))] sz) := by
  refine Met.ofW (cc := cX3_walk) (maxL := 10) (ret := (some .int)) (by decide) rfl ?_
  intro p e s m args below meth c s₁ B hml hv
  obtain ⟨rfl, hsz, hP, hK, hD0⟩ := hv
  have hx := B.exec
  have hb := B.bytes
  have hr := B.returns
  have hts : ∀ w ∈ wsX3_walk, w.before _ s = true := atoms_spec (ws := wsX3_walk) B.pre
  have hown : s.vm.findClass RX3 = some m.cls := findClass_of_methodNamed B.named
  have hlocks := B.notSynchronized
  subst hsz
  have hD := hD0.self (sz := s.heap.size)
  have hA : ∀ q9 : Nat, s.heap.size ≤ q9 → va_A [(m0, .inr (3, [.int (iI cd), .int (iI (n : Int)), .int (iI (w : Int)), .ref mq, .int (iI (rc : Int)), .ref mn, .ref ml, .int (iI (sc : Int)), .ref ms, .ref mr, .ref mg, .ref mp, .int (iI (mo : Int)), .int (iI (fo : Int)), .ref mpl, .ref mdi, .ref mc])), (mg, .inl (cI, 256, .inl (iA G))), (mp, .inl (cI, 32, .inl (iA P)))] s.heap.size q9 := fun q9 h => Or.inr h
  have hS : va_S (va_A [(m0, .inr (3, [.int (iI cd), .int (iI (n : Int)), .int (iI (w : Int)), .ref mq, .int (iI (rc : Int)), .ref mn, .ref ml, .int (iI (sc : Int)), .ref ms, .ref mr, .ref mg, .ref mp, .int (iI (mo : Int)), .int (iI (fo : Int)), .ref mpl, .ref mdi, .ref mc])), (mg, .inl (cI, 256, .inl (iA G))), (mp, .inl (cI, 32, .inl (iA P)))] s.heap.size) s.heap s.heap [] := va_S.rf
  generalize hAe : va_A [(m0, .inr (3, [.int (iI cd), .int (iI (n : Int)), .int (iI (w : Int)), .ref mq, .int (iI (rc : Int)), .ref mn, .ref ml, .int (iI (sc : Int)), .ref ms, .ref mr, .ref mg, .ref mp, .int (iI (mo : Int)), .int (iI (fo : Int)), .ref mpl, .ref mdi, .ref mc])), (mg, .inl (cI, 256, .inl (iA G))), (mp, .inl (cI, 32, .inl (iA P)))] s.heap.size = A at hD hA hS
  have hP : va_P (dC, dI) vwCl [(m0, .inr (3, [.int (iI cd), .int (iI (n : Int)), .int (iI (w : Int)), .ref mq, .int (iI (rc : Int)), .ref mn, .ref ml, .int (iI (sc : Int)), .ref ms, .ref mr, .ref mg, .ref mp, .int (iI (mo : Int)), .int (iI (fo : Int)), .ref mpl, .ref mdi, .ref mc])), (mg, .inl (cI, 256, .inl (iA G))), (mp, .inl (cI, 32, .inl (iA P)))] s.heap := hP
  have hl := lv_entry ([.ref m0]) (n := 10) (Nat.le_of_ble_eq_true rfl)
  rw [lg_entry_eq]
  generalize (lg_sl ([.ref m0]) ++ List.replicate (10 - (lg_sl ([.ref m0])).length) Slot.unset).toArray = ls at hl ⊢
  have hl : lv_has ls 10 [(0, .ref m0)] := hl
  generalize hargs : ([.ref m0] : List Value).toArray = args at hts ⊢
  refine z_intro (fun R Q hR hQ => ?_)
  have hRf : R.frames = 3 := by rw [hR]; rfl
  have hRl : R.locals = 66 := by rw [hR]; rfl
  have hRc : R.cells = 0 := by rw [hR]; rfl
  have hRs : R.slots = 0 := by rw [hR]; rfl
  have in_X3 : ∀ w ∈ u_ws RX3 TX3 17, w ∈ wsX3_walk := fun w h => List.mem_cons_of_mem _ (inW_X3 w h)
  have fl_7 := wa_hts hts wd_485
  have fl_32 := wa_hts hts wd_495
  clear hR hargs B
  refine lv_aload_n hx hb dX3_walk_0 rfl (lv_at hl 0 rfl) ?_
  refine va_get (D := (dC, dI)) (ci := 3) (v := .int (iI (n : Int))) (C := RX3) (T := TX3) (N := 17) hx hb hts in_X3 hown hK hP 0 rfl rfl 1 (by decide) fl_7 (fun _ h9 => h9) rfl dX3_walk_1 ?_
  refine lv_iconst (v := iI (1 : Int)) hx hb dX3_walk_4 (by decide) ?_
  refine z_isub hx hb dX3_walk_5 ?_
  refine z_top (b := (n : Int) - 1) (by omega) ?_
  refine lv_istore_n (lv' := [(1, .int (iI ((n : Int) - 1))), (0, .ref m0)]) hx hb dX3_walk_6 rfl hl (by decide) rfl (fun ls hl => ?_)
  refine lv_aload_n hx hb dX3_walk_7 rfl (lv_at hl 1 rfl) ?_
  refine va_get (D := (dC, dI)) (ci := 3) (v := .int (iI (n : Int))) (C := RX3) (T := TX3) (N := 17) hx hb hts in_X3 hown hK hP 0 rfl rfl 1 (by decide) fl_7 (fun _ h9 => h9) rfl dX3_walk_8 ?_
  refine lv_iconst (v := iI (1 : Int)) hx hb dX3_walk_11 (by decide) ?_
  refine z_isub hx hb dX3_walk_12 ?_
  refine z_top (b := (n : Int) - 1) (by omega) ?_
  refine lv_istore_n (lv' := [(2, .int (iI ((n : Int) - 1))), (1, .int (iI ((n : Int) - 1))), (0, .ref m0)]) hx hb dX3_walk_13 rfl hl (by decide) rfl (fun ls hl => ?_)
  refine lv_iconst (v := iI (0 : Int)) hx hb dX3_walk_14 (by decide) ?_
  refine lv_istore_n (lv' := [(3, .int (iI (0 : Int))), (2, .int (iI ((n : Int) - 1))), (1, .int (iI ((n : Int) - 1))), (0, .ref m0)]) hx hb dX3_walk_15 rfl hl (by decide) rfl (fun ls hl => ?_)
  refine lv_aload_n hx hb dX3_walk_16 rfl (lv_at hl 3 rfl) ?_
  refine va_get (D := (dC, dI)) (ci := 3) (v := .ref mp) (C := RX3) (T := TX3) (N := 17) hx hb hts in_X3 hown hK hP 0 rfl rfl 11 (by decide) fl_32 (fun _ h9 => h9) rfl dX3_walk_17 ?_
  refine lv_iconst (v := iI (0 : Int)) hx hb dX3_walk_20 (by decide) ?_
  refine lv_bipush (v := iI (16 : Int)) hx hb dX3_walk_21 (by decide) ?_
  refine lv_iload_n hx hb dX3_walk_23 rfl (lv_at hl 2 rfl) ?_
  refine z_imul hx hb dX3_walk_24 ?_
  refine lv_iload_n hx hb dX3_walk_25 rfl (lv_at hl 1 rfl) ?_
  refine z_iadd hx hb dX3_walk_26 ?_
  refine z_iast hx hb hK hP hD hS 2 0 rfl rfl 0 (by omega) dX3_walk_27 (fun H locs hP hD hS => ?_)
  have hP : va_P (dC, dI) vwCl [(m0, .inr (3, [.int (iI cd), .int (iI (n : Int)), .int (iI (w : Int)), .ref mq, .int (iI (rc : Int)), .ref mn, .ref ml, .int (iI (sc : Int)), .ref ms, .ref mr, .ref mg, .ref mp, .int (iI (mo : Int)), .int (iI (fo : Int)), .ref mpl, .ref mdi, .ref mc])), (mg, .inl (cI, 256, .inl (iA G))), (mp, .inl (cI, 32, .inl (iA (zU P 0 (((16 : Int) * ((n : Int) - 1)) + ((n : Int) - 1))))))] H := hP
  have hD : va_D A [(m0, .inr (3, [.int (iI cd), .int (iI (n : Int)), .int (iI (w : Int)), .ref mq, .int (iI (rc : Int)), .ref mn, .ref ml, .int (iI (sc : Int)), .ref ms, .ref mr, .ref mg, .ref mp, .int (iI (mo : Int)), .int (iI (fo : Int)), .ref mpl, .ref mdi, .ref mc])), (mg, .inl (cI, 256, .inl (iA G))), (mp, .inl (cI, 32, .inl (iA (zU P 0 (((16 : Int) * ((n : Int) - 1)) + ((n : Int) - 1))))))] := hD
  refine lv_iconst (v := iI (1 : Int)) hx hb dX3_walk_28 (by decide) ?_
  refine lv_istore_n (lv' := [(3, .int (iI (1 : Int))), (2, .int (iI ((n : Int) - 1))), (1, .int (iI ((n : Int) - 1))), (0, .ref m0)]) hx hb dX3_walk_29 rfl hl (by decide) rfl (fun ls hl => ?_)
  have lp : ∀ (k9 : Nat) (t : Nat) (i9 j9 : Int) (P9 : Nat → Int) (H : Heap) (locs : List Loc) (ls : Array Slot), (t ≤ 30) → (pseq w n q r t = (i9, j9)) → (trA w n q r t i9 j9) → (∀ u, u < t + 1 → P9 u = 16 * (pseq w n q r u).1 + (pseq w n q r u).2) → 31 - t = k9 → va_P (dC, dI) vwCl [(m0, .inr (3, [.int (iI cd), .int (iI (n : Int)), .int (iI (w : Int)), .ref mq, .int (iI (rc : Int)), .ref mn, .ref ml, .int (iI (sc : Int)), .ref ms, .ref mr, .ref mg, .ref mp, .int (iI (mo : Int)), .int (iI (fo : Int)), .ref mpl, .ref mdi, .ref mc])), (mg, .inl (cI, 256, .inl (iA G))), (mp, .inl (cI, 32, .inl (iA P9)))] H → va_D A [(m0, .inr (3, [.int (iI cd), .int (iI (n : Int)), .int (iI (w : Int)), .ref mq, .int (iI (rc : Int)), .ref mn, .ref ml, .int (iI (sc : Int)), .ref ms, .ref mr, .ref mg, .ref mp, .int (iI (mo : Int)), .int (iI (fo : Int)), .ref mpl, .ref mdi, .ref mc])), (mg, .inl (cI, 256, .inl (iA G))), (mp, .inl (cI, 32, .inl (iA P9)))] → va_S A s.heap H locs → lv_has ls 10 [(0, .ref m0), (1, .int (iI i9)), (2, .int (iI j9)), (3, .int (iI ((t + 1 : Nat) : Int)))] → W p l e R s m args below meth c H locs 0 0 Q (F0 m 30 ls []) := by
    intro k9
    induction k9 using Nat.strongRecOn with
    | ind k9 ih_lp =>
      intro t i9 j9 P9 H locs ls ht hij hA9 hpt hk9 hP hD hS hl
      have hA2 : 0 ≤ i9 ∧ 0 ≤ j9 ∧ i9 - j9 ≤ (w : Int) ∧ j9 - i9 ≤ (w : Int) ∧ i9 + j9 + (t : Int) ≤ 2 * ((n : Int) - 1) ∧ i9 < (n : Int) ∧ j9 < (n : Int) := ⟨hA9.1, hA9.2.1, hA9.2.2.1, hA9.2.2.2.1, hA9.2.2.2.2.1, hA9.2.2.2.2.2.1, hA9.2.2.2.2.2.2.1⟩
      refine lv_iload_n hx hb dX3_walk_30 rfl (lv_at hl 1 rfl) ?_
      refine lv_iload_n hx hb dX3_walk_31 rfl (lv_at hl 2 rfl) ?_
      refine z_iadd hx hb dX3_walk_32 ?_
      refine z_if_le (tgt := 179) hx hb dX3_walk_33 (by decide) (by omega) (fun h33 => ?_) (fun h33 => ?_)
      · refine lv_iload_n hx hb dX3_walk_179 rfl (lv_at hl 3 rfl) ?_
        have h00 : i9 = 0 ∧ j9 = 0 := by omega
        subst hAe
        exact zw_reti (z := ((t + 1 : Nat) : Int)) ((t + 1, P9)) hx hb hr hlocks hQ (⟨rfl, ⟨by omega, by rw [show t + 1 - 1 = t from rfl, hij, h00.1, h00.2], fun u hu => hA9.2.2.2.2.2.2.2 u (by omega)⟩, by omega, hpt⟩) hP hK hD hS dX3_walk_180
      · refine lv_aload_n hx hb dX3_walk_36 rfl (lv_at hl 0 rfl) ?_
        refine lv_iload_n hx hb dX3_walk_37 rfl (lv_at hl 1 rfl) ?_
        refine lv_iconst (v := iI (1 : Int)) hx hb dX3_walk_38 (by decide) ?_
        refine z_isub hx hb dX3_walk_39 ?_
        refine lv_iload_n hx hb dX3_walk_40 rfl (lv_at hl 2 rfl) ?_
        refine lv_iconst (v := iI (1 : Int)) hx hb dX3_walk_41 (by decide) ?_
        refine z_isub hx hb dX3_walk_42 ?_
        refine zr_i (va_runV (As := [.int (iI (i9 - (1 : Int))), .int (iI (j9 - (1 : Int)))]) (rest := []) ⟨hx, hb, hml, hown, hts⟩ (c_mCostAt l dC dI cI m0 mq mn ml ms mr mg mp mpl mdi mc cd n w rc sc mo fo G (i9 - (1 : Int)) (j9 - (1 : Int)) hn hw (by omega) (by omega)) (cwV 2 hts (ga_V wd_583 wd_585 wd_18 wd_31 wd_586) rfl rfl rfl (by decide +kernel) ⟨(show 2 + 1 ≤ R.frames by omega), (show 8 + (3 + 11) + 44 ≤ R.locals by omega)⟩) (rd_preV (q0 := 0) (ci := 3) hP hK [0, 1] rfl rfl rfl) rfl rfl hl.1 rfl (lv_room (Nat.le_of_ble_eq_true rfl)) dX3_walk_43 ⟨by omega, by omega⟩) (fun z43 hz43 => ?_)
        refine lv_istore (lv' := [(4, .int (iI z43)), (0, .ref m0), (1, .int (iI i9)), (2, .int (iI j9)), (3, .int (iI ((t + 1 : Nat) : Int)))]) hx hb dX3_walk_46 hl (by decide) rfl (fun ls hl => ?_)
        refine lv_aload_n hx hb dX3_walk_48 rfl (lv_at hl 1 rfl) ?_
        refine lv_iload_n hx hb dX3_walk_49 rfl (lv_at hl 2 rfl) ?_
        refine lv_iconst (v := iI (1 : Int)) hx hb dX3_walk_50 (by decide) ?_
        refine z_isub hx hb dX3_walk_51 ?_
        refine lv_iload_n hx hb dX3_walk_52 rfl (lv_at hl 3 rfl) ?_
        refine zr_i (va_runV (As := [.int (iI (i9 - (1 : Int))), .int (iI j9)]) (rest := []) ⟨hx, hb, hml, hown, hts⟩ (c_mCostAt l dC dI cI m0 mq mn ml ms mr mg mp mpl mdi mc cd n w rc sc mo fo G (i9 - (1 : Int)) j9 hn hw (by omega) (by omega)) (cwV 2 hts (ga_V wd_583 wd_585 wd_18 wd_31 wd_586) rfl rfl rfl (by decide +kernel) ⟨(show 2 + 1 ≤ R.frames by omega), (show 8 + (3 + 11) + 44 ≤ R.locals by omega)⟩) (rd_preV (q0 := 0) (ci := 3) hP hK [0, 1] rfl rfl rfl) rfl rfl hl.1 rfl (lv_room (Nat.le_of_ble_eq_true rfl)) dX3_walk_53 ⟨by omega, by omega⟩) (fun z53 hz53 => ?_)
        refine lv_istore (lv' := [(5, .int (iI z53)), (4, .int (iI z43)), (0, .ref m0), (1, .int (iI i9)), (2, .int (iI j9)), (3, .int (iI ((t + 1 : Nat) : Int)))]) hx hb dX3_walk_56 hl (by decide) rfl (fun ls hl => ?_)
        refine lv_aload_n hx hb dX3_walk_58 rfl (lv_at hl 2 rfl) ?_
        refine lv_iload_n hx hb dX3_walk_59 rfl (lv_at hl 3 rfl) ?_
        refine lv_iload_n hx hb dX3_walk_60 rfl (lv_at hl 4 rfl) ?_
        refine lv_iconst (v := iI (1 : Int)) hx hb dX3_walk_61 (by decide) ?_
        refine z_isub hx hb dX3_walk_62 ?_
        refine zr_i (va_runV (As := [.int (iI i9), .int (iI (j9 - (1 : Int)))]) (rest := []) ⟨hx, hb, hml, hown, hts⟩ (c_mCostAt l dC dI cI m0 mq mn ml ms mr mg mp mpl mdi mc cd n w rc sc mo fo G i9 (j9 - (1 : Int)) hn hw (by omega) (by omega)) (cwV 2 hts (ga_V wd_583 wd_585 wd_18 wd_31 wd_586) rfl rfl rfl (by decide +kernel) ⟨(show 2 + 1 ≤ R.frames by omega), (show 8 + (3 + 11) + 44 ≤ R.locals by omega)⟩) (rd_preV (q0 := 0) (ci := 3) hP hK [0, 1] rfl rfl rfl) rfl rfl hl.1 rfl (lv_room (Nat.le_of_ble_eq_true rfl)) dX3_walk_63 ⟨by omega, by omega⟩) (fun z63 hz63 => ?_)
        refine lv_istore (lv' := [(6, .int (iI z63)), (5, .int (iI z53)), (4, .int (iI z43)), (0, .ref m0), (1, .int (iI i9)), (2, .int (iI j9)), (3, .int (iI ((t + 1 : Nat) : Int)))]) hx hb dX3_walk_66 hl (by decide) rfl (fun ls hl => ?_)
        have b43 := mAt_bd (w := w) hvq hvr hn.2 (i := i9 - 1) (j := j9 - 1) (by omega) (by omega) (fun _ _ h9 => hfull _ _ (by omega) (by omega) h9)
        have b53 := mAt_bd (w := w) hvq hvr hn.2 (i := i9 - 1) (j := j9) (by omega) (by omega) (fun _ _ h9 => hfull _ _ (by omega) (by omega) h9)
        have b63 := mAt_bd (w := w) hvq hvr hn.2 (i := i9) (j := j9 - 1) (by omega) (by omega) (fun _ _ h9 => hfull _ _ (by omega) (by omega) h9)
        rw [← hz43] at b43
        rw [← hz53] at b53
        rw [← hz63] at b63
        refine lv_iload hx hb dX3_walk_68 (lv_at hl 2 rfl) ?_
        refine lv_iload hx hb dX3_walk_70 (lv_at hl 1 rfl) ?_
        refine lv_iload hx hb dX3_walk_72 (lv_at hl 0 rfl) ?_
        refine zr_i (va_runS (As := [.int (iI z53), .int (iI z63)]) (rest := [.int (iI z43)]) ⟨hx, hb, hml, hown, hts⟩ (c_lesser l dC dI cI z53 z63 (by omega) (by omega)) (cwS 2 hts (ga_S wd_587 wd_588 wd_31 wd_589) rfl rfl rfl (by decide +kernel) ⟨(show 0 + 1 ≤ R.frames by omega), (show 8 + (2 + 11) + 0 ≤ R.locals by omega)⟩) (rd_preS hP hK [] rfl) rfl rfl hl.1 rfl (lv_room (Nat.le_of_ble_eq_true rfl)) dX3_walk_74 ⟨by omega, by omega⟩) (fun z74 hz74 => ?_)
        have r74 : -2147483648 ≤ z74 ∧ z74 ≤ 2147483647 := by rw [hz74]; exact lsr_rg (by omega) (by omega)
        refine zr_i (va_runS (As := [.int (iI z43), .int (iI z74)]) (rest := []) ⟨hx, hb, hml, hown, hts⟩ (c_lesser l dC dI cI z43 z74 (by omega) (by omega)) (cwS 2 hts (ga_S wd_587 wd_588 wd_31 wd_589) rfl rfl rfl (by decide +kernel) ⟨(show 0 + 1 ≤ R.frames by omega), (show 8 + (2 + 11) + 0 ≤ R.locals by omega)⟩) (rd_preS hP hK [] rfl) rfl rfl hl.1 rfl (lv_room (Nat.le_of_ble_eq_true rfl)) dX3_walk_77 ⟨by omega, by omega⟩) (fun z77 hz77 => ?_)
        have l77 := lsr3 (x := z43) (y := z53) (z := z63) (x' := bdI w q r (i9 - 1) (j9 - 1)) (y' := bdI w q r (i9 - 1) j9) (z' := bdI w q r i9 (j9 - 1)) (by omega) (by omega) (by omega)
        rw [← hz74, ← hz77] at l77
        refine lv_istore (lv' := [(7, .int (iI z77)), (6, .int (iI z63)), (5, .int (iI z53)), (4, .int (iI z43)), (0, .ref m0), (1, .int (iI i9)), (2, .int (iI j9)), (3, .int (iI ((t + 1 : Nat) : Int)))]) hx hb dX3_walk_80 hl (by decide) rfl (fun ls hl => ?_)
        refine lv_iload hx hb dX3_walk_82 (lv_at hl 3 rfl) ?_
        refine lv_iload hx hb dX3_walk_84 (lv_at hl 0 rfl) ?_
        refine z_icmp_ne (tgt := 98) hx hb dX3_walk_86 (by decide) (by omega) (fun h86 => ?_) (fun h86 => ?_)
        · refine lv_iconst (v := iI (0 : Int)) hx hb dX3_walk_98 (by decide) ?_
          refine lv_istore (lv' := [(8, .int (iI (0 : Int))), (7, .int (iI z77)), (6, .int (iI z63)), (5, .int (iI z53)), (4, .int (iI z43)), (0, .ref m0), (1, .int (iI i9)), (2, .int (iI j9)), (3, .int (iI ((t + 1 : Nat) : Int)))]) hx hb dX3_walk_99 hl (by decide) rfl (fun ls hl => ?_)
          refine lv_iload hx hb dX3_walk_101 (lv_at hl 0 rfl) ?_
          refine z_if_ne (tgt := 122) hx hb dX3_walk_103 (by decide) (by decide) (fun h9 => absurd h9 (by decide)) (fun _ => ?_)
          refine lv_iload hx hb dX3_walk_106 (lv_at hl 3 rfl) ?_
          refine lv_iload hx hb dX3_walk_108 (lv_at hl 1 rfl) ?_
          refine z_icmp_ne (tgt := 122) hx hb dX3_walk_110 (by decide) (by omega) (fun h110 => ?_) (fun h110 => ?_)
          · refine lv_iconst (v := iI (0 : Int)) hx hb dX3_walk_122 (by decide) ?_
            refine lv_istore (lv' := [(9, .int (iI (0 : Int))), (8, .int (iI (0 : Int))), (7, .int (iI z77)), (6, .int (iI z63)), (5, .int (iI z53)), (4, .int (iI z43)), (0, .ref m0), (1, .int (iI i9)), (2, .int (iI j9)), (3, .int (iI ((t + 1 : Nat) : Int)))]) hx hb dX3_walk_123 hl (by decide) rfl (fun ls hl => ?_)
            refine lv_iload hx hb dX3_walk_125 (lv_at hl 1 rfl) ?_
            refine z_if_ne (tgt := 135) hx hb dX3_walk_127 (by decide) (by decide) (fun h9 => absurd h9 (by decide)) (fun _ => ?_)
            refine lv_iload hx hb dX3_walk_130 (lv_at hl 0 rfl) ?_
            refine z_if_eq (tgt := 141) hx hb dX3_walk_132 (by decide) (by decide) (fun _ => ?_) (fun h9 => absurd h9 (by decide))
            refine lv_iload_n hx hb dX3_walk_141 rfl (lv_at hl 7 rfl) ?_
            refine lv_istore_n (lv' := [(1, .int (iI i9)), (9, .int (iI (0 : Int))), (8, .int (iI (0 : Int))), (7, .int (iI z77)), (6, .int (iI z63)), (5, .int (iI z53)), (4, .int (iI z43)), (0, .ref m0), (2, .int (iI j9)), (3, .int (iI ((t + 1 : Nat) : Int)))]) hx hb dX3_walk_142 rfl hl (by decide) rfl (fun ls hl => ?_)
            refine lv_iload hx hb dX3_walk_143 (lv_at hl 2 rfl) ?_
            refine z_if_ne (tgt := 153) hx hb dX3_walk_145 (by decide) (by decide) (fun h9 => absurd h9 (by decide)) (fun _ => ?_)
            refine lv_iload hx hb dX3_walk_148 (lv_at hl 1 rfl) ?_
            refine z_if_ne (tgt := 159) hx hb dX3_walk_150 (by decide) (by decide) (fun h9 => absurd h9 (by decide)) (fun _ => ?_)
            refine lv_iload_n hx hb dX3_walk_153 rfl (lv_at hl 8 rfl) ?_
            refine lv_iconst (v := iI (1 : Int)) hx hb dX3_walk_154 (by decide) ?_
            refine z_isub hx hb dX3_walk_155 ?_
            refine z_top (b := j9 - 1) (by omega) ?_
            refine lv_goto (tgt := 160) hx hb dX3_walk_156 (by decide) ?_
            refine lv_istore_n (lv' := [(2, .int (iI (j9 - 1))), (1, .int (iI i9)), (9, .int (iI (0 : Int))), (8, .int (iI (0 : Int))), (7, .int (iI z77)), (6, .int (iI z63)), (5, .int (iI z53)), (4, .int (iI z43)), (0, .ref m0), (3, .int (iI ((t + 1 : Nat) : Int)))]) hx hb dX3_walk_160 rfl hl (by decide) rfl (fun ls hl => ?_)
            refine lv_aload_n hx hb dX3_walk_161 rfl (lv_at hl 8 rfl) ?_
            refine va_get (D := (dC, dI)) (ci := 3) (v := .ref mp) (C := RX3) (T := TX3) (N := 17) hx hb hts in_X3 hown hK hP 0 rfl rfl 11 (by decide) fl_32 (fun _ h9 => h9) rfl dX3_walk_162 ?_
            refine lv_iload_n hx hb dX3_walk_165 rfl (lv_at hl 9 rfl) ?_
            refine lv_bipush (v := iI (16 : Int)) hx hb dX3_walk_166 (by decide) ?_
            refine lv_iload_n hx hb dX3_walk_168 rfl (lv_at hl 1 rfl) ?_
            refine z_imul hx hb dX3_walk_169 ?_
            refine lv_iload_n hx hb dX3_walk_170 rfl (lv_at hl 0 rfl) ?_
            refine z_iadd hx hb dX3_walk_171 ?_
            refine z_iast hx hb hK hP hD hS 2 0 rfl rfl (t + 1) (by omega) dX3_walk_172 (fun H locs hP hD hS => ?_)
            have hP : va_P (dC, dI) vwCl [(m0, .inr (3, [.int (iI cd), .int (iI (n : Int)), .int (iI (w : Int)), .ref mq, .int (iI (rc : Int)), .ref mn, .ref ml, .int (iI (sc : Int)), .ref ms, .ref mr, .ref mg, .ref mp, .int (iI (mo : Int)), .int (iI (fo : Int)), .ref mpl, .ref mdi, .ref mc])), (mg, .inl (cI, 256, .inl (iA G))), (mp, .inl (cI, 32, .inl (iA (zU P9 (t + 1) (((16 : Int) * i9) + (j9 - 1))))))] H := hP
            have hD : va_D A [(m0, .inr (3, [.int (iI cd), .int (iI (n : Int)), .int (iI (w : Int)), .ref mq, .int (iI (rc : Int)), .ref mn, .ref ml, .int (iI (sc : Int)), .ref ms, .ref mr, .ref mg, .ref mp, .int (iI (mo : Int)), .int (iI (fo : Int)), .ref mpl, .ref mdi, .ref mc])), (mg, .inl (cI, 256, .inl (iA G))), (mp, .inl (cI, 32, .inl (iA (zU P9 (t + 1) (((16 : Int) * i9) + (j9 - 1))))))] := hD
            refine z_iinc (k := 9) (b := ((t + 1 + 1 : Nat) : Int)) (lv' := [(3, .int (iI ((t + 1 + 1 : Nat) : Int))), (2, .int (iI (j9 - 1))), (1, .int (iI i9)), (9, .int (iI (0 : Int))), (8, .int (iI (0 : Int))), (7, .int (iI z77)), (6, .int (iI z63)), (5, .int (iI z53)), (4, .int (iI z43)), (0, .ref m0)]) hx hb dX3_walk_173 hl rfl (by omega) (by decide) rfl (fun ls hl => ?_)
            refine lv_goto (tgt := 30) hx hb dX3_walk_176 (by decide) ?_
            exact ih_lp _ (by omega) (t + 1) i9 (j9 - 1) (zU P9 (t + 1) (16 * (i9) + (j9 - 1))) H locs ls (by have := hA2; omega) (by rw [pseq, hij]; exact pnx_3 (by omega) (by omega)) (tr_on hvq hvr hn.2 hA9 hij (by omega) (pnx_3 (by omega) (by omega))) (wk_path (by rw [pseq, hij]; exact pnx_3 (by omega) (by omega)) hpt) rfl hP hD hS (lv_sub hl [9, 2, 1, 0] rfl)
          · refine lv_iload hx hb dX3_walk_113 (lv_at hl 3 rfl) ?_
            refine z_if_lt (tgt := 122) hx hb dX3_walk_115 (by decide) (by omega) (fun h115 => ?_) (fun h115 => ?_)
            · refine lv_iconst (v := iI (0 : Int)) hx hb dX3_walk_122 (by decide) ?_
              refine lv_istore (lv' := [(9, .int (iI (0 : Int))), (8, .int (iI (0 : Int))), (7, .int (iI z77)), (6, .int (iI z63)), (5, .int (iI z53)), (4, .int (iI z43)), (0, .ref m0), (1, .int (iI i9)), (2, .int (iI j9)), (3, .int (iI ((t + 1 : Nat) : Int)))]) hx hb dX3_walk_123 hl (by decide) rfl (fun ls hl => ?_)
              refine lv_iload hx hb dX3_walk_125 (lv_at hl 1 rfl) ?_
              refine z_if_ne (tgt := 135) hx hb dX3_walk_127 (by decide) (by decide) (fun h9 => absurd h9 (by decide)) (fun _ => ?_)
              refine lv_iload hx hb dX3_walk_130 (lv_at hl 0 rfl) ?_
              refine z_if_eq (tgt := 141) hx hb dX3_walk_132 (by decide) (by decide) (fun _ => ?_) (fun h9 => absurd h9 (by decide))
              refine lv_iload_n hx hb dX3_walk_141 rfl (lv_at hl 7 rfl) ?_
              refine lv_istore_n (lv' := [(1, .int (iI i9)), (9, .int (iI (0 : Int))), (8, .int (iI (0 : Int))), (7, .int (iI z77)), (6, .int (iI z63)), (5, .int (iI z53)), (4, .int (iI z43)), (0, .ref m0), (2, .int (iI j9)), (3, .int (iI ((t + 1 : Nat) : Int)))]) hx hb dX3_walk_142 rfl hl (by decide) rfl (fun ls hl => ?_)
              refine lv_iload hx hb dX3_walk_143 (lv_at hl 2 rfl) ?_
              refine z_if_ne (tgt := 153) hx hb dX3_walk_145 (by decide) (by decide) (fun h9 => absurd h9 (by decide)) (fun _ => ?_)
              refine lv_iload hx hb dX3_walk_148 (lv_at hl 1 rfl) ?_
              refine z_if_ne (tgt := 159) hx hb dX3_walk_150 (by decide) (by decide) (fun h9 => absurd h9 (by decide)) (fun _ => ?_)
              refine lv_iload_n hx hb dX3_walk_153 rfl (lv_at hl 8 rfl) ?_
              refine lv_iconst (v := iI (1 : Int)) hx hb dX3_walk_154 (by decide) ?_
              refine z_isub hx hb dX3_walk_155 ?_
              refine z_top (b := j9 - 1) (by omega) ?_
              refine lv_goto (tgt := 160) hx hb dX3_walk_156 (by decide) ?_
              refine lv_istore_n (lv' := [(2, .int (iI (j9 - 1))), (1, .int (iI i9)), (9, .int (iI (0 : Int))), (8, .int (iI (0 : Int))), (7, .int (iI z77)), (6, .int (iI z63)), (5, .int (iI z53)), (4, .int (iI z43)), (0, .ref m0), (3, .int (iI ((t + 1 : Nat) : Int)))]) hx hb dX3_walk_160 rfl hl (by decide) rfl (fun ls hl => ?_)
              refine lv_aload_n hx hb dX3_walk_161 rfl (lv_at hl 8 rfl) ?_
              refine va_get (D := (dC, dI)) (ci := 3) (v := .ref mp) (C := RX3) (T := TX3) (N := 17) hx hb hts in_X3 hown hK hP 0 rfl rfl 11 (by decide) fl_32 (fun _ h9 => h9) rfl dX3_walk_162 ?_
              refine lv_iload_n hx hb dX3_walk_165 rfl (lv_at hl 9 rfl) ?_
              refine lv_bipush (v := iI (16 : Int)) hx hb dX3_walk_166 (by decide) ?_
              refine lv_iload_n hx hb dX3_walk_168 rfl (lv_at hl 1 rfl) ?_
              refine z_imul hx hb dX3_walk_169 ?_
              refine lv_iload_n hx hb dX3_walk_170 rfl (lv_at hl 0 rfl) ?_
              refine z_iadd hx hb dX3_walk_171 ?_
              refine z_iast hx hb hK hP hD hS 2 0 rfl rfl (t + 1) (by omega) dX3_walk_172 (fun H locs hP hD hS => ?_)
              have hP : va_P (dC, dI) vwCl [(m0, .inr (3, [.int (iI cd), .int (iI (n : Int)), .int (iI (w : Int)), .ref mq, .int (iI (rc : Int)), .ref mn, .ref ml, .int (iI (sc : Int)), .ref ms, .ref mr, .ref mg, .ref mp, .int (iI (mo : Int)), .int (iI (fo : Int)), .ref mpl, .ref mdi, .ref mc])), (mg, .inl (cI, 256, .inl (iA G))), (mp, .inl (cI, 32, .inl (iA (zU P9 (t + 1) (((16 : Int) * i9) + (j9 - 1))))))] H := hP
              have hD : va_D A [(m0, .inr (3, [.int (iI cd), .int (iI (n : Int)), .int (iI (w : Int)), .ref mq, .int (iI (rc : Int)), .ref mn, .ref ml, .int (iI (sc : Int)), .ref ms, .ref mr, .ref mg, .ref mp, .int (iI (mo : Int)), .int (iI (fo : Int)), .ref mpl, .ref mdi, .ref mc])), (mg, .inl (cI, 256, .inl (iA G))), (mp, .inl (cI, 32, .inl (iA (zU P9 (t + 1) (((16 : Int) * i9) + (j9 - 1))))))] := hD
              refine z_iinc (k := 9) (b := ((t + 1 + 1 : Nat) : Int)) (lv' := [(3, .int (iI ((t + 1 + 1 : Nat) : Int))), (2, .int (iI (j9 - 1))), (1, .int (iI i9)), (9, .int (iI (0 : Int))), (8, .int (iI (0 : Int))), (7, .int (iI z77)), (6, .int (iI z63)), (5, .int (iI z53)), (4, .int (iI z43)), (0, .ref m0)]) hx hb dX3_walk_173 hl rfl (by omega) (by decide) rfl (fun ls hl => ?_)
              refine lv_goto (tgt := 30) hx hb dX3_walk_176 (by decide) ?_
              exact ih_lp _ (by omega) (t + 1) i9 (j9 - 1) (zU P9 (t + 1) (16 * (i9) + (j9 - 1))) H locs ls (by have := hA2; omega) (by rw [pseq, hij]; exact pnx_3 (by omega) (by omega)) (tr_on hvq hvr hn.2 hA9 hij (by omega) (pnx_3 (by omega) (by omega))) (wk_path (by rw [pseq, hij]; exact pnx_3 (by omega) (by omega)) hpt) rfl hP hD hS (lv_sub hl [9, 2, 1, 0] rfl)
            · refine lv_iconst (v := iI (1 : Int)) hx hb dX3_walk_118 (by decide) ?_
              refine lv_goto (tgt := 123) hx hb dX3_walk_119 (by decide) ?_
              refine lv_istore (lv' := [(9, .int (iI (1 : Int))), (8, .int (iI (0 : Int))), (7, .int (iI z77)), (6, .int (iI z63)), (5, .int (iI z53)), (4, .int (iI z43)), (0, .ref m0), (1, .int (iI i9)), (2, .int (iI j9)), (3, .int (iI ((t + 1 : Nat) : Int)))]) hx hb dX3_walk_123 hl (by decide) rfl (fun ls hl => ?_)
              refine lv_iload hx hb dX3_walk_125 (lv_at hl 1 rfl) ?_
              refine z_if_ne (tgt := 135) hx hb dX3_walk_127 (by decide) (by decide) (fun h9 => absurd h9 (by decide)) (fun _ => ?_)
              refine lv_iload hx hb dX3_walk_130 (lv_at hl 0 rfl) ?_
              refine z_if_eq (tgt := 141) hx hb dX3_walk_132 (by decide) (by decide) (fun h9 => absurd h9 (by decide)) (fun _ => ?_)
              refine lv_iload_n hx hb dX3_walk_135 rfl (lv_at hl 7 rfl) ?_
              refine lv_iconst (v := iI (1 : Int)) hx hb dX3_walk_136 (by decide) ?_
              refine z_isub hx hb dX3_walk_137 ?_
              refine z_top (b := i9 - 1) (by omega) ?_
              refine lv_goto (tgt := 142) hx hb dX3_walk_138 (by decide) ?_
              refine lv_istore_n (lv' := [(1, .int (iI (i9 - 1))), (9, .int (iI (1 : Int))), (8, .int (iI (0 : Int))), (7, .int (iI z77)), (6, .int (iI z63)), (5, .int (iI z53)), (4, .int (iI z43)), (0, .ref m0), (2, .int (iI j9)), (3, .int (iI ((t + 1 : Nat) : Int)))]) hx hb dX3_walk_142 rfl hl (by decide) rfl (fun ls hl => ?_)
              refine lv_iload hx hb dX3_walk_143 (lv_at hl 2 rfl) ?_
              refine z_if_ne (tgt := 153) hx hb dX3_walk_145 (by decide) (by decide) (fun h9 => absurd h9 (by decide)) (fun _ => ?_)
              refine lv_iload hx hb dX3_walk_148 (lv_at hl 1 rfl) ?_
              refine z_if_ne (tgt := 159) hx hb dX3_walk_150 (by decide) (by decide) (fun _ => ?_) (fun h9 => absurd h9 (by decide))
              refine lv_iload_n hx hb dX3_walk_159 rfl (lv_at hl 8 rfl) ?_
              refine lv_istore_n (lv' := [(2, .int (iI j9)), (1, .int (iI (i9 - 1))), (9, .int (iI (1 : Int))), (8, .int (iI (0 : Int))), (7, .int (iI z77)), (6, .int (iI z63)), (5, .int (iI z53)), (4, .int (iI z43)), (0, .ref m0), (3, .int (iI ((t + 1 : Nat) : Int)))]) hx hb dX3_walk_160 rfl hl (by decide) rfl (fun ls hl => ?_)
              refine lv_aload_n hx hb dX3_walk_161 rfl (lv_at hl 8 rfl) ?_
              refine va_get (D := (dC, dI)) (ci := 3) (v := .ref mp) (C := RX3) (T := TX3) (N := 17) hx hb hts in_X3 hown hK hP 0 rfl rfl 11 (by decide) fl_32 (fun _ h9 => h9) rfl dX3_walk_162 ?_
              refine lv_iload_n hx hb dX3_walk_165 rfl (lv_at hl 9 rfl) ?_
              refine lv_bipush (v := iI (16 : Int)) hx hb dX3_walk_166 (by decide) ?_
              refine lv_iload_n hx hb dX3_walk_168 rfl (lv_at hl 1 rfl) ?_
              refine z_imul hx hb dX3_walk_169 ?_
              refine lv_iload_n hx hb dX3_walk_170 rfl (lv_at hl 0 rfl) ?_
              refine z_iadd hx hb dX3_walk_171 ?_
              refine z_iast hx hb hK hP hD hS 2 0 rfl rfl (t + 1) (by omega) dX3_walk_172 (fun H locs hP hD hS => ?_)
              have hP : va_P (dC, dI) vwCl [(m0, .inr (3, [.int (iI cd), .int (iI (n : Int)), .int (iI (w : Int)), .ref mq, .int (iI (rc : Int)), .ref mn, .ref ml, .int (iI (sc : Int)), .ref ms, .ref mr, .ref mg, .ref mp, .int (iI (mo : Int)), .int (iI (fo : Int)), .ref mpl, .ref mdi, .ref mc])), (mg, .inl (cI, 256, .inl (iA G))), (mp, .inl (cI, 32, .inl (iA (zU P9 (t + 1) (((16 : Int) * (i9 - 1)) + j9)))))] H := hP
              have hD : va_D A [(m0, .inr (3, [.int (iI cd), .int (iI (n : Int)), .int (iI (w : Int)), .ref mq, .int (iI (rc : Int)), .ref mn, .ref ml, .int (iI (sc : Int)), .ref ms, .ref mr, .ref mg, .ref mp, .int (iI (mo : Int)), .int (iI (fo : Int)), .ref mpl, .ref mdi, .ref mc])), (mg, .inl (cI, 256, .inl (iA G))), (mp, .inl (cI, 32, .inl (iA (zU P9 (t + 1) (((16 : Int) * (i9 - 1)) + j9)))))] := hD
              refine z_iinc (k := 9) (b := ((t + 1 + 1 : Nat) : Int)) (lv' := [(3, .int (iI ((t + 1 + 1 : Nat) : Int))), (2, .int (iI j9)), (1, .int (iI (i9 - 1))), (9, .int (iI (1 : Int))), (8, .int (iI (0 : Int))), (7, .int (iI z77)), (6, .int (iI z63)), (5, .int (iI z53)), (4, .int (iI z43)), (0, .ref m0)]) hx hb dX3_walk_173 hl rfl (by omega) (by decide) rfl (fun ls hl => ?_)
              refine lv_goto (tgt := 30) hx hb dX3_walk_176 (by decide) ?_
              exact ih_lp _ (by omega) (t + 1) (i9 - 1) j9 (zU P9 (t + 1) (16 * (i9 - 1) + (j9))) H locs ls (by have := hA2; omega) (by rw [pseq, hij]; exact pnx_2 (by omega) (by omega)) (tr_on hvq hvr hn.2 hA9 hij (by omega) (pnx_2 (by omega) (by omega))) (wk_path (by rw [pseq, hij]; exact pnx_2 (by omega) (by omega)) hpt) rfl hP hD hS (lv_sub hl [9, 2, 1, 0] rfl)
        · refine lv_iload hx hb dX3_walk_89 (lv_at hl 3 rfl) ?_
          refine z_if_lt (tgt := 98) hx hb dX3_walk_91 (by decide) (by omega) (fun h91 => ?_) (fun h91 => ?_)
          · refine lv_iconst (v := iI (0 : Int)) hx hb dX3_walk_98 (by decide) ?_
            refine lv_istore (lv' := [(8, .int (iI (0 : Int))), (7, .int (iI z77)), (6, .int (iI z63)), (5, .int (iI z53)), (4, .int (iI z43)), (0, .ref m0), (1, .int (iI i9)), (2, .int (iI j9)), (3, .int (iI ((t + 1 : Nat) : Int)))]) hx hb dX3_walk_99 hl (by decide) rfl (fun ls hl => ?_)
            refine lv_iload hx hb dX3_walk_101 (lv_at hl 0 rfl) ?_
            refine z_if_ne (tgt := 122) hx hb dX3_walk_103 (by decide) (by decide) (fun h9 => absurd h9 (by decide)) (fun _ => ?_)
            refine lv_iload hx hb dX3_walk_106 (lv_at hl 3 rfl) ?_
            refine lv_iload hx hb dX3_walk_108 (lv_at hl 1 rfl) ?_
            refine z_icmp_ne (tgt := 122) hx hb dX3_walk_110 (by decide) (by omega) (fun h110 => ?_) (fun h110 => ?_)
            · refine lv_iconst (v := iI (0 : Int)) hx hb dX3_walk_122 (by decide) ?_
              refine lv_istore (lv' := [(9, .int (iI (0 : Int))), (8, .int (iI (0 : Int))), (7, .int (iI z77)), (6, .int (iI z63)), (5, .int (iI z53)), (4, .int (iI z43)), (0, .ref m0), (1, .int (iI i9)), (2, .int (iI j9)), (3, .int (iI ((t + 1 : Nat) : Int)))]) hx hb dX3_walk_123 hl (by decide) rfl (fun ls hl => ?_)
              refine lv_iload hx hb dX3_walk_125 (lv_at hl 1 rfl) ?_
              refine z_if_ne (tgt := 135) hx hb dX3_walk_127 (by decide) (by decide) (fun h9 => absurd h9 (by decide)) (fun _ => ?_)
              refine lv_iload hx hb dX3_walk_130 (lv_at hl 0 rfl) ?_
              refine z_if_eq (tgt := 141) hx hb dX3_walk_132 (by decide) (by decide) (fun _ => ?_) (fun h9 => absurd h9 (by decide))
              refine lv_iload_n hx hb dX3_walk_141 rfl (lv_at hl 7 rfl) ?_
              refine lv_istore_n (lv' := [(1, .int (iI i9)), (9, .int (iI (0 : Int))), (8, .int (iI (0 : Int))), (7, .int (iI z77)), (6, .int (iI z63)), (5, .int (iI z53)), (4, .int (iI z43)), (0, .ref m0), (2, .int (iI j9)), (3, .int (iI ((t + 1 : Nat) : Int)))]) hx hb dX3_walk_142 rfl hl (by decide) rfl (fun ls hl => ?_)
              refine lv_iload hx hb dX3_walk_143 (lv_at hl 2 rfl) ?_
              refine z_if_ne (tgt := 153) hx hb dX3_walk_145 (by decide) (by decide) (fun h9 => absurd h9 (by decide)) (fun _ => ?_)
              refine lv_iload hx hb dX3_walk_148 (lv_at hl 1 rfl) ?_
              refine z_if_ne (tgt := 159) hx hb dX3_walk_150 (by decide) (by decide) (fun h9 => absurd h9 (by decide)) (fun _ => ?_)
              refine lv_iload_n hx hb dX3_walk_153 rfl (lv_at hl 8 rfl) ?_
              refine lv_iconst (v := iI (1 : Int)) hx hb dX3_walk_154 (by decide) ?_
              refine z_isub hx hb dX3_walk_155 ?_
              refine z_top (b := j9 - 1) (by omega) ?_
              refine lv_goto (tgt := 160) hx hb dX3_walk_156 (by decide) ?_
              refine lv_istore_n (lv' := [(2, .int (iI (j9 - 1))), (1, .int (iI i9)), (9, .int (iI (0 : Int))), (8, .int (iI (0 : Int))), (7, .int (iI z77)), (6, .int (iI z63)), (5, .int (iI z53)), (4, .int (iI z43)), (0, .ref m0), (3, .int (iI ((t + 1 : Nat) : Int)))]) hx hb dX3_walk_160 rfl hl (by decide) rfl (fun ls hl => ?_)
              refine lv_aload_n hx hb dX3_walk_161 rfl (lv_at hl 8 rfl) ?_
              refine va_get (D := (dC, dI)) (ci := 3) (v := .ref mp) (C := RX3) (T := TX3) (N := 17) hx hb hts in_X3 hown hK hP 0 rfl rfl 11 (by decide) fl_32 (fun _ h9 => h9) rfl dX3_walk_162 ?_
              refine lv_iload_n hx hb dX3_walk_165 rfl (lv_at hl 9 rfl) ?_
              refine lv_bipush (v := iI (16 : Int)) hx hb dX3_walk_166 (by decide) ?_
              refine lv_iload_n hx hb dX3_walk_168 rfl (lv_at hl 1 rfl) ?_
              refine z_imul hx hb dX3_walk_169 ?_
              refine lv_iload_n hx hb dX3_walk_170 rfl (lv_at hl 0 rfl) ?_
              refine z_iadd hx hb dX3_walk_171 ?_
              refine z_iast hx hb hK hP hD hS 2 0 rfl rfl (t + 1) (by omega) dX3_walk_172 (fun H locs hP hD hS => ?_)
              have hP : va_P (dC, dI) vwCl [(m0, .inr (3, [.int (iI cd), .int (iI (n : Int)), .int (iI (w : Int)), .ref mq, .int (iI (rc : Int)), .ref mn, .ref ml, .int (iI (sc : Int)), .ref ms, .ref mr, .ref mg, .ref mp, .int (iI (mo : Int)), .int (iI (fo : Int)), .ref mpl, .ref mdi, .ref mc])), (mg, .inl (cI, 256, .inl (iA G))), (mp, .inl (cI, 32, .inl (iA (zU P9 (t + 1) (((16 : Int) * i9) + (j9 - 1))))))] H := hP
              have hD : va_D A [(m0, .inr (3, [.int (iI cd), .int (iI (n : Int)), .int (iI (w : Int)), .ref mq, .int (iI (rc : Int)), .ref mn, .ref ml, .int (iI (sc : Int)), .ref ms, .ref mr, .ref mg, .ref mp, .int (iI (mo : Int)), .int (iI (fo : Int)), .ref mpl, .ref mdi, .ref mc])), (mg, .inl (cI, 256, .inl (iA G))), (mp, .inl (cI, 32, .inl (iA (zU P9 (t + 1) (((16 : Int) * i9) + (j9 - 1))))))] := hD
              refine z_iinc (k := 9) (b := ((t + 1 + 1 : Nat) : Int)) (lv' := [(3, .int (iI ((t + 1 + 1 : Nat) : Int))), (2, .int (iI (j9 - 1))), (1, .int (iI i9)), (9, .int (iI (0 : Int))), (8, .int (iI (0 : Int))), (7, .int (iI z77)), (6, .int (iI z63)), (5, .int (iI z53)), (4, .int (iI z43)), (0, .ref m0)]) hx hb dX3_walk_173 hl rfl (by omega) (by decide) rfl (fun ls hl => ?_)
              refine lv_goto (tgt := 30) hx hb dX3_walk_176 (by decide) ?_
              exact ih_lp _ (by omega) (t + 1) i9 (j9 - 1) (zU P9 (t + 1) (16 * (i9) + (j9 - 1))) H locs ls (by have := hA2; omega) (by rw [pseq, hij]; exact pnx_3 (by omega) (by omega)) (tr_on hvq hvr hn.2 hA9 hij (by omega) (pnx_3 (by omega) (by omega))) (wk_path (by rw [pseq, hij]; exact pnx_3 (by omega) (by omega)) hpt) rfl hP hD hS (lv_sub hl [9, 2, 1, 0] rfl)
            · refine lv_iload hx hb dX3_walk_113 (lv_at hl 3 rfl) ?_
              refine z_if_lt (tgt := 122) hx hb dX3_walk_115 (by decide) (by omega) (fun h115 => ?_) (fun h115 => ?_)
              · refine lv_iconst (v := iI (0 : Int)) hx hb dX3_walk_122 (by decide) ?_
                refine lv_istore (lv' := [(9, .int (iI (0 : Int))), (8, .int (iI (0 : Int))), (7, .int (iI z77)), (6, .int (iI z63)), (5, .int (iI z53)), (4, .int (iI z43)), (0, .ref m0), (1, .int (iI i9)), (2, .int (iI j9)), (3, .int (iI ((t + 1 : Nat) : Int)))]) hx hb dX3_walk_123 hl (by decide) rfl (fun ls hl => ?_)
                refine lv_iload hx hb dX3_walk_125 (lv_at hl 1 rfl) ?_
                refine z_if_ne (tgt := 135) hx hb dX3_walk_127 (by decide) (by decide) (fun h9 => absurd h9 (by decide)) (fun _ => ?_)
                refine lv_iload hx hb dX3_walk_130 (lv_at hl 0 rfl) ?_
                refine z_if_eq (tgt := 141) hx hb dX3_walk_132 (by decide) (by decide) (fun _ => ?_) (fun h9 => absurd h9 (by decide))
                refine lv_iload_n hx hb dX3_walk_141 rfl (lv_at hl 7 rfl) ?_
                refine lv_istore_n (lv' := [(1, .int (iI i9)), (9, .int (iI (0 : Int))), (8, .int (iI (0 : Int))), (7, .int (iI z77)), (6, .int (iI z63)), (5, .int (iI z53)), (4, .int (iI z43)), (0, .ref m0), (2, .int (iI j9)), (3, .int (iI ((t + 1 : Nat) : Int)))]) hx hb dX3_walk_142 rfl hl (by decide) rfl (fun ls hl => ?_)
                refine lv_iload hx hb dX3_walk_143 (lv_at hl 2 rfl) ?_
                refine z_if_ne (tgt := 153) hx hb dX3_walk_145 (by decide) (by decide) (fun h9 => absurd h9 (by decide)) (fun _ => ?_)
                refine lv_iload hx hb dX3_walk_148 (lv_at hl 1 rfl) ?_
                refine z_if_ne (tgt := 159) hx hb dX3_walk_150 (by decide) (by decide) (fun h9 => absurd h9 (by decide)) (fun _ => ?_)
                refine lv_iload_n hx hb dX3_walk_153 rfl (lv_at hl 8 rfl) ?_
                refine lv_iconst (v := iI (1 : Int)) hx hb dX3_walk_154 (by decide) ?_
                refine z_isub hx hb dX3_walk_155 ?_
                refine z_top (b := j9 - 1) (by omega) ?_
                refine lv_goto (tgt := 160) hx hb dX3_walk_156 (by decide) ?_
                refine lv_istore_n (lv' := [(2, .int (iI (j9 - 1))), (1, .int (iI i9)), (9, .int (iI (0 : Int))), (8, .int (iI (0 : Int))), (7, .int (iI z77)), (6, .int (iI z63)), (5, .int (iI z53)), (4, .int (iI z43)), (0, .ref m0), (3, .int (iI ((t + 1 : Nat) : Int)))]) hx hb dX3_walk_160 rfl hl (by decide) rfl (fun ls hl => ?_)
                refine lv_aload_n hx hb dX3_walk_161 rfl (lv_at hl 8 rfl) ?_
                refine va_get (D := (dC, dI)) (ci := 3) (v := .ref mp) (C := RX3) (T := TX3) (N := 17) hx hb hts in_X3 hown hK hP 0 rfl rfl 11 (by decide) fl_32 (fun _ h9 => h9) rfl dX3_walk_162 ?_
                refine lv_iload_n hx hb dX3_walk_165 rfl (lv_at hl 9 rfl) ?_
                refine lv_bipush (v := iI (16 : Int)) hx hb dX3_walk_166 (by decide) ?_
                refine lv_iload_n hx hb dX3_walk_168 rfl (lv_at hl 1 rfl) ?_
                refine z_imul hx hb dX3_walk_169 ?_
                refine lv_iload_n hx hb dX3_walk_170 rfl (lv_at hl 0 rfl) ?_
                refine z_iadd hx hb dX3_walk_171 ?_
                refine z_iast hx hb hK hP hD hS 2 0 rfl rfl (t + 1) (by omega) dX3_walk_172 (fun H locs hP hD hS => ?_)
                have hP : va_P (dC, dI) vwCl [(m0, .inr (3, [.int (iI cd), .int (iI (n : Int)), .int (iI (w : Int)), .ref mq, .int (iI (rc : Int)), .ref mn, .ref ml, .int (iI (sc : Int)), .ref ms, .ref mr, .ref mg, .ref mp, .int (iI (mo : Int)), .int (iI (fo : Int)), .ref mpl, .ref mdi, .ref mc])), (mg, .inl (cI, 256, .inl (iA G))), (mp, .inl (cI, 32, .inl (iA (zU P9 (t + 1) (((16 : Int) * i9) + (j9 - 1))))))] H := hP
                have hD : va_D A [(m0, .inr (3, [.int (iI cd), .int (iI (n : Int)), .int (iI (w : Int)), .ref mq, .int (iI (rc : Int)), .ref mn, .ref ml, .int (iI (sc : Int)), .ref ms, .ref mr, .ref mg, .ref mp, .int (iI (mo : Int)), .int (iI (fo : Int)), .ref mpl, .ref mdi, .ref mc])), (mg, .inl (cI, 256, .inl (iA G))), (mp, .inl (cI, 32, .inl (iA (zU P9 (t + 1) (((16 : Int) * i9) + (j9 - 1))))))] := hD
                refine z_iinc (k := 9) (b := ((t + 1 + 1 : Nat) : Int)) (lv' := [(3, .int (iI ((t + 1 + 1 : Nat) : Int))), (2, .int (iI (j9 - 1))), (1, .int (iI i9)), (9, .int (iI (0 : Int))), (8, .int (iI (0 : Int))), (7, .int (iI z77)), (6, .int (iI z63)), (5, .int (iI z53)), (4, .int (iI z43)), (0, .ref m0)]) hx hb dX3_walk_173 hl rfl (by omega) (by decide) rfl (fun ls hl => ?_)
                refine lv_goto (tgt := 30) hx hb dX3_walk_176 (by decide) ?_
                exact ih_lp _ (by omega) (t + 1) i9 (j9 - 1) (zU P9 (t + 1) (16 * (i9) + (j9 - 1))) H locs ls (by have := hA2; omega) (by rw [pseq, hij]; exact pnx_3 (by omega) (by omega)) (tr_on hvq hvr hn.2 hA9 hij (by omega) (pnx_3 (by omega) (by omega))) (wk_path (by rw [pseq, hij]; exact pnx_3 (by omega) (by omega)) hpt) rfl hP hD hS (lv_sub hl [9, 2, 1, 0] rfl)
              · refine lv_iconst (v := iI (1 : Int)) hx hb dX3_walk_118 (by decide) ?_
                refine lv_goto (tgt := 123) hx hb dX3_walk_119 (by decide) ?_
                refine lv_istore (lv' := [(9, .int (iI (1 : Int))), (8, .int (iI (0 : Int))), (7, .int (iI z77)), (6, .int (iI z63)), (5, .int (iI z53)), (4, .int (iI z43)), (0, .ref m0), (1, .int (iI i9)), (2, .int (iI j9)), (3, .int (iI ((t + 1 : Nat) : Int)))]) hx hb dX3_walk_123 hl (by decide) rfl (fun ls hl => ?_)
                refine lv_iload hx hb dX3_walk_125 (lv_at hl 1 rfl) ?_
                refine z_if_ne (tgt := 135) hx hb dX3_walk_127 (by decide) (by decide) (fun h9 => absurd h9 (by decide)) (fun _ => ?_)
                refine lv_iload hx hb dX3_walk_130 (lv_at hl 0 rfl) ?_
                refine z_if_eq (tgt := 141) hx hb dX3_walk_132 (by decide) (by decide) (fun h9 => absurd h9 (by decide)) (fun _ => ?_)
                refine lv_iload_n hx hb dX3_walk_135 rfl (lv_at hl 7 rfl) ?_
                refine lv_iconst (v := iI (1 : Int)) hx hb dX3_walk_136 (by decide) ?_
                refine z_isub hx hb dX3_walk_137 ?_
                refine z_top (b := i9 - 1) (by omega) ?_
                refine lv_goto (tgt := 142) hx hb dX3_walk_138 (by decide) ?_
                refine lv_istore_n (lv' := [(1, .int (iI (i9 - 1))), (9, .int (iI (1 : Int))), (8, .int (iI (0 : Int))), (7, .int (iI z77)), (6, .int (iI z63)), (5, .int (iI z53)), (4, .int (iI z43)), (0, .ref m0), (2, .int (iI j9)), (3, .int (iI ((t + 1 : Nat) : Int)))]) hx hb dX3_walk_142 rfl hl (by decide) rfl (fun ls hl => ?_)
                refine lv_iload hx hb dX3_walk_143 (lv_at hl 2 rfl) ?_
                refine z_if_ne (tgt := 153) hx hb dX3_walk_145 (by decide) (by decide) (fun h9 => absurd h9 (by decide)) (fun _ => ?_)
                refine lv_iload hx hb dX3_walk_148 (lv_at hl 1 rfl) ?_
                refine z_if_ne (tgt := 159) hx hb dX3_walk_150 (by decide) (by decide) (fun _ => ?_) (fun h9 => absurd h9 (by decide))
                refine lv_iload_n hx hb dX3_walk_159 rfl (lv_at hl 8 rfl) ?_
                refine lv_istore_n (lv' := [(2, .int (iI j9)), (1, .int (iI (i9 - 1))), (9, .int (iI (1 : Int))), (8, .int (iI (0 : Int))), (7, .int (iI z77)), (6, .int (iI z63)), (5, .int (iI z53)), (4, .int (iI z43)), (0, .ref m0), (3, .int (iI ((t + 1 : Nat) : Int)))]) hx hb dX3_walk_160 rfl hl (by decide) rfl (fun ls hl => ?_)
                refine lv_aload_n hx hb dX3_walk_161 rfl (lv_at hl 8 rfl) ?_
                refine va_get (D := (dC, dI)) (ci := 3) (v := .ref mp) (C := RX3) (T := TX3) (N := 17) hx hb hts in_X3 hown hK hP 0 rfl rfl 11 (by decide) fl_32 (fun _ h9 => h9) rfl dX3_walk_162 ?_
                refine lv_iload_n hx hb dX3_walk_165 rfl (lv_at hl 9 rfl) ?_
                refine lv_bipush (v := iI (16 : Int)) hx hb dX3_walk_166 (by decide) ?_
                refine lv_iload_n hx hb dX3_walk_168 rfl (lv_at hl 1 rfl) ?_
                refine z_imul hx hb dX3_walk_169 ?_
                refine lv_iload_n hx hb dX3_walk_170 rfl (lv_at hl 0 rfl) ?_
                refine z_iadd hx hb dX3_walk_171 ?_
                refine z_iast hx hb hK hP hD hS 2 0 rfl rfl (t + 1) (by omega) dX3_walk_172 (fun H locs hP hD hS => ?_)
                have hP : va_P (dC, dI) vwCl [(m0, .inr (3, [.int (iI cd), .int (iI (n : Int)), .int (iI (w : Int)), .ref mq, .int (iI (rc : Int)), .ref mn, .ref ml, .int (iI (sc : Int)), .ref ms, .ref mr, .ref mg, .ref mp, .int (iI (mo : Int)), .int (iI (fo : Int)), .ref mpl, .ref mdi, .ref mc])), (mg, .inl (cI, 256, .inl (iA G))), (mp, .inl (cI, 32, .inl (iA (zU P9 (t + 1) (((16 : Int) * (i9 - 1)) + j9)))))] H := hP
                have hD : va_D A [(m0, .inr (3, [.int (iI cd), .int (iI (n : Int)), .int (iI (w : Int)), .ref mq, .int (iI (rc : Int)), .ref mn, .ref ml, .int (iI (sc : Int)), .ref ms, .ref mr, .ref mg, .ref mp, .int (iI (mo : Int)), .int (iI (fo : Int)), .ref mpl, .ref mdi, .ref mc])), (mg, .inl (cI, 256, .inl (iA G))), (mp, .inl (cI, 32, .inl (iA (zU P9 (t + 1) (((16 : Int) * (i9 - 1)) + j9)))))] := hD
                refine z_iinc (k := 9) (b := ((t + 1 + 1 : Nat) : Int)) (lv' := [(3, .int (iI ((t + 1 + 1 : Nat) : Int))), (2, .int (iI j9)), (1, .int (iI (i9 - 1))), (9, .int (iI (1 : Int))), (8, .int (iI (0 : Int))), (7, .int (iI z77)), (6, .int (iI z63)), (5, .int (iI z53)), (4, .int (iI z43)), (0, .ref m0)]) hx hb dX3_walk_173 hl rfl (by omega) (by decide) rfl (fun ls hl => ?_)
                refine lv_goto (tgt := 30) hx hb dX3_walk_176 (by decide) ?_
                exact ih_lp _ (by omega) (t + 1) (i9 - 1) j9 (zU P9 (t + 1) (16 * (i9 - 1) + (j9))) H locs ls (by have := hA2; omega) (by rw [pseq, hij]; exact pnx_2 (by omega) (by omega)) (tr_on hvq hvr hn.2 hA9 hij (by omega) (pnx_2 (by omega) (by omega))) (wk_path (by rw [pseq, hij]; exact pnx_2 (by omega) (by omega)) hpt) rfl hP hD hS (lv_sub hl [9, 2, 1, 0] rfl)
          · refine lv_iconst (v := iI (1 : Int)) hx hb dX3_walk_94 (by decide) ?_
            refine lv_goto (tgt := 99) hx hb dX3_walk_95 (by decide) ?_
            refine lv_istore (lv' := [(8, .int (iI (1 : Int))), (7, .int (iI z77)), (6, .int (iI z63)), (5, .int (iI z53)), (4, .int (iI z43)), (0, .ref m0), (1, .int (iI i9)), (2, .int (iI j9)), (3, .int (iI ((t + 1 : Nat) : Int)))]) hx hb dX3_walk_99 hl (by decide) rfl (fun ls hl => ?_)
            refine lv_iload hx hb dX3_walk_101 (lv_at hl 0 rfl) ?_
            refine z_if_ne (tgt := 122) hx hb dX3_walk_103 (by decide) (by decide) (fun _ => ?_) (fun h9 => absurd h9 (by decide))
            refine lv_iconst (v := iI (0 : Int)) hx hb dX3_walk_122 (by decide) ?_
            refine lv_istore (lv' := [(9, .int (iI (0 : Int))), (8, .int (iI (1 : Int))), (7, .int (iI z77)), (6, .int (iI z63)), (5, .int (iI z53)), (4, .int (iI z43)), (0, .ref m0), (1, .int (iI i9)), (2, .int (iI j9)), (3, .int (iI ((t + 1 : Nat) : Int)))]) hx hb dX3_walk_123 hl (by decide) rfl (fun ls hl => ?_)
            refine lv_iload hx hb dX3_walk_125 (lv_at hl 1 rfl) ?_
            refine z_if_ne (tgt := 135) hx hb dX3_walk_127 (by decide) (by decide) (fun _ => ?_) (fun h9 => absurd h9 (by decide))
            refine lv_iload_n hx hb dX3_walk_135 rfl (lv_at hl 7 rfl) ?_
            refine lv_iconst (v := iI (1 : Int)) hx hb dX3_walk_136 (by decide) ?_
            refine z_isub hx hb dX3_walk_137 ?_
            refine z_top (b := i9 - 1) (by omega) ?_
            refine lv_goto (tgt := 142) hx hb dX3_walk_138 (by decide) ?_
            refine lv_istore_n (lv' := [(1, .int (iI (i9 - 1))), (9, .int (iI (0 : Int))), (8, .int (iI (1 : Int))), (7, .int (iI z77)), (6, .int (iI z63)), (5, .int (iI z53)), (4, .int (iI z43)), (0, .ref m0), (2, .int (iI j9)), (3, .int (iI ((t + 1 : Nat) : Int)))]) hx hb dX3_walk_142 rfl hl (by decide) rfl (fun ls hl => ?_)
            refine lv_iload hx hb dX3_walk_143 (lv_at hl 2 rfl) ?_
            refine z_if_ne (tgt := 153) hx hb dX3_walk_145 (by decide) (by decide) (fun _ => ?_) (fun h9 => absurd h9 (by decide))
            refine lv_iload_n hx hb dX3_walk_153 rfl (lv_at hl 8 rfl) ?_
            refine lv_iconst (v := iI (1 : Int)) hx hb dX3_walk_154 (by decide) ?_
            refine z_isub hx hb dX3_walk_155 ?_
            refine z_top (b := j9 - 1) (by omega) ?_
            refine lv_goto (tgt := 160) hx hb dX3_walk_156 (by decide) ?_
            refine lv_istore_n (lv' := [(2, .int (iI (j9 - 1))), (1, .int (iI (i9 - 1))), (9, .int (iI (0 : Int))), (8, .int (iI (1 : Int))), (7, .int (iI z77)), (6, .int (iI z63)), (5, .int (iI z53)), (4, .int (iI z43)), (0, .ref m0), (3, .int (iI ((t + 1 : Nat) : Int)))]) hx hb dX3_walk_160 rfl hl (by decide) rfl (fun ls hl => ?_)
            refine lv_aload_n hx hb dX3_walk_161 rfl (lv_at hl 8 rfl) ?_
            refine va_get (D := (dC, dI)) (ci := 3) (v := .ref mp) (C := RX3) (T := TX3) (N := 17) hx hb hts in_X3 hown hK hP 0 rfl rfl 11 (by decide) fl_32 (fun _ h9 => h9) rfl dX3_walk_162 ?_
            refine lv_iload_n hx hb dX3_walk_165 rfl (lv_at hl 9 rfl) ?_
            refine lv_bipush (v := iI (16 : Int)) hx hb dX3_walk_166 (by decide) ?_
            refine lv_iload_n hx hb dX3_walk_168 rfl (lv_at hl 1 rfl) ?_
            refine z_imul hx hb dX3_walk_169 ?_
            refine lv_iload_n hx hb dX3_walk_170 rfl (lv_at hl 0 rfl) ?_
            refine z_iadd hx hb dX3_walk_171 ?_
            refine z_iast hx hb hK hP hD hS 2 0 rfl rfl (t + 1) (by omega) dX3_walk_172 (fun H locs hP hD hS => ?_)
            have hP : va_P (dC, dI) vwCl [(m0, .inr (3, [.int (iI cd), .int (iI (n : Int)), .int (iI (w : Int)), .ref mq, .int (iI (rc : Int)), .ref mn, .ref ml, .int (iI (sc : Int)), .ref ms, .ref mr, .ref mg, .ref mp, .int (iI (mo : Int)), .int (iI (fo : Int)), .ref mpl, .ref mdi, .ref mc])), (mg, .inl (cI, 256, .inl (iA G))), (mp, .inl (cI, 32, .inl (iA (zU P9 (t + 1) (((16 : Int) * (i9 - 1)) + (j9 - 1))))))] H := hP
            have hD : va_D A [(m0, .inr (3, [.int (iI cd), .int (iI (n : Int)), .int (iI (w : Int)), .ref mq, .int (iI (rc : Int)), .ref mn, .ref ml, .int (iI (sc : Int)), .ref ms, .ref mr, .ref mg, .ref mp, .int (iI (mo : Int)), .int (iI (fo : Int)), .ref mpl, .ref mdi, .ref mc])), (mg, .inl (cI, 256, .inl (iA G))), (mp, .inl (cI, 32, .inl (iA (zU P9 (t + 1) (((16 : Int) * (i9 - 1)) + (j9 - 1))))))] := hD
            refine z_iinc (k := 9) (b := ((t + 1 + 1 : Nat) : Int)) (lv' := [(3, .int (iI ((t + 1 + 1 : Nat) : Int))), (2, .int (iI (j9 - 1))), (1, .int (iI (i9 - 1))), (9, .int (iI (0 : Int))), (8, .int (iI (1 : Int))), (7, .int (iI z77)), (6, .int (iI z63)), (5, .int (iI z53)), (4, .int (iI z43)), (0, .ref m0)]) hx hb dX3_walk_173 hl rfl (by omega) (by decide) rfl (fun ls hl => ?_)
            refine lv_goto (tgt := 30) hx hb dX3_walk_176 (by decide) ?_
            exact ih_lp _ (by omega) (t + 1) (i9 - 1) (j9 - 1) (zU P9 (t + 1) (16 * (i9 - 1) + (j9 - 1))) H locs ls (by have := hA2; omega) (by rw [pseq, hij]; exact pnx_1 (by omega) (by omega)) (tr_on hvq hvr hn.2 hA9 hij (by omega) (pnx_1 (by omega) (by omega))) (wk_path (by rw [pseq, hij]; exact pnx_1 (by omega) (by omega)) hpt) rfl hP hD hS (lv_sub hl [9, 2, 1, 0] rfl)
  exact lp _ 0 ((n : Int) - 1) ((n : Int) - 1) (zU P 0 (16 * ((n : Int) - 1) + ((n : Int) - 1))) _ _ ls (by omega) (rfl) (tr_start (by omega)) (fun u h => by have e9 : u = 0 := (by omega); subst e9; rw [zU_s]; rfl) rfl hP hD hS (lv_sub hl [3, 2, 1, 0] rfl)
