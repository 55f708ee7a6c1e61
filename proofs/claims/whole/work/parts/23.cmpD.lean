theorem tr_path {w n : Nat} {q r : Nat → Int} {t : Nat} {i j : Int} {P9 : Nat → Int} (hij : pseq w n q r t = (i, j)) (hpt : ∀ u, u < t → P9 (30 - u) = 16 * (pseq w n q r u).1 + (pseq w n q r u).2) (ht : t < 31) : ∀ u, u < t + 1 → zU P9 (30 - t) (16 * i + j) (30 - u) = 16 * (pseq w n q r u).1 + (pseq w n q r u).2 := by
  intro u hu
  by_cases g : u = t
  · subst g
    rw [zU_s, hij]
  · rw [zU_n (by omega)]
    exact hpt u (by omega)
set_option maxRecDepth 100000 in
set_option maxHeartbeats 4000000 in
theorem c_tracePath (l : Launch) (dC : Nat → ClassId) (dI : Nat → Nat → Nat) (cI : ClassId) (h0 aq ar ac ap : Nat) (ps : Int) (n w : Nat) (q r G P : Nat → Int) (sz : Nat) (hn : 2 ≤ n ∧ n ≤ 16) (hw : w ≤ 15) (hvq : vals n q) (hvr : vals n r) (hG : rgA G) : Met l yX0_tracePath wsX0_tracePath ({ frames := 4, cells := 0, slots := 0, locals := 93 }) (wrP dC dI [(cI, .int)] [(h0, .inr (0, [.ref aq, .ref ar, .ref ac, .ref ap, .int (iI ps), .int (iI (n : Int)), .int (iI (w : Int))])), (aq, .inl (cI, 16, .inl (iA q))), (ar, .inl (cI, 16, .inl (iA r))), (ac, .inl (cI, 256, .inl (iA G))), (ap, .inl (cI, 31, .inl (iA P)))] sz [.ref h0]) (wrQi dC dI [(cI, .int)] [(h0, .inr (0, [.ref aq, .ref ar, .ref ac, .ref ap, .int (iI ps), .int (iI (n : Int)), .int (iI (w : Int))])), (aq, .inl (cI, 16, .inl (iA q))), (ar, .inl (cI, 16, .inl (iA r))), (ac, .inl (cI, 256, .inl (iA G))), (ap, .inl (cI, 31, .inl (iA P)))] sz (S := (Nat × (Nat → Int) × (Nat → Int))) (fun z u => rgA u.2.1 ∧ z = (u.1 : Int) ∧ isMany w n q r u.1 ∧ u.1 ≤ 31 ∧ ∀ v, v < u.1 → u.2.2 (30 - v) = 16 * (pseq w n q r v).1 + (pseq w n q r v).2) (fun u => [(h0, .inr (0, [.ref aq, .ref ar, .ref ac, .ref ap, .int (iI (31 - (u.1 : Int))), .int (iI (n : Int)), .int (iI (w : Int))])), (aq, .inl (cI, 16, .inl (iA q))), (ar, .inl (cI, 16, .inl (iA r))), (ac, .inl (cI, 256, .inl (iA u.2.1))), (ap, .inl (cI, 31, .inl (iA u.2.2)))])) 0 0 (va_A [(h0, .inr (0, [.ref aq, .ref ar, .ref ac, .ref ap, .int (iI ps), .int (iI (n : Int)), .int (iI (w : Int))])), (aq, .inl (cI, 16, .inl (iA q))), (ar, .inl (cI, 16, .inl (iA r))), (ac, .inl (cI, 256, .inl (iA G))), (ap, .inl (cI, 31, .inl (iA P)))] sz) := by
  refine Met.ofW (cc := cX0_tracePath) (maxL := 9) (ret := (some .int)) (by decide) rfl ?_
  intro p e s m args below meth c s₁ B hml hv
  obtain ⟨rfl, hsz, hP, hK, hD0⟩ := hv
  have hx := B.exec
  have hb := B.bytes
  have hr := B.returns
  have hts : ∀ w ∈ wsX0_tracePath, w.before _ s = true := atoms_spec (ws := wsX0_tracePath) B.pre
  have hown : s.vm.findClass RX0 = some m.cls := findClass_of_methodNamed B.named
  have hlocks := B.notSynchronized
  subst hsz
  have hD := hD0.self (sz := s.heap.size)
  have hA : ∀ q9 : Nat, s.heap.size ≤ q9 → va_A [(h0, .inr (0, [.ref aq, .ref ar, .ref ac, .ref ap, .int (iI ps), .int (iI (n : Int)), .int (iI (w : Int))])), (aq, .inl (cI, 16, .inl (iA q))), (ar, .inl (cI, 16, .inl (iA r))), (ac, .inl (cI, 256, .inl (iA G))), (ap, .inl (cI, 31, .inl (iA P)))] s.heap.size q9 := fun q9 h => Or.inr h
  have hS : va_S (va_A [(h0, .inr (0, [.ref aq, .ref ar, .ref ac, .ref ap, .int (iI ps), .int (iI (n : Int)), .int (iI (w : Int))])), (aq, .inl (cI, 16, .inl (iA q))), (ar, .inl (cI, 16, .inl (iA r))), (ac, .inl (cI, 256, .inl (iA G))), (ap, .inl (cI, 31, .inl (iA P)))] s.heap.size) s.heap s.heap [] := va_S.rf
  generalize hAe : va_A [(h0, .inr (0, [.ref aq, .ref ar, .ref ac, .ref ap, .int (iI ps), .int (iI (n : Int)), .int (iI (w : Int))])), (aq, .inl (cI, 16, .inl (iA q))), (ar, .inl (cI, 16, .inl (iA r))), (ac, .inl (cI, 256, .inl (iA G))), (ap, .inl (cI, 31, .inl (iA P)))] s.heap.size = A at hD hA hS
  have hP : va_P (dC, dI) vwCl [(h0, .inr (0, [.ref aq, .ref ar, .ref ac, .ref ap, .int (iI ps), .int (iI (n : Int)), .int (iI (w : Int))])), (aq, .inl (cI, 16, .inl (iA q))), (ar, .inl (cI, 16, .inl (iA r))), (ac, .inl (cI, 256, .inl (iA G))), (ap, .inl (cI, 31, .inl (iA P)))] s.heap := hP
  have hl := lv_entry ([.ref h0]) (n := 9) (Nat.le_of_ble_eq_true rfl)
  rw [lg_entry_eq]
  generalize (lg_sl ([.ref h0]) ++ List.replicate (9 - (lg_sl ([.ref h0])).length) Slot.unset).toArray = ls at hl ⊢
  have hl : lv_has ls 9 [(0, .ref h0)] := hl
  generalize hargs : ([.ref h0] : List Value).toArray = args at hts ⊢
  refine z_intro (fun R Q hR hQ => ?_)
  have hRf : R.frames = 4 := by rw [hR]; rfl
  have hRl : R.locals = 93 := by rw [hR]; rfl
  have hRc : R.cells = 0 := by rw [hR]; rfl
  have hRs : R.slots = 0 := by rw [hR]; rfl
  have in_X0 : ∀ w ∈ u_ws RX0 TX0 7, w ∈ wsX0_tracePath := fun w h => List.mem_cons_of_mem _ (inW_X0 w h)
  have fl_21 := wa_hts hts wd_58
  have fl_24 := wa_hts hts wd_59
  have fl_28 := wa_hts hts wd_60
  clear hR hargs B
  refine lv_aload_n hx hb dX0_tracePath_0 rfl (lv_at hl 0 rfl) ?_
  refine lv_iconst (v := iI (-1 : Int)) hx hb dX0_tracePath_1 (by decide) ?_
  refine zw_i (wr := [(ap, .inl (cI, 31, .inl (iA P)))]) (va_runV (As := [.int (iI (-1 : Int))]) (rest := []) ⟨hx, hb, hml, hown, hts⟩ (c_leastCost l dC dI cI h0 aq ar ac ap ps n w (-1) q r G _ hn hw hvq hvr (by omega) hG) (cwV 1 hts (ga_V wd_377 wd_314 wd_315 wd_29 wd_316) rfl rfl rfl (by decide +kernel) ⟨(show 3 + 1 ≤ R.frames by omega), (show 8 + (4 + 11) + 70 ≤ R.locals by omega)⟩) (wr_preV (q0 := 0) (ci := 0) hP hK hD [0, 1, 2, 3] (by decide) rfl rfl rfl rfl) rfl rfl hl.1 rfl (lv_room (Nat.le_of_ble_eq_true rfl)) dX0_tracePath_2 ⟨by omega, by omega⟩) hP hD hS hA [0, 1, 2, 3] [4] rfl rfl (by decide) (by decide) (fun z2 u2 H locs hw2 hP hD hS => ?_)
  have hP := hP.sub (ws' := [(h0, .inr (0, [.ref aq, .ref ar, .ref ac, .ref ap, .int (iI ps), .int (iI (n : Int)), .int (iI (w : Int))])), (aq, .inl (cI, 16, .inl (iA q))), (ar, .inl (cI, 16, .inl (iA r))), (ac, .inl (cI, 256, .inl (iA u2))), (ap, .inl (cI, 31, .inl (iA P)))]) [1, 2, 3, 4, 0] rfl
  have hD := hD.sub (ws' := [(h0, .inr (0, [.ref aq, .ref ar, .ref ac, .ref ap, .int (iI ps), .int (iI (n : Int)), .int (iI (w : Int))])), (aq, .inl (cI, 16, .inl (iA q))), (ar, .inl (cI, 16, .inl (iA r))), (ac, .inl (cI, 256, .inl (iA u2))), (ap, .inl (cI, 31, .inl (iA P)))]) [1, 2, 3, 4, 0] (by decide) rfl
  have hfull : ∀ a b, a < n → b < n → inb w a b → u2 (16 * a + b) = cst w q r a b := by
    rcases hw2.2 with h9 | h9
    · exact absurd rfl h9.2.1
    · exact h9.2.2
  refine lv_pop hx hb dX0_tracePath_5 rfl ?_
  refine lv_aload_n hx hb dX0_tracePath_6 rfl (lv_at hl 0 rfl) ?_
  refine va_get (D := (dC, dI)) (ci := 0) (v := .int (iI (n : Int))) (C := RX0) (T := TX0) (N := 7) hx hb hts in_X0 hown hK hP 0 rfl rfl 5 (by decide) fl_28 (fun _ h9 => h9) rfl dX0_tracePath_7 ?_
  refine lv_iconst (v := iI (1 : Int)) hx hb dX0_tracePath_10 (by decide) ?_
  refine z_isub hx hb dX0_tracePath_11 ?_
  refine lv_istore_n (lv' := [(1, .int (iI ((n : Int) - (1 : Int)))), (0, .ref h0)]) hx hb dX0_tracePath_12 rfl hl (by decide) rfl (fun ls hl => ?_)
  refine lv_aload_n hx hb dX0_tracePath_13 rfl (lv_at hl 1 rfl) ?_
  refine va_get (D := (dC, dI)) (ci := 0) (v := .int (iI (n : Int))) (C := RX0) (T := TX0) (N := 7) hx hb hts in_X0 hown hK hP 0 rfl rfl 5 (by decide) fl_28 (fun _ h9 => h9) rfl dX0_tracePath_14 ?_
  refine lv_iconst (v := iI (1 : Int)) hx hb dX0_tracePath_17 (by decide) ?_
  refine z_isub hx hb dX0_tracePath_18 ?_
  refine lv_istore_n (lv' := [(2, .int (iI ((n : Int) - (1 : Int)))), (1, .int (iI ((n : Int) - (1 : Int)))), (0, .ref h0)]) hx hb dX0_tracePath_19 rfl hl (by decide) rfl (fun ls hl => ?_)
  refine lv_aload_n hx hb dX0_tracePath_20 rfl (lv_at hl 2 rfl) ?_
  refine lv_bipush (v := iI (31 : Int)) hx hb dX0_tracePath_21 (by decide) ?_
  refine va_put (D := (dC, dI)) (ci := 0) (v := .int (iI (31 : Int))) (ty := .int) (C := RX0) (T := TX0) (N := 7) hx hb hts in_X0 tyX0 tyX0_ok nmX0 hown hK hP hD hS 0 rfl rfl 4 (by decide) fl_24 (fun _ h9 => h9) rfl (by decide +kernel) rfl rfl (Nat.le_of_ble_eq_true rfl) dX0_tracePath_23 (fun H locs hP hD hS => ?_)
  have hP : va_P (dC, dI) vwCl [(h0, .inr (0, [.ref aq, .ref ar, .ref ac, .ref ap, .int (iI (31 : Int)), .int (iI (n : Int)), .int (iI (w : Int))])), (aq, .inl (cI, 16, .inl (iA q))), (ar, .inl (cI, 16, .inl (iA r))), (ac, .inl (cI, 256, .inl (iA u2))), (ap, .inl (cI, 31, .inl (iA P)))] H := hP
  have hD : va_D A [(h0, .inr (0, [.ref aq, .ref ar, .ref ac, .ref ap, .int (iI (31 : Int)), .int (iI (n : Int)), .int (iI (w : Int))])), (aq, .inl (cI, 16, .inl (iA q))), (ar, .inl (cI, 16, .inl (iA r))), (ac, .inl (cI, 256, .inl (iA u2))), (ap, .inl (cI, 31, .inl (iA P)))] := hD
  have lp : ∀ (k9 : Nat) (t : Nat) (i9 j9 : Int) (P9 : Nat → Int) (H : Heap) (locs : List Loc) (ls : Array Slot), (t ≤ 31) → (pseq w n q r t = (i9, j9)) → (trS w n q r t i9 j9) → (∀ u, u < t → P9 (30 - u) = 16 * (pseq w n q r u).1 + (pseq w n q r u).2) → 31 - t = k9 → va_P (dC, dI) vwCl [(h0, .inr (0, [.ref aq, .ref ar, .ref ac, .ref ap, .int (iI (31 - (t : Int))), .int (iI (n : Int)), .int (iI (w : Int))])), (aq, .inl (cI, 16, .inl (iA q))), (ar, .inl (cI, 16, .inl (iA r))), (ac, .inl (cI, 256, .inl (iA u2))), (ap, .inl (cI, 31, .inl (iA P9)))] H → va_D A [(h0, .inr (0, [.ref aq, .ref ar, .ref ac, .ref ap, .int (iI (31 - (t : Int))), .int (iI (n : Int)), .int (iI (w : Int))])), (aq, .inl (cI, 16, .inl (iA q))), (ar, .inl (cI, 16, .inl (iA r))), (ac, .inl (cI, 256, .inl (iA u2))), (ap, .inl (cI, 31, .inl (iA P9)))] → va_S A s.heap H locs → lv_has ls 9 [(0, .ref h0), (1, .int (iI i9)), (2, .int (iI j9))] → W p l e R s m args below meth c H locs 0 0 Q (F0 m 26 ls []) := by
    intro k9
    induction k9 using Nat.strongRecOn with
    | ind k9 ih_lp =>
      intro t i9 j9 P9 H locs ls ht hij hst hpt hk9 hP hD hS hl
      have rng : -1 ≤ i9 ∧ i9 ≤ 15 ∧ -1 ≤ j9 ∧ j9 ≤ 15 := by
        rcases hst with h9 | h9
        · obtain ⟨h91, h92, h93, h94, h95, h96, h97, h98⟩ := h9
          omega
        · obtain ⟨h91, h92, h93⟩ := h9
          omega
      refine lv_aload_n hx hb dX0_tracePath_26 rfl (lv_at hl 0 rfl) ?_
      refine va_get (D := (dC, dI)) (ci := 0) (v := .int (iI (31 - (t : Int)))) (C := RX0) (T := TX0) (N := 7) hx hb hts in_X0 hown hK hP 0 rfl rfl 4 (by decide) fl_24 (fun _ h9 => h9) rfl dX0_tracePath_27 ?_
      refine z_if_le (tgt := 181) hx hb dX0_tracePath_30 (by decide) (by omega) (fun h30 => ?_) (fun h30 => ?_)
      · have hneg : i9 < 0 ∨ j9 < 0 := by
          rcases hst with h9 | h9
          · obtain ⟨h91, h92, h93, h94, h95, h96, h97, h98⟩ := h9
            omega
          · exact Or.inl (by omega)
        refine lv_bipush (v := iI (31 : Int)) hx hb dX0_tracePath_181 (by decide) ?_
        refine lv_aload_n hx hb dX0_tracePath_183 rfl (lv_at hl 0 rfl) ?_
        refine va_get (D := (dC, dI)) (ci := 0) (v := .int (iI (31 - (t : Int)))) (C := RX0) (T := TX0) (N := 7) hx hb hts in_X0 hown hK hP 0 rfl rfl 4 (by decide) fl_24 (fun _ h9 => h9) rfl dX0_tracePath_184 ?_
        refine z_isub hx hb dX0_tracePath_187 ?_
        subst hAe
        refine z_top (b := (t : Int)) (by omega) ?_
        exact zw_reti (z := (t : Int)) (t, u2, P9) hx hb hr hlocks hQ (⟨hw2.1, rfl, tr_many hst (by omega), ht, hpt⟩) hP hK hD hS dX0_tracePath_188
      · refine lv_iload_n hx hb dX0_tracePath_33 rfl (lv_at hl 1 rfl) ?_
        refine z_if_lt (tgt := 181) hx hb dX0_tracePath_34 (by decide) (by omega) (fun h34 => ?_) (fun h34 => ?_)
        · have hneg : i9 < 0 ∨ j9 < 0 := by
            rcases hst with h9 | h9
            · obtain ⟨h91, h92, h93, h94, h95, h96, h97, h98⟩ := h9
              omega
            · exact Or.inl (by omega)
          refine lv_bipush (v := iI (31 : Int)) hx hb dX0_tracePath_181 (by decide) ?_
          refine lv_aload_n hx hb dX0_tracePath_183 rfl (lv_at hl 0 rfl) ?_
          refine va_get (D := (dC, dI)) (ci := 0) (v := .int (iI (31 - (t : Int)))) (C := RX0) (T := TX0) (N := 7) hx hb hts in_X0 hown hK hP 0 rfl rfl 4 (by decide) fl_24 (fun _ h9 => h9) rfl dX0_tracePath_184 ?_
          refine z_isub hx hb dX0_tracePath_187 ?_
          subst hAe
          refine z_top (b := (t : Int)) (by omega) ?_
          exact zw_reti (z := (t : Int)) (t, u2, P9) hx hb hr hlocks hQ (⟨hw2.1, rfl, tr_many hst (by omega), ht, hpt⟩) hP hK hD hS dX0_tracePath_188
        · refine lv_iload_n hx hb dX0_tracePath_37 rfl (lv_at hl 2 rfl) ?_
          refine z_if_lt (tgt := 181) hx hb dX0_tracePath_38 (by decide) (by omega) (fun h38 => ?_) (fun h38 => ?_)
          · have hneg : i9 < 0 ∨ j9 < 0 := by
              rcases hst with h9 | h9
              · obtain ⟨h91, h92, h93, h94, h95, h96, h97, h98⟩ := h9
                omega
              · exact Or.inl (by omega)
            refine lv_bipush (v := iI (31 : Int)) hx hb dX0_tracePath_181 (by decide) ?_
            refine lv_aload_n hx hb dX0_tracePath_183 rfl (lv_at hl 0 rfl) ?_
            refine va_get (D := (dC, dI)) (ci := 0) (v := .int (iI (31 - (t : Int)))) (C := RX0) (T := TX0) (N := 7) hx hb hts in_X0 hown hK hP 0 rfl rfl 4 (by decide) fl_24 (fun _ h9 => h9) rfl dX0_tracePath_184 ?_
            refine z_isub hx hb dX0_tracePath_187 ?_
            subst hAe
            refine z_top (b := (t : Int)) (by omega) ?_
            exact zw_reti (z := (t : Int)) (t, u2, P9) hx hb hr hlocks hQ (⟨hw2.1, rfl, tr_many hst (by omega), ht, hpt⟩) hP hK hD hS dX0_tracePath_188
          · have hA9 : trA w n q r t i9 j9 := by
              rcases hst with h9 | h9
              · exact h9
              · exact absurd h9.1 (by omega)
            have hA2 : i9 + j9 + (t : Int) ≤ 2 * ((n : Int) - 1) ∧ i9 < (n : Int) ∧ j9 < (n : Int) := ⟨hA9.2.2.2.2.1, hA9.2.2.2.2.2.1, hA9.2.2.2.2.2.2.1⟩
            refine lv_aload_n hx hb dX0_tracePath_41 rfl (lv_at hl 0 rfl) ?_
            refine lv_dup hx hb dX0_tracePath_42 rfl ?_
            refine va_get (D := (dC, dI)) (ci := 0) (v := .int (iI (31 - (t : Int)))) (C := RX0) (T := TX0) (N := 7) hx hb hts in_X0 hown hK hP 0 rfl rfl 4 (by decide) fl_24 (fun _ h9 => h9) rfl dX0_tracePath_43 ?_
            refine lv_iconst (v := iI (1 : Int)) hx hb dX0_tracePath_46 (by decide) ?_
            refine z_isub hx hb dX0_tracePath_47 ?_
            refine z_top (b := 31 - ((t + 1 : Nat) : Int)) (by omega) ?_
            refine va_put (D := (dC, dI)) (ci := 0) (v := .int (iI (31 - ((t + 1 : Nat) : Int)))) (ty := .int) (C := RX0) (T := TX0) (N := 7) hx hb hts in_X0 tyX0 tyX0_ok nmX0 hown hK hP hD hS 0 rfl rfl 4 (by decide) fl_24 (fun _ h9 => h9) rfl (by decide +kernel) rfl rfl (Nat.le_of_ble_eq_true rfl) dX0_tracePath_48 (fun H locs hP hD hS => ?_)
            have hP : va_P (dC, dI) vwCl [(h0, .inr (0, [.ref aq, .ref ar, .ref ac, .ref ap, .int (iI (31 - ((t + 1 : Nat) : Int))), .int (iI (n : Int)), .int (iI (w : Int))])), (aq, .inl (cI, 16, .inl (iA q))), (ar, .inl (cI, 16, .inl (iA r))), (ac, .inl (cI, 256, .inl (iA u2))), (ap, .inl (cI, 31, .inl (iA P9)))] H := hP
            have hD : va_D A [(h0, .inr (0, [.ref aq, .ref ar, .ref ac, .ref ap, .int (iI (31 - ((t + 1 : Nat) : Int))), .int (iI (n : Int)), .int (iI (w : Int))])), (aq, .inl (cI, 16, .inl (iA q))), (ar, .inl (cI, 16, .inl (iA r))), (ac, .inl (cI, 256, .inl (iA u2))), (ap, .inl (cI, 31, .inl (iA P9)))] := hD
            refine lv_aload_n hx hb dX0_tracePath_51 rfl (lv_at hl 0 rfl) ?_
            refine va_get (D := (dC, dI)) (ci := 0) (v := .ref ap) (C := RX0) (T := TX0) (N := 7) hx hb hts in_X0 hown hK hP 0 rfl rfl 3 (by decide) fl_21 (fun _ h9 => h9) rfl dX0_tracePath_52 ?_
            refine lv_aload_n hx hb dX0_tracePath_55 rfl (lv_at hl 0 rfl) ?_
            refine va_get (D := (dC, dI)) (ci := 0) (v := .int (iI (31 - ((t + 1 : Nat) : Int)))) (C := RX0) (T := TX0) (N := 7) hx hb hts in_X0 hown hK hP 0 rfl rfl 4 (by decide) fl_24 (fun _ h9 => h9) rfl dX0_tracePath_56 ?_
            refine lv_bipush (v := iI (16 : Int)) hx hb dX0_tracePath_59 (by decide) ?_
            refine lv_iload_n hx hb dX0_tracePath_61 rfl (lv_at hl 1 rfl) ?_
            refine z_imul hx hb dX0_tracePath_62 ?_
            refine lv_iload_n hx hb dX0_tracePath_63 rfl (lv_at hl 2 rfl) ?_
            refine z_iadd hx hb dX0_tracePath_64 ?_
            refine z_iast hx hb hK hP hD hS 4 0 rfl rfl (30 - t) (by omega) dX0_tracePath_65 (fun H locs hP hD hS => ?_)
            have hP : va_P (dC, dI) vwCl [(h0, .inr (0, [.ref aq, .ref ar, .ref ac, .ref ap, .int (iI (31 - ((t + 1 : Nat) : Int))), .int (iI (n : Int)), .int (iI (w : Int))])), (aq, .inl (cI, 16, .inl (iA q))), (ar, .inl (cI, 16, .inl (iA r))), (ac, .inl (cI, 256, .inl (iA u2))), (ap, .inl (cI, 31, .inl (iA (zU P9 (30 - t) (((16 : Int) * i9) + j9)))))] H := hP
            have hD : va_D A [(h0, .inr (0, [.ref aq, .ref ar, .ref ac, .ref ap, .int (iI (31 - ((t + 1 : Nat) : Int))), .int (iI (n : Int)), .int (iI (w : Int))])), (aq, .inl (cI, 16, .inl (iA q))), (ar, .inl (cI, 16, .inl (iA r))), (ac, .inl (cI, 256, .inl (iA u2))), (ap, .inl (cI, 31, .inl (iA (zU P9 (30 - t) (((16 : Int) * i9) + j9)))))] := hD
            refine lv_aload_n hx hb dX0_tracePath_66 rfl (lv_at hl 0 rfl) ?_
            refine lv_iload_n hx hb dX0_tracePath_67 rfl (lv_at hl 1 rfl) ?_
            refine lv_iconst (v := iI (1 : Int)) hx hb dX0_tracePath_68 (by decide) ?_
            refine z_isub hx hb dX0_tracePath_69 ?_
            refine lv_iload_n hx hb dX0_tracePath_70 rfl (lv_at hl 2 rfl) ?_
            refine lv_iconst (v := iI (1 : Int)) hx hb dX0_tracePath_71 (by decide) ?_
            refine z_isub hx hb dX0_tracePath_72 ?_
            refine zr_i (va_runV (As := [.int (iI (i9 - (1 : Int))), .int (iI (j9 - (1 : Int)))]) (rest := []) ⟨hx, hb, hml, hown, hts⟩ (c_costAt l dC dI cI h0 aq ar ac ap (31 - ((t + 1 : Nat) : Int)) n w u2 (i9 - (1 : Int)) (j9 - (1 : Int)) hn hw (by omega) (by omega)) (cwV 2 hts (ga_V wd_334 wd_336 wd_7 wd_29 wd_337) rfl rfl rfl (by decide +kernel) ⟨(show 0 + 1 ≤ R.frames by omega), (show 8 + (4 + 11) + 0 ≤ R.locals by omega)⟩) (rd_preV (q0 := 0) (ci := 0) hP hK [0, 3] rfl rfl rfl) rfl rfl hl.1 rfl (lv_room (Nat.le_of_ble_eq_true rfl)) dX0_tracePath_73 ⟨by omega, by omega⟩) (fun z73 hz73 => ?_)
            refine lv_istore_n (lv' := [(3, .int (iI z73)), (0, .ref h0), (1, .int (iI i9)), (2, .int (iI j9))]) hx hb dX0_tracePath_76 rfl hl (by decide) rfl (fun ls hl => ?_)
            refine lv_aload_n hx hb dX0_tracePath_77 rfl (lv_at hl 1 rfl) ?_
            refine lv_iload_n hx hb dX0_tracePath_78 rfl (lv_at hl 2 rfl) ?_
            refine lv_iconst (v := iI (1 : Int)) hx hb dX0_tracePath_79 (by decide) ?_
            refine z_isub hx hb dX0_tracePath_80 ?_
            refine lv_iload_n hx hb dX0_tracePath_81 rfl (lv_at hl 3 rfl) ?_
            refine zr_i (va_runV (As := [.int (iI (i9 - (1 : Int))), .int (iI j9)]) (rest := []) ⟨hx, hb, hml, hown, hts⟩ (c_costAt l dC dI cI h0 aq ar ac ap (31 - ((t + 1 : Nat) : Int)) n w u2 (i9 - (1 : Int)) j9 hn hw (by omega) (by omega)) (cwV 2 hts (ga_V wd_334 wd_336 wd_7 wd_29 wd_337) rfl rfl rfl (by decide +kernel) ⟨(show 0 + 1 ≤ R.frames by omega), (show 8 + (4 + 11) + 0 ≤ R.locals by omega)⟩) (rd_preV (q0 := 0) (ci := 0) hP hK [0, 3] rfl rfl rfl) rfl rfl hl.1 rfl (lv_room (Nat.le_of_ble_eq_true rfl)) dX0_tracePath_82 ⟨by omega, by omega⟩) (fun z82 hz82 => ?_)
            refine lv_istore (lv' := [(4, .int (iI z82)), (3, .int (iI z73)), (0, .ref h0), (1, .int (iI i9)), (2, .int (iI j9))]) hx hb dX0_tracePath_85 hl (by decide) rfl (fun ls hl => ?_)
            refine lv_aload_n hx hb dX0_tracePath_87 rfl (lv_at hl 2 rfl) ?_
            refine lv_iload_n hx hb dX0_tracePath_88 rfl (lv_at hl 3 rfl) ?_
            refine lv_iload_n hx hb dX0_tracePath_89 rfl (lv_at hl 4 rfl) ?_
            refine lv_iconst (v := iI (1 : Int)) hx hb dX0_tracePath_90 (by decide) ?_
            refine z_isub hx hb dX0_tracePath_91 ?_
            refine zr_i (va_runV (As := [.int (iI i9), .int (iI (j9 - (1 : Int)))]) (rest := []) ⟨hx, hb, hml, hown, hts⟩ (c_costAt l dC dI cI h0 aq ar ac ap (31 - ((t + 1 : Nat) : Int)) n w u2 i9 (j9 - (1 : Int)) hn hw (by omega) (by omega)) (cwV 2 hts (ga_V wd_334 wd_336 wd_7 wd_29 wd_337) rfl rfl rfl (by decide +kernel) ⟨(show 0 + 1 ≤ R.frames by omega), (show 8 + (4 + 11) + 0 ≤ R.locals by omega)⟩) (rd_preV (q0 := 0) (ci := 0) hP hK [0, 3] rfl rfl rfl) rfl rfl hl.1 rfl (lv_room (Nat.le_of_ble_eq_true rfl)) dX0_tracePath_92 ⟨by omega, by omega⟩) (fun z92 hz92 => ?_)
            refine lv_istore (lv' := [(5, .int (iI z92)), (4, .int (iI z82)), (3, .int (iI z73)), (0, .ref h0), (1, .int (iI i9)), (2, .int (iI j9))]) hx hb dX0_tracePath_95 hl (by decide) rfl (fun ls hl => ?_)
            have e73 : z73 = bdI w q r (i9 - 1) (j9 - 1) := hz73.trans (gAt_bd hfull (by omega) (by omega))
            have e82 : z82 = bdI w q r (i9 - 1) j9 := hz82.trans (gAt_bd hfull (by omega) (by omega))
            have e92 : z92 = bdI w q r i9 (j9 - 1) := hz92.trans (gAt_bd hfull (by omega) (by omega))
            have r73 := bdI_rg (w := w) hvq hvr hn.2 (i := i9 - 1) (j := j9 - 1) (by omega) (by omega)
            have r82 := bdI_rg (w := w) hvq hvr hn.2 (i := i9 - 1) (j := j9) (by omega) (by omega)
            have r92 := bdI_rg (w := w) hvq hvr hn.2 (i := i9) (j := j9 - 1) (by omega) (by omega)
            rw [← e73] at r73
            rw [← e82] at r82
            rw [← e92] at r92
            refine lv_iload_n hx hb dX0_tracePath_97 rfl (lv_at hl 2 rfl) ?_
            refine lv_iload hx hb dX0_tracePath_98 (lv_at hl 1 rfl) ?_
            refine z_icmp_gt (tgt := 113) hx hb dX0_tracePath_100 (by decide) (by omega) (fun h100 => ?_) (fun h100 => ?_)
            · refine lv_iconst (v := iI (0 : Int)) hx hb dX0_tracePath_113 (by decide) ?_
              refine lv_istore (lv' := [(6, .int (iI (0 : Int))), (5, .int (iI z92)), (4, .int (iI z82)), (3, .int (iI z73)), (0, .ref h0), (1, .int (iI i9)), (2, .int (iI j9))]) hx hb dX0_tracePath_114 hl (by decide) rfl (fun ls hl => ?_)
              refine lv_iload hx hb dX0_tracePath_116 (lv_at hl 0 rfl) ?_
              refine z_if_ne (tgt := 128) hx hb dX0_tracePath_118 (by decide) (by decide) (fun h9 => absurd h9 (by decide)) (fun _ => ?_)
              refine lv_iload hx hb dX0_tracePath_121 (lv_at hl 2 rfl) ?_
              refine lv_iload hx hb dX0_tracePath_123 (lv_at hl 1 rfl) ?_
              refine z_icmp_gt (tgt := 132) hx hb dX0_tracePath_125 (by decide) (by omega) (fun h125 => ?_) (fun h125 => ?_)
              · refine lv_iconst (v := iI (0 : Int)) hx hb dX0_tracePath_132 (by decide) ?_
                refine lv_istore (lv' := [(7, .int (iI (0 : Int))), (6, .int (iI (0 : Int))), (5, .int (iI z92)), (4, .int (iI z82)), (3, .int (iI z73)), (0, .ref h0), (1, .int (iI i9)), (2, .int (iI j9))]) hx hb dX0_tracePath_133 hl (by decide) rfl (fun ls hl => ?_)
                refine lv_iload hx hb dX0_tracePath_135 (lv_at hl 1 rfl) ?_
                refine z_if_ne (tgt := 145) hx hb dX0_tracePath_137 (by decide) (by decide) (fun h9 => absurd h9 (by decide)) (fun _ => ?_)
                refine lv_iload hx hb dX0_tracePath_140 (lv_at hl 0 rfl) ?_
                refine z_if_ne (tgt := 149) hx hb dX0_tracePath_142 (by decide) (by decide) (fun h9 => absurd h9 (by decide)) (fun _ => ?_)
                refine lv_iconst (v := iI (1 : Int)) hx hb dX0_tracePath_145 (by decide) ?_
                refine lv_goto (tgt := 150) hx hb dX0_tracePath_146 (by decide) ?_
                refine lv_istore (lv' := [(8, .int (iI (1 : Int))), (7, .int (iI (0 : Int))), (6, .int (iI (0 : Int))), (5, .int (iI z92)), (4, .int (iI z82)), (3, .int (iI z73)), (0, .ref h0), (1, .int (iI i9)), (2, .int (iI j9))]) hx hb dX0_tracePath_150 hl (by decide) rfl (fun ls hl => ?_)
                refine lv_iload_n hx hb dX0_tracePath_152 rfl (lv_at hl 7 rfl) ?_
                refine lv_iload hx hb dX0_tracePath_153 (lv_at hl 1 rfl) ?_
                refine z_if_eq (tgt := 162) hx hb dX0_tracePath_155 (by decide) (by decide) (fun _ => ?_) (fun h9 => absurd h9 (by decide))
                refine lv_iconst (v := iI (0 : Int)) hx hb dX0_tracePath_162 (by decide) ?_
                refine z_isub hx hb dX0_tracePath_163 ?_
                refine z_top (b := i9) (by omega) ?_
                refine lv_istore_n (lv' := [(1, .int (iI i9)), (8, .int (iI (1 : Int))), (7, .int (iI (0 : Int))), (6, .int (iI (0 : Int))), (5, .int (iI z92)), (4, .int (iI z82)), (3, .int (iI z73)), (0, .ref h0), (2, .int (iI j9))]) hx hb dX0_tracePath_164 rfl hl (by decide) rfl (fun ls hl => ?_)
                refine lv_iload_n hx hb dX0_tracePath_165 rfl (lv_at hl 8 rfl) ?_
                refine lv_iload hx hb dX0_tracePath_166 (lv_at hl 1 rfl) ?_
                refine z_if_eq (tgt := 175) hx hb dX0_tracePath_168 (by decide) (by decide) (fun h9 => absurd h9 (by decide)) (fun _ => ?_)
                refine lv_iconst (v := iI (1 : Int)) hx hb dX0_tracePath_171 (by decide) ?_
                refine lv_goto (tgt := 176) hx hb dX0_tracePath_172 (by decide) ?_
                refine z_isub hx hb dX0_tracePath_176 ?_
                refine z_top (b := j9 - 1) (by omega) ?_
                refine lv_istore_n (lv' := [(2, .int (iI (j9 - 1))), (1, .int (iI i9)), (8, .int (iI (1 : Int))), (7, .int (iI (0 : Int))), (6, .int (iI (0 : Int))), (5, .int (iI z92)), (4, .int (iI z82)), (3, .int (iI z73)), (0, .ref h0)]) hx hb dX0_tracePath_177 rfl hl (by decide) rfl (fun ls hl => ?_)
                refine lv_goto (tgt := 26) hx hb dX0_tracePath_178 (by decide) ?_
                exact ih_lp _ (by omega) (t + 1) i9 (j9 - 1) (zU P9 (30 - t) (16 * i9 + j9)) H locs ls (by omega) (by rw [pseq, hij]; exact pnx_3 (by rw [← e73, ← e82, ← e92]; omega) (by rw [← e82, ← e92]; omega)) (tr_next hvq hvr hn.2 hA9 hij (pnx_3 (by rw [← e73, ← e82, ← e92]; omega) (by rw [← e82, ← e92]; omega))) (tr_path hij hpt (by omega)) rfl hP hD hS (lv_sub hl [8, 1, 0] rfl)
              · refine lv_iconst (v := iI (1 : Int)) hx hb dX0_tracePath_128 (by decide) ?_
                refine lv_goto (tgt := 133) hx hb dX0_tracePath_129 (by decide) ?_
                refine lv_istore (lv' := [(7, .int (iI (1 : Int))), (6, .int (iI (0 : Int))), (5, .int (iI z92)), (4, .int (iI z82)), (3, .int (iI z73)), (0, .ref h0), (1, .int (iI i9)), (2, .int (iI j9))]) hx hb dX0_tracePath_133 hl (by decide) rfl (fun ls hl => ?_)
                refine lv_iload hx hb dX0_tracePath_135 (lv_at hl 1 rfl) ?_
                refine z_if_ne (tgt := 145) hx hb dX0_tracePath_137 (by decide) (by decide) (fun h9 => absurd h9 (by decide)) (fun _ => ?_)
                refine lv_iload hx hb dX0_tracePath_140 (lv_at hl 0 rfl) ?_
                refine z_if_ne (tgt := 149) hx hb dX0_tracePath_142 (by decide) (by decide) (fun _ => ?_) (fun h9 => absurd h9 (by decide))
                refine lv_iconst (v := iI (0 : Int)) hx hb dX0_tracePath_149 (by decide) ?_
                refine lv_istore (lv' := [(8, .int (iI (0 : Int))), (7, .int (iI (1 : Int))), (6, .int (iI (0 : Int))), (5, .int (iI z92)), (4, .int (iI z82)), (3, .int (iI z73)), (0, .ref h0), (1, .int (iI i9)), (2, .int (iI j9))]) hx hb dX0_tracePath_150 hl (by decide) rfl (fun ls hl => ?_)
                refine lv_iload_n hx hb dX0_tracePath_152 rfl (lv_at hl 7 rfl) ?_
                refine lv_iload hx hb dX0_tracePath_153 (lv_at hl 1 rfl) ?_
                refine z_if_eq (tgt := 162) hx hb dX0_tracePath_155 (by decide) (by decide) (fun h9 => absurd h9 (by decide)) (fun _ => ?_)
                refine lv_iconst (v := iI (1 : Int)) hx hb dX0_tracePath_158 (by decide) ?_
                refine lv_goto (tgt := 163) hx hb dX0_tracePath_159 (by decide) ?_
                refine z_isub hx hb dX0_tracePath_163 ?_
                refine z_top (b := i9 - 1) (by omega) ?_
                refine lv_istore_n (lv' := [(1, .int (iI (i9 - 1))), (8, .int (iI (0 : Int))), (7, .int (iI (1 : Int))), (6, .int (iI (0 : Int))), (5, .int (iI z92)), (4, .int (iI z82)), (3, .int (iI z73)), (0, .ref h0), (2, .int (iI j9))]) hx hb dX0_tracePath_164 rfl hl (by decide) rfl (fun ls hl => ?_)
                refine lv_iload_n hx hb dX0_tracePath_165 rfl (lv_at hl 8 rfl) ?_
                refine lv_iload hx hb dX0_tracePath_166 (lv_at hl 1 rfl) ?_
                refine z_if_eq (tgt := 175) hx hb dX0_tracePath_168 (by decide) (by decide) (fun _ => ?_) (fun h9 => absurd h9 (by decide))
                refine lv_iconst (v := iI (0 : Int)) hx hb dX0_tracePath_175 (by decide) ?_
                refine z_isub hx hb dX0_tracePath_176 ?_
                refine z_top (b := j9) (by omega) ?_
                refine lv_istore_n (lv' := [(2, .int (iI j9)), (1, .int (iI (i9 - 1))), (8, .int (iI (0 : Int))), (7, .int (iI (1 : Int))), (6, .int (iI (0 : Int))), (5, .int (iI z92)), (4, .int (iI z82)), (3, .int (iI z73)), (0, .ref h0)]) hx hb dX0_tracePath_177 rfl hl (by decide) rfl (fun ls hl => ?_)
                refine lv_goto (tgt := 26) hx hb dX0_tracePath_178 (by decide) ?_
                exact ih_lp _ (by omega) (t + 1) (i9 - 1) j9 (zU P9 (30 - t) (16 * i9 + j9)) H locs ls (by omega) (by rw [pseq, hij]; exact pnx_2 (by rw [← e73, ← e82, ← e92]; omega) (by rw [← e82, ← e92]; omega)) (tr_next hvq hvr hn.2 hA9 hij (pnx_2 (by rw [← e73, ← e82, ← e92]; omega) (by rw [← e82, ← e92]; omega))) (tr_path hij hpt (by omega)) rfl hP hD hS (lv_sub hl [8, 1, 0] rfl)
            · refine lv_iload_n hx hb dX0_tracePath_103 rfl (lv_at hl 2 rfl) ?_
              refine lv_iload hx hb dX0_tracePath_104 (lv_at hl 0 rfl) ?_
              refine z_icmp_gt (tgt := 113) hx hb dX0_tracePath_106 (by decide) (by omega) (fun h106 => ?_) (fun h106 => ?_)
              · refine lv_iconst (v := iI (0 : Int)) hx hb dX0_tracePath_113 (by decide) ?_
                refine lv_istore (lv' := [(6, .int (iI (0 : Int))), (5, .int (iI z92)), (4, .int (iI z82)), (3, .int (iI z73)), (0, .ref h0), (1, .int (iI i9)), (2, .int (iI j9))]) hx hb dX0_tracePath_114 hl (by decide) rfl (fun ls hl => ?_)
                refine lv_iload hx hb dX0_tracePath_116 (lv_at hl 0 rfl) ?_
                refine z_if_ne (tgt := 128) hx hb dX0_tracePath_118 (by decide) (by decide) (fun h9 => absurd h9 (by decide)) (fun _ => ?_)
                refine lv_iload hx hb dX0_tracePath_121 (lv_at hl 2 rfl) ?_
                refine lv_iload hx hb dX0_tracePath_123 (lv_at hl 1 rfl) ?_
                refine z_icmp_gt (tgt := 132) hx hb dX0_tracePath_125 (by decide) (by omega) (fun h125 => ?_) (fun h125 => ?_)
                · refine lv_iconst (v := iI (0 : Int)) hx hb dX0_tracePath_132 (by decide) ?_
                  refine lv_istore (lv' := [(7, .int (iI (0 : Int))), (6, .int (iI (0 : Int))), (5, .int (iI z92)), (4, .int (iI z82)), (3, .int (iI z73)), (0, .ref h0), (1, .int (iI i9)), (2, .int (iI j9))]) hx hb dX0_tracePath_133 hl (by decide) rfl (fun ls hl => ?_)
                  refine lv_iload hx hb dX0_tracePath_135 (lv_at hl 1 rfl) ?_
                  refine z_if_ne (tgt := 145) hx hb dX0_tracePath_137 (by decide) (by decide) (fun h9 => absurd h9 (by decide)) (fun _ => ?_)
                  refine lv_iload hx hb dX0_tracePath_140 (lv_at hl 0 rfl) ?_
                  refine z_if_ne (tgt := 149) hx hb dX0_tracePath_142 (by decide) (by decide) (fun h9 => absurd h9 (by decide)) (fun _ => ?_)
                  refine lv_iconst (v := iI (1 : Int)) hx hb dX0_tracePath_145 (by decide) ?_
                  refine lv_goto (tgt := 150) hx hb dX0_tracePath_146 (by decide) ?_
                  refine lv_istore (lv' := [(8, .int (iI (1 : Int))), (7, .int (iI (0 : Int))), (6, .int (iI (0 : Int))), (5, .int (iI z92)), (4, .int (iI z82)), (3, .int (iI z73)), (0, .ref h0), (1, .int (iI i9)), (2, .int (iI j9))]) hx hb dX0_tracePath_150 hl (by decide) rfl (fun ls hl => ?_)
                  refine lv_iload_n hx hb dX0_tracePath_152 rfl (lv_at hl 7 rfl) ?_
                  refine lv_iload hx hb dX0_tracePath_153 (lv_at hl 1 rfl) ?_
                  refine z_if_eq (tgt := 162) hx hb dX0_tracePath_155 (by decide) (by decide) (fun _ => ?_) (fun h9 => absurd h9 (by decide))
                  refine lv_iconst (v := iI (0 : Int)) hx hb dX0_tracePath_162 (by decide) ?_
                  refine z_isub hx hb dX0_tracePath_163 ?_
                  refine z_top (b := i9) (by omega) ?_
                  refine lv_istore_n (lv' := [(1, .int (iI i9)), (8, .int (iI (1 : Int))), (7, .int (iI (0 : Int))), (6, .int (iI (0 : Int))), (5, .int (iI z92)), (4, .int (iI z82)), (3, .int (iI z73)), (0, .ref h0), (2, .int (iI j9))]) hx hb dX0_tracePath_164 rfl hl (by decide) rfl (fun ls hl => ?_)
                  refine lv_iload_n hx hb dX0_tracePath_165 rfl (lv_at hl 8 rfl) ?_
                  refine lv_iload hx hb dX0_tracePath_166 (lv_at hl 1 rfl) ?_
                  refine z_if_eq (tgt := 175) hx hb dX0_tracePath_168 (by decide) (by decide) (fun h9 => absurd h9 (by decide)) (fun _ => ?_)
                  refine lv_iconst (v := iI (1 : Int)) hx hb dX0_tracePath_171 (by decide) ?_
                  refine lv_goto (tgt := 176) hx hb dX0_tracePath_172 (by decide) ?_
                  refine z_isub hx hb dX0_tracePath_176 ?_
                  refine z_top (b := j9 - 1) (by omega) ?_
                  refine lv_istore_n (lv' := [(2, .int (iI (j9 - 1))), (1, .int (iI i9)), (8, .int (iI (1 : Int))), (7, .int (iI (0 : Int))), (6, .int (iI (0 : Int))), (5, .int (iI z92)), (4, .int (iI z82)), (3, .int (iI z73)), (0, .ref h0)]) hx hb dX0_tracePath_177 rfl hl (by decide) rfl (fun ls hl => ?_)
                  refine lv_goto (tgt := 26) hx hb dX0_tracePath_178 (by decide) ?_
                  exact ih_lp _ (by omega) (t + 1) i9 (j9 - 1) (zU P9 (30 - t) (16 * i9 + j9)) H locs ls (by omega) (by rw [pseq, hij]; exact pnx_3 (by rw [← e73, ← e82, ← e92]; omega) (by rw [← e82, ← e92]; omega)) (tr_next hvq hvr hn.2 hA9 hij (pnx_3 (by rw [← e73, ← e82, ← e92]; omega) (by rw [← e82, ← e92]; omega))) (tr_path hij hpt (by omega)) rfl hP hD hS (lv_sub hl [8, 1, 0] rfl)
                · refine lv_iconst (v := iI (1 : Int)) hx hb dX0_tracePath_128 (by decide) ?_
                  refine lv_goto (tgt := 133) hx hb dX0_tracePath_129 (by decide) ?_
                  refine lv_istore (lv' := [(7, .int (iI (1 : Int))), (6, .int (iI (0 : Int))), (5, .int (iI z92)), (4, .int (iI z82)), (3, .int (iI z73)), (0, .ref h0), (1, .int (iI i9)), (2, .int (iI j9))]) hx hb dX0_tracePath_133 hl (by decide) rfl (fun ls hl => ?_)
                  refine lv_iload hx hb dX0_tracePath_135 (lv_at hl 1 rfl) ?_
                  refine z_if_ne (tgt := 145) hx hb dX0_tracePath_137 (by decide) (by decide) (fun h9 => absurd h9 (by decide)) (fun _ => ?_)
                  refine lv_iload hx hb dX0_tracePath_140 (lv_at hl 0 rfl) ?_
                  refine z_if_ne (tgt := 149) hx hb dX0_tracePath_142 (by decide) (by decide) (fun _ => ?_) (fun h9 => absurd h9 (by decide))
                  refine lv_iconst (v := iI (0 : Int)) hx hb dX0_tracePath_149 (by decide) ?_
                  refine lv_istore (lv' := [(8, .int (iI (0 : Int))), (7, .int (iI (1 : Int))), (6, .int (iI (0 : Int))), (5, .int (iI z92)), (4, .int (iI z82)), (3, .int (iI z73)), (0, .ref h0), (1, .int (iI i9)), (2, .int (iI j9))]) hx hb dX0_tracePath_150 hl (by decide) rfl (fun ls hl => ?_)
                  refine lv_iload_n hx hb dX0_tracePath_152 rfl (lv_at hl 7 rfl) ?_
                  refine lv_iload hx hb dX0_tracePath_153 (lv_at hl 1 rfl) ?_
                  refine z_if_eq (tgt := 162) hx hb dX0_tracePath_155 (by decide) (by decide) (fun h9 => absurd h9 (by decide)) (fun _ => ?_)
                  refine lv_iconst (v := iI (1 : Int)) hx hb dX0_tracePath_158 (by decide) ?_
                  refine lv_goto (tgt := 163) hx hb dX0_tracePath_159 (by decide) ?_
                  refine z_isub hx hb dX0_tracePath_163 ?_
                  refine z_top (b := i9 - 1) (by omega) ?_
                  refine lv_istore_n (lv' := [(1, .int (iI (i9 - 1))), (8, .int (iI (0 : Int))), (7, .int (iI (1 : Int))), (6, .int (iI (0 : Int))), (5, .int (iI z92)), (4, .int (iI z82)), (3, .int (iI z73)), (0, .ref h0), (2, .int (iI j9))]) hx hb dX0_tracePath_164 rfl hl (by decide) rfl (fun ls hl => ?_)
                  refine lv_iload_n hx hb dX0_tracePath_165 rfl (lv_at hl 8 rfl) ?_
                  refine lv_iload hx hb dX0_tracePath_166 (lv_at hl 1 rfl) ?_
                  refine z_if_eq (tgt := 175) hx hb dX0_tracePath_168 (by decide) (by decide) (fun _ => ?_) (fun h9 => absurd h9 (by decide))
                  refine lv_iconst (v := iI (0 : Int)) hx hb dX0_tracePath_175 (by decide) ?_
                  refine z_isub hx hb dX0_tracePath_176 ?_
                  refine z_top (b := j9) (by omega) ?_
                  refine lv_istore_n (lv' := [(2, .int (iI j9)), (1, .int (iI (i9 - 1))), (8, .int (iI (0 : Int))), (7, .int (iI (1 : Int))), (6, .int (iI (0 : Int))), (5, .int (iI z92)), (4, .int (iI z82)), (3, .int (iI z73)), (0, .ref h0)]) hx hb dX0_tracePath_177 rfl hl (by decide) rfl (fun ls hl => ?_)
                  refine lv_goto (tgt := 26) hx hb dX0_tracePath_178 (by decide) ?_
                  exact ih_lp _ (by omega) (t + 1) (i9 - 1) j9 (zU P9 (30 - t) (16 * i9 + j9)) H locs ls (by omega) (by rw [pseq, hij]; exact pnx_2 (by rw [← e73, ← e82, ← e92]; omega) (by rw [← e82, ← e92]; omega)) (tr_next hvq hvr hn.2 hA9 hij (pnx_2 (by rw [← e73, ← e82, ← e92]; omega) (by rw [← e82, ← e92]; omega))) (tr_path hij hpt (by omega)) rfl hP hD hS (lv_sub hl [8, 1, 0] rfl)
              · refine lv_iconst (v := iI (1 : Int)) hx hb dX0_tracePath_109 (by decide) ?_
                refine lv_goto (tgt := 114) hx hb dX0_tracePath_110 (by decide) ?_
                refine lv_istore (lv' := [(6, .int (iI (1 : Int))), (5, .int (iI z92)), (4, .int (iI z82)), (3, .int (iI z73)), (0, .ref h0), (1, .int (iI i9)), (2, .int (iI j9))]) hx hb dX0_tracePath_114 hl (by decide) rfl (fun ls hl => ?_)
                refine lv_iload hx hb dX0_tracePath_116 (lv_at hl 0 rfl) ?_
                refine z_if_ne (tgt := 128) hx hb dX0_tracePath_118 (by decide) (by decide) (fun _ => ?_) (fun h9 => absurd h9 (by decide))
                refine lv_iconst (v := iI (1 : Int)) hx hb dX0_tracePath_128 (by decide) ?_
                refine lv_goto (tgt := 133) hx hb dX0_tracePath_129 (by decide) ?_
                refine lv_istore (lv' := [(7, .int (iI (1 : Int))), (6, .int (iI (1 : Int))), (5, .int (iI z92)), (4, .int (iI z82)), (3, .int (iI z73)), (0, .ref h0), (1, .int (iI i9)), (2, .int (iI j9))]) hx hb dX0_tracePath_133 hl (by decide) rfl (fun ls hl => ?_)
                refine lv_iload hx hb dX0_tracePath_135 (lv_at hl 1 rfl) ?_
                refine z_if_ne (tgt := 145) hx hb dX0_tracePath_137 (by decide) (by decide) (fun _ => ?_) (fun h9 => absurd h9 (by decide))
                refine lv_iconst (v := iI (1 : Int)) hx hb dX0_tracePath_145 (by decide) ?_
                refine lv_goto (tgt := 150) hx hb dX0_tracePath_146 (by decide) ?_
                refine lv_istore (lv' := [(8, .int (iI (1 : Int))), (7, .int (iI (1 : Int))), (6, .int (iI (1 : Int))), (5, .int (iI z92)), (4, .int (iI z82)), (3, .int (iI z73)), (0, .ref h0), (1, .int (iI i9)), (2, .int (iI j9))]) hx hb dX0_tracePath_150 hl (by decide) rfl (fun ls hl => ?_)
                refine lv_iload_n hx hb dX0_tracePath_152 rfl (lv_at hl 7 rfl) ?_
                refine lv_iload hx hb dX0_tracePath_153 (lv_at hl 1 rfl) ?_
                refine z_if_eq (tgt := 162) hx hb dX0_tracePath_155 (by decide) (by decide) (fun h9 => absurd h9 (by decide)) (fun _ => ?_)
                refine lv_iconst (v := iI (1 : Int)) hx hb dX0_tracePath_158 (by decide) ?_
                refine lv_goto (tgt := 163) hx hb dX0_tracePath_159 (by decide) ?_
                refine z_isub hx hb dX0_tracePath_163 ?_
                refine z_top (b := i9 - 1) (by omega) ?_
                refine lv_istore_n (lv' := [(1, .int (iI (i9 - 1))), (8, .int (iI (1 : Int))), (7, .int (iI (1 : Int))), (6, .int (iI (1 : Int))), (5, .int (iI z92)), (4, .int (iI z82)), (3, .int (iI z73)), (0, .ref h0), (2, .int (iI j9))]) hx hb dX0_tracePath_164 rfl hl (by decide) rfl (fun ls hl => ?_)
                refine lv_iload_n hx hb dX0_tracePath_165 rfl (lv_at hl 8 rfl) ?_
                refine lv_iload hx hb dX0_tracePath_166 (lv_at hl 1 rfl) ?_
                refine z_if_eq (tgt := 175) hx hb dX0_tracePath_168 (by decide) (by decide) (fun h9 => absurd h9 (by decide)) (fun _ => ?_)
                refine lv_iconst (v := iI (1 : Int)) hx hb dX0_tracePath_171 (by decide) ?_
                refine lv_goto (tgt := 176) hx hb dX0_tracePath_172 (by decide) ?_
                refine z_isub hx hb dX0_tracePath_176 ?_
                refine z_top (b := j9 - 1) (by omega) ?_
                refine lv_istore_n (lv' := [(2, .int (iI (j9 - 1))), (1, .int (iI (i9 - 1))), (8, .int (iI (1 : Int))), (7, .int (iI (1 : Int))), (6, .int (iI (1 : Int))), (5, .int (iI z92)), (4, .int (iI z82)), (3, .int (iI z73)), (0, .ref h0)]) hx hb dX0_tracePath_177 rfl hl (by decide) rfl (fun ls hl => ?_)
                refine lv_goto (tgt := 26) hx hb dX0_tracePath_178 (by decide) ?_
                exact ih_lp _ (by omega) (t + 1) (i9 - 1) (j9 - 1) (zU P9 (30 - t) (16 * i9 + j9)) H locs ls (by omega) (by rw [pseq, hij]; exact pnx_1 (by rw [← e73, ← e82]; omega) (by rw [← e73, ← e92]; omega)) (tr_next hvq hvr hn.2 hA9 hij (pnx_1 (by rw [← e73, ← e82]; omega) (by rw [← e73, ← e92]; omega))) (tr_path hij hpt (by omega)) rfl hP hD hS (lv_sub hl [8, 1, 0] rfl)
  exact lp _ 0 ((n : Int) - 1) ((n : Int) - 1) P _ _ ls (by omega) (rfl) (Or.inl (tr_start (by omega))) (fun u h => absurd h (Nat.not_lt_zero _)) rfl hP hD hS (lv_sub hl [2, 1, 0] rfl)
