def alI (n w i j : Nat) (q r : Nat → Int) (lim al : Int) : Prop := (al = 1 ∧ ∀ b, b < j → inb w i b → lim ≤ cst w q r i b) ∨ (al = 0 ∧ ∃ b, b < n ∧ inb w i b ∧ cst w q r i b < lim)
theorem alI_0 {n w i : Nat} {q r : Nat → Int} {lim : Int} : alI n w i 0 q r lim 1 := Or.inl ⟨rfl, fun b h => absurd h (Nat.not_lt_zero _)⟩
theorem alI_01 {n w i j : Nat} {q r : Nat → Int} {lim al : Int} (h : alI n w i j q r lim al) : al = 1 ∨ al = 0 := by
  rcases h with h | h
  · exact Or.inl h.1
  · exact Or.inr h.1
theorem alI_ex {n w i j : Nat} {q r : Nat → Int} {lim al : Int} (h : alI n w i j q r lim al) (h0 : al = 0) : ∃ b, b < n ∧ inb w i b ∧ cst w q r i b < lim := by
  rcases h with h | h
  · have := h.1
    omega
  · exact h.2
theorem alI_all {n w i j : Nat} {q r : Nat → Int} {lim al : Int} (h : alI n w i j q r lim al) (h0 : al ≠ 0) : ∀ b, b < j → inb w i b → lim ≤ cst w q r i b := by
  rcases h with h | h
  · exact h.2
  · exact absurd h.1 h0
theorem gu_on {n w i j : Nat} {q r : Nat → Int} {al lim : Int} (h : alI n w i j q r lim al) (ha : al ≠ 0) (hj : inb w i j → lim ≤ cst w q r i j) : alI n w i (j + 1) q r lim 1 := by
  have h2 := alI_all h ha
  refine Or.inl ⟨rfl, fun b h1 h3 => ?_⟩
  by_cases e : b = j
  · subst e; exact hj h3
  · exact h2 b (by omega) h3
theorem gu_off {n w i j : Nat} {q r : Nat → Int} {al lim : Int} (h : alI n w i j q r lim al) (hj : al ≠ 0 → ∃ b, b < n ∧ inb w i b ∧ cst w q r i b < lim) : alI n w i (j + 1) q r lim 0 := by
  refine Or.inr ⟨rfl, ?_⟩
  rcases h with h | h
  · exact hj (by have := h.1; omega)
  · exact h.2
set_option maxRecDepth 100000 in
set_option maxHeartbeats 4000000 in
theorem c_mGivesUp (l : Launch) (dC : Nat → ClassId) (dI : Nat → Nat → Nat) (cI : ClassId) (m0 mq mn ml ms mr mg mp mpl mdi mc : Nat) (cd : Int) (n w rc sc mo fo : Nat) (q r G : Nat → Int) (lim : Int) (hn : 2 ≤ n ∧ n ≤ 16) (hw : w ≤ 15) (hvq : vals n q) (hvr : vals n r) (hfull : ∀ a b, a < n → b < n → inb w a b → G (16 * a + b) = cst w q r a b) (hlim : -2147483648 ≤ lim ∧ lim ≤ 2147483647) : Met l yX3_givesUp wsX3_givesUp ({ frames := 2, cells := 0, slots := 0, locals := 44 }) (rdP dC dI [(cI, .int)] [(m0, .inr (3, [.int (iI cd), .int (iI (n : Int)), .int (iI (w : Int)), .ref mq, .int (iI (rc : Int)), .ref mn, .ref ml, .int (iI (sc : Int)), .ref ms, .ref mr, .ref mg, .ref mp, .int (iI (mo : Int)), .int (iI (fo : Int)), .ref mpl, .ref mdi, .ref mc])), (mg, .inl (cI, 256, .inl (iA G)))] [.ref m0, .int (iI lim)]) (rdQ (fun z => (z = 1 ∧ givesUp n w q r lim) ∨ (z = 0 ∧ ¬ givesUp n w q r lim))) 0 0 (fun _ => False) := by
  refine Met.ofW (cc := cX3_givesUp) (maxL := 5) (ret := (some .boolean)) (by decide) rfl ?_
  intro p e s m args below meth c s₁ B hml hv
  obtain ⟨rfl, hP, hK⟩ := hv
  have hx := B.exec
  have hb := B.bytes
  have hr := B.returns
  have hts : ∀ w ∈ wsX3_givesUp, w.before _ s = true := atoms_spec (ws := wsX3_givesUp) B.pre
  have hown : s.vm.findClass RX3 = some m.cls := findClass_of_methodNamed B.named
  have hlocks := B.notSynchronized
  have hl := lv_entry ([.ref m0, .int (iI lim)]) (n := 5) (Nat.le_of_ble_eq_true rfl)
  rw [lg_entry_eq]
  generalize (lg_sl ([.ref m0, .int (iI lim)]) ++ List.replicate (5 - (lg_sl ([.ref m0, .int (iI lim)])).length) Slot.unset).toArray = ls at hl ⊢
  have hl : lv_has ls 5 [(0, .ref m0), (1, .int (iI lim))] := hl
  generalize hargs : ([.ref m0, .int (iI lim)] : List Value).toArray = args at hts ⊢
  refine z_intro (fun R Q hR hQ => ?_)
  have hRf : R.frames = 2 := by rw [hR]; rfl
  have hRl : R.locals = 44 := by rw [hR]; rfl
  have hRc : R.cells = 0 := by rw [hR]; rfl
  have hRs : R.slots = 0 := by rw [hR]; rfl
  have in_X3 : ∀ w ∈ u_ws RX3 TX3 17, w ∈ wsX3_givesUp := fun w h => List.mem_cons_of_mem _ (inW_X3 w h)
  have fl_7 := wa_hts hts wd_485
  have fl_29 := wa_hts hts wd_494
  clear hR hargs B
  refine lv_iconst (v := iI (0 : Int)) hx hb dX3_givesUp_0 (by decide) ?_
  refine lv_istore_n (lv' := [(2, .int (iI (0 : Int))), (0, .ref m0), (1, .int (iI lim))]) hx hb dX3_givesUp_1 rfl hl (by decide) rfl (fun ls hl => ?_)
  have lpo : ∀ (k9 : Nat) (i : Nat) (ls : Array Slot), (i ≤ n) → (∀ a, a < i → ∃ b, b < n ∧ inb w a b ∧ cst w q r a b < lim) → n - i = k9 → lv_has ls 5 [(0, .ref m0), (1, .int (iI lim)), (2, .int (iI (i : Int)))] → W p l e R s m args below meth c s.heap [] 0 0 Q (F0 m 2 ls []) := by
    intro k9
    induction k9 using Nat.strongRecOn with
    | ind k9 ih_lpo =>
      intro i ls hi hng hk9 hl
      refine lv_iload_n hx hb dX3_givesUp_2 rfl (lv_at hl 2 rfl) ?_
      refine lv_aload_n hx hb dX3_givesUp_3 rfl (lv_at hl 0 rfl) ?_
      refine va_get (D := (dC, dI)) (ci := 3) (v := .int (iI (n : Int))) (C := RX3) (T := TX3) (N := 17) hx hb hts in_X3 hown hK hP 0 rfl rfl 1 (by decide) fl_7 (fun _ h9 => h9) rfl dX3_givesUp_4 ?_
      refine z_icmp_ge (tgt := 78) hx hb dX3_givesUp_7 (by decide) (by omega) (fun h7 => ?_) (fun h7 => ?_)
      · refine lv_iconst (v := iI (0 : Int)) hx hb dX3_givesUp_78 (by decide) ?_
        exact zr_retz (z := (0 : Int)) hx hb hr hlocks hQ (by omega) (Or.inr ⟨rfl, fun h9 => by obtain ⟨a, a1, a2⟩ := h9; obtain ⟨b, b1, b2, b3⟩ := hng a (by omega); have := a2 b b1 b2; omega⟩) dX3_givesUp_79
      · refine lv_iconst (v := iI (1 : Int)) hx hb dX3_givesUp_10 (by decide) ?_
        refine lv_istore_n (lv' := [(3, .int (iI (1 : Int))), (0, .ref m0), (1, .int (iI lim)), (2, .int (iI (i : Int)))]) hx hb dX3_givesUp_11 rfl hl (by decide) rfl (fun ls hl => ?_)
        refine lv_iconst (v := iI (0 : Int)) hx hb dX3_givesUp_12 (by decide) ?_
        refine lv_istore (lv' := [(4, .int (iI (0 : Int))), (3, .int (iI (1 : Int))), (0, .ref m0), (1, .int (iI lim)), (2, .int (iI (i : Int)))]) hx hb dX3_givesUp_13 hl (by decide) rfl (fun ls hl => ?_)
        have lpi : ∀ (k9 : Nat) (j : Nat) (al : Int) (ls : Array Slot), (j ≤ n) → (alI n w i j q r lim al) → n - j = k9 → lv_has ls 5 [(0, .ref m0), (1, .int (iI lim)), (2, .int (iI (i : Int))), (3, .int (iI al)), (4, .int (iI (j : Int)))] → W p l e R s m args below meth c s.heap [] 0 0 Q (F0 m 15 ls []) := by
          intro k9
          induction k9 using Nat.strongRecOn with
          | ind k9 ih_lpi =>
            intro j al ls hj hal hk9 hl
            have h01 : al = 1 ∨ al = 0 := alI_01 hal
            refine lv_iload hx hb dX3_givesUp_15 (lv_at hl 4 rfl) ?_
            refine lv_aload_n hx hb dX3_givesUp_17 rfl (lv_at hl 0 rfl) ?_
            refine va_get (D := (dC, dI)) (ci := 3) (v := .int (iI (n : Int))) (C := RX3) (T := TX3) (N := 17) hx hb hts in_X3 hown hK hP 0 rfl rfl 1 (by decide) fl_7 (fun _ h9 => h9) rfl dX3_givesUp_18 ?_
            refine z_icmp_ge (tgt := 66) hx hb dX3_givesUp_21 (by decide) (by omega) (fun h21 => ?_) (fun h21 => ?_)
            · refine lv_iload_n hx hb dX3_givesUp_66 rfl (lv_at hl 3 rfl) ?_
              refine z_if_eq (tgt := 72) hx hb dX3_givesUp_67 (by decide) (by omega) (fun h67 => ?_) (fun h67 => ?_)
              · refine z_iinc (k := 2) (b := ((i + 1 : Nat) : Int)) (lv' := [(2, .int (iI ((i + 1 : Nat) : Int))), (0, .ref m0), (1, .int (iI lim)), (3, .int (iI al)), (4, .int (iI (j : Int)))]) hx hb dX3_givesUp_72 hl rfl (by omega) (by decide) rfl (fun ls hl => ?_)
                refine lv_goto (tgt := 2) hx hb dX3_givesUp_75 (by decide) ?_
                exact ih_lpo _ (by omega) (i + 1) ls (by omega) (fun a h => by by_cases g9 : a = i; (subst g9; exact alI_ex hal (by omega)); exact hng a (by omega)) rfl (lv_sub hl [1, 2, 0] rfl)
              · refine lv_iconst (v := iI (1 : Int)) hx hb dX3_givesUp_70 (by decide) ?_
                exact zr_retz (z := (1 : Int)) hx hb hr hlocks hQ (by omega) (Or.inl ⟨rfl, i, by omega, fun b b1 b2 => alI_all hal (by omega) b (by omega) b2⟩) dX3_givesUp_71
            · refine lv_iload_n hx hb dX3_givesUp_24 rfl (lv_at hl 3 rfl) ?_
              refine z_if_eq (tgt := 58) hx hb dX3_givesUp_25 (by decide) (by omega) (fun h25 => ?_) (fun h25 => ?_)
              · refine lv_iconst (v := iI (0 : Int)) hx hb dX3_givesUp_58 (by decide) ?_
                refine lv_istore_n (lv' := [(3, .int (iI (0 : Int))), (0, .ref m0), (1, .int (iI lim)), (2, .int (iI (i : Int))), (4, .int (iI (j : Int)))]) hx hb dX3_givesUp_59 rfl hl (by decide) rfl (fun ls hl => ?_)
                refine z_iinc (k := 4) (b := ((j + 1 : Nat) : Int)) (lv' := [(4, .int (iI ((j + 1 : Nat) : Int))), (3, .int (iI (0 : Int))), (0, .ref m0), (1, .int (iI lim)), (2, .int (iI (i : Int)))]) hx hb dX3_givesUp_60 hl rfl (by omega) (by decide) rfl (fun ls hl => ?_)
                refine lv_goto (tgt := 15) hx hb dX3_givesUp_63 (by decide) ?_
                exact ih_lpi _ (by omega) (j + 1) 0 ls (by omega) (gu_off hal (fun h9 => ⟨j, by omega, by omega, by omega⟩)) rfl (lv_sub hl [2, 3, 4, 1, 0] rfl)
              · refine lv_aload_n hx hb dX3_givesUp_28 rfl (lv_at hl 0 rfl) ?_
                refine lv_iload_n hx hb dX3_givesUp_29 rfl (lv_at hl 2 rfl) ?_
                refine lv_iload hx hb dX3_givesUp_30 (lv_at hl 4 rfl) ?_
                refine zr_i (va_runV (As := [.int (iI (i : Int)), .int (iI (j : Int))]) (rest := []) ⟨hx, hb, hml, hown, hts⟩ (c_inBand l dC dI cI m0 mq mn ml ms mr mg mp mpl mdi mc cd n w rc sc mo fo (i : Int) (j : Int) hn hw (by omega) (by omega)) (cwV 2 hts (ga_V wd_579 wd_581 wd_17 wd_31 wd_582) rfl rfl rfl (by decide +kernel) ⟨(show 1 + 1 ≤ R.frames by omega), (show 8 + (3 + 11) + 22 ≤ R.locals by omega)⟩) (rd_preV (q0 := 0) (ci := 3) hP hK [0] rfl rfl rfl) rfl rfl hl.1 rfl (lv_room (Nat.le_of_ble_eq_true rfl)) dX3_givesUp_32 ⟨by omega, by omega⟩) (fun z32 hz32 => ?_)
                refine z_if_eq (tgt := 54) hx hb dX3_givesUp_35 (by decide) (by omega) (fun h35 => ?_) (fun h35 => ?_)
                · refine lv_iconst (v := iI (1 : Int)) hx hb dX3_givesUp_54 (by decide) ?_
                  refine lv_goto (tgt := 59) hx hb dX3_givesUp_55 (by decide) ?_
                  refine lv_istore_n (lv' := [(3, .int (iI (1 : Int))), (0, .ref m0), (1, .int (iI lim)), (2, .int (iI (i : Int))), (4, .int (iI (j : Int)))]) hx hb dX3_givesUp_59 rfl hl (by decide) rfl (fun ls hl => ?_)
                  refine z_iinc (k := 4) (b := ((j + 1 : Nat) : Int)) (lv' := [(4, .int (iI ((j + 1 : Nat) : Int))), (3, .int (iI (1 : Int))), (0, .ref m0), (1, .int (iI lim)), (2, .int (iI (i : Int)))]) hx hb dX3_givesUp_60 hl rfl (by omega) (by decide) rfl (fun ls hl => ?_)
                  refine lv_goto (tgt := 15) hx hb dX3_givesUp_63 (by decide) ?_
                  exact ih_lpi _ (by omega) (j + 1) 1 ls (by omega) (gu_on hal (by omega) (fun h9 => by omega)) rfl (lv_sub hl [2, 3, 4, 1, 0] rfl)
                · have hbj : inb w i j := by omega
                  have ec := hfull i j (by omega) (by omega) hbj
                  have hcr := cst_rg hvq hvr hn.2 (show i < n by omega) (show j < n by omega) hbj
                  refine lv_aload_n hx hb dX3_givesUp_38 rfl (lv_at hl 0 rfl) ?_
                  refine va_get (D := (dC, dI)) (ci := 3) (v := .ref mg) (C := RX3) (T := TX3) (N := 17) hx hb hts in_X3 hown hK hP 0 rfl rfl 10 (by decide) fl_29 (fun _ h9 => h9) rfl dX3_givesUp_39 ?_
                  refine lv_bipush (v := iI (16 : Int)) hx hb dX3_givesUp_42 (by decide) ?_
                  refine lv_iload_n hx hb dX3_givesUp_44 rfl (lv_at hl 2 rfl) ?_
                  refine z_imul hx hb dX3_givesUp_45 ?_
                  refine lv_iload hx hb dX3_givesUp_46 (lv_at hl 4 rfl) ?_
                  refine z_iadd hx hb dX3_givesUp_48 ?_
                  refine z_iald hx hb hK hP 1 0 rfl rfl ((16 * i) + j) (by omega) dX3_givesUp_49 ?_
                  rw [ec]
                  refine lv_iload_n hx hb dX3_givesUp_50 rfl (lv_at hl 1 rfl) ?_
                  refine z_icmp_lt (tgt := 58) hx hb dX3_givesUp_51 (by decide) (by omega) (fun h51 => ?_) (fun h51 => ?_)
                  · refine lv_iconst (v := iI (0 : Int)) hx hb dX3_givesUp_58 (by decide) ?_
                    refine lv_istore_n (lv' := [(3, .int (iI (0 : Int))), (0, .ref m0), (1, .int (iI lim)), (2, .int (iI (i : Int))), (4, .int (iI (j : Int)))]) hx hb dX3_givesUp_59 rfl hl (by decide) rfl (fun ls hl => ?_)
                    refine z_iinc (k := 4) (b := ((j + 1 : Nat) : Int)) (lv' := [(4, .int (iI ((j + 1 : Nat) : Int))), (3, .int (iI (0 : Int))), (0, .ref m0), (1, .int (iI lim)), (2, .int (iI (i : Int)))]) hx hb dX3_givesUp_60 hl rfl (by omega) (by decide) rfl (fun ls hl => ?_)
                    refine lv_goto (tgt := 15) hx hb dX3_givesUp_63 (by decide) ?_
                    exact ih_lpi _ (by omega) (j + 1) 0 ls (by omega) (gu_off hal (fun h9 => ⟨j, by omega, by omega, by omega⟩)) rfl (lv_sub hl [2, 3, 4, 1, 0] rfl)
                  · refine lv_iconst (v := iI (1 : Int)) hx hb dX3_givesUp_54 (by decide) ?_
                    refine lv_goto (tgt := 59) hx hb dX3_givesUp_55 (by decide) ?_
                    refine lv_istore_n (lv' := [(3, .int (iI (1 : Int))), (0, .ref m0), (1, .int (iI lim)), (2, .int (iI (i : Int))), (4, .int (iI (j : Int)))]) hx hb dX3_givesUp_59 rfl hl (by decide) rfl (fun ls hl => ?_)
                    refine z_iinc (k := 4) (b := ((j + 1 : Nat) : Int)) (lv' := [(4, .int (iI ((j + 1 : Nat) : Int))), (3, .int (iI (1 : Int))), (0, .ref m0), (1, .int (iI lim)), (2, .int (iI (i : Int)))]) hx hb dX3_givesUp_60 hl rfl (by omega) (by decide) rfl (fun ls hl => ?_)
                    refine lv_goto (tgt := 15) hx hb dX3_givesUp_63 (by decide) ?_
                    exact ih_lpi _ (by omega) (j + 1) 1 ls (by omega) (gu_on hal (by omega) (fun h9 => by omega)) rfl (lv_sub hl [2, 3, 4, 1, 0] rfl)
        exact lpi _ 0 1 ls (by omega) (alI_0) rfl (lv_sub hl [2, 3, 4, 1, 0] rfl)
  exact lpo _ 0 ls (by omega) (fun a h => absurd h (Nat.not_lt_zero _)) rfl (lv_sub hl [1, 2, 0] rfl)
set_option maxRecDepth 100000 in
set_option maxHeartbeats 4000000 in
theorem c_start (l : Launch) (dC : Nat → ClassId) (dI : Nat → Nat → Nat) (cI : ClassId) (m0 mq mn ml ms mr mg mp mpl mdi mc : Nat) (cd : Int) (n w rc sc mo fo : Nat) (k0 : Nat) (T : Nat → Int) (sz : Nat)  : Met l yX3_start wsX3_start ({ frames := 0, cells := 0, slots := 0, locals := 0 }) (wrP dC dI [(cI, .int)] [(m0, .inr (3, [.int (iI cd), .int (iI (n : Int)), .int (iI (w : Int)), .ref mq, .int (iI (rc : Int)), .ref mn, .ref ml, .int (iI (sc : Int)), .ref ms, .ref mr, .ref mg, .ref mp, .int (iI (mo : Int)), .int (iI (fo : Int)), .ref mpl, .ref mdi, .ref mc])), (mc, .inl (cI, 5, .inl (iA T)))] sz [.ref m0, .int (iI (k0 : Int))]) (wrQv dC dI [(cI, .int)] [(m0, .inr (3, [.int (iI cd), .int (iI (n : Int)), .int (iI (w : Int)), .ref mq, .int (iI (rc : Int)), .ref mn, .ref ml, .int (iI (sc : Int)), .ref ms, .ref mr, .ref mg, .ref mp, .int (iI (mo : Int)), .int (iI (fo : Int)), .ref mpl, .ref mdi, .ref mc])), (mc, .inl (cI, 5, .inl (iA T)))] sz (S := Unit) (fun _ => True) (fun _ => [(m0, .inr (3, [.int (iI cd), .int (iI (n : Int)), .int (iI (w : Int)), .ref mq, .int (iI (rc : Int)), .ref mn, .ref ml, .int (iI (sc : Int)), .ref ms, .ref mr, .ref mg, .ref mp, .int (iI (k0 : Int)), .int (iI (0 : Int)), .ref mpl, .ref mdi, .ref mc])), (mc, .inl (cI, 5, .inl (iA (zF T 5 0))))])) 0 0 (va_A [(m0, .inr (3, [.int (iI cd), .int (iI (n : Int)), .int (iI (w : Int)), .ref mq, .int (iI (rc : Int)), .ref mn, .ref ml, .int (iI (sc : Int)), .ref ms, .ref mr, .ref mg, .ref mp, .int (iI (mo : Int)), .int (iI (fo : Int)), .ref mpl, .ref mdi, .ref mc])), (mc, .inl (cI, 5, .inl (iA T)))] sz) := by
  refine Met.ofW (cc := cX3_start) (maxL := 3) (ret := none) (by decide) rfl ?_
  intro p e s m args below meth c s₁ B hml hv
  obtain ⟨rfl, hsz, hP, hK, hD0⟩ := hv
  have hx := B.exec
  have hb := B.bytes
  have hr := B.returns
  have hts : ∀ w ∈ wsX3_start, w.before _ s = true := atoms_spec (ws := wsX3_start) B.pre
  have hown : s.vm.findClass RX3 = some m.cls := findClass_of_methodNamed B.named
  have hlocks := B.notSynchronized
  subst hsz
  have hD := hD0.self (sz := s.heap.size)
  have hA : ∀ q9 : Nat, s.heap.size ≤ q9 → va_A [(m0, .inr (3, [.int (iI cd), .int (iI (n : Int)), .int (iI (w : Int)), .ref mq, .int (iI (rc : Int)), .ref mn, .ref ml, .int (iI (sc : Int)), .ref ms, .ref mr, .ref mg, .ref mp, .int (iI (mo : Int)), .int (iI (fo : Int)), .ref mpl, .ref mdi, .ref mc])), (mc, .inl (cI, 5, .inl (iA T)))] s.heap.size q9 := fun q9 h => Or.inr h
  have hS : va_S (va_A [(m0, .inr (3, [.int (iI cd), .int (iI (n : Int)), .int (iI (w : Int)), .ref mq, .int (iI (rc : Int)), .ref mn, .ref ml, .int (iI (sc : Int)), .ref ms, .ref mr, .ref mg, .ref mp, .int (iI (mo : Int)), .int (iI (fo : Int)), .ref mpl, .ref mdi, .ref mc])), (mc, .inl (cI, 5, .inl (iA T)))] s.heap.size) s.heap s.heap [] := va_S.rf
  generalize hAe : va_A [(m0, .inr (3, [.int (iI cd), .int (iI (n : Int)), .int (iI (w : Int)), .ref mq, .int (iI (rc : Int)), .ref mn, .ref ml, .int (iI (sc : Int)), .ref ms, .ref mr, .ref mg, .ref mp, .int (iI (mo : Int)), .int (iI (fo : Int)), .ref mpl, .ref mdi, .ref mc])), (mc, .inl (cI, 5, .inl (iA T)))] s.heap.size = A at hD hA hS
  have hP : va_P (dC, dI) vwCl [(m0, .inr (3, [.int (iI cd), .int (iI (n : Int)), .int (iI (w : Int)), .ref mq, .int (iI (rc : Int)), .ref mn, .ref ml, .int (iI (sc : Int)), .ref ms, .ref mr, .ref mg, .ref mp, .int (iI (mo : Int)), .int (iI (fo : Int)), .ref mpl, .ref mdi, .ref mc])), (mc, .inl (cI, 5, .inl (iA T)))] s.heap := hP
  have hl := lv_entry ([.ref m0, .int (iI (k0 : Int))]) (n := 3) (Nat.le_of_ble_eq_true rfl)
  rw [lg_entry_eq]
  generalize (lg_sl ([.ref m0, .int (iI (k0 : Int))]) ++ List.replicate (3 - (lg_sl ([.ref m0, .int (iI (k0 : Int))])).length) Slot.unset).toArray = ls at hl ⊢
  have hl : lv_has ls 3 [(0, .ref m0), (1, .int (iI (k0 : Int)))] := hl
  generalize hargs : ([.ref m0, .int (iI (k0 : Int))] : List Value).toArray = args at hts ⊢
  refine z_intro (fun R Q hR hQ => ?_)
  have hRf : R.frames = 0 := by rw [hR]; rfl
  have hRl : R.locals = 0 := by rw [hR]; rfl
  have hRc : R.cells = 0 := by rw [hR]; rfl
  have hRs : R.slots = 0 := by rw [hR]; rfl
  have in_X3 : ∀ w ∈ u_ws RX3 TX3 17, w ∈ wsX3_start := fun w h => List.mem_cons_of_mem _ (inW_X3 w h)
  have fl_41 := wa_hts hts wd_500
  have fl_54 := wa_hts hts wd_497
  have fl_94 := wa_hts hts wd_496
  clear hR hargs B
  refine lv_aload_n hx hb dX3_start_0 rfl (lv_at hl 0 rfl) ?_
  refine lv_iload_n hx hb dX3_start_1 rfl (lv_at hl 1 rfl) ?_
  refine va_put (D := (dC, dI)) (ci := 3) (v := .int (iI (k0 : Int))) (ty := .int) (C := RX3) (T := TX3) (N := 17) hx hb hts in_X3 tyX3 tyX3_ok nmX3 hown hK hP hD hS 0 rfl rfl 12 (by decide) fl_94 (fun _ h9 => h9) rfl (by decide +kernel) rfl rfl (Nat.le_of_ble_eq_true rfl) dX3_start_2 (fun H locs hP hD hS => ?_)
  have hP : va_P (dC, dI) vwCl [(m0, .inr (3, [.int (iI cd), .int (iI (n : Int)), .int (iI (w : Int)), .ref mq, .int (iI (rc : Int)), .ref mn, .ref ml, .int (iI (sc : Int)), .ref ms, .ref mr, .ref mg, .ref mp, .int (iI (k0 : Int)), .int (iI (fo : Int)), .ref mpl, .ref mdi, .ref mc])), (mc, .inl (cI, 5, .inl (iA T)))] H := hP
  have hD : va_D A [(m0, .inr (3, [.int (iI cd), .int (iI (n : Int)), .int (iI (w : Int)), .ref mq, .int (iI (rc : Int)), .ref mn, .ref ml, .int (iI (sc : Int)), .ref ms, .ref mr, .ref mg, .ref mp, .int (iI (k0 : Int)), .int (iI (fo : Int)), .ref mpl, .ref mdi, .ref mc])), (mc, .inl (cI, 5, .inl (iA T)))] := hD
  refine lv_aload_n hx hb dX3_start_5 rfl (lv_at hl 0 rfl) ?_
  refine lv_iconst (v := iI (0 : Int)) hx hb dX3_start_6 (by decide) ?_
  refine va_put (D := (dC, dI)) (ci := 3) (v := .int (iI (0 : Int))) (ty := .int) (C := RX3) (T := TX3) (N := 17) hx hb hts in_X3 tyX3 tyX3_ok nmX3 hown hK hP hD hS 0 rfl rfl 13 (by decide) fl_54 (fun _ h9 => h9) rfl (by decide +kernel) rfl rfl (Nat.le_of_ble_eq_true rfl) dX3_start_7 (fun H locs hP hD hS => ?_)
  have hP : va_P (dC, dI) vwCl [(m0, .inr (3, [.int (iI cd), .int (iI (n : Int)), .int (iI (w : Int)), .ref mq, .int (iI (rc : Int)), .ref mn, .ref ml, .int (iI (sc : Int)), .ref ms, .ref mr, .ref mg, .ref mp, .int (iI (k0 : Int)), .int (iI (0 : Int)), .ref mpl, .ref mdi, .ref mc])), (mc, .inl (cI, 5, .inl (iA T)))] H := hP
  have hD : va_D A [(m0, .inr (3, [.int (iI cd), .int (iI (n : Int)), .int (iI (w : Int)), .ref mq, .int (iI (rc : Int)), .ref mn, .ref ml, .int (iI (sc : Int)), .ref ms, .ref mr, .ref mg, .ref mp, .int (iI (k0 : Int)), .int (iI (0 : Int)), .ref mpl, .ref mdi, .ref mc])), (mc, .inl (cI, 5, .inl (iA T)))] := hD
  refine lv_iconst (v := iI (0 : Int)) hx hb dX3_start_10 (by decide) ?_
  refine lv_istore_n (lv' := [(2, .int (iI (0 : Int))), (0, .ref m0), (1, .int (iI (k0 : Int)))]) hx hb dX3_start_11 rfl hl (by decide) rfl (fun ls hl => ?_)
  have lp : ∀ (k9 : Nat) (i : Nat) (T9 : Nat → Int) (H : Heap) (locs : List Loc) (ls : Array Slot), (i ≤ 5) → (T9 = zF T i 0) → 5 - i = k9 → va_P (dC, dI) vwCl [(m0, .inr (3, [.int (iI cd), .int (iI (n : Int)), .int (iI (w : Int)), .ref mq, .int (iI (rc : Int)), .ref mn, .ref ml, .int (iI (sc : Int)), .ref ms, .ref mr, .ref mg, .ref mp, .int (iI (k0 : Int)), .int (iI (0 : Int)), .ref mpl, .ref mdi, .ref mc])), (mc, .inl (cI, 5, .inl (iA T9)))] H → va_D A [(m0, .inr (3, [.int (iI cd), .int (iI (n : Int)), .int (iI (w : Int)), .ref mq, .int (iI (rc : Int)), .ref mn, .ref ml, .int (iI (sc : Int)), .ref ms, .ref mr, .ref mg, .ref mp, .int (iI (k0 : Int)), .int (iI (0 : Int)), .ref mpl, .ref mdi, .ref mc])), (mc, .inl (cI, 5, .inl (iA T9)))] → va_S A s.heap H locs → lv_has ls 3 [(0, .ref m0), (1, .int (iI (k0 : Int))), (2, .int (iI (i : Int)))] → W p l e R s m args below meth c H locs 0 0 Q (F0 m 12 ls []) := by
    intro k9
    induction k9 using Nat.strongRecOn with
    | ind k9 ih_lp =>
      intro i T9 H locs ls hi hT9 hk9 hP hD hS hl
      refine lv_iload_n hx hb dX3_start_12 rfl (lv_at hl 2 rfl) ?_
      refine lv_iconst (v := iI (5 : Int)) hx hb dX3_start_13 (by decide) ?_
      refine z_icmp_ge (tgt := 30) hx hb dX3_start_14 (by decide) (by omega) (fun h14 => ?_) (fun h14 => ?_)
      · have ein : i = 5 := by omega
        rw [hT9, ein] at hP hD
        subst hAe
        exact zw_retv (()) hx hb hr hlocks hQ (trivial) hP hK hD hS dX3_start_30
      · refine lv_aload_n hx hb dX3_start_17 rfl (lv_at hl 0 rfl) ?_
        refine va_get (D := (dC, dI)) (ci := 3) (v := .ref mc) (C := RX3) (T := TX3) (N := 17) hx hb hts in_X3 hown hK hP 0 rfl rfl 16 (by decide) fl_41 (fun _ h9 => h9) rfl dX3_start_18 ?_
        refine lv_iload_n hx hb dX3_start_21 rfl (lv_at hl 2 rfl) ?_
        refine lv_iconst (v := iI (0 : Int)) hx hb dX3_start_22 (by decide) ?_
        refine z_iast hx hb hK hP hD hS 1 0 rfl rfl i (by omega) dX3_start_23 (fun H locs hP hD hS => ?_)
        have hP : va_P (dC, dI) vwCl [(m0, .inr (3, [.int (iI cd), .int (iI (n : Int)), .int (iI (w : Int)), .ref mq, .int (iI (rc : Int)), .ref mn, .ref ml, .int (iI (sc : Int)), .ref ms, .ref mr, .ref mg, .ref mp, .int (iI (k0 : Int)), .int (iI (0 : Int)), .ref mpl, .ref mdi, .ref mc])), (mc, .inl (cI, 5, .inl (iA (zU T9 i (0 : Int)))))] H := hP
        have hD : va_D A [(m0, .inr (3, [.int (iI cd), .int (iI (n : Int)), .int (iI (w : Int)), .ref mq, .int (iI (rc : Int)), .ref mn, .ref ml, .int (iI (sc : Int)), .ref ms, .ref mr, .ref mg, .ref mp, .int (iI (k0 : Int)), .int (iI (0 : Int)), .ref mpl, .ref mdi, .ref mc])), (mc, .inl (cI, 5, .inl (iA (zU T9 i (0 : Int)))))] := hD
        refine z_iinc (k := 2) (b := ((i + 1 : Nat) : Int)) (lv' := [(2, .int (iI ((i + 1 : Nat) : Int))), (0, .ref m0), (1, .int (iI (k0 : Int)))]) hx hb dX3_start_24 hl rfl (by omega) (by decide) rfl (fun ls hl => ?_)
        refine lv_goto (tgt := 12) hx hb dX3_start_27 (by decide) ?_
        exact ih_lp _ (by omega) (i + 1) (zU T9 i 0) H locs ls (by omega) (by rw [hT9]; exact zF_step) rfl hP hD hS (lv_sub hl [1, 2, 0] rfl)
  exact lp _ 0 T _ _ ls (by omega) ((zF_0 _ _).symm) rfl hP hD hS (lv_sub hl [1, 2, 0] rfl)
set_option maxRecDepth 100000 in
set_option maxHeartbeats 4000000 in
theorem c_tally (l : Launch) (dC : Nat → ClassId) (dI : Nat → Nat → Nat) (cI : ClassId) (m0 mq mn ml ms mr mg mp mpl mdi mc : Nat) (cd : Int) (n w rc sc mo fo : Nat) (k0 : Nat) (T : Nat → Int) (sz : Nat) (hk0 : k0 < 5) : Met l yX3_tally wsX3_tally ({ frames := 0, cells := 0, slots := 0, locals := 0 }) (wrP dC dI [(cI, .int)] [(m0, .inr (3, [.int (iI cd), .int (iI (n : Int)), .int (iI (w : Int)), .ref mq, .int (iI (rc : Int)), .ref mn, .ref ml, .int (iI (sc : Int)), .ref ms, .ref mr, .ref mg, .ref mp, .int (iI (mo : Int)), .int (iI (fo : Int)), .ref mpl, .ref mdi, .ref mc])), (mc, .inl (cI, 5, .inl (iA T)))] sz [.ref m0, .int (iI (k0 : Int))]) (wrQv dC dI [(cI, .int)] [(m0, .inr (3, [.int (iI cd), .int (iI (n : Int)), .int (iI (w : Int)), .ref mq, .int (iI (rc : Int)), .ref mn, .ref ml, .int (iI (sc : Int)), .ref ms, .ref mr, .ref mg, .ref mp, .int (iI (mo : Int)), .int (iI (fo : Int)), .ref mpl, .ref mdi, .ref mc])), (mc, .inl (cI, 5, .inl (iA T)))] sz (S := Unit) (fun _ => True) (fun _ => [(m0, .inr (3, [.int (iI cd), .int (iI (n : Int)), .int (iI (w : Int)), .ref mq, .int (iI (rc : Int)), .ref mn, .ref ml, .int (iI (sc : Int)), .ref ms, .ref mr, .ref mg, .ref mp, .int (iI (mo : Int)), .int (iI (fo : Int)), .ref mpl, .ref mdi, .ref mc])), (mc, .inl (cI, 5, .inl (iA (bmp T k0))))])) 0 0 (va_A [(m0, .inr (3, [.int (iI cd), .int (iI (n : Int)), .int (iI (w : Int)), .ref mq, .int (iI (rc : Int)), .ref mn, .ref ml, .int (iI (sc : Int)), .ref ms, .ref mr, .ref mg, .ref mp, .int (iI (mo : Int)), .int (iI (fo : Int)), .ref mpl, .ref mdi, .ref mc])), (mc, .inl (cI, 5, .inl (iA T)))] sz) := by
  refine Met.ofW (cc := cX3_tally) (maxL := 2) (ret := none) (by decide) rfl ?_
  intro p e s m args below meth c s₁ B hml hv
  obtain ⟨rfl, hsz, hP, hK, hD0⟩ := hv
  have hx := B.exec
  have hb := B.bytes
  have hr := B.returns
  have hts : ∀ w ∈ wsX3_tally, w.before _ s = true := atoms_spec (ws := wsX3_tally) B.pre
  have hown : s.vm.findClass RX3 = some m.cls := findClass_of_methodNamed B.named
  have hlocks := B.notSynchronized
  subst hsz
  have hD := hD0.self (sz := s.heap.size)
  have hA : ∀ q9 : Nat, s.heap.size ≤ q9 → va_A [(m0, .inr (3, [.int (iI cd), .int (iI (n : Int)), .int (iI (w : Int)), .ref mq, .int (iI (rc : Int)), .ref mn, .ref ml, .int (iI (sc : Int)), .ref ms, .ref mr, .ref mg, .ref mp, .int (iI (mo : Int)), .int (iI (fo : Int)), .ref mpl, .ref mdi, .ref mc])), (mc, .inl (cI, 5, .inl (iA T)))] s.heap.size q9 := fun q9 h => Or.inr h
  have hS : va_S (va_A [(m0, .inr (3, [.int (iI cd), .int (iI (n : Int)), .int (iI (w : Int)), .ref mq, .int (iI (rc : Int)), .ref mn, .ref ml, .int (iI (sc : Int)), .ref ms, .ref mr, .ref mg, .ref mp, .int (iI (mo : Int)), .int (iI (fo : Int)), .ref mpl, .ref mdi, .ref mc])), (mc, .inl (cI, 5, .inl (iA T)))] s.heap.size) s.heap s.heap [] := va_S.rf
  generalize hAe : va_A [(m0, .inr (3, [.int (iI cd), .int (iI (n : Int)), .int (iI (w : Int)), .ref mq, .int (iI (rc : Int)), .ref mn, .ref ml, .int (iI (sc : Int)), .ref ms, .ref mr, .ref mg, .ref mp, .int (iI (mo : Int)), .int (iI (fo : Int)), .ref mpl, .ref mdi, .ref mc])), (mc, .inl (cI, 5, .inl (iA T)))] s.heap.size = A at hD hA hS
  have hP : va_P (dC, dI) vwCl [(m0, .inr (3, [.int (iI cd), .int (iI (n : Int)), .int (iI (w : Int)), .ref mq, .int (iI (rc : Int)), .ref mn, .ref ml, .int (iI (sc : Int)), .ref ms, .ref mr, .ref mg, .ref mp, .int (iI (mo : Int)), .int (iI (fo : Int)), .ref mpl, .ref mdi, .ref mc])), (mc, .inl (cI, 5, .inl (iA T)))] s.heap := hP
  have hl := lv_entry ([.ref m0, .int (iI (k0 : Int))]) (n := 2) (Nat.le_of_ble_eq_true rfl)
  rw [lg_entry_eq]
  generalize (lg_sl ([.ref m0, .int (iI (k0 : Int))]) ++ List.replicate (2 - (lg_sl ([.ref m0, .int (iI (k0 : Int))])).length) Slot.unset).toArray = ls at hl ⊢
  have hl : lv_has ls 2 [(0, .ref m0), (1, .int (iI (k0 : Int)))] := hl
  generalize hargs : ([.ref m0, .int (iI (k0 : Int))] : List Value).toArray = args at hts ⊢
  refine z_intro (fun R Q hR hQ => ?_)
  have hRf : R.frames = 0 := by rw [hR]; rfl
  have hRl : R.locals = 0 := by rw [hR]; rfl
  have hRc : R.cells = 0 := by rw [hR]; rfl
  have hRs : R.slots = 0 := by rw [hR]; rfl
  have in_X3 : ∀ w ∈ u_ws RX3 TX3 17, w ∈ wsX3_tally := fun w h => List.mem_cons_of_mem _ (inW_X3 w h)
  have fl_41 := wa_hts hts wd_500
  clear hR hargs B
  refine lv_aload_n hx hb dX3_tally_0 rfl (lv_at hl 0 rfl) ?_
  refine va_get (D := (dC, dI)) (ci := 3) (v := .ref mc) (C := RX3) (T := TX3) (N := 17) hx hb hts in_X3 hown hK hP 0 rfl rfl 16 (by decide) fl_41 (fun _ h9 => h9) rfl dX3_tally_1 ?_
  refine lv_iload_n hx hb dX3_tally_4 rfl (lv_at hl 1 rfl) ?_
  refine lv_aload_n hx hb dX3_tally_5 rfl (lv_at hl 0 rfl) ?_
  refine va_get (D := (dC, dI)) (ci := 3) (v := .ref mc) (C := RX3) (T := TX3) (N := 17) hx hb hts in_X3 hown hK hP 0 rfl rfl 16 (by decide) fl_41 (fun _ h9 => h9) rfl dX3_tally_6 ?_
  refine lv_iload_n hx hb dX3_tally_9 rfl (lv_at hl 1 rfl) ?_
  refine z_iald hx hb hK hP 1 0 rfl rfl k0 (by omega) dX3_tally_10 ?_
  refine lv_iconst (v := iI (1 : Int)) hx hb dX3_tally_11 (by decide) ?_
  refine z_iadd hx hb dX3_tally_12 ?_
  refine z_iast hx hb hK hP hD hS 1 0 rfl rfl k0 (by omega) dX3_tally_13 (fun H locs hP hD hS => ?_)
  have hP : va_P (dC, dI) vwCl [(m0, .inr (3, [.int (iI cd), .int (iI (n : Int)), .int (iI (w : Int)), .ref mq, .int (iI (rc : Int)), .ref mn, .ref ml, .int (iI (sc : Int)), .ref ms, .ref mr, .ref mg, .ref mp, .int (iI (mo : Int)), .int (iI (fo : Int)), .ref mpl, .ref mdi, .ref mc])), (mc, .inl (cI, 5, .inl (iA (zU T k0 ((T k0) + (1 : Int))))))] H := hP
  have hD : va_D A [(m0, .inr (3, [.int (iI cd), .int (iI (n : Int)), .int (iI (w : Int)), .ref mq, .int (iI (rc : Int)), .ref mn, .ref ml, .int (iI (sc : Int)), .ref ms, .ref mr, .ref mg, .ref mp, .int (iI (mo : Int)), .int (iI (fo : Int)), .ref mpl, .ref mdi, .ref mc])), (mc, .inl (cI, 5, .inl (iA (zU T k0 ((T k0) + (1 : Int))))))] := hD
  subst hAe
  exact zw_retv (()) hx hb hr hlocks hQ (trivial) hP hK hD hS dX3_tally_14
