set_option maxRecDepth 100000 in
set_option maxHeartbeats 4000000 in
theorem c_mGuess (l : Launch) (dC : Nat → ClassId) (dI : Nat → Nat → Nat) (cI : ClassId) (m0 mq mn ml ms mr mg mp mpl mdi mc : Nat) (cd : Int) (n w rc sc mo fo : Nat) (kw : Int) (q X r G PL DI T la : Nat → Int) (sz : Nat) (hn : 2 ≤ n ∧ n ≤ 16) (hw : w ≤ 15) (hrc : rc ≤ 12) (hkw : -2147483648 ≤ kw ∧ kw ≤ 2147483647) (hvq : vals n q) (hvX : vals 192 X) (hG : rgA G) (hDI : rgA DI) (hrl : rgA la) : Met l yX3_guess wsX3_guess ({ frames := 6, cells := 0, slots := 0, locals := 137 }) (wrP dC dI [(cI, .int)] [(m0, .inr (3, [.int (iI cd), .int (iI (n : Int)), .int (iI (w : Int)), .ref mq, .int (iI (rc : Int)), .ref mn, .ref ml, .int (iI (sc : Int)), .ref ms, .ref mr, .ref mg, .ref mp, .int (iI (mo : Int)), .int (iI (fo : Int)), .ref mpl, .ref mdi, .ref mc])), (mq, .inl (cI, 16, .inl (iA q))), (mn, .inl (cI, 192, .inl (iA X))), (mr, .inl (cI, 16, .inl (iA r))), (mg, .inl (cI, 256, .inl (iA G))), (mpl, .inl (cI, 13, .inl (iA PL))), (mdi, .inl (cI, 13, .inl (iA DI))), (mc, .inl (cI, 5, .inl (iA T))), (ml, .inl (cI, 12, .inl (iA la)))] sz [.ref m0, .int (iI kw)]) (wrQi dC dI [(cI, .int)] [(m0, .inr (3, [.int (iI cd), .int (iI (n : Int)), .int (iI (w : Int)), .ref mq, .int (iI (rc : Int)), .ref mn, .ref ml, .int (iI (sc : Int)), .ref ms, .ref mr, .ref mg, .ref mp, .int (iI (mo : Int)), .int (iI (fo : Int)), .ref mpl, .ref mdi, .ref mc])), (mq, .inl (cI, 16, .inl (iA q))), (mn, .inl (cI, 192, .inl (iA X))), (mr, .inl (cI, 16, .inl (iA r))), (mg, .inl (cI, 256, .inl (iA G))), (mpl, .inl (cI, 13, .inl (iA PL))), (mdi, .inl (cI, 13, .inl (iA DI))), (mc, .inl (cI, 5, .inl (iA T))), (ml, .inl (cI, 12, .inl (iA la)))] sz (S := (Int × Nat × Lst × (Nat → Int) × (Nat → Int))) (fun z u => ((1 ≤ kw ∧ kw ≤ 12) ∧ (0 < rc) ∧ u.1 = 0 ∧ u.2.1 = kw.toNat ∧ lsim u.2.2.1 (srch n w q (fun p j => X (16 * p + j)) kw.toNat (0, PL, DI, zF T 5 0) (rc)) ∧ lok kw.toNat u.2.2.1 ∧ rgA u.2.2.2.2 ∧ z = (gss la u.2.2.1.2.1 u.2.2.1.1 0 u.2.2.1.1).1) ∨ ((kw < 1 ∨ 12 < kw) ∧ u = (1, mo, (fo, PL, DI, T), r, G) ∧ z = 0) ∨ ((1 ≤ kw ∧ kw ≤ 12) ∧ ¬ (0 < rc) ∧ u = (2, mo, (fo, PL, DI, T), r, G) ∧ z = 0)) (fun u => [(m0, .inr (3, [.int (iI u.1), .int (iI (n : Int)), .int (iI (w : Int)), .ref mq, .int (iI (rc : Int)), .ref mn, .ref ml, .int (iI (sc : Int)), .ref ms, .ref mr, .ref mg, .ref mp, .int (iI ((u.2.1 : Nat) : Int)), .int (iI ((u.2.2.1.1 : Nat) : Int)), .ref mpl, .ref mdi, .ref mc])), (mq, .inl (cI, 16, .inl (iA q))), (mn, .inl (cI, 192, .inl (iA X))), (mr, .inl (cI, 16, .inl (iA u.2.2.2.1))), (mg, .inl (cI, 256, .inl (iA u.2.2.2.2))), (mpl, .inl (cI, 13, .inl (iA u.2.2.1.2.1))), (mdi, .inl (cI, 13, .inl (iA u.2.2.1.2.2.1))), (mc, .inl (cI, 5, .inl (iA u.2.2.1.2.2.2))), (ml, .inl (cI, 12, .inl (iA la)))])) 0 0 (va_A [(m0, .inr (3, [.int (iI cd), .int (iI (n : Int)), .int (iI (w : Int)), .ref mq, .int (iI (rc : Int)), .ref mn, .ref ml, .int (iI (sc : Int)), .ref ms, .ref mr, .ref mg, .ref mp, .int (iI (mo : Int)), .int (iI (fo : Int)), .ref mpl, .ref mdi, .ref mc])), (mq, .inl (cI, 16, .inl (iA q))), (mn, .inl (cI, 192, .inl (iA X))), (mr, .inl (cI, 16, .inl (iA r))), (mg, .inl (cI, 256, .inl (iA G))), (mpl, .inl (cI, 13, .inl (iA PL))), (mdi, .inl (cI, 13, .inl (iA DI))), (mc, .inl (cI, 5, .inl (iA T))), (ml, .inl (cI, 12, .inl (iA la)))] sz) := by
  refine Met.ofW (cc := cX3_guess) (maxL := 8) (ret := (some .int)) (by decide) rfl ?_
  intro p e s m args below meth c s₁ B hml hv
  obtain ⟨rfl, hsz, hP, hK, hD0⟩ := hv
  have hx := B.exec
  have hb := B.bytes
  have hr := B.returns
  have hts : ∀ w ∈ wsX3_guess, w.before _ s = true := atoms_spec (ws := wsX3_guess) B.pre
  have hown : s.vm.findClass RX3 = some m.cls := findClass_of_methodNamed B.named
  have hlocks := B.notSynchronized
  subst hsz
  have hD := hD0.self (sz := s.heap.size)
  have hA : ∀ q9 : Nat, s.heap.size ≤ q9 → va_A [(m0, .inr (3, [.int (iI cd), .int (iI (n : Int)), .int (iI (w : Int)), .ref mq, .int (iI (rc : Int)), .ref mn, .ref ml, .int (iI (sc : Int)), .ref ms, .ref mr, .ref mg, .ref mp, .int (iI (mo : Int)), .int (iI (fo : Int)), .ref mpl, .ref mdi, .ref mc])), (mq, .inl (cI, 16, .inl (iA q))), (mn, .inl (cI, 192, .inl (iA X))), (mr, .inl (cI, 16, .inl (iA r))), (mg, .inl (cI, 256, .inl (iA G))), (mpl, .inl (cI, 13, .inl (iA PL))), (mdi, .inl (cI, 13, .inl (iA DI))), (mc, .inl (cI, 5, .inl (iA T))), (ml, .inl (cI, 12, .inl (iA la)))] s.heap.size q9 := fun q9 h => Or.inr h
  have hS : va_S (va_A [(m0, .inr (3, [.int (iI cd), .int (iI (n : Int)), .int (iI (w : Int)), .ref mq, .int (iI (rc : Int)), .ref mn, .ref ml, .int (iI (sc : Int)), .ref ms, .ref mr, .ref mg, .ref mp, .int (iI (mo : Int)), .int (iI (fo : Int)), .ref mpl, .ref mdi, .ref mc])), (mq, .inl (cI, 16, .inl (iA q))), (mn, .inl (cI, 192, .inl (iA X))), (mr, .inl (cI, 16, .inl (iA r))), (mg, .inl (cI, 256, .inl (iA G))), (mpl, .inl (cI, 13, .inl (iA PL))), (mdi, .inl (cI, 13, .inl (iA DI))), (mc, .inl (cI, 5, .inl (iA T))), (ml, .inl (cI, 12, .inl (iA la)))] s.heap.size) s.heap s.heap [] := va_S.rf
  generalize hAe : va_A [(m0, .inr (3, [.int (iI cd), .int (iI (n : Int)), .int (iI (w : Int)), .ref mq, .int (iI (rc : Int)), .ref mn, .ref ml, .int (iI (sc : Int)), .ref ms, .ref mr, .ref mg, .ref mp, .int (iI (mo : Int)), .int (iI (fo : Int)), .ref mpl, .ref mdi, .ref mc])), (mq, .inl (cI, 16, .inl (iA q))), (mn, .inl (cI, 192, .inl (iA X))), (mr, .inl (cI, 16, .inl (iA r))), (mg, .inl (cI, 256, .inl (iA G))), (mpl, .inl (cI, 13, .inl (iA PL))), (mdi, .inl (cI, 13, .inl (iA DI))), (mc, .inl (cI, 5, .inl (iA T))), (ml, .inl (cI, 12, .inl (iA la)))] s.heap.size = A at hD hA hS
  have hP : va_P (dC, dI) vwCl [(m0, .inr (3, [.int (iI cd), .int (iI (n : Int)), .int (iI (w : Int)), .ref mq, .int (iI (rc : Int)), .ref mn, .ref ml, .int (iI (sc : Int)), .ref ms, .ref mr, .ref mg, .ref mp, .int (iI (mo : Int)), .int (iI (fo : Int)), .ref mpl, .ref mdi, .ref mc])), (mq, .inl (cI, 16, .inl (iA q))), (mn, .inl (cI, 192, .inl (iA X))), (mr, .inl (cI, 16, .inl (iA r))), (mg, .inl (cI, 256, .inl (iA G))), (mpl, .inl (cI, 13, .inl (iA PL))), (mdi, .inl (cI, 13, .inl (iA DI))), (mc, .inl (cI, 5, .inl (iA T))), (ml, .inl (cI, 12, .inl (iA la)))] s.heap := hP
  have hl := lv_entry ([.ref m0, .int (iI kw)]) (n := 8) (Nat.le_of_ble_eq_true rfl)
  rw [lg_entry_eq]
  generalize (lg_sl ([.ref m0, .int (iI kw)]) ++ List.replicate (8 - (lg_sl ([.ref m0, .int (iI kw)])).length) Slot.unset).toArray = ls at hl ⊢
  have hl : lv_has ls 8 [(0, .ref m0), (1, .int (iI kw))] := hl
  generalize hargs : ([.ref m0, .int (iI kw)] : List Value).toArray = args at hts ⊢
  refine z_intro (fun R Q hR hQ => ?_)
  have hRf : R.frames = 6 := by rw [hR]; rfl
  have hRl : R.locals = 137 := by rw [hR]; rfl
  have hRc : R.cells = 0 := by rw [hR]; rfl
  have hRs : R.slots = 0 := by rw [hR]; rfl
  have in_X3 : ∀ w ∈ u_ws RX3 TX3 17, w ∈ wsX3_guess := fun w h => List.mem_cons_of_mem _ (inW_X3 w h)
  have fl_20 := wa_hts hts wd_490
  have fl_35 := wa_hts hts wd_498
  have fl_44 := wa_hts hts wd_484
  clear hR hargs B
  refine lv_aload_n hx hb dX3_guess_0 rfl (lv_at hl 0 rfl) ?_
  refine lv_iload_n hx hb dX3_guess_1 rfl (lv_at hl 1 rfl) ?_
  refine zw_i (wr := [(ml, .inl (cI, 12, .inl (iA la)))]) (va_runV (As := [.int (iI kw)]) (rest := []) ⟨hx, hb, hml, hown, hts⟩ (c_mSearch l dC dI cI m0 mq mn ml ms mr mg mp mpl mdi mc cd n w rc sc mo fo kw q X r G PL DI T _ hn hw hrc hkw hvq hvX hG hDI) (cwV 1 hts (ga_V wd_650 wd_615 wd_616 wd_31 wd_617) rfl rfl rfl (by decide +kernel) ⟨(show 5 + 1 ≤ R.frames by omega), (show 8 + (3 + 11) + 115 ≤ R.locals by omega)⟩) (wr_preV (q0 := 0) (ci := 3) hP hK hD [0, 1, 2, 3, 4, 5, 6, 7] (by decide) rfl rfl rfl rfl) rfl rfl hl.1 rfl (lv_room (Nat.le_of_ble_eq_true rfl)) dX3_guess_2 ⟨by omega, by omega⟩) hP hD hS hA [0, 1, 2, 3, 4, 5, 6, 7] [8] rfl rfl (by decide) (by decide) (fun z2 u2 H locs hw2 hP hD hS => ?_)
  have hP := hP.sub (ws' := [(m0, .inr (3, [.int (iI u2.1), .int (iI (n : Int)), .int (iI (w : Int)), .ref mq, .int (iI (rc : Int)), .ref mn, .ref ml, .int (iI (sc : Int)), .ref ms, .ref mr, .ref mg, .ref mp, .int (iI ((u2.2.1 : Nat) : Int)), .int (iI ((u2.2.2.1.1 : Nat) : Int)), .ref mpl, .ref mdi, .ref mc])), (mq, .inl (cI, 16, .inl (iA q))), (mn, .inl (cI, 192, .inl (iA X))), (mr, .inl (cI, 16, .inl (iA u2.2.2.2.1))), (mg, .inl (cI, 256, .inl (iA u2.2.2.2.2))), (mpl, .inl (cI, 13, .inl (iA u2.2.2.1.2.1))), (mdi, .inl (cI, 13, .inl (iA u2.2.2.1.2.2.1))), (mc, .inl (cI, 5, .inl (iA u2.2.2.1.2.2.2))), (ml, .inl (cI, 12, .inl (iA la)))]) [1, 2, 3, 4, 5, 6, 7, 8, 0] rfl
  have hD := hD.sub (ws' := [(m0, .inr (3, [.int (iI u2.1), .int (iI (n : Int)), .int (iI (w : Int)), .ref mq, .int (iI (rc : Int)), .ref mn, .ref ml, .int (iI (sc : Int)), .ref ms, .ref mr, .ref mg, .ref mp, .int (iI ((u2.2.1 : Nat) : Int)), .int (iI ((u2.2.2.1.1 : Nat) : Int)), .ref mpl, .ref mdi, .ref mc])), (mq, .inl (cI, 16, .inl (iA q))), (mn, .inl (cI, 192, .inl (iA X))), (mr, .inl (cI, 16, .inl (iA u2.2.2.2.1))), (mg, .inl (cI, 256, .inl (iA u2.2.2.2.2))), (mpl, .inl (cI, 13, .inl (iA u2.2.2.1.2.1))), (mdi, .inl (cI, 13, .inl (iA u2.2.2.1.2.2.1))), (mc, .inl (cI, 5, .inl (iA u2.2.2.1.2.2.2))), (ml, .inl (cI, 12, .inl (iA la)))]) [1, 2, 3, 4, 5, 6, 7, 8, 0] (by decide) rfl
  rcases hw2 with h2 | h2 | h2
  · obtain ⟨c1, c2, c3, c4, c5, c6, c7, c8⟩ := h2
    have hall := srch_all (w := w) hn (show 1 ≤ kw.toNat by omega) hvq rfl (x := (0, PL, DI, zF T 5 0)) (rf := fun p j => X (16 * p + j)) ⟨Nat.zero_le _, hDI, fun k h => absurd h (Nat.not_lt_zero _)⟩ rc (fun p hp a ha => hvX _ (by omega)) rc (Nat.le_refl _)
    have hm1 : 1 ≤ u2.2.2.1.1 := by rw [c5.1]; exact hall.2.2 c2
    have hm12 : u2.2.2.1.1 ≤ 12 := by have := c6.1; omega
    have hpl : ∀ k, k < u2.2.2.1.1 → 0 ≤ u2.2.2.1.2.1 k ∧ u2.2.2.1.2.1 k < 12 := fun k hk => by
      have h8 := hall.2.1 k (by rw [← c5.1]; exact hk)
      have h9 := c5.2.1 k hk
      omega
    refine lv_istore_n (lv' := [(2, .int (iI z2)), (0, .ref m0), (1, .int (iI kw))]) hx hb dX3_guess_5 rfl hl (by decide) rfl (fun ls hl => ?_)
    refine lv_iconst (v := iI (0 : Int)) hx hb dX3_guess_6 (by decide) ?_
    refine lv_istore_n (lv' := [(3, .int (iI (0 : Int))), (2, .int (iI z2)), (0, .ref m0), (1, .int (iI kw))]) hx hb dX3_guess_7 rfl hl (by decide) rfl (fun ls hl => ?_)
    refine lv_iconst (v := iI (0 : Int)) hx hb dX3_guess_8 (by decide) ?_
    refine lv_istore (lv' := [(4, .int (iI (0 : Int))), (3, .int (iI (0 : Int))), (2, .int (iI z2)), (0, .ref m0), (1, .int (iI kw))]) hx hb dX3_guess_9 hl (by decide) rfl (fun ls hl => ?_)
    refine lv_iconst (v := iI (0 : Int)) hx hb dX3_guess_11 (by decide) ?_
    refine lv_istore (lv' := [(5, .int (iI (0 : Int))), (4, .int (iI (0 : Int))), (3, .int (iI (0 : Int))), (2, .int (iI z2)), (0, .ref m0), (1, .int (iI kw))]) hx hb dX3_guess_12 hl (by decide) rfl (fun ls hl => ?_)
    have lpo : ∀ (k9 : Nat) (i : Nat) (H : Heap) (locs : List Loc) (ls : Array Slot), (i ≤ u2.2.2.1.1) → u2.2.2.1.1 - i = k9 → va_P (dC, dI) vwCl [(m0, .inr (3, [.int (iI u2.1), .int (iI (n : Int)), .int (iI (w : Int)), .ref mq, .int (iI (rc : Int)), .ref mn, .ref ml, .int (iI (sc : Int)), .ref ms, .ref mr, .ref mg, .ref mp, .int (iI ((u2.2.1 : Nat) : Int)), .int (iI ((u2.2.2.1.1 : Nat) : Int)), .ref mpl, .ref mdi, .ref mc])), (mq, .inl (cI, 16, .inl (iA q))), (mn, .inl (cI, 192, .inl (iA X))), (mr, .inl (cI, 16, .inl (iA u2.2.2.2.1))), (mg, .inl (cI, 256, .inl (iA u2.2.2.2.2))), (mpl, .inl (cI, 13, .inl (iA u2.2.2.1.2.1))), (mdi, .inl (cI, 13, .inl (iA u2.2.2.1.2.2.1))), (mc, .inl (cI, 5, .inl (iA u2.2.2.1.2.2.2))), (ml, .inl (cI, 12, .inl (iA la)))] H → va_D A [(m0, .inr (3, [.int (iI u2.1), .int (iI (n : Int)), .int (iI (w : Int)), .ref mq, .int (iI (rc : Int)), .ref mn, .ref ml, .int (iI (sc : Int)), .ref ms, .ref mr, .ref mg, .ref mp, .int (iI ((u2.2.1 : Nat) : Int)), .int (iI ((u2.2.2.1.1 : Nat) : Int)), .ref mpl, .ref mdi, .ref mc])), (mq, .inl (cI, 16, .inl (iA q))), (mn, .inl (cI, 192, .inl (iA X))), (mr, .inl (cI, 16, .inl (iA u2.2.2.2.1))), (mg, .inl (cI, 256, .inl (iA u2.2.2.2.2))), (mpl, .inl (cI, 13, .inl (iA u2.2.2.1.2.1))), (mdi, .inl (cI, 13, .inl (iA u2.2.2.1.2.2.1))), (mc, .inl (cI, 5, .inl (iA u2.2.2.1.2.2.2))), (ml, .inl (cI, 12, .inl (iA la)))] → va_S A s.heap H locs → lv_has ls 8 [(0, .ref m0), (1, .int (iI kw)), (2, .int (iI z2)), (3, .int (iI ((gss la u2.2.2.1.2.1 u2.2.2.1.1 0 i).1))), (4, .int (iI ((gss la u2.2.2.1.2.1 u2.2.2.1.1 0 i).2))), (5, .int (iI (i : Int)))] → W p l e R s m args below meth c H locs 0 0 Q (F0 m 14 ls []) := by
      intro k9
      induction k9 using Nat.strongRecOn with
      | ind k9 ih_lpo =>
        intro i H locs ls hi hk9 hP hD hS hl
        have hgr := gss_rg (la := la) (P := u2.2.2.1.2.1) (b0 := 0) hm12 i
        refine lv_iload hx hb dX3_guess_14 (lv_at hl 5 rfl) ?_
        refine lv_iload_n hx hb dX3_guess_16 rfl (lv_at hl 2 rfl) ?_
        refine z_icmp_ge (tgt := 129) hx hb dX3_guess_17 (by decide) (by omega) (fun h17 => ?_) (fun h17 => ?_)
        · refine lv_iload_n hx hb dX3_guess_129 rfl (lv_at hl 3 rfl) ?_
          have ei : i = u2.2.2.1.1 := by omega
          subst hAe
          exact zw_reti (z := (gss la u2.2.2.1.2.1 u2.2.2.1.1 0 i).1) (u2) hx hb hr hlocks hQ (Or.inl ⟨c1, c2, c3, c4, c5, c6, c7, by rw [ei]⟩) hP hK hD hS dX3_guess_130
        · refine lv_aload_n hx hb dX3_guess_20 rfl (lv_at hl 0 rfl) ?_
          refine va_get (D := (dC, dI)) (ci := 3) (v := .int (iI u2.1)) (C := RX3) (T := TX3) (N := 17) hx hb hts in_X3 hown hK hP 0 rfl rfl 0 (by decide) fl_44 (fun _ h9 => h9) rfl dX3_guess_21 ?_
          refine z_if_ne (tgt := 129) hx hb dX3_guess_24 (by decide) (by omega) (fun h24 => ?_) (fun h24 => ?_)
          · exact absurd c3 h24
          · refine lv_iconst (v := iI (0 : Int)) hx hb dX3_guess_27 (by decide) ?_
            refine lv_istore (lv' := [(6, .int (iI (0 : Int))), (0, .ref m0), (1, .int (iI kw)), (2, .int (iI z2)), (3, .int (iI ((gss la u2.2.2.1.2.1 u2.2.2.1.1 0 i).1))), (4, .int (iI ((gss la u2.2.2.1.2.1 u2.2.2.1.1 0 i).2))), (5, .int (iI (i : Int)))]) hx hb dX3_guess_28 hl (by decide) rfl (fun ls hl => ?_)
            refine lv_iconst (v := iI (0 : Int)) hx hb dX3_guess_30 (by decide) ?_
            refine lv_istore (lv' := [(7, .int (iI (0 : Int))), (6, .int (iI (0 : Int))), (0, .ref m0), (1, .int (iI kw)), (2, .int (iI z2)), (3, .int (iI ((gss la u2.2.2.1.2.1 u2.2.2.1.1 0 i).1))), (4, .int (iI ((gss la u2.2.2.1.2.1 u2.2.2.1.1 0 i).2))), (5, .int (iI (i : Int)))]) hx hb dX3_guess_31 hl (by decide) rfl (fun ls hl => ?_)
            have lpi : ∀ (k9 : Nat) (j : Nat) (H : Heap) (locs : List Loc) (ls : Array Slot), (j ≤ u2.2.2.1.1) → u2.2.2.1.1 - j = k9 → va_P (dC, dI) vwCl [(m0, .inr (3, [.int (iI u2.1), .int (iI (n : Int)), .int (iI (w : Int)), .ref mq, .int (iI (rc : Int)), .ref mn, .ref ml, .int (iI (sc : Int)), .ref ms, .ref mr, .ref mg, .ref mp, .int (iI ((u2.2.1 : Nat) : Int)), .int (iI ((u2.2.2.1.1 : Nat) : Int)), .ref mpl, .ref mdi, .ref mc])), (mq, .inl (cI, 16, .inl (iA q))), (mn, .inl (cI, 192, .inl (iA X))), (mr, .inl (cI, 16, .inl (iA u2.2.2.2.1))), (mg, .inl (cI, 256, .inl (iA u2.2.2.2.2))), (mpl, .inl (cI, 13, .inl (iA u2.2.2.1.2.1))), (mdi, .inl (cI, 13, .inl (iA u2.2.2.1.2.2.1))), (mc, .inl (cI, 5, .inl (iA u2.2.2.1.2.2.2))), (ml, .inl (cI, 12, .inl (iA la)))] H → va_D A [(m0, .inr (3, [.int (iI u2.1), .int (iI (n : Int)), .int (iI (w : Int)), .ref mq, .int (iI (rc : Int)), .ref mn, .ref ml, .int (iI (sc : Int)), .ref ms, .ref mr, .ref mg, .ref mp, .int (iI ((u2.2.1 : Nat) : Int)), .int (iI ((u2.2.2.1.1 : Nat) : Int)), .ref mpl, .ref mdi, .ref mc])), (mq, .inl (cI, 16, .inl (iA q))), (mn, .inl (cI, 192, .inl (iA X))), (mr, .inl (cI, 16, .inl (iA u2.2.2.2.1))), (mg, .inl (cI, 256, .inl (iA u2.2.2.2.2))), (mpl, .inl (cI, 13, .inl (iA u2.2.2.1.2.1))), (mdi, .inl (cI, 13, .inl (iA u2.2.2.1.2.2.1))), (mc, .inl (cI, 5, .inl (iA u2.2.2.1.2.2.2))), (ml, .inl (cI, 12, .inl (iA la)))] → va_S A s.heap H locs → lv_has ls 8 [(0, .ref m0), (1, .int (iI kw)), (2, .int (iI z2)), (3, .int (iI ((gss la u2.2.2.1.2.1 u2.2.2.1.1 0 i).1))), (4, .int (iI ((gss la u2.2.2.1.2.1 u2.2.2.1.1 0 i).2))), (5, .int (iI (i : Int))), (6, .int (iI (vot la u2.2.2.1.2.1 (la (u2.2.2.1.2.1 i).toNat) j))), (7, .int (iI (j : Int)))] → W p l e R s m args below meth c H locs 0 0 Q (F0 m 33 ls []) := by
              intro k9
              induction k9 using Nat.strongRecOn with
              | ind k9 ih_lpi =>
                intro j H locs ls hj hk9 hP hD hS hl
                have hvr9 := vot_rg (la := la) (P := u2.2.2.1.2.1) (lab := la (u2.2.2.1.2.1 i).toNat) j
                have hpi := hpl i (by omega)
                have hri := hrl (u2.2.2.1.2.1 i).toNat
                refine lv_iload hx hb dX3_guess_33 (lv_at hl 7 rfl) ?_
                refine lv_iload_n hx hb dX3_guess_35 rfl (lv_at hl 2 rfl) ?_
                refine z_icmp_ge (tgt := 83) hx hb dX3_guess_36 (by decide) (by omega) (fun h36 => ?_) (fun h36 => ?_)
                · have ej : j = u2.2.2.1.1 := by omega
                  have hvm := vot_rg (la := la) (P := u2.2.2.1.2.1) (lab := la (u2.2.2.1.2.1 i).toNat) u2.2.2.1.1
                  rw [ej] at hl hvr9
                  refine lv_iload hx hb dX3_guess_83 (lv_at hl 6 rfl) ?_
                  refine lv_iload hx hb dX3_guess_85 (lv_at hl 4 rfl) ?_
                  refine z_icmp_le (tgt := 105) hx hb dX3_guess_87 (by decide) (by omega) (fun h87 => ?_) (fun h87 => ?_)
                  · refine lv_iload_n hx hb dX3_guess_105 rfl (lv_at hl 3 rfl) ?_
                    refine z_top (b := (gss la u2.2.2.1.2.1 u2.2.2.1.1 0 (i + 1)).1) (by rw [gss]; first | (rw [if_pos (by omega)]; done) | (rw [if_neg (by omega)]; done) | (exfalso; omega)) ?_
                    refine lv_istore_n (lv' := [(3, .int (iI ((gss la u2.2.2.1.2.1 u2.2.2.1.1 0 (i + 1)).1))), (0, .ref m0), (1, .int (iI kw)), (2, .int (iI z2)), (4, .int (iI ((gss la u2.2.2.1.2.1 u2.2.2.1.1 0 i).2))), (5, .int (iI (i : Int))), (6, .int (iI (vot la u2.2.2.1.2.1 (la (u2.2.2.1.2.1 i).toNat) u2.2.2.1.1))), (7, .int (iI ((u2.2.2.1.1 : Nat) : Int)))]) hx hb dX3_guess_106 rfl hl (by decide) rfl (fun ls hl => ?_)
                    refine lv_iload hx hb dX3_guess_107 (lv_at hl 6 rfl) ?_
                    refine lv_iload hx hb dX3_guess_109 (lv_at hl 4 rfl) ?_
                    refine z_icmp_le (tgt := 119) hx hb dX3_guess_111 (by decide) (by omega) (fun h111 => ?_) (fun h111 => ?_)
                    · refine lv_iload hx hb dX3_guess_119 (lv_at hl 4 rfl) ?_
                      refine z_top (b := (gss la u2.2.2.1.2.1 u2.2.2.1.1 0 (i + 1)).2) (by rw [gss]; first | (rw [if_pos (by omega)]; done) | (rw [if_neg (by omega)]; done) | (exfalso; omega)) ?_
                      refine lv_istore (lv' := [(4, .int (iI ((gss la u2.2.2.1.2.1 u2.2.2.1.1 0 (i + 1)).2))), (3, .int (iI ((gss la u2.2.2.1.2.1 u2.2.2.1.1 0 (i + 1)).1))), (0, .ref m0), (1, .int (iI kw)), (2, .int (iI z2)), (5, .int (iI (i : Int))), (6, .int (iI (vot la u2.2.2.1.2.1 (la (u2.2.2.1.2.1 i).toNat) u2.2.2.1.1))), (7, .int (iI ((u2.2.2.1.1 : Nat) : Int)))]) hx hb dX3_guess_121 hl (by decide) rfl (fun ls hl => ?_)
                      refine z_iinc (k := 5) (b := ((i + 1 : Nat) : Int)) (lv' := [(5, .int (iI ((i + 1 : Nat) : Int))), (4, .int (iI ((gss la u2.2.2.1.2.1 u2.2.2.1.1 0 (i + 1)).2))), (3, .int (iI ((gss la u2.2.2.1.2.1 u2.2.2.1.1 0 (i + 1)).1))), (0, .ref m0), (1, .int (iI kw)), (2, .int (iI z2)), (6, .int (iI (vot la u2.2.2.1.2.1 (la (u2.2.2.1.2.1 i).toNat) u2.2.2.1.1))), (7, .int (iI ((u2.2.2.1.1 : Nat) : Int)))]) hx hb dX3_guess_123 hl rfl (by omega) (by decide) rfl (fun ls hl => ?_)
                      refine lv_goto (tgt := 14) hx hb dX3_guess_126 (by decide) ?_
                      exact ih_lpo _ (by omega) (i + 1) H locs ls (by omega) rfl hP hD hS (lv_sub hl [3, 4, 5, 2, 1, 0] rfl)
                    · refine lv_iload hx hb dX3_guess_114 (lv_at hl 6 rfl) ?_
                      refine lv_goto (tgt := 121) hx hb dX3_guess_116 (by decide) ?_
                      refine z_top (b := (gss la u2.2.2.1.2.1 u2.2.2.1.1 0 (i + 1)).2) (by rw [gss]; first | (rw [if_pos (by omega)]; done) | (rw [if_neg (by omega)]; done) | (exfalso; omega)) ?_
                      refine lv_istore (lv' := [(4, .int (iI ((gss la u2.2.2.1.2.1 u2.2.2.1.1 0 (i + 1)).2))), (3, .int (iI ((gss la u2.2.2.1.2.1 u2.2.2.1.1 0 (i + 1)).1))), (0, .ref m0), (1, .int (iI kw)), (2, .int (iI z2)), (5, .int (iI (i : Int))), (6, .int (iI (vot la u2.2.2.1.2.1 (la (u2.2.2.1.2.1 i).toNat) u2.2.2.1.1))), (7, .int (iI ((u2.2.2.1.1 : Nat) : Int)))]) hx hb dX3_guess_121 hl (by decide) rfl (fun ls hl => ?_)
                      refine z_iinc (k := 5) (b := ((i + 1 : Nat) : Int)) (lv' := [(5, .int (iI ((i + 1 : Nat) : Int))), (4, .int (iI ((gss la u2.2.2.1.2.1 u2.2.2.1.1 0 (i + 1)).2))), (3, .int (iI ((gss la u2.2.2.1.2.1 u2.2.2.1.1 0 (i + 1)).1))), (0, .ref m0), (1, .int (iI kw)), (2, .int (iI z2)), (6, .int (iI (vot la u2.2.2.1.2.1 (la (u2.2.2.1.2.1 i).toNat) u2.2.2.1.1))), (7, .int (iI ((u2.2.2.1.1 : Nat) : Int)))]) hx hb dX3_guess_123 hl rfl (by omega) (by decide) rfl (fun ls hl => ?_)
                      refine lv_goto (tgt := 14) hx hb dX3_guess_126 (by decide) ?_
                      exact ih_lpo _ (by omega) (i + 1) H locs ls (by omega) rfl hP hD hS (lv_sub hl [3, 4, 5, 2, 1, 0] rfl)
                  · refine lv_aload_n hx hb dX3_guess_90 rfl (lv_at hl 0 rfl) ?_
                    refine va_get (D := (dC, dI)) (ci := 3) (v := .ref ml) (C := RX3) (T := TX3) (N := 17) hx hb hts in_X3 hown hK hP 0 rfl rfl 6 (by decide) fl_20 (fun _ h9 => h9) rfl dX3_guess_91 ?_
                    refine lv_aload_n hx hb dX3_guess_94 rfl (lv_at hl 0 rfl) ?_
                    refine va_get (D := (dC, dI)) (ci := 3) (v := .ref mpl) (C := RX3) (T := TX3) (N := 17) hx hb hts in_X3 hown hK hP 0 rfl rfl 14 (by decide) fl_35 (fun _ h9 => h9) rfl dX3_guess_95 ?_
                    refine lv_iload hx hb dX3_guess_98 (lv_at hl 5 rfl) ?_
                    refine z_iald hx hb hK hP 5 0 rfl rfl i (by omega) dX3_guess_100 ?_
                    refine z_iald hx hb hK hP 8 0 rfl rfl ((u2.2.2.1.2.1 i).toNat) (by omega) dX3_guess_101 ?_
                    refine lv_goto (tgt := 106) hx hb dX3_guess_102 (by decide) ?_
                    refine z_top (b := (gss la u2.2.2.1.2.1 u2.2.2.1.1 0 (i + 1)).1) (by rw [gss]; first | (rw [if_pos (by omega)]; done) | (rw [if_neg (by omega)]; done) | (exfalso; omega)) ?_
                    refine lv_istore_n (lv' := [(3, .int (iI ((gss la u2.2.2.1.2.1 u2.2.2.1.1 0 (i + 1)).1))), (0, .ref m0), (1, .int (iI kw)), (2, .int (iI z2)), (4, .int (iI ((gss la u2.2.2.1.2.1 u2.2.2.1.1 0 i).2))), (5, .int (iI (i : Int))), (6, .int (iI (vot la u2.2.2.1.2.1 (la (u2.2.2.1.2.1 i).toNat) u2.2.2.1.1))), (7, .int (iI ((u2.2.2.1.1 : Nat) : Int)))]) hx hb dX3_guess_106 rfl hl (by decide) rfl (fun ls hl => ?_)
                    refine lv_iload hx hb dX3_guess_107 (lv_at hl 6 rfl) ?_
                    refine lv_iload hx hb dX3_guess_109 (lv_at hl 4 rfl) ?_
                    refine z_icmp_le (tgt := 119) hx hb dX3_guess_111 (by decide) (by omega) (fun h111 => ?_) (fun h111 => ?_)
                    · refine lv_iload hx hb dX3_guess_119 (lv_at hl 4 rfl) ?_
                      refine z_top (b := (gss la u2.2.2.1.2.1 u2.2.2.1.1 0 (i + 1)).2) (by rw [gss]; first | (rw [if_pos (by omega)]; done) | (rw [if_neg (by omega)]; done) | (exfalso; omega)) ?_
                      refine lv_istore (lv' := [(4, .int (iI ((gss la u2.2.2.1.2.1 u2.2.2.1.1 0 (i + 1)).2))), (3, .int (iI ((gss la u2.2.2.1.2.1 u2.2.2.1.1 0 (i + 1)).1))), (0, .ref m0), (1, .int (iI kw)), (2, .int (iI z2)), (5, .int (iI (i : Int))), (6, .int (iI (vot la u2.2.2.1.2.1 (la (u2.2.2.1.2.1 i).toNat) u2.2.2.1.1))), (7, .int (iI ((u2.2.2.1.1 : Nat) : Int)))]) hx hb dX3_guess_121 hl (by decide) rfl (fun ls hl => ?_)
                      refine z_iinc (k := 5) (b := ((i + 1 : Nat) : Int)) (lv' := [(5, .int (iI ((i + 1 : Nat) : Int))), (4, .int (iI ((gss la u2.2.2.1.2.1 u2.2.2.1.1 0 (i + 1)).2))), (3, .int (iI ((gss la u2.2.2.1.2.1 u2.2.2.1.1 0 (i + 1)).1))), (0, .ref m0), (1, .int (iI kw)), (2, .int (iI z2)), (6, .int (iI (vot la u2.2.2.1.2.1 (la (u2.2.2.1.2.1 i).toNat) u2.2.2.1.1))), (7, .int (iI ((u2.2.2.1.1 : Nat) : Int)))]) hx hb dX3_guess_123 hl rfl (by omega) (by decide) rfl (fun ls hl => ?_)
                      refine lv_goto (tgt := 14) hx hb dX3_guess_126 (by decide) ?_
                      exact ih_lpo _ (by omega) (i + 1) H locs ls (by omega) rfl hP hD hS (lv_sub hl [3, 4, 5, 2, 1, 0] rfl)
                    · refine lv_iload hx hb dX3_guess_114 (lv_at hl 6 rfl) ?_
                      refine lv_goto (tgt := 121) hx hb dX3_guess_116 (by decide) ?_
                      refine z_top (b := (gss la u2.2.2.1.2.1 u2.2.2.1.1 0 (i + 1)).2) (by rw [gss]; first | (rw [if_pos (by omega)]; done) | (rw [if_neg (by omega)]; done) | (exfalso; omega)) ?_
                      refine lv_istore (lv' := [(4, .int (iI ((gss la u2.2.2.1.2.1 u2.2.2.1.1 0 (i + 1)).2))), (3, .int (iI ((gss la u2.2.2.1.2.1 u2.2.2.1.1 0 (i + 1)).1))), (0, .ref m0), (1, .int (iI kw)), (2, .int (iI z2)), (5, .int (iI (i : Int))), (6, .int (iI (vot la u2.2.2.1.2.1 (la (u2.2.2.1.2.1 i).toNat) u2.2.2.1.1))), (7, .int (iI ((u2.2.2.1.1 : Nat) : Int)))]) hx hb dX3_guess_121 hl (by decide) rfl (fun ls hl => ?_)
                      refine z_iinc (k := 5) (b := ((i + 1 : Nat) : Int)) (lv' := [(5, .int (iI ((i + 1 : Nat) : Int))), (4, .int (iI ((gss la u2.2.2.1.2.1 u2.2.2.1.1 0 (i + 1)).2))), (3, .int (iI ((gss la u2.2.2.1.2.1 u2.2.2.1.1 0 (i + 1)).1))), (0, .ref m0), (1, .int (iI kw)), (2, .int (iI z2)), (6, .int (iI (vot la u2.2.2.1.2.1 (la (u2.2.2.1.2.1 i).toNat) u2.2.2.1.1))), (7, .int (iI ((u2.2.2.1.1 : Nat) : Int)))]) hx hb dX3_guess_123 hl rfl (by omega) (by decide) rfl (fun ls hl => ?_)
                      refine lv_goto (tgt := 14) hx hb dX3_guess_126 (by decide) ?_
                      exact ih_lpo _ (by omega) (i + 1) H locs ls (by omega) rfl hP hD hS (lv_sub hl [3, 4, 5, 2, 1, 0] rfl)
                · have hpj := hpl j (by omega)
                  have hrj := hrl (u2.2.2.1.2.1 j).toNat
                  refine lv_aload_n hx hb dX3_guess_39 rfl (lv_at hl 0 rfl) ?_
                  refine va_get (D := (dC, dI)) (ci := 3) (v := .ref ml) (C := RX3) (T := TX3) (N := 17) hx hb hts in_X3 hown hK hP 0 rfl rfl 6 (by decide) fl_20 (fun _ h9 => h9) rfl dX3_guess_40 ?_
                  refine lv_aload_n hx hb dX3_guess_43 rfl (lv_at hl 0 rfl) ?_
                  refine va_get (D := (dC, dI)) (ci := 3) (v := .ref mpl) (C := RX3) (T := TX3) (N := 17) hx hb hts in_X3 hown hK hP 0 rfl rfl 14 (by decide) fl_35 (fun _ h9 => h9) rfl dX3_guess_44 ?_
                  refine lv_iload hx hb dX3_guess_47 (lv_at hl 7 rfl) ?_
                  refine z_iald hx hb hK hP 5 0 rfl rfl j (by omega) dX3_guess_49 ?_
                  refine z_iald hx hb hK hP 8 0 rfl rfl ((u2.2.2.1.2.1 j).toNat) (by omega) dX3_guess_50 ?_
                  refine lv_aload_n hx hb dX3_guess_51 rfl (lv_at hl 0 rfl) ?_
                  refine va_get (D := (dC, dI)) (ci := 3) (v := .ref ml) (C := RX3) (T := TX3) (N := 17) hx hb hts in_X3 hown hK hP 0 rfl rfl 6 (by decide) fl_20 (fun _ h9 => h9) rfl dX3_guess_52 ?_
                  refine lv_aload_n hx hb dX3_guess_55 rfl (lv_at hl 0 rfl) ?_
                  refine va_get (D := (dC, dI)) (ci := 3) (v := .ref mpl) (C := RX3) (T := TX3) (N := 17) hx hb hts in_X3 hown hK hP 0 rfl rfl 14 (by decide) fl_35 (fun _ h9 => h9) rfl dX3_guess_56 ?_
                  refine lv_iload hx hb dX3_guess_59 (lv_at hl 5 rfl) ?_
                  refine z_iald hx hb hK hP 5 0 rfl rfl i (by omega) dX3_guess_61 ?_
                  refine z_iald hx hb hK hP 8 0 rfl rfl ((u2.2.2.1.2.1 i).toNat) (by omega) dX3_guess_62 ?_
                  refine z_icmp_ne (tgt := 73) hx hb dX3_guess_63 (by decide) (by omega) (fun h63 => ?_) (fun h63 => ?_)
                  · refine lv_iload hx hb dX3_guess_73 (lv_at hl 6 rfl) ?_
                    refine z_top (b := vot la u2.2.2.1.2.1 (la (u2.2.2.1.2.1 i).toNat) (j + 1)) (by rw [vot]; first | rw [if_pos h63] | rw [if_neg h63]) ?_
                    refine lv_istore (lv' := [(6, .int (iI (vot la u2.2.2.1.2.1 (la (u2.2.2.1.2.1 i).toNat) (j + 1)))), (0, .ref m0), (1, .int (iI kw)), (2, .int (iI z2)), (3, .int (iI ((gss la u2.2.2.1.2.1 u2.2.2.1.1 0 i).1))), (4, .int (iI ((gss la u2.2.2.1.2.1 u2.2.2.1.1 0 i).2))), (5, .int (iI (i : Int))), (7, .int (iI (j : Int)))]) hx hb dX3_guess_75 hl (by decide) rfl (fun ls hl => ?_)
                    refine z_iinc (k := 7) (b := ((j + 1 : Nat) : Int)) (lv' := [(7, .int (iI ((j + 1 : Nat) : Int))), (6, .int (iI (vot la u2.2.2.1.2.1 (la (u2.2.2.1.2.1 i).toNat) (j + 1)))), (0, .ref m0), (1, .int (iI kw)), (2, .int (iI z2)), (3, .int (iI ((gss la u2.2.2.1.2.1 u2.2.2.1.1 0 i).1))), (4, .int (iI ((gss la u2.2.2.1.2.1 u2.2.2.1.1 0 i).2))), (5, .int (iI (i : Int)))]) hx hb dX3_guess_77 hl rfl (by omega) (by decide) rfl (fun ls hl => ?_)
                    refine lv_goto (tgt := 33) hx hb dX3_guess_80 (by decide) ?_
                    exact ih_lpi _ (by omega) (j + 1) H locs ls (by omega) rfl hP hD hS (lv_sub hl [2, 3, 4, 5, 6, 7, 1, 0] rfl)
                  · refine lv_iload hx hb dX3_guess_66 (lv_at hl 6 rfl) ?_
                    refine lv_iconst (v := iI (1 : Int)) hx hb dX3_guess_68 (by decide) ?_
                    refine z_iadd hx hb dX3_guess_69 ?_
                    refine lv_goto (tgt := 75) hx hb dX3_guess_70 (by decide) ?_
                    refine z_top (b := vot la u2.2.2.1.2.1 (la (u2.2.2.1.2.1 i).toNat) (j + 1)) (by rw [vot]; first | rw [if_pos h63] | rw [if_neg h63]) ?_
                    refine lv_istore (lv' := [(6, .int (iI (vot la u2.2.2.1.2.1 (la (u2.2.2.1.2.1 i).toNat) (j + 1)))), (0, .ref m0), (1, .int (iI kw)), (2, .int (iI z2)), (3, .int (iI ((gss la u2.2.2.1.2.1 u2.2.2.1.1 0 i).1))), (4, .int (iI ((gss la u2.2.2.1.2.1 u2.2.2.1.1 0 i).2))), (5, .int (iI (i : Int))), (7, .int (iI (j : Int)))]) hx hb dX3_guess_75 hl (by decide) rfl (fun ls hl => ?_)
                    refine z_iinc (k := 7) (b := ((j + 1 : Nat) : Int)) (lv' := [(7, .int (iI ((j + 1 : Nat) : Int))), (6, .int (iI (vot la u2.2.2.1.2.1 (la (u2.2.2.1.2.1 i).toNat) (j + 1)))), (0, .ref m0), (1, .int (iI kw)), (2, .int (iI z2)), (3, .int (iI ((gss la u2.2.2.1.2.1 u2.2.2.1.1 0 i).1))), (4, .int (iI ((gss la u2.2.2.1.2.1 u2.2.2.1.1 0 i).2))), (5, .int (iI (i : Int)))]) hx hb dX3_guess_77 hl rfl (by omega) (by decide) rfl (fun ls hl => ?_)
                    refine lv_goto (tgt := 33) hx hb dX3_guess_80 (by decide) ?_
                    exact ih_lpi _ (by omega) (j + 1) H locs ls (by omega) rfl hP hD hS (lv_sub hl [2, 3, 4, 5, 6, 7, 1, 0] rfl)
            exact lpi _ 0 _ _ ls (by omega) rfl hP hD hS (lv_sub hl [2, 3, 4, 5, 6, 7, 1, 0] rfl)
    exact lpo _ 0 _ _ ls (by omega) rfl hP hD hS (lv_sub hl [4, 5, 3, 2, 1, 0] rfl)
  · obtain ⟨c1, c3, c8⟩ := h2
    refine lv_istore_n (lv' := [(2, .int (iI z2)), (0, .ref m0), (1, .int (iI kw))]) hx hb dX3_guess_5 rfl hl (by decide) rfl (fun ls hl => ?_)
    refine lv_iconst (v := iI (0 : Int)) hx hb dX3_guess_6 (by decide) ?_
    refine lv_istore_n (lv' := [(3, .int (iI (0 : Int))), (2, .int (iI z2)), (0, .ref m0), (1, .int (iI kw))]) hx hb dX3_guess_7 rfl hl (by decide) rfl (fun ls hl => ?_)
    refine lv_iconst (v := iI (0 : Int)) hx hb dX3_guess_8 (by decide) ?_
    refine lv_istore (lv' := [(4, .int (iI (0 : Int))), (3, .int (iI (0 : Int))), (2, .int (iI z2)), (0, .ref m0), (1, .int (iI kw))]) hx hb dX3_guess_9 hl (by decide) rfl (fun ls hl => ?_)
    refine lv_iconst (v := iI (0 : Int)) hx hb dX3_guess_11 (by decide) ?_
    refine lv_istore (lv' := [(5, .int (iI (0 : Int))), (4, .int (iI (0 : Int))), (3, .int (iI (0 : Int))), (2, .int (iI z2)), (0, .ref m0), (1, .int (iI kw))]) hx hb dX3_guess_12 hl (by decide) rfl (fun ls hl => ?_)
    refine lv_iload hx hb dX3_guess_14 (lv_at hl 0 rfl) ?_
    refine lv_iload_n hx hb dX3_guess_16 rfl (lv_at hl 3 rfl) ?_
    refine z_icmp_ge (tgt := 129) hx hb dX3_guess_17 (by decide) (by omega) (fun h17 => ?_) (fun h17 => ?_)
    · refine lv_iload_n hx hb dX3_guess_129 rfl (lv_at hl 2 rfl) ?_
      subst hAe
      exact zw_reti (z := (0 : Int)) (u2) hx hb hr hlocks hQ (Or.inr (Or.inl ⟨c1, c3, rfl⟩)) hP hK hD hS dX3_guess_130
    · exact absurd h17 (by omega)
  · obtain ⟨c1, c2, c3, c8⟩ := h2
    refine lv_istore_n (lv' := [(2, .int (iI z2)), (0, .ref m0), (1, .int (iI kw))]) hx hb dX3_guess_5 rfl hl (by decide) rfl (fun ls hl => ?_)
    refine lv_iconst (v := iI (0 : Int)) hx hb dX3_guess_6 (by decide) ?_
    refine lv_istore_n (lv' := [(3, .int (iI (0 : Int))), (2, .int (iI z2)), (0, .ref m0), (1, .int (iI kw))]) hx hb dX3_guess_7 rfl hl (by decide) rfl (fun ls hl => ?_)
    refine lv_iconst (v := iI (0 : Int)) hx hb dX3_guess_8 (by decide) ?_
    refine lv_istore (lv' := [(4, .int (iI (0 : Int))), (3, .int (iI (0 : Int))), (2, .int (iI z2)), (0, .ref m0), (1, .int (iI kw))]) hx hb dX3_guess_9 hl (by decide) rfl (fun ls hl => ?_)
    refine lv_iconst (v := iI (0 : Int)) hx hb dX3_guess_11 (by decide) ?_
    refine lv_istore (lv' := [(5, .int (iI (0 : Int))), (4, .int (iI (0 : Int))), (3, .int (iI (0 : Int))), (2, .int (iI z2)), (0, .ref m0), (1, .int (iI kw))]) hx hb dX3_guess_12 hl (by decide) rfl (fun ls hl => ?_)
    refine lv_iload hx hb dX3_guess_14 (lv_at hl 0 rfl) ?_
    refine lv_iload_n hx hb dX3_guess_16 rfl (lv_at hl 3 rfl) ?_
    refine z_icmp_ge (tgt := 129) hx hb dX3_guess_17 (by decide) (by omega) (fun h17 => ?_) (fun h17 => ?_)
    · refine lv_iload_n hx hb dX3_guess_129 rfl (lv_at hl 2 rfl) ?_
      subst hAe
      exact zw_reti (z := (0 : Int)) (u2) hx hb hr hlocks hQ (Or.inr (Or.inr ⟨c1, c2, c3, rfl⟩)) hP hK hD hS dX3_guess_130
    · exact absurd h17 (by omega)
