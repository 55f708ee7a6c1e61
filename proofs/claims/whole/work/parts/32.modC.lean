set_option maxRecDepth 100000 in
set_option maxHeartbeats 4000000 in
theorem c_beyondQ (l : Launch) (dC : Nat → ClassId) (dI : Nat → Nat → Nat) (cI : ClassId) (m0 mq mn ml ms mr mg mp mpl mdi mc : Nat) (cd : Int) (n w rc sc mo fo : Nat) (q r : Nat → Int) (v : Int) (a9 : Nat) (hn : 2 ≤ n ∧ n ≤ 16) (hw : w ≤ 15) (hvq : vals n q) (hvr : vals n r) (ha9 : a9 < n) (hv9 : -1000 ≤ v ∧ v ≤ 1000) : Met l yX3_beyond wsX3_beyond ({ frames := 1, cells := 0, slots := 0, locals := 22 }) (rdP dC dI [(cI, .int)] [(m0, .inr (3, [.int (iI cd), .int (iI (n : Int)), .int (iI (w : Int)), .ref mq, .int (iI (rc : Int)), .ref mn, .ref ml, .int (iI (sc : Int)), .ref ms, .ref mr, .ref mg, .ref mp, .int (iI (mo : Int)), .int (iI (fo : Int)), .ref mpl, .ref mdi, .ref mc])), (mq, .inl (cI, 16, .inl (iA q))), (mr, .inl (cI, 16, .inl (iA r)))] [.ref m0, .int (iI v), .int (iI (a9 : Int)), .int (iI (1 : Int))]) (rdQ (fun z => z = gapz v (hlo w q a9 n) (hhi w q a9 n) * gapz v (hlo w q a9 n) (hhi w q a9 n))) 0 0 (fun _ => False) := by
  refine Met.ofW (cc := cX3_beyond) (maxL := 9) (ret := (some .int)) (by decide) rfl ?_
  intro p e s m args below meth c s₁ B hml hv
  obtain ⟨rfl, hP, hK⟩ := hv
  have hx := B.exec
  have hb := B.bytes
  have hr := B.returns
  have hts : ∀ w ∈ wsX3_beyond, w.before _ s = true := atoms_spec (ws := wsX3_beyond) B.pre
  have hown : s.vm.findClass RX3 = some m.cls := findClass_of_methodNamed B.named
  have hlocks := B.notSynchronized
  have hl := lv_entry ([.ref m0, .int (iI v), .int (iI (a9 : Int)), .int (iI (1 : Int))]) (n := 9) (Nat.le_of_ble_eq_true rfl)
  rw [lg_entry_eq]
  generalize (lg_sl ([.ref m0, .int (iI v), .int (iI (a9 : Int)), .int (iI (1 : Int))]) ++ List.replicate (9 - (lg_sl ([.ref m0, .int (iI v), .int (iI (a9 : Int)), .int (iI (1 : Int))])).length) Slot.unset).toArray = ls at hl ⊢
  have hl : lv_has ls 9 [(0, .ref m0), (1, .int (iI v)), (2, .int (iI (a9 : Int))), (3, .int (iI (1 : Int)))] := hl
  generalize hargs : ([.ref m0, .int (iI v), .int (iI (a9 : Int)), .int (iI (1 : Int))] : List Value).toArray = args at hts ⊢
  refine z_intro (fun R Q hR hQ => ?_)
  have hRf : R.frames = 1 := by rw [hR]; rfl
  have hRl : R.locals = 22 := by rw [hR]; rfl
  have hRc : R.cells = 0 := by rw [hR]; rfl
  have hRs : R.slots = 0 := by rw [hR]; rfl
  have in_X3 : ∀ w ∈ u_ws RX3 TX3 17, w ∈ wsX3_beyond := fun w h => List.mem_cons_of_mem _ (inW_X3 w h)
  have fl_7 := wa_hts hts wd_485
  have fl_13 := wa_hts hts wd_487
  have fl_61 := wa_hts hts wd_486
  clear hR hargs B
  refine lv_sipush (v := iI (1000 : Int)) hx hb dX3_beyond_0 (by decide) ?_
  refine lv_istore (lv' := [(4, .int (iI (1000 : Int))), (0, .ref m0), (1, .int (iI v)), (2, .int (iI (a9 : Int))), (3, .int (iI (1 : Int)))]) hx hb dX3_beyond_3 hl (by decide) rfl (fun ls hl => ?_)
  refine lv_sipush (v := iI (-1000 : Int)) hx hb dX3_beyond_5 (by decide) ?_
  refine lv_istore (lv' := [(5, .int (iI (-1000 : Int))), (4, .int (iI (1000 : Int))), (0, .ref m0), (1, .int (iI v)), (2, .int (iI (a9 : Int))), (3, .int (iI (1 : Int)))]) hx hb dX3_beyond_8 hl (by decide) rfl (fun ls hl => ?_)
  refine lv_iconst (v := iI (0 : Int)) hx hb dX3_beyond_10 (by decide) ?_
  refine lv_istore (lv' := [(6, .int (iI (0 : Int))), (5, .int (iI (-1000 : Int))), (4, .int (iI (1000 : Int))), (0, .ref m0), (1, .int (iI v)), (2, .int (iI (a9 : Int))), (3, .int (iI (1 : Int)))]) hx hb dX3_beyond_11 hl (by decide) rfl (fun ls hl => ?_)
  have lp : ∀ (k9 : Nat) (i : Nat) (ls : Array Slot), (i ≤ n) → n - i = k9 → lv_has ls 9 [(0, .ref m0), (1, .int (iI v)), (2, .int (iI (a9 : Int))), (3, .int (iI (1 : Int))), (4, .int (iI (hlo w q a9 i))), (5, .int (iI (hhi w q a9 i))), (6, .int (iI (i : Int)))] → W p l e R s m args below meth c s.heap [] 0 0 Q (F0 m 13 ls []) := by
    intro k9
    induction k9 using Nat.strongRecOn with
    | ind k9 ih_lp =>
      intro i ls hi hk9 hl
      have rlo := hlo_rg hvq (w := w) (i := a9) i hi
      have rhi := hhi_rg hvq (w := w) (i := a9) i hi
      refine lv_iload hx hb dX3_beyond_13 (lv_at hl 6 rfl) ?_
      refine lv_aload_n hx hb dX3_beyond_15 rfl (lv_at hl 0 rfl) ?_
      refine va_get (D := (dC, dI)) (ci := 3) (v := .int (iI (n : Int))) (C := RX3) (T := TX3) (N := 17) hx hb hts in_X3 hown hK hP 0 rfl rfl 1 (by decide) fl_7 (fun _ h9 => h9) rfl dX3_beyond_16 ?_
      refine z_icmp_ge (tgt := 111) hx hb dX3_beyond_19 (by decide) (by omega) (fun h19 => ?_) (fun h19 => ?_)
      · have ein : i = n := by omega
        refine lv_iload_n hx hb dX3_beyond_111 rfl (lv_at hl 1 rfl) ?_
        refine lv_iload hx hb dX3_beyond_112 (lv_at hl 4 rfl) ?_
        refine z_icmp_ge (tgt := 124) hx hb dX3_beyond_114 (by decide) (by omega) (fun h114 => ?_) (fun h114 => ?_)
        · refine lv_iload_n hx hb dX3_beyond_124 rfl (lv_at hl 1 rfl) ?_
          refine lv_iload hx hb dX3_beyond_125 (lv_at hl 5 rfl) ?_
          refine z_icmp_le (tgt := 137) hx hb dX3_beyond_127 (by decide) (by omega) (fun h127 => ?_) (fun h127 => ?_)
          · refine lv_iconst (v := iI (0 : Int)) hx hb dX3_beyond_137 (by decide) ?_
            refine z_top (b := gapz v (hlo w q a9 n) (hhi w q a9 n)) (by rw [← ein]; unfold gapz; split <;> first | omega | (split <;> omega)) ?_
            refine lv_istore (lv' := [(6, .int (iI (gapz v (hlo w q a9 n) (hhi w q a9 n)))), (0, .ref m0), (1, .int (iI v)), (2, .int (iI (a9 : Int))), (3, .int (iI (1 : Int))), (4, .int (iI (hlo w q a9 i))), (5, .int (iI (hhi w q a9 i)))]) hx hb dX3_beyond_138 hl (by decide) rfl (fun ls hl => ?_)
            refine lv_iload hx hb dX3_beyond_140 (lv_at hl 0 rfl) ?_
            refine lv_iload hx hb dX3_beyond_142 (lv_at hl 0 rfl) ?_
            refine z_imul hx hb dX3_beyond_144 ?_
            exact zr_ret (z := (gapz v (hlo w q a9 n) (hhi w q a9 n)) * (gapz v (hlo w q a9 n) (hhi w q a9 n))) hx hb hr hlocks hQ (rfl) dX3_beyond_145
          · refine lv_iload_n hx hb dX3_beyond_130 rfl (lv_at hl 1 rfl) ?_
            refine lv_iload hx hb dX3_beyond_131 (lv_at hl 5 rfl) ?_
            refine z_isub hx hb dX3_beyond_133 ?_
            refine lv_goto (tgt := 138) hx hb dX3_beyond_134 (by decide) ?_
            refine z_top (b := gapz v (hlo w q a9 n) (hhi w q a9 n)) (by rw [← ein]; unfold gapz; split <;> first | omega | (split <;> omega)) ?_
            refine lv_istore (lv' := [(6, .int (iI (gapz v (hlo w q a9 n) (hhi w q a9 n)))), (0, .ref m0), (1, .int (iI v)), (2, .int (iI (a9 : Int))), (3, .int (iI (1 : Int))), (4, .int (iI (hlo w q a9 i))), (5, .int (iI (hhi w q a9 i)))]) hx hb dX3_beyond_138 hl (by decide) rfl (fun ls hl => ?_)
            refine lv_iload hx hb dX3_beyond_140 (lv_at hl 0 rfl) ?_
            refine lv_iload hx hb dX3_beyond_142 (lv_at hl 0 rfl) ?_
            refine z_imul hx hb dX3_beyond_144 ?_
            exact zr_ret (z := (gapz v (hlo w q a9 n) (hhi w q a9 n)) * (gapz v (hlo w q a9 n) (hhi w q a9 n))) hx hb hr hlocks hQ (rfl) dX3_beyond_145
        · refine lv_iload hx hb dX3_beyond_117 (lv_at hl 4 rfl) ?_
          refine lv_iload_n hx hb dX3_beyond_119 rfl (lv_at hl 1 rfl) ?_
          refine z_isub hx hb dX3_beyond_120 ?_
          refine lv_goto (tgt := 138) hx hb dX3_beyond_121 (by decide) ?_
          refine z_top (b := gapz v (hlo w q a9 n) (hhi w q a9 n)) (by rw [← ein]; unfold gapz; split <;> first | omega | (split <;> omega)) ?_
          refine lv_istore (lv' := [(6, .int (iI (gapz v (hlo w q a9 n) (hhi w q a9 n)))), (0, .ref m0), (1, .int (iI v)), (2, .int (iI (a9 : Int))), (3, .int (iI (1 : Int))), (4, .int (iI (hlo w q a9 i))), (5, .int (iI (hhi w q a9 i)))]) hx hb dX3_beyond_138 hl (by decide) rfl (fun ls hl => ?_)
          refine lv_iload hx hb dX3_beyond_140 (lv_at hl 0 rfl) ?_
          refine lv_iload hx hb dX3_beyond_142 (lv_at hl 0 rfl) ?_
          refine z_imul hx hb dX3_beyond_144 ?_
          exact zr_ret (z := (gapz v (hlo w q a9 n) (hhi w q a9 n)) * (gapz v (hlo w q a9 n) (hhi w q a9 n))) hx hb hr hlocks hQ (rfl) dX3_beyond_145
      · refine lv_iload_n hx hb dX3_beyond_22 rfl (lv_at hl 3 rfl) ?_
        refine z_if_eq (tgt := 36) hx hb dX3_beyond_23 (by decide) (by decide) (fun h9 => absurd h9 (by decide)) (fun _ => ?_)
        refine lv_aload_n hx hb dX3_beyond_26 rfl (lv_at hl 0 rfl) ?_
        refine va_get (D := (dC, dI)) (ci := 3) (v := .ref mq) (C := RX3) (T := TX3) (N := 17) hx hb hts in_X3 hown hK hP 0 rfl rfl 3 (by decide) fl_13 (fun _ h9 => h9) rfl dX3_beyond_27 ?_
        refine lv_iload hx hb dX3_beyond_30 (lv_at hl 6 rfl) ?_
        refine z_iald hx hb hK hP 1 0 rfl rfl i (by omega) dX3_beyond_32 ?_
        refine lv_goto (tgt := 43) hx hb dX3_beyond_33 (by decide) ?_
        have rx := hvq i (by omega)
        refine lv_istore (lv' := [(7, .int (iI (q i))), (0, .ref m0), (1, .int (iI v)), (2, .int (iI (a9 : Int))), (3, .int (iI (1 : Int))), (4, .int (iI (hlo w q a9 i))), (5, .int (iI (hhi w q a9 i))), (6, .int (iI (i : Int)))]) hx hb dX3_beyond_43 hl (by decide) rfl (fun ls hl => ?_)
        refine lv_iload hx hb dX3_beyond_45 (lv_at hl 7 rfl) ?_
        refine lv_iload_n hx hb dX3_beyond_47 rfl (lv_at hl 3 rfl) ?_
        refine z_isub hx hb dX3_beyond_48 ?_
        refine lv_aload_n hx hb dX3_beyond_49 rfl (lv_at hl 1 rfl) ?_
        refine va_get (D := (dC, dI)) (ci := 3) (v := .int (iI (w : Int))) (C := RX3) (T := TX3) (N := 17) hx hb hts in_X3 hown hK hP 0 rfl rfl 2 (by decide) fl_61 (fun _ h9 => h9) rfl dX3_beyond_50 ?_
        refine z_ineg hx hb dX3_beyond_53 ?_
        refine lv_aload_n hx hb dX3_beyond_54 rfl (lv_at hl 1 rfl) ?_
        refine va_get (D := (dC, dI)) (ci := 3) (v := .int (iI (w : Int))) (C := RX3) (T := TX3) (N := 17) hx hb hts in_X3 hown hK hP 0 rfl rfl 2 (by decide) fl_61 (fun _ h9 => h9) rfl dX3_beyond_55 ?_
        refine zr_i (va_runS (As := [.int (iI ((i : Int) - (a9 : Int))), .int (iI (-(w : Int))), .int (iI (w : Int))]) (rest := []) ⟨hx, hb, hml, hown, hts⟩ (c_within l dC dI cI ((i : Int) - (a9 : Int)) (-(w : Int)) (w : Int) (by omega) (by omega) (by omega)) (cwS 3 hts (ga_S wd_544 wd_545 wd_31 wd_546) rfl rfl rfl (by decide +kernel) ⟨(show 0 + 1 ≤ R.frames by omega), (show 8 + (3 + 11) + 0 ≤ R.locals by omega)⟩) (rd_preS hP hK [] rfl) rfl rfl hl.1 rfl (lv_room (Nat.le_of_ble_eq_true rfl)) dX3_beyond_58 ⟨by omega, by omega⟩) (fun z58 hz58 => ?_)
        refine lv_istore (lv' := [(8, .int (iI z58)), (7, .int (iI (q i))), (0, .ref m0), (1, .int (iI v)), (2, .int (iI (a9 : Int))), (3, .int (iI (1 : Int))), (4, .int (iI (hlo w q a9 i))), (5, .int (iI (hhi w q a9 i))), (6, .int (iI (i : Int)))]) hx hb dX3_beyond_61 hl (by decide) rfl (fun ls hl => ?_)
        refine lv_iload hx hb dX3_beyond_63 (lv_at hl 0 rfl) ?_
        refine z_if_eq (tgt := 80) hx hb dX3_beyond_65 (by decide) (by omega) (fun h65 => ?_) (fun h65 => ?_)
        · refine lv_iload hx hb dX3_beyond_80 (lv_at hl 6 rfl) ?_
          refine z_top (b := hlo w q a9 (i + 1)) (by rw [hlo]; first | (rw [if_pos (by omega)]; omega) | rw [if_neg (by omega)]) ?_
          refine lv_istore (lv' := [(4, .int (iI (hlo w q a9 (i + 1)))), (8, .int (iI z58)), (7, .int (iI (q i))), (0, .ref m0), (1, .int (iI v)), (2, .int (iI (a9 : Int))), (3, .int (iI (1 : Int))), (5, .int (iI (hhi w q a9 i))), (6, .int (iI (i : Int)))]) hx hb dX3_beyond_82 hl (by decide) rfl (fun ls hl => ?_)
          refine lv_iload hx hb dX3_beyond_84 (lv_at hl 1 rfl) ?_
          refine z_if_eq (tgt := 101) hx hb dX3_beyond_86 (by decide) (by omega) (fun h86 => ?_) (fun h86 => ?_)
          · refine lv_iload hx hb dX3_beyond_101 (lv_at hl 7 rfl) ?_
            refine z_top (b := hhi w q a9 (i + 1)) (by rw [hhi]; first | (rw [if_pos (by omega)]; omega) | rw [if_neg (by omega)]) ?_
            refine lv_istore (lv' := [(5, .int (iI (hhi w q a9 (i + 1)))), (4, .int (iI (hlo w q a9 (i + 1)))), (8, .int (iI z58)), (7, .int (iI (q i))), (0, .ref m0), (1, .int (iI v)), (2, .int (iI (a9 : Int))), (3, .int (iI (1 : Int))), (6, .int (iI (i : Int)))]) hx hb dX3_beyond_103 hl (by decide) rfl (fun ls hl => ?_)
            refine z_iinc (k := 8) (b := ((i + 1 : Nat) : Int)) (lv' := [(6, .int (iI ((i + 1 : Nat) : Int))), (5, .int (iI (hhi w q a9 (i + 1)))), (4, .int (iI (hlo w q a9 (i + 1)))), (8, .int (iI z58)), (7, .int (iI (q i))), (0, .ref m0), (1, .int (iI v)), (2, .int (iI (a9 : Int))), (3, .int (iI (1 : Int)))]) hx hb dX3_beyond_105 hl rfl (by omega) (by decide) rfl (fun ls hl => ?_)
            refine lv_goto (tgt := 13) hx hb dX3_beyond_108 (by decide) ?_
            exact ih_lp _ (by omega) (i + 1) ls (by omega) rfl (lv_sub hl [5, 6, 7, 8, 2, 1, 0] rfl)
          · refine lv_iload hx hb dX3_beyond_89 (lv_at hl 2 rfl) ?_
            refine lv_iload hx hb dX3_beyond_91 (lv_at hl 7 rfl) ?_
            refine z_icmp_le (tgt := 101) hx hb dX3_beyond_93 (by decide) (by omega) (fun h93 => ?_) (fun h93 => ?_)
            · refine lv_iload hx hb dX3_beyond_101 (lv_at hl 7 rfl) ?_
              refine z_top (b := hhi w q a9 (i + 1)) (by rw [hhi]; first | (rw [if_pos (by omega)]; omega) | rw [if_neg (by omega)]) ?_
              refine lv_istore (lv' := [(5, .int (iI (hhi w q a9 (i + 1)))), (4, .int (iI (hlo w q a9 (i + 1)))), (8, .int (iI z58)), (7, .int (iI (q i))), (0, .ref m0), (1, .int (iI v)), (2, .int (iI (a9 : Int))), (3, .int (iI (1 : Int))), (6, .int (iI (i : Int)))]) hx hb dX3_beyond_103 hl (by decide) rfl (fun ls hl => ?_)
              refine z_iinc (k := 8) (b := ((i + 1 : Nat) : Int)) (lv' := [(6, .int (iI ((i + 1 : Nat) : Int))), (5, .int (iI (hhi w q a9 (i + 1)))), (4, .int (iI (hlo w q a9 (i + 1)))), (8, .int (iI z58)), (7, .int (iI (q i))), (0, .ref m0), (1, .int (iI v)), (2, .int (iI (a9 : Int))), (3, .int (iI (1 : Int)))]) hx hb dX3_beyond_105 hl rfl (by omega) (by decide) rfl (fun ls hl => ?_)
              refine lv_goto (tgt := 13) hx hb dX3_beyond_108 (by decide) ?_
              exact ih_lp _ (by omega) (i + 1) ls (by omega) rfl (lv_sub hl [5, 6, 7, 8, 2, 1, 0] rfl)
            · refine lv_iload hx hb dX3_beyond_96 (lv_at hl 2 rfl) ?_
              refine lv_goto (tgt := 103) hx hb dX3_beyond_98 (by decide) ?_
              refine z_top (b := hhi w q a9 (i + 1)) (by rw [hhi]; first | (rw [if_pos (by omega)]; omega) | rw [if_neg (by omega)]) ?_
              refine lv_istore (lv' := [(5, .int (iI (hhi w q a9 (i + 1)))), (4, .int (iI (hlo w q a9 (i + 1)))), (8, .int (iI z58)), (7, .int (iI (q i))), (0, .ref m0), (1, .int (iI v)), (2, .int (iI (a9 : Int))), (3, .int (iI (1 : Int))), (6, .int (iI (i : Int)))]) hx hb dX3_beyond_103 hl (by decide) rfl (fun ls hl => ?_)
              refine z_iinc (k := 8) (b := ((i + 1 : Nat) : Int)) (lv' := [(6, .int (iI ((i + 1 : Nat) : Int))), (5, .int (iI (hhi w q a9 (i + 1)))), (4, .int (iI (hlo w q a9 (i + 1)))), (8, .int (iI z58)), (7, .int (iI (q i))), (0, .ref m0), (1, .int (iI v)), (2, .int (iI (a9 : Int))), (3, .int (iI (1 : Int)))]) hx hb dX3_beyond_105 hl rfl (by omega) (by decide) rfl (fun ls hl => ?_)
              refine lv_goto (tgt := 13) hx hb dX3_beyond_108 (by decide) ?_
              exact ih_lp _ (by omega) (i + 1) ls (by omega) rfl (lv_sub hl [5, 6, 7, 8, 2, 1, 0] rfl)
        · refine lv_iload hx hb dX3_beyond_68 (lv_at hl 1 rfl) ?_
          refine lv_iload hx hb dX3_beyond_70 (lv_at hl 6 rfl) ?_
          refine z_icmp_ge (tgt := 80) hx hb dX3_beyond_72 (by decide) (by omega) (fun h72 => ?_) (fun h72 => ?_)
          · refine lv_iload hx hb dX3_beyond_80 (lv_at hl 6 rfl) ?_
            refine z_top (b := hlo w q a9 (i + 1)) (by rw [hlo]; first | (rw [if_pos (by omega)]; omega) | rw [if_neg (by omega)]) ?_
            refine lv_istore (lv' := [(4, .int (iI (hlo w q a9 (i + 1)))), (8, .int (iI z58)), (7, .int (iI (q i))), (0, .ref m0), (1, .int (iI v)), (2, .int (iI (a9 : Int))), (3, .int (iI (1 : Int))), (5, .int (iI (hhi w q a9 i))), (6, .int (iI (i : Int)))]) hx hb dX3_beyond_82 hl (by decide) rfl (fun ls hl => ?_)
            refine lv_iload hx hb dX3_beyond_84 (lv_at hl 1 rfl) ?_
            refine z_if_eq (tgt := 101) hx hb dX3_beyond_86 (by decide) (by omega) (fun h86 => ?_) (fun h86 => ?_)
            · refine lv_iload hx hb dX3_beyond_101 (lv_at hl 7 rfl) ?_
              refine z_top (b := hhi w q a9 (i + 1)) (by rw [hhi]; first | (rw [if_pos (by omega)]; omega) | rw [if_neg (by omega)]) ?_
              refine lv_istore (lv' := [(5, .int (iI (hhi w q a9 (i + 1)))), (4, .int (iI (hlo w q a9 (i + 1)))), (8, .int (iI z58)), (7, .int (iI (q i))), (0, .ref m0), (1, .int (iI v)), (2, .int (iI (a9 : Int))), (3, .int (iI (1 : Int))), (6, .int (iI (i : Int)))]) hx hb dX3_beyond_103 hl (by decide) rfl (fun ls hl => ?_)
              refine z_iinc (k := 8) (b := ((i + 1 : Nat) : Int)) (lv' := [(6, .int (iI ((i + 1 : Nat) : Int))), (5, .int (iI (hhi w q a9 (i + 1)))), (4, .int (iI (hlo w q a9 (i + 1)))), (8, .int (iI z58)), (7, .int (iI (q i))), (0, .ref m0), (1, .int (iI v)), (2, .int (iI (a9 : Int))), (3, .int (iI (1 : Int)))]) hx hb dX3_beyond_105 hl rfl (by omega) (by decide) rfl (fun ls hl => ?_)
              refine lv_goto (tgt := 13) hx hb dX3_beyond_108 (by decide) ?_
              exact ih_lp _ (by omega) (i + 1) ls (by omega) rfl (lv_sub hl [5, 6, 7, 8, 2, 1, 0] rfl)
            · refine lv_iload hx hb dX3_beyond_89 (lv_at hl 2 rfl) ?_
              refine lv_iload hx hb dX3_beyond_91 (lv_at hl 7 rfl) ?_
              refine z_icmp_le (tgt := 101) hx hb dX3_beyond_93 (by decide) (by omega) (fun h93 => ?_) (fun h93 => ?_)
              · refine lv_iload hx hb dX3_beyond_101 (lv_at hl 7 rfl) ?_
                refine z_top (b := hhi w q a9 (i + 1)) (by rw [hhi]; first | (rw [if_pos (by omega)]; omega) | rw [if_neg (by omega)]) ?_
                refine lv_istore (lv' := [(5, .int (iI (hhi w q a9 (i + 1)))), (4, .int (iI (hlo w q a9 (i + 1)))), (8, .int (iI z58)), (7, .int (iI (q i))), (0, .ref m0), (1, .int (iI v)), (2, .int (iI (a9 : Int))), (3, .int (iI (1 : Int))), (6, .int (iI (i : Int)))]) hx hb dX3_beyond_103 hl (by decide) rfl (fun ls hl => ?_)
                refine z_iinc (k := 8) (b := ((i + 1 : Nat) : Int)) (lv' := [(6, .int (iI ((i + 1 : Nat) : Int))), (5, .int (iI (hhi w q a9 (i + 1)))), (4, .int (iI (hlo w q a9 (i + 1)))), (8, .int (iI z58)), (7, .int (iI (q i))), (0, .ref m0), (1, .int (iI v)), (2, .int (iI (a9 : Int))), (3, .int (iI (1 : Int)))]) hx hb dX3_beyond_105 hl rfl (by omega) (by decide) rfl (fun ls hl => ?_)
                refine lv_goto (tgt := 13) hx hb dX3_beyond_108 (by decide) ?_
                exact ih_lp _ (by omega) (i + 1) ls (by omega) rfl (lv_sub hl [5, 6, 7, 8, 2, 1, 0] rfl)
              · refine lv_iload hx hb dX3_beyond_96 (lv_at hl 2 rfl) ?_
                refine lv_goto (tgt := 103) hx hb dX3_beyond_98 (by decide) ?_
                refine z_top (b := hhi w q a9 (i + 1)) (by rw [hhi]; first | (rw [if_pos (by omega)]; omega) | rw [if_neg (by omega)]) ?_
                refine lv_istore (lv' := [(5, .int (iI (hhi w q a9 (i + 1)))), (4, .int (iI (hlo w q a9 (i + 1)))), (8, .int (iI z58)), (7, .int (iI (q i))), (0, .ref m0), (1, .int (iI v)), (2, .int (iI (a9 : Int))), (3, .int (iI (1 : Int))), (6, .int (iI (i : Int)))]) hx hb dX3_beyond_103 hl (by decide) rfl (fun ls hl => ?_)
                refine z_iinc (k := 8) (b := ((i + 1 : Nat) : Int)) (lv' := [(6, .int (iI ((i + 1 : Nat) : Int))), (5, .int (iI (hhi w q a9 (i + 1)))), (4, .int (iI (hlo w q a9 (i + 1)))), (8, .int (iI z58)), (7, .int (iI (q i))), (0, .ref m0), (1, .int (iI v)), (2, .int (iI (a9 : Int))), (3, .int (iI (1 : Int)))]) hx hb dX3_beyond_105 hl rfl (by omega) (by decide) rfl (fun ls hl => ?_)
                refine lv_goto (tgt := 13) hx hb dX3_beyond_108 (by decide) ?_
                exact ih_lp _ (by omega) (i + 1) ls (by omega) rfl (lv_sub hl [5, 6, 7, 8, 2, 1, 0] rfl)
          · refine lv_iload hx hb dX3_beyond_75 (lv_at hl 1 rfl) ?_
            refine lv_goto (tgt := 82) hx hb dX3_beyond_77 (by decide) ?_
            refine z_top (b := hlo w q a9 (i + 1)) (by rw [hlo]; first | (rw [if_pos (by omega)]; omega) | rw [if_neg (by omega)]) ?_
            refine lv_istore (lv' := [(4, .int (iI (hlo w q a9 (i + 1)))), (8, .int (iI z58)), (7, .int (iI (q i))), (0, .ref m0), (1, .int (iI v)), (2, .int (iI (a9 : Int))), (3, .int (iI (1 : Int))), (5, .int (iI (hhi w q a9 i))), (6, .int (iI (i : Int)))]) hx hb dX3_beyond_82 hl (by decide) rfl (fun ls hl => ?_)
            refine lv_iload hx hb dX3_beyond_84 (lv_at hl 1 rfl) ?_
            refine z_if_eq (tgt := 101) hx hb dX3_beyond_86 (by decide) (by omega) (fun h86 => ?_) (fun h86 => ?_)
            · refine lv_iload hx hb dX3_beyond_101 (lv_at hl 7 rfl) ?_
              refine z_top (b := hhi w q a9 (i + 1)) (by rw [hhi]; first | (rw [if_pos (by omega)]; omega) | rw [if_neg (by omega)]) ?_
              refine lv_istore (lv' := [(5, .int (iI (hhi w q a9 (i + 1)))), (4, .int (iI (hlo w q a9 (i + 1)))), (8, .int (iI z58)), (7, .int (iI (q i))), (0, .ref m0), (1, .int (iI v)), (2, .int (iI (a9 : Int))), (3, .int (iI (1 : Int))), (6, .int (iI (i : Int)))]) hx hb dX3_beyond_103 hl (by decide) rfl (fun ls hl => ?_)
              refine z_iinc (k := 8) (b := ((i + 1 : Nat) : Int)) (lv' := [(6, .int (iI ((i + 1 : Nat) : Int))), (5, .int (iI (hhi w q a9 (i + 1)))), (4, .int (iI (hlo w q a9 (i + 1)))), (8, .int (iI z58)), (7, .int (iI (q i))), (0, .ref m0), (1, .int (iI v)), (2, .int (iI (a9 : Int))), (3, .int (iI (1 : Int)))]) hx hb dX3_beyond_105 hl rfl (by omega) (by decide) rfl (fun ls hl => ?_)
              refine lv_goto (tgt := 13) hx hb dX3_beyond_108 (by decide) ?_
              exact ih_lp _ (by omega) (i + 1) ls (by omega) rfl (lv_sub hl [5, 6, 7, 8, 2, 1, 0] rfl)
            · refine lv_iload hx hb dX3_beyond_89 (lv_at hl 2 rfl) ?_
              refine lv_iload hx hb dX3_beyond_91 (lv_at hl 7 rfl) ?_
              refine z_icmp_le (tgt := 101) hx hb dX3_beyond_93 (by decide) (by omega) (fun h93 => ?_) (fun h93 => ?_)
              · refine lv_iload hx hb dX3_beyond_101 (lv_at hl 7 rfl) ?_
                refine z_top (b := hhi w q a9 (i + 1)) (by rw [hhi]; first | (rw [if_pos (by omega)]; omega) | rw [if_neg (by omega)]) ?_
                refine lv_istore (lv' := [(5, .int (iI (hhi w q a9 (i + 1)))), (4, .int (iI (hlo w q a9 (i + 1)))), (8, .int (iI z58)), (7, .int (iI (q i))), (0, .ref m0), (1, .int (iI v)), (2, .int (iI (a9 : Int))), (3, .int (iI (1 : Int))), (6, .int (iI (i : Int)))]) hx hb dX3_beyond_103 hl (by decide) rfl (fun ls hl => ?_)
                refine z_iinc (k := 8) (b := ((i + 1 : Nat) : Int)) (lv' := [(6, .int (iI ((i + 1 : Nat) : Int))), (5, .int (iI (hhi w q a9 (i + 1)))), (4, .int (iI (hlo w q a9 (i + 1)))), (8, .int (iI z58)), (7, .int (iI (q i))), (0, .ref m0), (1, .int (iI v)), (2, .int (iI (a9 : Int))), (3, .int (iI (1 : Int)))]) hx hb dX3_beyond_105 hl rfl (by omega) (by decide) rfl (fun ls hl => ?_)
                refine lv_goto (tgt := 13) hx hb dX3_beyond_108 (by decide) ?_
                exact ih_lp _ (by omega) (i + 1) ls (by omega) rfl (lv_sub hl [5, 6, 7, 8, 2, 1, 0] rfl)
              · refine lv_iload hx hb dX3_beyond_96 (lv_at hl 2 rfl) ?_
                refine lv_goto (tgt := 103) hx hb dX3_beyond_98 (by decide) ?_
                refine z_top (b := hhi w q a9 (i + 1)) (by rw [hhi]; first | (rw [if_pos (by omega)]; omega) | rw [if_neg (by omega)]) ?_
                refine lv_istore (lv' := [(5, .int (iI (hhi w q a9 (i + 1)))), (4, .int (iI (hlo w q a9 (i + 1)))), (8, .int (iI z58)), (7, .int (iI (q i))), (0, .ref m0), (1, .int (iI v)), (2, .int (iI (a9 : Int))), (3, .int (iI (1 : Int))), (6, .int (iI (i : Int)))]) hx hb dX3_beyond_103 hl (by decide) rfl (fun ls hl => ?_)
                refine z_iinc (k := 8) (b := ((i + 1 : Nat) : Int)) (lv' := [(6, .int (iI ((i + 1 : Nat) : Int))), (5, .int (iI (hhi w q a9 (i + 1)))), (4, .int (iI (hlo w q a9 (i + 1)))), (8, .int (iI z58)), (7, .int (iI (q i))), (0, .ref m0), (1, .int (iI v)), (2, .int (iI (a9 : Int))), (3, .int (iI (1 : Int)))]) hx hb dX3_beyond_105 hl rfl (by omega) (by decide) rfl (fun ls hl => ?_)
                refine lv_goto (tgt := 13) hx hb dX3_beyond_108 (by decide) ?_
                exact ih_lp _ (by omega) (i + 1) ls (by omega) rfl (lv_sub hl [5, 6, 7, 8, 2, 1, 0] rfl)
  exact lp _ 0 ls (by omega) rfl (lv_sub hl [3, 4, 5, 6, 2, 1, 0] rfl)
set_option maxRecDepth 100000 in
set_option maxHeartbeats 4000000 in
theorem c_beyondR (l : Launch) (dC : Nat → ClassId) (dI : Nat → Nat → Nat) (cI : ClassId) (m0 mq mn ml ms mr mg mp mpl mdi mc : Nat) (cd : Int) (n w rc sc mo fo : Nat) (q r : Nat → Int) (v : Int) (a9 : Nat) (hn : 2 ≤ n ∧ n ≤ 16) (hw : w ≤ 15) (hvq : vals n q) (hvr : vals n r) (ha9 : a9 < n) (hv9 : -1000 ≤ v ∧ v ≤ 1000) : Met l yX3_beyond wsX3_beyond ({ frames := 1, cells := 0, slots := 0, locals := 22 }) (rdP dC dI [(cI, .int)] [(m0, .inr (3, [.int (iI cd), .int (iI (n : Int)), .int (iI (w : Int)), .ref mq, .int (iI (rc : Int)), .ref mn, .ref ml, .int (iI (sc : Int)), .ref ms, .ref mr, .ref mg, .ref mp, .int (iI (mo : Int)), .int (iI (fo : Int)), .ref mpl, .ref mdi, .ref mc])), (mq, .inl (cI, 16, .inl (iA q))), (mr, .inl (cI, 16, .inl (iA r)))] [.ref m0, .int (iI v), .int (iI (a9 : Int)), .int (iI (0 : Int))]) (rdQ (fun z => z = gapz v (hlo w r a9 n) (hhi w r a9 n) * gapz v (hlo w r a9 n) (hhi w r a9 n))) 0 0 (fun _ => False) := by
  refine Met.ofW (cc := cX3_beyond) (maxL := 9) (ret := (some .int)) (by decide) rfl ?_
  intro p e s m args below meth c s₁ B hml hv
  obtain ⟨rfl, hP, hK⟩ := hv
  have hx := B.exec
  have hb := B.bytes
  have hr := B.returns
  have hts : ∀ w ∈ wsX3_beyond, w.before _ s = true := atoms_spec (ws := wsX3_beyond) B.pre
  have hown : s.vm.findClass RX3 = some m.cls := findClass_of_methodNamed B.named
  have hlocks := B.notSynchronized
  have hl := lv_entry ([.ref m0, .int (iI v), .int (iI (a9 : Int)), .int (iI (0 : Int))]) (n := 9) (Nat.le_of_ble_eq_true rfl)
  rw [lg_entry_eq]
  generalize (lg_sl ([.ref m0, .int (iI v), .int (iI (a9 : Int)), .int (iI (0 : Int))]) ++ List.replicate (9 - (lg_sl ([.ref m0, .int (iI v), .int (iI (a9 : Int)), .int (iI (0 : Int))])).length) Slot.unset).toArray = ls at hl ⊢
  have hl : lv_has ls 9 [(0, .ref m0), (1, .int (iI v)), (2, .int (iI (a9 : Int))), (3, .int (iI (0 : Int)))] := hl
  generalize hargs : ([.ref m0, .int (iI v), .int (iI (a9 : Int)), .int (iI (0 : Int))] : List Value).toArray = args at hts ⊢
  refine z_intro (fun R Q hR hQ => ?_)
  have hRf : R.frames = 1 := by rw [hR]; rfl
  have hRl : R.locals = 22 := by rw [hR]; rfl
  have hRc : R.cells = 0 := by rw [hR]; rfl
  have hRs : R.slots = 0 := by rw [hR]; rfl
  have in_X3 : ∀ w ∈ u_ws RX3 TX3 17, w ∈ wsX3_beyond := fun w h => List.mem_cons_of_mem _ (inW_X3 w h)
  have fl_7 := wa_hts hts wd_485
  have fl_26 := wa_hts hts wd_493
  have fl_61 := wa_hts hts wd_486
  clear hR hargs B
  refine lv_sipush (v := iI (1000 : Int)) hx hb dX3_beyond_0 (by decide) ?_
  refine lv_istore (lv' := [(4, .int (iI (1000 : Int))), (0, .ref m0), (1, .int (iI v)), (2, .int (iI (a9 : Int))), (3, .int (iI (0 : Int)))]) hx hb dX3_beyond_3 hl (by decide) rfl (fun ls hl => ?_)
  refine lv_sipush (v := iI (-1000 : Int)) hx hb dX3_beyond_5 (by decide) ?_
  refine lv_istore (lv' := [(5, .int (iI (-1000 : Int))), (4, .int (iI (1000 : Int))), (0, .ref m0), (1, .int (iI v)), (2, .int (iI (a9 : Int))), (3, .int (iI (0 : Int)))]) hx hb dX3_beyond_8 hl (by decide) rfl (fun ls hl => ?_)
  refine lv_iconst (v := iI (0 : Int)) hx hb dX3_beyond_10 (by decide) ?_
  refine lv_istore (lv' := [(6, .int (iI (0 : Int))), (5, .int (iI (-1000 : Int))), (4, .int (iI (1000 : Int))), (0, .ref m0), (1, .int (iI v)), (2, .int (iI (a9 : Int))), (3, .int (iI (0 : Int)))]) hx hb dX3_beyond_11 hl (by decide) rfl (fun ls hl => ?_)
  have lp : ∀ (k9 : Nat) (i : Nat) (ls : Array Slot), (i ≤ n) → n - i = k9 → lv_has ls 9 [(0, .ref m0), (1, .int (iI v)), (2, .int (iI (a9 : Int))), (3, .int (iI (0 : Int))), (4, .int (iI (hlo w r a9 i))), (5, .int (iI (hhi w r a9 i))), (6, .int (iI (i : Int)))] → W p l e R s m args below meth c s.heap [] 0 0 Q (F0 m 13 ls []) := by
    intro k9
    induction k9 using Nat.strongRecOn with
    | ind k9 ih_lp =>
      intro i ls hi hk9 hl
      have rlo := hlo_rg hvr (w := w) (i := a9) i hi
      have rhi := hhi_rg hvr (w := w) (i := a9) i hi
      refine lv_iload hx hb dX3_beyond_13 (lv_at hl 6 rfl) ?_
      refine lv_aload_n hx hb dX3_beyond_15 rfl (lv_at hl 0 rfl) ?_
      refine va_get (D := (dC, dI)) (ci := 3) (v := .int (iI (n : Int))) (C := RX3) (T := TX3) (N := 17) hx hb hts in_X3 hown hK hP 0 rfl rfl 1 (by decide) fl_7 (fun _ h9 => h9) rfl dX3_beyond_16 ?_
      refine z_icmp_ge (tgt := 111) hx hb dX3_beyond_19 (by decide) (by omega) (fun h19 => ?_) (fun h19 => ?_)
      · have ein : i = n := by omega
        refine lv_iload_n hx hb dX3_beyond_111 rfl (lv_at hl 1 rfl) ?_
        refine lv_iload hx hb dX3_beyond_112 (lv_at hl 4 rfl) ?_
        refine z_icmp_ge (tgt := 124) hx hb dX3_beyond_114 (by decide) (by omega) (fun h114 => ?_) (fun h114 => ?_)
        · refine lv_iload_n hx hb dX3_beyond_124 rfl (lv_at hl 1 rfl) ?_
          refine lv_iload hx hb dX3_beyond_125 (lv_at hl 5 rfl) ?_
          refine z_icmp_le (tgt := 137) hx hb dX3_beyond_127 (by decide) (by omega) (fun h127 => ?_) (fun h127 => ?_)
          · refine lv_iconst (v := iI (0 : Int)) hx hb dX3_beyond_137 (by decide) ?_
            refine z_top (b := gapz v (hlo w r a9 n) (hhi w r a9 n)) (by rw [← ein]; unfold gapz; split <;> first | omega | (split <;> omega)) ?_
            refine lv_istore (lv' := [(6, .int (iI (gapz v (hlo w r a9 n) (hhi w r a9 n)))), (0, .ref m0), (1, .int (iI v)), (2, .int (iI (a9 : Int))), (3, .int (iI (0 : Int))), (4, .int (iI (hlo w r a9 i))), (5, .int (iI (hhi w r a9 i)))]) hx hb dX3_beyond_138 hl (by decide) rfl (fun ls hl => ?_)
            refine lv_iload hx hb dX3_beyond_140 (lv_at hl 0 rfl) ?_
            refine lv_iload hx hb dX3_beyond_142 (lv_at hl 0 rfl) ?_
            refine z_imul hx hb dX3_beyond_144 ?_
            exact zr_ret (z := (gapz v (hlo w r a9 n) (hhi w r a9 n)) * (gapz v (hlo w r a9 n) (hhi w r a9 n))) hx hb hr hlocks hQ (rfl) dX3_beyond_145
          · refine lv_iload_n hx hb dX3_beyond_130 rfl (lv_at hl 1 rfl) ?_
            refine lv_iload hx hb dX3_beyond_131 (lv_at hl 5 rfl) ?_
            refine z_isub hx hb dX3_beyond_133 ?_
            refine lv_goto (tgt := 138) hx hb dX3_beyond_134 (by decide) ?_
            refine z_top (b := gapz v (hlo w r a9 n) (hhi w r a9 n)) (by rw [← ein]; unfold gapz; split <;> first | omega | (split <;> omega)) ?_
            refine lv_istore (lv' := [(6, .int (iI (gapz v (hlo w r a9 n) (hhi w r a9 n)))), (0, .ref m0), (1, .int (iI v)), (2, .int (iI (a9 : Int))), (3, .int (iI (0 : Int))), (4, .int (iI (hlo w r a9 i))), (5, .int (iI (hhi w r a9 i)))]) hx hb dX3_beyond_138 hl (by decide) rfl (fun ls hl => ?_)
            refine lv_iload hx hb dX3_beyond_140 (lv_at hl 0 rfl) ?_
            refine lv_iload hx hb dX3_beyond_142 (lv_at hl 0 rfl) ?_
            refine z_imul hx hb dX3_beyond_144 ?_
            exact zr_ret (z := (gapz v (hlo w r a9 n) (hhi w r a9 n)) * (gapz v (hlo w r a9 n) (hhi w r a9 n))) hx hb hr hlocks hQ (rfl) dX3_beyond_145
        · refine lv_iload hx hb dX3_beyond_117 (lv_at hl 4 rfl) ?_
          refine lv_iload_n hx hb dX3_beyond_119 rfl (lv_at hl 1 rfl) ?_
          refine z_isub hx hb dX3_beyond_120 ?_
          refine lv_goto (tgt := 138) hx hb dX3_beyond_121 (by decide) ?_
          refine z_top (b := gapz v (hlo w r a9 n) (hhi w r a9 n)) (by rw [← ein]; unfold gapz; split <;> first | omega | (split <;> omega)) ?_
          refine lv_istore (lv' := [(6, .int (iI (gapz v (hlo w r a9 n) (hhi w r a9 n)))), (0, .ref m0), (1, .int (iI v)), (2, .int (iI (a9 : Int))), (3, .int (iI (0 : Int))), (4, .int (iI (hlo w r a9 i))), (5, .int (iI (hhi w r a9 i)))]) hx hb dX3_beyond_138 hl (by decide) rfl (fun ls hl => ?_)
          refine lv_iload hx hb dX3_beyond_140 (lv_at hl 0 rfl) ?_
          refine lv_iload hx hb dX3_beyond_142 (lv_at hl 0 rfl) ?_
          refine z_imul hx hb dX3_beyond_144 ?_
          exact zr_ret (z := (gapz v (hlo w r a9 n) (hhi w r a9 n)) * (gapz v (hlo w r a9 n) (hhi w r a9 n))) hx hb hr hlocks hQ (rfl) dX3_beyond_145
      · refine lv_iload_n hx hb dX3_beyond_22 rfl (lv_at hl 3 rfl) ?_
        refine z_if_eq (tgt := 36) hx hb dX3_beyond_23 (by decide) (by decide) (fun _ => ?_) (fun h9 => absurd h9 (by decide))
        refine lv_aload_n hx hb dX3_beyond_36 rfl (lv_at hl 0 rfl) ?_
        refine va_get (D := (dC, dI)) (ci := 3) (v := .ref mr) (C := RX3) (T := TX3) (N := 17) hx hb hts in_X3 hown hK hP 0 rfl rfl 9 (by decide) fl_26 (fun _ h9 => h9) rfl dX3_beyond_37 ?_
        refine lv_iload hx hb dX3_beyond_40 (lv_at hl 6 rfl) ?_
        refine z_iald hx hb hK hP 2 0 rfl rfl i (by omega) dX3_beyond_42 ?_
        have rx := hvr i (by omega)
        refine lv_istore (lv' := [(7, .int (iI (r i))), (0, .ref m0), (1, .int (iI v)), (2, .int (iI (a9 : Int))), (3, .int (iI (0 : Int))), (4, .int (iI (hlo w r a9 i))), (5, .int (iI (hhi w r a9 i))), (6, .int (iI (i : Int)))]) hx hb dX3_beyond_43 hl (by decide) rfl (fun ls hl => ?_)
        refine lv_iload hx hb dX3_beyond_45 (lv_at hl 7 rfl) ?_
        refine lv_iload_n hx hb dX3_beyond_47 rfl (lv_at hl 3 rfl) ?_
        refine z_isub hx hb dX3_beyond_48 ?_
        refine lv_aload_n hx hb dX3_beyond_49 rfl (lv_at hl 1 rfl) ?_
        refine va_get (D := (dC, dI)) (ci := 3) (v := .int (iI (w : Int))) (C := RX3) (T := TX3) (N := 17) hx hb hts in_X3 hown hK hP 0 rfl rfl 2 (by decide) fl_61 (fun _ h9 => h9) rfl dX3_beyond_50 ?_
        refine z_ineg hx hb dX3_beyond_53 ?_
        refine lv_aload_n hx hb dX3_beyond_54 rfl (lv_at hl 1 rfl) ?_
        refine va_get (D := (dC, dI)) (ci := 3) (v := .int (iI (w : Int))) (C := RX3) (T := TX3) (N := 17) hx hb hts in_X3 hown hK hP 0 rfl rfl 2 (by decide) fl_61 (fun _ h9 => h9) rfl dX3_beyond_55 ?_
        refine zr_i (va_runS (As := [.int (iI ((i : Int) - (a9 : Int))), .int (iI (-(w : Int))), .int (iI (w : Int))]) (rest := []) ⟨hx, hb, hml, hown, hts⟩ (c_within l dC dI cI ((i : Int) - (a9 : Int)) (-(w : Int)) (w : Int) (by omega) (by omega) (by omega)) (cwS 3 hts (ga_S wd_544 wd_545 wd_31 wd_546) rfl rfl rfl (by decide +kernel) ⟨(show 0 + 1 ≤ R.frames by omega), (show 8 + (3 + 11) + 0 ≤ R.locals by omega)⟩) (rd_preS hP hK [] rfl) rfl rfl hl.1 rfl (lv_room (Nat.le_of_ble_eq_true rfl)) dX3_beyond_58 ⟨by omega, by omega⟩) (fun z58 hz58 => ?_)
        refine lv_istore (lv' := [(8, .int (iI z58)), (7, .int (iI (r i))), (0, .ref m0), (1, .int (iI v)), (2, .int (iI (a9 : Int))), (3, .int (iI (0 : Int))), (4, .int (iI (hlo w r a9 i))), (5, .int (iI (hhi w r a9 i))), (6, .int (iI (i : Int)))]) hx hb dX3_beyond_61 hl (by decide) rfl (fun ls hl => ?_)
        refine lv_iload hx hb dX3_beyond_63 (lv_at hl 0 rfl) ?_
        refine z_if_eq (tgt := 80) hx hb dX3_beyond_65 (by decide) (by omega) (fun h65 => ?_) (fun h65 => ?_)
        · refine lv_iload hx hb dX3_beyond_80 (lv_at hl 6 rfl) ?_
          refine z_top (b := hlo w r a9 (i + 1)) (by rw [hlo]; first | (rw [if_pos (by omega)]; omega) | rw [if_neg (by omega)]) ?_
          refine lv_istore (lv' := [(4, .int (iI (hlo w r a9 (i + 1)))), (8, .int (iI z58)), (7, .int (iI (r i))), (0, .ref m0), (1, .int (iI v)), (2, .int (iI (a9 : Int))), (3, .int (iI (0 : Int))), (5, .int (iI (hhi w r a9 i))), (6, .int (iI (i : Int)))]) hx hb dX3_beyond_82 hl (by decide) rfl (fun ls hl => ?_)
          refine lv_iload hx hb dX3_beyond_84 (lv_at hl 1 rfl) ?_
          refine z_if_eq (tgt := 101) hx hb dX3_beyond_86 (by decide) (by omega) (fun h86 => ?_) (fun h86 => ?_)
          · refine lv_iload hx hb dX3_beyond_101 (lv_at hl 7 rfl) ?_
            refine z_top (b := hhi w r a9 (i + 1)) (by rw [hhi]; first | (rw [if_pos (by omega)]; omega) | rw [if_neg (by omega)]) ?_
            refine lv_istore (lv' := [(5, .int (iI (hhi w r a9 (i + 1)))), (4, .int (iI (hlo w r a9 (i + 1)))), (8, .int (iI z58)), (7, .int (iI (r i))), (0, .ref m0), (1, .int (iI v)), (2, .int (iI (a9 : Int))), (3, .int (iI (0 : Int))), (6, .int (iI (i : Int)))]) hx hb dX3_beyond_103 hl (by decide) rfl (fun ls hl => ?_)
            refine z_iinc (k := 8) (b := ((i + 1 : Nat) : Int)) (lv' := [(6, .int (iI ((i + 1 : Nat) : Int))), (5, .int (iI (hhi w r a9 (i + 1)))), (4, .int (iI (hlo w r a9 (i + 1)))), (8, .int (iI z58)), (7, .int (iI (r i))), (0, .ref m0), (1, .int (iI v)), (2, .int (iI (a9 : Int))), (3, .int (iI (0 : Int)))]) hx hb dX3_beyond_105 hl rfl (by omega) (by decide) rfl (fun ls hl => ?_)
            refine lv_goto (tgt := 13) hx hb dX3_beyond_108 (by decide) ?_
            exact ih_lp _ (by omega) (i + 1) ls (by omega) rfl (lv_sub hl [5, 6, 7, 8, 2, 1, 0] rfl)
          · refine lv_iload hx hb dX3_beyond_89 (lv_at hl 2 rfl) ?_
            refine lv_iload hx hb dX3_beyond_91 (lv_at hl 7 rfl) ?_
            refine z_icmp_le (tgt := 101) hx hb dX3_beyond_93 (by decide) (by omega) (fun h93 => ?_) (fun h93 => ?_)
            · refine lv_iload hx hb dX3_beyond_101 (lv_at hl 7 rfl) ?_
              refine z_top (b := hhi w r a9 (i + 1)) (by rw [hhi]; first | (rw [if_pos (by omega)]; omega) | rw [if_neg (by omega)]) ?_
              refine lv_istore (lv' := [(5, .int (iI (hhi w r a9 (i + 1)))), (4, .int (iI (hlo w r a9 (i + 1)))), (8, .int (iI z58)), (7, .int (iI (r i))), (0, .ref m0), (1, .int (iI v)), (2, .int (iI (a9 : Int))), (3, .int (iI (0 : Int))), (6, .int (iI (i : Int)))]) hx hb dX3_beyond_103 hl (by decide) rfl (fun ls hl => ?_)
              refine z_iinc (k := 8) (b := ((i + 1 : Nat) : Int)) (lv' := [(6, .int (iI ((i + 1 : Nat) : Int))), (5, .int (iI (hhi w r a9 (i + 1)))), (4, .int (iI (hlo w r a9 (i + 1)))), (8, .int (iI z58)), (7, .int (iI (r i))), (0, .ref m0), (1, .int (iI v)), (2, .int (iI (a9 : Int))), (3, .int (iI (0 : Int)))]) hx hb dX3_beyond_105 hl rfl (by omega) (by decide) rfl (fun ls hl => ?_)
              refine lv_goto (tgt := 13) hx hb dX3_beyond_108 (by decide) ?_
              exact ih_lp _ (by omega) (i + 1) ls (by omega) rfl (lv_sub hl [5, 6, 7, 8, 2, 1, 0] rfl)
            · refine lv_iload hx hb dX3_beyond_96 (lv_at hl 2 rfl) ?_
              refine lv_goto (tgt := 103) hx hb dX3_beyond_98 (by decide) ?_
              refine z_top (b := hhi w r a9 (i + 1)) (by rw [hhi]; first | (rw [if_pos (by omega)]; omega) | rw [if_neg (by omega)]) ?_
              refine lv_istore (lv' := [(5, .int (iI (hhi w r a9 (i + 1)))), (4, .int (iI (hlo w r a9 (i + 1)))), (8, .int (iI z58)), (7, .int (iI (r i))), (0, .ref m0), (1, .int (iI v)), (2, .int (iI (a9 : Int))), (3, .int (iI (0 : Int))), (6, .int (iI (i : Int)))]) hx hb dX3_beyond_103 hl (by decide) rfl (fun ls hl => ?_)
              refine z_iinc (k := 8) (b := ((i + 1 : Nat) : Int)) (lv' := [(6, .int (iI ((i + 1 : Nat) : Int))), (5, .int (iI (hhi w r a9 (i + 1)))), (4, .int (iI (hlo w r a9 (i + 1)))), (8, .int (iI z58)), (7, .int (iI (r i))), (0, .ref m0), (1, .int (iI v)), (2, .int (iI (a9 : Int))), (3, .int (iI (0 : Int)))]) hx hb dX3_beyond_105 hl rfl (by omega) (by decide) rfl (fun ls hl => ?_)
              refine lv_goto (tgt := 13) hx hb dX3_beyond_108 (by decide) ?_
              exact ih_lp _ (by omega) (i + 1) ls (by omega) rfl (lv_sub hl [5, 6, 7, 8, 2, 1, 0] rfl)
        · refine lv_iload hx hb dX3_beyond_68 (lv_at hl 1 rfl) ?_
          refine lv_iload hx hb dX3_beyond_70 (lv_at hl 6 rfl) ?_
          refine z_icmp_ge (tgt := 80) hx hb dX3_beyond_72 (by decide) (by omega) (fun h72 => ?_) (fun h72 => ?_)
          · refine lv_iload hx hb dX3_beyond_80 (lv_at hl 6 rfl) ?_
            refine z_top (b := hlo w r a9 (i + 1)) (by rw [hlo]; first | (rw [if_pos (by omega)]; omega) | rw [if_neg (by omega)]) ?_
            refine lv_istore (lv' := [(4, .int (iI (hlo w r a9 (i + 1)))), (8, .int (iI z58)), (7, .int (iI (r i))), (0, .ref m0), (1, .int (iI v)), (2, .int (iI (a9 : Int))), (3, .int (iI (0 : Int))), (5, .int (iI (hhi w r a9 i))), (6, .int (iI (i : Int)))]) hx hb dX3_beyond_82 hl (by decide) rfl (fun ls hl => ?_)
            refine lv_iload hx hb dX3_beyond_84 (lv_at hl 1 rfl) ?_
            refine z_if_eq (tgt := 101) hx hb dX3_beyond_86 (by decide) (by omega) (fun h86 => ?_) (fun h86 => ?_)
            · refine lv_iload hx hb dX3_beyond_101 (lv_at hl 7 rfl) ?_
              refine z_top (b := hhi w r a9 (i + 1)) (by rw [hhi]; first | (rw [if_pos (by omega)]; omega) | rw [if_neg (by omega)]) ?_
              refine lv_istore (lv' := [(5, .int (iI (hhi w r a9 (i + 1)))), (4, .int (iI (hlo w r a9 (i + 1)))), (8, .int (iI z58)), (7, .int (iI (r i))), (0, .ref m0), (1, .int (iI v)), (2, .int (iI (a9 : Int))), (3, .int (iI (0 : Int))), (6, .int (iI (i : Int)))]) hx hb dX3_beyond_103 hl (by decide) rfl (fun ls hl => ?_)
              refine z_iinc (k := 8) (b := ((i + 1 : Nat) : Int)) (lv' := [(6, .int (iI ((i + 1 : Nat) : Int))), (5, .int (iI (hhi w r a9 (i + 1)))), (4, .int (iI (hlo w r a9 (i + 1)))), (8, .int (iI z58)), (7, .int (iI (r i))), (0, .ref m0), (1, .int (iI v)), (2, .int (iI (a9 : Int))), (3, .int (iI (0 : Int)))]) hx hb dX3_beyond_105 hl rfl (by omega) (by decide) rfl (fun ls hl => ?_)
              refine lv_goto (tgt := 13) hx hb dX3_beyond_108 (by decide) ?_
              exact ih_lp _ (by omega) (i + 1) ls (by omega) rfl (lv_sub hl [5, 6, 7, 8, 2, 1, 0] rfl)
            · refine lv_iload hx hb dX3_beyond_89 (lv_at hl 2 rfl) ?_
              refine lv_iload hx hb dX3_beyond_91 (lv_at hl 7 rfl) ?_
              refine z_icmp_le (tgt := 101) hx hb dX3_beyond_93 (by decide) (by omega) (fun h93 => ?_) (fun h93 => ?_)
              · refine lv_iload hx hb dX3_beyond_101 (lv_at hl 7 rfl) ?_
                refine z_top (b := hhi w r a9 (i + 1)) (by rw [hhi]; first | (rw [if_pos (by omega)]; omega) | rw [if_neg (by omega)]) ?_
                refine lv_istore (lv' := [(5, .int (iI (hhi w r a9 (i + 1)))), (4, .int (iI (hlo w r a9 (i + 1)))), (8, .int (iI z58)), (7, .int (iI (r i))), (0, .ref m0), (1, .int (iI v)), (2, .int (iI (a9 : Int))), (3, .int (iI (0 : Int))), (6, .int (iI (i : Int)))]) hx hb dX3_beyond_103 hl (by decide) rfl (fun ls hl => ?_)
                refine z_iinc (k := 8) (b := ((i + 1 : Nat) : Int)) (lv' := [(6, .int (iI ((i + 1 : Nat) : Int))), (5, .int (iI (hhi w r a9 (i + 1)))), (4, .int (iI (hlo w r a9 (i + 1)))), (8, .int (iI z58)), (7, .int (iI (r i))), (0, .ref m0), (1, .int (iI v)), (2, .int (iI (a9 : Int))), (3, .int (iI (0 : Int)))]) hx hb dX3_beyond_105 hl rfl (by omega) (by decide) rfl (fun ls hl => ?_)
                refine lv_goto (tgt := 13) hx hb dX3_beyond_108 (by decide) ?_
                exact ih_lp _ (by omega) (i + 1) ls (by omega) rfl (lv_sub hl [5, 6, 7, 8, 2, 1, 0] rfl)
              · refine lv_iload hx hb dX3_beyond_96 (lv_at hl 2 rfl) ?_
                refine lv_goto (tgt := 103) hx hb dX3_beyond_98 (by decide) ?_
                refine z_top (b := hhi w r a9 (i + 1)) (by rw [hhi]; first | (rw [if_pos (by omega)]; omega) | rw [if_neg (by omega)]) ?_
                refine lv_istore (lv' := [(5, .int (iI (hhi w r a9 (i + 1)))), (4, .int (iI (hlo w r a9 (i + 1)))), (8, .int (iI z58)), (7, .int (iI (r i))), (0, .ref m0), (1, .int (iI v)), (2, .int (iI (a9 : Int))), (3, .int (iI (0 : Int))), (6, .int (iI (i : Int)))]) hx hb dX3_beyond_103 hl (by decide) rfl (fun ls hl => ?_)
                refine z_iinc (k := 8) (b := ((i + 1 : Nat) : Int)) (lv' := [(6, .int (iI ((i + 1 : Nat) : Int))), (5, .int (iI (hhi w r a9 (i + 1)))), (4, .int (iI (hlo w r a9 (i + 1)))), (8, .int (iI z58)), (7, .int (iI (r i))), (0, .ref m0), (1, .int (iI v)), (2, .int (iI (a9 : Int))), (3, .int (iI (0 : Int)))]) hx hb dX3_beyond_105 hl rfl (by omega) (by decide) rfl (fun ls hl => ?_)
                refine lv_goto (tgt := 13) hx hb dX3_beyond_108 (by decide) ?_
                exact ih_lp _ (by omega) (i + 1) ls (by omega) rfl (lv_sub hl [5, 6, 7, 8, 2, 1, 0] rfl)
          · refine lv_iload hx hb dX3_beyond_75 (lv_at hl 1 rfl) ?_
            refine lv_goto (tgt := 82) hx hb dX3_beyond_77 (by decide) ?_
            refine z_top (b := hlo w r a9 (i + 1)) (by rw [hlo]; first | (rw [if_pos (by omega)]; omega) | rw [if_neg (by omega)]) ?_
            refine lv_istore (lv' := [(4, .int (iI (hlo w r a9 (i + 1)))), (8, .int (iI z58)), (7, .int (iI (r i))), (0, .ref m0), (1, .int (iI v)), (2, .int (iI (a9 : Int))), (3, .int (iI (0 : Int))), (5, .int (iI (hhi w r a9 i))), (6, .int (iI (i : Int)))]) hx hb dX3_beyond_82 hl (by decide) rfl (fun ls hl => ?_)
            refine lv_iload hx hb dX3_beyond_84 (lv_at hl 1 rfl) ?_
            refine z_if_eq (tgt := 101) hx hb dX3_beyond_86 (by decide) (by omega) (fun h86 => ?_) (fun h86 => ?_)
            · refine lv_iload hx hb dX3_beyond_101 (lv_at hl 7 rfl) ?_
              refine z_top (b := hhi w r a9 (i + 1)) (by rw [hhi]; first | (rw [if_pos (by omega)]; omega) | rw [if_neg (by omega)]) ?_
              refine lv_istore (lv' := [(5, .int (iI (hhi w r a9 (i + 1)))), (4, .int (iI (hlo w r a9 (i + 1)))), (8, .int (iI z58)), (7, .int (iI (r i))), (0, .ref m0), (1, .int (iI v)), (2, .int (iI (a9 : Int))), (3, .int (iI (0 : Int))), (6, .int (iI (i : Int)))]) hx hb dX3_beyond_103 hl (by decide) rfl (fun ls hl => ?_)
              refine z_iinc (k := 8) (b := ((i + 1 : Nat) : Int)) (lv' := [(6, .int (iI ((i + 1 : Nat) : Int))), (5, .int (iI (hhi w r a9 (i + 1)))), (4, .int (iI (hlo w r a9 (i + 1)))), (8, .int (iI z58)), (7, .int (iI (r i))), (0, .ref m0), (1, .int (iI v)), (2, .int (iI (a9 : Int))), (3, .int (iI (0 : Int)))]) hx hb dX3_beyond_105 hl rfl (by omega) (by decide) rfl (fun ls hl => ?_)
              refine lv_goto (tgt := 13) hx hb dX3_beyond_108 (by decide) ?_
              exact ih_lp _ (by omega) (i + 1) ls (by omega) rfl (lv_sub hl [5, 6, 7, 8, 2, 1, 0] rfl)
            · refine lv_iload hx hb dX3_beyond_89 (lv_at hl 2 rfl) ?_
              refine lv_iload hx hb dX3_beyond_91 (lv_at hl 7 rfl) ?_
              refine z_icmp_le (tgt := 101) hx hb dX3_beyond_93 (by decide) (by omega) (fun h93 => ?_) (fun h93 => ?_)
              · refine lv_iload hx hb dX3_beyond_101 (lv_at hl 7 rfl) ?_
                refine z_top (b := hhi w r a9 (i + 1)) (by rw [hhi]; first | (rw [if_pos (by omega)]; omega) | rw [if_neg (by omega)]) ?_
                refine lv_istore (lv' := [(5, .int (iI (hhi w r a9 (i + 1)))), (4, .int (iI (hlo w r a9 (i + 1)))), (8, .int (iI z58)), (7, .int (iI (r i))), (0, .ref m0), (1, .int (iI v)), (2, .int (iI (a9 : Int))), (3, .int (iI (0 : Int))), (6, .int (iI (i : Int)))]) hx hb dX3_beyond_103 hl (by decide) rfl (fun ls hl => ?_)
                refine z_iinc (k := 8) (b := ((i + 1 : Nat) : Int)) (lv' := [(6, .int (iI ((i + 1 : Nat) : Int))), (5, .int (iI (hhi w r a9 (i + 1)))), (4, .int (iI (hlo w r a9 (i + 1)))), (8, .int (iI z58)), (7, .int (iI (r i))), (0, .ref m0), (1, .int (iI v)), (2, .int (iI (a9 : Int))), (3, .int (iI (0 : Int)))]) hx hb dX3_beyond_105 hl rfl (by omega) (by decide) rfl (fun ls hl => ?_)
                refine lv_goto (tgt := 13) hx hb dX3_beyond_108 (by decide) ?_
                exact ih_lp _ (by omega) (i + 1) ls (by omega) rfl (lv_sub hl [5, 6, 7, 8, 2, 1, 0] rfl)
              · refine lv_iload hx hb dX3_beyond_96 (lv_at hl 2 rfl) ?_
                refine lv_goto (tgt := 103) hx hb dX3_beyond_98 (by decide) ?_
                refine z_top (b := hhi w r a9 (i + 1)) (by rw [hhi]; first | (rw [if_pos (by omega)]; omega) | rw [if_neg (by omega)]) ?_
                refine lv_istore (lv' := [(5, .int (iI (hhi w r a9 (i + 1)))), (4, .int (iI (hlo w r a9 (i + 1)))), (8, .int (iI z58)), (7, .int (iI (r i))), (0, .ref m0), (1, .int (iI v)), (2, .int (iI (a9 : Int))), (3, .int (iI (0 : Int))), (6, .int (iI (i : Int)))]) hx hb dX3_beyond_103 hl (by decide) rfl (fun ls hl => ?_)
                refine z_iinc (k := 8) (b := ((i + 1 : Nat) : Int)) (lv' := [(6, .int (iI ((i + 1 : Nat) : Int))), (5, .int (iI (hhi w r a9 (i + 1)))), (4, .int (iI (hlo w r a9 (i + 1)))), (8, .int (iI z58)), (7, .int (iI (r i))), (0, .ref m0), (1, .int (iI v)), (2, .int (iI (a9 : Int))), (3, .int (iI (0 : Int)))]) hx hb dX3_beyond_105 hl rfl (by omega) (by decide) rfl (fun ls hl => ?_)
                refine lv_goto (tgt := 13) hx hb dX3_beyond_108 (by decide) ?_
                exact ih_lp _ (by omega) (i + 1) ls (by omega) rfl (lv_sub hl [5, 6, 7, 8, 2, 1, 0] rfl)
  exact lp _ 0 ls (by omega) rfl (lv_sub hl [3, 4, 5, 6, 2, 1, 0] rfl)
set_option maxRecDepth 100000 in
set_option maxHeartbeats 4000000 in
theorem c_boundOf (l : Launch) (dC : Nat → ClassId) (dI : Nat → Nat → Nat) (cI : ClassId) (m0 mq mn ml ms mr mg mp mpl mdi mc : Nat) (cd : Int) (n w rc sc mo fo : Nat) (q r : Nat → Int) (which : Int) (hn : 2 ≤ n ∧ n ≤ 16) (hw : w ≤ 15) (hvq : vals n q) (hvr : vals n r) (hwh : 0 ≤ which ∧ which ≤ 2) : Met l yX3_boundOf wsX3_boundOf ({ frames := 2, cells := 0, slots := 0, locals := 50 }) (rdP dC dI [(cI, .int)] [(m0, .inr (3, [.int (iI cd), .int (iI (n : Int)), .int (iI (w : Int)), .ref mq, .int (iI (rc : Int)), .ref mn, .ref ml, .int (iI (sc : Int)), .ref ms, .ref mr, .ref mg, .ref mp, .int (iI (mo : Int)), .int (iI (fo : Int)), .ref mpl, .ref mdi, .ref mc])), (mq, .inl (cI, 16, .inl (iA q))), (mr, .inl (cI, 16, .inl (iA r)))] [.ref m0, .int (iI which)]) (rdQ (fun z => z = lbd n w q r which)) 0 0 (fun _ => False) := by
  refine Met.ofW (cc := cX3_boundOf) (maxL := 4) (ret := (some .int)) (by decide) rfl ?_
  intro p e s m args below meth c s₁ B hml hv
  obtain ⟨rfl, hP, hK⟩ := hv
  have hx := B.exec
  have hb := B.bytes
  have hr := B.returns
  have hts : ∀ w ∈ wsX3_boundOf, w.before _ s = true := atoms_spec (ws := wsX3_boundOf) B.pre
  have hown : s.vm.findClass RX3 = some m.cls := findClass_of_methodNamed B.named
  have hlocks := B.notSynchronized
  have hl := lv_entry ([.ref m0, .int (iI which)]) (n := 4) (Nat.le_of_ble_eq_true rfl)
  rw [lg_entry_eq]
  generalize (lg_sl ([.ref m0, .int (iI which)]) ++ List.replicate (4 - (lg_sl ([.ref m0, .int (iI which)])).length) Slot.unset).toArray = ls at hl ⊢
  have hl : lv_has ls 4 [(0, .ref m0), (1, .int (iI which))] := hl
  generalize hargs : ([.ref m0, .int (iI which)] : List Value).toArray = args at hts ⊢
  refine z_intro (fun R Q hR hQ => ?_)
  have hRf : R.frames = 2 := by rw [hR]; rfl
  have hRl : R.locals = 50 := by rw [hR]; rfl
  have hRc : R.cells = 0 := by rw [hR]; rfl
  have hRs : R.slots = 0 := by rw [hR]; rfl
  have in_X3 : ∀ w ∈ u_ws RX3 TX3 17, w ∈ wsX3_boundOf := fun w h => List.mem_cons_of_mem _ (inW_X3 w h)
  have fl_7 := wa_hts hts wd_485
  have fl_13 := wa_hts hts wd_487
  have fl_26 := wa_hts hts wd_493
  clear hR hargs B
  refine lv_iload_n hx hb dX3_boundOf_0 rfl (lv_at hl 1 rfl) ?_
  refine z_if_ne (tgt := 50) hx hb dX3_boundOf_1 (by decide) (by omega) (fun h1 => ?_) (fun h1 => ?_)
  · refine lv_iconst (v := iI (0 : Int)) hx hb dX3_boundOf_50 (by decide) ?_
    refine z_top (b := if which = 1 then hbd n w q r 0 else hbd n w r q 0) (by split <;> rfl) ?_
    refine lv_istore_n (lv' := [(2, .int (iI (if which = 1 then hbd n w q r 0 else hbd n w r q 0))), (0, .ref m0), (1, .int (iI which))]) hx hb dX3_boundOf_51 rfl hl (by decide) rfl (fun ls hl => ?_)
    refine lv_iconst (v := iI (0 : Int)) hx hb dX3_boundOf_52 (by decide) ?_
    refine lv_istore_n (lv' := [(3, .int (iI (0 : Int))), (2, .int (iI (if which = 1 then hbd n w q r 0 else hbd n w r q 0))), (0, .ref m0), (1, .int (iI which))]) hx hb dX3_boundOf_53 rfl hl (by decide) rfl (fun ls hl => ?_)
    have lp : ∀ (k9 : Nat) (i : Nat) (ls : Array Slot), (i ≤ n) → n - i = k9 → lv_has ls 4 [(0, .ref m0), (1, .int (iI which)), (2, .int (iI (if which = 1 then hbd n w q r i else hbd n w r q i))), (3, .int (iI (i : Int)))] → W p l e R s m args below meth c s.heap [] 0 0 Q (F0 m 54 ls []) := by
      intro k9
      induction k9 using Nat.strongRecOn with
      | ind k9 ih_lp =>
        intro i ls hi hk9 hl
        refine lv_iload_n hx hb dX3_boundOf_54 rfl (lv_at hl 3 rfl) ?_
        refine lv_aload_n hx hb dX3_boundOf_55 rfl (lv_at hl 0 rfl) ?_
        refine va_get (D := (dC, dI)) (ci := 3) (v := .int (iI (n : Int))) (C := RX3) (T := TX3) (N := 17) hx hb hts in_X3 hown hK hP 0 rfl rfl 1 (by decide) fl_7 (fun _ h9 => h9) rfl dX3_boundOf_56 ?_
        refine z_icmp_ge (tgt := 106) hx hb dX3_boundOf_59 (by decide) (by omega) (fun h59 => ?_) (fun h59 => ?_)
        · refine lv_iload_n hx hb dX3_boundOf_106 rfl (lv_at hl 2 rfl) ?_
          exact zr_ret (z := if which = 1 then hbd n w q r i else hbd n w r q i) hx hb hr hlocks hQ ((congrArg (fun k => if which = 1 then hbd n w q r k else hbd n w r q k) (show i = n by omega)).trans (by unfold lbd; rw [if_neg h1])) dX3_boundOf_107
        · refine lv_iload_n hx hb dX3_boundOf_62 rfl (lv_at hl 2 rfl) ?_
          refine lv_aload_n hx hb dX3_boundOf_63 rfl (lv_at hl 0 rfl) ?_
          refine lv_iload_n hx hb dX3_boundOf_64 rfl (lv_at hl 1 rfl) ?_
          refine lv_iconst (v := iI (1 : Int)) hx hb dX3_boundOf_65 (by decide) ?_
          refine z_icmp_ne (tgt := 78) hx hb dX3_boundOf_66 (by decide) (by omega) (fun h66 => ?_) (fun h66 => ?_)
          · refine lv_aload_n hx hb dX3_boundOf_78 rfl (lv_at hl 0 rfl) ?_
            refine va_get (D := (dC, dI)) (ci := 3) (v := .ref mq) (C := RX3) (T := TX3) (N := 17) hx hb hts in_X3 hown hK hP 0 rfl rfl 3 (by decide) fl_13 (fun _ h9 => h9) rfl dX3_boundOf_79 ?_
            refine lv_iload_n hx hb dX3_boundOf_82 rfl (lv_at hl 3 rfl) ?_
            refine z_iald hx hb hK hP 1 0 rfl rfl i (by omega) dX3_boundOf_83 ?_
            refine lv_iload_n hx hb dX3_boundOf_84 rfl (lv_at hl 3 rfl) ?_
            refine lv_iload_n hx hb dX3_boundOf_85 rfl (lv_at hl 1 rfl) ?_
            refine lv_iconst (v := iI (1 : Int)) hx hb dX3_boundOf_86 (by decide) ?_
            refine z_icmp_ne (tgt := 94) hx hb dX3_boundOf_87 (by decide) (by omega) (fun h87 => ?_) (fun h87 => ?_)
            · refine lv_iconst (v := iI (0 : Int)) hx hb dX3_boundOf_94 (by decide) ?_
              refine zr_i (va_runV (As := [.int (iI (q i)), .int (iI (i : Int)), .int (iI (0 : Int))]) (rest := [.int (iI (if which = 1 then hbd n w q r i else hbd n w r q i))]) ⟨hx, hb, hml, hown, hts⟩ (c_beyondR l dC dI cI m0 mq mn ml ms mr mg mp mpl mdi mc cd n w rc sc mo fo q r (q i) i hn hw hvq hvr (by omega) (hvq i (by omega))) (cwV 3 hts (ga_V wd_598 wd_600 wd_20 wd_31 wd_601) rfl rfl rfl (by decide +kernel) ⟨(show 1 + 1 ≤ R.frames by omega), (show 8 + (9 + 11) + 22 ≤ R.locals by omega)⟩) (rd_preV (q0 := 0) (ci := 3) hP hK [0, 1, 2] rfl rfl rfl) rfl rfl hl.1 rfl (lv_room (Nat.le_of_ble_eq_true rfl)) dX3_boundOf_95 ⟨by omega, by omega⟩) (fun z95 hz95 => ?_)
              refine z_iadd hx hb dX3_boundOf_98 ?_
              refine z_top (b := if which = 1 then hbd n w q r (i + 1) else hbd n w r q (i + 1)) (by first | (rw [if_pos h66, if_pos h66, hbd, hz95]) | (rw [if_neg h66, if_neg h66, hbd, hz95])) ?_
              refine lv_istore_n (lv' := [(2, .int (iI (if which = 1 then hbd n w q r (i + 1) else hbd n w r q (i + 1)))), (0, .ref m0), (1, .int (iI which)), (3, .int (iI (i : Int)))]) hx hb dX3_boundOf_99 rfl hl (by decide) rfl (fun ls hl => ?_)
              refine z_iinc (k := 3) (b := ((i + 1 : Nat) : Int)) (lv' := [(3, .int (iI ((i + 1 : Nat) : Int))), (2, .int (iI (if which = 1 then hbd n w q r (i + 1) else hbd n w r q (i + 1)))), (0, .ref m0), (1, .int (iI which))]) hx hb dX3_boundOf_100 hl rfl (by omega) (by decide) rfl (fun ls hl => ?_)
              refine lv_goto (tgt := 54) hx hb dX3_boundOf_103 (by decide) ?_
              exact ih_lp _ (by omega) (i + 1) ls (by omega) rfl (lv_sub hl [2, 3, 1, 0] rfl)
            · refine lv_iconst (v := iI (1 : Int)) hx hb dX3_boundOf_90 (by decide) ?_
              refine lv_goto (tgt := 95) hx hb dX3_boundOf_91 (by decide) ?_
              exfalso
              omega
          · refine lv_aload_n hx hb dX3_boundOf_69 rfl (lv_at hl 0 rfl) ?_
            refine va_get (D := (dC, dI)) (ci := 3) (v := .ref mr) (C := RX3) (T := TX3) (N := 17) hx hb hts in_X3 hown hK hP 0 rfl rfl 9 (by decide) fl_26 (fun _ h9 => h9) rfl dX3_boundOf_70 ?_
            refine lv_iload_n hx hb dX3_boundOf_73 rfl (lv_at hl 3 rfl) ?_
            refine z_iald hx hb hK hP 2 0 rfl rfl i (by omega) dX3_boundOf_74 ?_
            refine lv_goto (tgt := 84) hx hb dX3_boundOf_75 (by decide) ?_
            refine lv_iload_n hx hb dX3_boundOf_84 rfl (lv_at hl 3 rfl) ?_
            refine lv_iload_n hx hb dX3_boundOf_85 rfl (lv_at hl 1 rfl) ?_
            refine lv_iconst (v := iI (1 : Int)) hx hb dX3_boundOf_86 (by decide) ?_
            refine z_icmp_ne (tgt := 94) hx hb dX3_boundOf_87 (by decide) (by omega) (fun h87 => ?_) (fun h87 => ?_)
            · refine lv_iconst (v := iI (0 : Int)) hx hb dX3_boundOf_94 (by decide) ?_
              exfalso
              omega
            · refine lv_iconst (v := iI (1 : Int)) hx hb dX3_boundOf_90 (by decide) ?_
              refine lv_goto (tgt := 95) hx hb dX3_boundOf_91 (by decide) ?_
              refine zr_i (va_runV (As := [.int (iI (r i)), .int (iI (i : Int)), .int (iI (1 : Int))]) (rest := [.int (iI (if which = 1 then hbd n w q r i else hbd n w r q i))]) ⟨hx, hb, hml, hown, hts⟩ (c_beyondQ l dC dI cI m0 mq mn ml ms mr mg mp mpl mdi mc cd n w rc sc mo fo q r (r i) i hn hw hvq hvr (by omega) (hvr i (by omega))) (cwV 3 hts (ga_V wd_598 wd_600 wd_20 wd_31 wd_601) rfl rfl rfl (by decide +kernel) ⟨(show 1 + 1 ≤ R.frames by omega), (show 8 + (9 + 11) + 22 ≤ R.locals by omega)⟩) (rd_preV (q0 := 0) (ci := 3) hP hK [0, 1, 2] rfl rfl rfl) rfl rfl hl.1 rfl (lv_room (Nat.le_of_ble_eq_true rfl)) dX3_boundOf_95 ⟨by omega, by omega⟩) (fun z95 hz95 => ?_)
              refine z_iadd hx hb dX3_boundOf_98 ?_
              refine z_top (b := if which = 1 then hbd n w q r (i + 1) else hbd n w r q (i + 1)) (by first | (rw [if_pos h66, if_pos h66, hbd, hz95]) | (rw [if_neg h66, if_neg h66, hbd, hz95])) ?_
              refine lv_istore_n (lv' := [(2, .int (iI (if which = 1 then hbd n w q r (i + 1) else hbd n w r q (i + 1)))), (0, .ref m0), (1, .int (iI which)), (3, .int (iI (i : Int)))]) hx hb dX3_boundOf_99 rfl hl (by decide) rfl (fun ls hl => ?_)
              refine z_iinc (k := 3) (b := ((i + 1 : Nat) : Int)) (lv' := [(3, .int (iI ((i + 1 : Nat) : Int))), (2, .int (iI (if which = 1 then hbd n w q r (i + 1) else hbd n w r q (i + 1)))), (0, .ref m0), (1, .int (iI which))]) hx hb dX3_boundOf_100 hl rfl (by omega) (by decide) rfl (fun ls hl => ?_)
              refine lv_goto (tgt := 54) hx hb dX3_boundOf_103 (by decide) ?_
              exact ih_lp _ (by omega) (i + 1) ls (by omega) rfl (lv_sub hl [2, 3, 1, 0] rfl)
    exact lp _ 0 ls (by omega) rfl (lv_sub hl [2, 3, 1, 0] rfl)
  · refine lv_aload_n hx hb dX3_boundOf_4 rfl (lv_at hl 0 rfl) ?_
    refine va_get (D := (dC, dI)) (ci := 3) (v := .ref mq) (C := RX3) (T := TX3) (N := 17) hx hb hts in_X3 hown hK hP 0 rfl rfl 3 (by decide) fl_13 (fun _ h9 => h9) rfl dX3_boundOf_5 ?_
    refine lv_iconst (v := iI (0 : Int)) hx hb dX3_boundOf_8 (by decide) ?_
    refine z_iald hx hb hK hP 1 0 rfl rfl 0 (by omega) dX3_boundOf_9 ?_
    refine lv_aload_n hx hb dX3_boundOf_10 rfl (lv_at hl 0 rfl) ?_
    refine va_get (D := (dC, dI)) (ci := 3) (v := .ref mr) (C := RX3) (T := TX3) (N := 17) hx hb hts in_X3 hown hK hP 0 rfl rfl 9 (by decide) fl_26 (fun _ h9 => h9) rfl dX3_boundOf_11 ?_
    refine lv_iconst (v := iI (0 : Int)) hx hb dX3_boundOf_14 (by decide) ?_
    refine z_iald hx hb hK hP 2 0 rfl rfl 0 (by omega) dX3_boundOf_15 ?_
    refine z_isub hx hb dX3_boundOf_16 ?_
    refine lv_istore_n (lv' := [(2, .int (iI ((q 0) - (r 0)))), (0, .ref m0), (1, .int (iI which))]) hx hb dX3_boundOf_17 rfl hl (by decide) rfl (fun ls hl => ?_)
    refine lv_aload_n hx hb dX3_boundOf_18 rfl (lv_at hl 1 rfl) ?_
    refine va_get (D := (dC, dI)) (ci := 3) (v := .ref mq) (C := RX3) (T := TX3) (N := 17) hx hb hts in_X3 hown hK hP 0 rfl rfl 3 (by decide) fl_13 (fun _ h9 => h9) rfl dX3_boundOf_19 ?_
    refine lv_aload_n hx hb dX3_boundOf_22 rfl (lv_at hl 1 rfl) ?_
    refine va_get (D := (dC, dI)) (ci := 3) (v := .int (iI (n : Int))) (C := RX3) (T := TX3) (N := 17) hx hb hts in_X3 hown hK hP 0 rfl rfl 1 (by decide) fl_7 (fun _ h9 => h9) rfl dX3_boundOf_23 ?_
    refine lv_iconst (v := iI (1 : Int)) hx hb dX3_boundOf_26 (by decide) ?_
    refine z_isub hx hb dX3_boundOf_27 ?_
    refine z_top (b := ((n - 1 : Nat) : Int)) (by omega) ?_
    refine z_iald hx hb hK hP 1 0 rfl rfl (n - 1) (by omega) dX3_boundOf_28 ?_
    refine lv_aload_n hx hb dX3_boundOf_29 rfl (lv_at hl 1 rfl) ?_
    refine va_get (D := (dC, dI)) (ci := 3) (v := .ref mr) (C := RX3) (T := TX3) (N := 17) hx hb hts in_X3 hown hK hP 0 rfl rfl 9 (by decide) fl_26 (fun _ h9 => h9) rfl dX3_boundOf_30 ?_
    refine lv_aload_n hx hb dX3_boundOf_33 rfl (lv_at hl 1 rfl) ?_
    refine va_get (D := (dC, dI)) (ci := 3) (v := .int (iI (n : Int))) (C := RX3) (T := TX3) (N := 17) hx hb hts in_X3 hown hK hP 0 rfl rfl 1 (by decide) fl_7 (fun _ h9 => h9) rfl dX3_boundOf_34 ?_
    refine lv_iconst (v := iI (1 : Int)) hx hb dX3_boundOf_37 (by decide) ?_
    refine z_isub hx hb dX3_boundOf_38 ?_
    refine z_top (b := ((n - 1 : Nat) : Int)) (by omega) ?_
    refine z_iald hx hb hK hP 2 0 rfl rfl (n - 1) (by omega) dX3_boundOf_39 ?_
    refine z_isub hx hb dX3_boundOf_40 ?_
    refine lv_istore_n (lv' := [(3, .int (iI ((q (n - 1)) - (r (n - 1))))), (2, .int (iI ((q 0) - (r 0)))), (0, .ref m0), (1, .int (iI which))]) hx hb dX3_boundOf_41 rfl hl (by decide) rfl (fun ls hl => ?_)
    refine lv_iload_n hx hb dX3_boundOf_42 rfl (lv_at hl 1 rfl) ?_
    refine lv_iload_n hx hb dX3_boundOf_43 rfl (lv_at hl 1 rfl) ?_
    refine z_imul hx hb dX3_boundOf_44 ?_
    refine lv_iload_n hx hb dX3_boundOf_45 rfl (lv_at hl 0 rfl) ?_
    refine lv_iload_n hx hb dX3_boundOf_46 rfl (lv_at hl 0 rfl) ?_
    refine z_imul hx hb dX3_boundOf_47 ?_
    refine z_iadd hx hb dX3_boundOf_48 ?_
    exact zr_ret (z := (((q 0) - (r 0)) * ((q 0) - (r 0))) + (((q (n - 1)) - (r (n - 1))) * ((q (n - 1)) - (r (n - 1))))) hx hb hr hlocks hQ (by unfold lbd; rw [if_pos h1]; rfl) dX3_boundOf_49
