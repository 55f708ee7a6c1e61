def loI (w i p9 : Nat) (h : Nat → Int) (lw : Int) : Prop := (lw ≤ h i ∧ (∀ t, i - w ≤ t → t < p9 → lw ≤ h t) ∧ (lw = h i ∨ ∃ t, i - w ≤ t ∧ t < p9 ∧ lw = h t)) ∧ -1000 ≤ lw ∧ lw ≤ 1000
def hiI (w i p9 : Nat) (h : Nat → Int) (hg : Int) : Prop := (h i ≤ hg ∧ (∀ t, i - w ≤ t → t < p9 → h t ≤ hg) ∧ (hg = h i ∨ ∃ t, i - w ≤ t ∧ t < p9 ∧ hg = h t)) ∧ -1000 ≤ hg ∧ hg ≤ 1000
theorem loI_0 {w i : Nat} {h : Nat → Int} (hv : -1000 ≤ h i ∧ h i ≤ 1000) : loI w i (i - w) h (h i) := by
  unfold loI
  exact ⟨⟨Int.le_refl _, fun t h1 h2 => absurd h1 (by omega), Or.inl rfl⟩, hv.1, hv.2⟩
theorem hiI_0 {w i : Nat} {h : Nat → Int} (hv : -1000 ≤ h i ∧ h i ≤ 1000) : hiI w i (i - w) h (h i) := by
  unfold hiI
  exact ⟨⟨Int.le_refl _, fun t h1 h2 => absurd h1 (by omega), Or.inl rfl⟩, hv.1, hv.2⟩
theorem hull_lo {w i p9 : Nat} {h : Nat → Int} {lw : Int} (iLo : loI w i p9 h lw) (hv : -1000 ≤ h p9 ∧ h p9 ≤ 1000) (hp : i - w ≤ p9) : loI w i (p9 + 1) h (min lw (h p9)) := by
  unfold loI at iLo ⊢
  obtain ⟨⟨a1, a2, a3⟩, a4, a5⟩ := iLo
  refine ⟨⟨by clear a3; omega, fun t h1 h2 => ?_, ?_⟩, by clear a3; omega, by clear a3; omega⟩
  · clear a3
    by_cases e : t = p9
    · subst e; omega
    · have := a2 t h1 (by omega); omega
  · by_cases g : h p9 ≤ lw
    · exact Or.inr ⟨p9, hp, by clear a3; omega, by clear a3; omega⟩
    · rcases a3 with e | ⟨t, t1, t2, t3⟩
      · exact Or.inl (by omega)
      · exact Or.inr ⟨t, t1, by omega, by omega⟩
theorem hull_hi {w i p9 : Nat} {h : Nat → Int} {hg : Int} (iHi : hiI w i p9 h hg) (hv : -1000 ≤ h p9 ∧ h p9 ≤ 1000) (hp : i - w ≤ p9) : hiI w i (p9 + 1) h (max hg (h p9)) := by
  unfold hiI at iHi ⊢
  obtain ⟨⟨a1, a2, a3⟩, a4, a5⟩ := iHi
  refine ⟨⟨by clear a3; omega, fun t h1 h2 => ?_, ?_⟩, by clear a3; omega, by clear a3; omega⟩
  · clear a3
    by_cases e : t = p9
    · subst e; omega
    · have := a2 t h1 (by omega); omega
  · by_cases g : hg ≤ h p9
    · exact Or.inr ⟨p9, hp, by clear a3; omega, by clear a3; omega⟩
    · rcases a3 with e | ⟨t, t1, t2, t3⟩
      · exact Or.inl (by omega)
      · exact Or.inr ⟨t, t1, by omega, by omega⟩
theorem loI_end {n w i p9 : Nat} {h : Nat → Int} {lw : Int} (hvh : vals n h) (hi : i < n) (iLo : loI w i p9 h lw) (hp : p9 = min (i + w) (n - 1) + 1) : lw = hlo w h i n := by
  unfold loI at iLo
  obtain ⟨⟨a1, a2, a3⟩, a4, a5⟩ := iLo
  refine hlo_is hvh hi (fun t h1 h2 => a2 t (by clear a3; omega) (by clear a3; omega)) ?_
  rcases a3 with e9 | ⟨t, t1, t2, t3⟩
  · exact ⟨i, hi, by omega, e9⟩
  · exact ⟨t, by omega, by omega, t3⟩
theorem hiI_end {n w i p9 : Nat} {h : Nat → Int} {hg : Int} (hvh : vals n h) (hi : i < n) (iHi : hiI w i p9 h hg) (hp : p9 = min (i + w) (n - 1) + 1) : hg = hhi w h i n := by
  unfold hiI at iHi
  obtain ⟨⟨a1, a2, a3⟩, a4, a5⟩ := iHi
  refine hhi_is hvh hi (fun t h1 h2 => a2 t (by clear a3; omega) (by clear a3; omega)) ?_
  rcases a3 with e9 | ⟨t, t1, t2, t3⟩
  · exact ⟨i, hi, by omega, e9⟩
  · exact ⟨t, by omega, by omega, t3⟩
set_option maxRecDepth 100000 in
set_option maxHeartbeats 4000000 in
theorem c_hullBound (l : Launch) (dC : Nat → ClassId) (dI : Nat → Nat → Nat) (cI : ClassId) (h0 aq ar ac ap : Nat) (ps : Int) (n w : Nat) (a1 a2 : Nat) (h x : Nat → Int) (hn : 2 ≤ n ∧ n ≤ 16) (hw : w ≤ 15) (hvh : vals n h) (hvx : vals n x) : Met l yX0_hullBound wsX0_hullBound ({ frames := 1, cells := 0, slots := 0, locals := 22 }) (rdP dC dI [(cI, .int)] [(h0, .inr (0, [.ref aq, .ref ar, .ref ac, .ref ap, .int (iI ps), .int (iI (n : Int)), .int (iI (w : Int))])), (a1, .inl (cI, 16, .inl (iA h))), (a2, .inl (cI, 16, .inl (iA x)))] [.ref h0, .ref a1, .ref a2]) (rdQ (fun z => z = hbd n w h x n)) 0 0 (fun _ => False) := by
  refine Met.ofW (cc := cX0_hullBound) (maxL := 9) (ret := (some .int)) (by decide) rfl ?_
  intro p e s m args below meth c s₁ B hml hv
  obtain ⟨rfl, hP, hK⟩ := hv
  have hx := B.exec
  have hb := B.bytes
  have hr := B.returns
  have hts : ∀ w ∈ wsX0_hullBound, w.before _ s = true := atoms_spec (ws := wsX0_hullBound) B.pre
  have hown : s.vm.findClass RX0 = some m.cls := findClass_of_methodNamed B.named
  have hlocks := B.notSynchronized
  have hl := lv_entry ([.ref h0, .ref a1, .ref a2]) (n := 9) (Nat.le_of_ble_eq_true rfl)
  rw [lg_entry_eq]
  generalize (lg_sl ([.ref h0, .ref a1, .ref a2]) ++ List.replicate (9 - (lg_sl ([.ref h0, .ref a1, .ref a2])).length) Slot.unset).toArray = ls at hl ⊢
  have hl : lv_has ls 9 [(0, .ref h0), (1, .ref a1), (2, .ref a2)] := hl
  generalize hargs : ([.ref h0, .ref a1, .ref a2] : List Value).toArray = args at hts ⊢
  refine z_intro (fun R Q hR hQ => ?_)
  have hRf : R.frames = 1 := by rw [hR]; rfl
  have hRl : R.locals = 22 := by rw [hR]; rfl
  have hRc : R.cells = 0 := by rw [hR]; rfl
  have hRs : R.slots = 0 := by rw [hR]; rfl
  have in_X0 : ∀ w ∈ u_ws RX0 TX0 7, w ∈ wsX0_hullBound := fun w h => List.mem_cons_of_mem _ (inW_X0 w h)
  have fl_28 := wa_hts hts wd_60
  have ml_54 : (Cond.methodLink RX0 54 Lib.Math.min.name).before args s = true := wa_hts hts wd_338
  have ml_60 : (Cond.methodLink RX0 60 Lib.Math.max.name).before args s = true := wa_hts hts wd_360
  have st_max : (Cond.static Lib.Math.max.name).before args s = true := wa_hts hts wd_361
  have cd_max : (Cond.code Lib.Math.max.name Lib.Math.max.code 2 (some .int)).before args s = true := wa_hts hts wd_362
  have st_min : (Cond.static Lib.Math.min.name).before args s = true := wa_hts hts wd_339
  have cd_min : (Cond.code Lib.Math.min.name Lib.Math.min.code 2 (some .int)).before args s = true := wa_hts hts wd_340
  have hMath := wa_hts hts wd_40
  clear hR hargs B
  refine lv_iconst (v := iI (0 : Int)) hx hb dX0_hullBound_0 (by decide) ?_
  refine lv_istore_n (lv' := [(3, .int (iI (0 : Int))), (0, .ref h0), (1, .ref a1), (2, .ref a2)]) hx hb dX0_hullBound_1 rfl hl (by decide) rfl (fun ls hl => ?_)
  refine lv_iconst (v := iI (0 : Int)) hx hb dX0_hullBound_2 (by decide) ?_
  refine lv_istore (lv' := [(4, .int (iI (0 : Int))), (3, .int (iI (0 : Int))), (0, .ref h0), (1, .ref a1), (2, .ref a2)]) hx hb dX0_hullBound_3 hl (by decide) rfl (fun ls hl => ?_)
  have outer : ∀ (k9 : Nat) (i : Nat) (ls : Array Slot), (i ≤ n) → n - i = k9 → lv_has ls 9 [(0, .ref h0), (1, .ref a1), (2, .ref a2), (3, .int (iI (hbd n w h x i))), (4, .int (iI (i : Int)))] → W p l e R s m args below meth c s.heap [] 0 0 Q (F0 m 5 ls []) := by
    intro k9
    induction k9 using Nat.strongRecOn with
    | ind k9 ih_outer =>
      intro i ls hi hk9 hl
      have hsum := hbd_rg (w := w) hvh hvx i hi
      refine lv_iload hx hb dX0_hullBound_5 (lv_at hl 4 rfl) ?_
      refine lv_aload_n hx hb dX0_hullBound_7 rfl (lv_at hl 0 rfl) ?_
      refine va_get (D := (dC, dI)) (ci := 0) (v := .int (iI (n : Int))) (C := RX0) (T := TX0) (N := 7) hx hb hts in_X0 hown hK hP 0 rfl rfl 5 (by decide) fl_28 (fun _ h9 => h9) rfl dX0_hullBound_8 ?_
      refine z_icmp_ge (tgt := 100) hx hb dX0_hullBound_11 (by decide) (by omega) (fun h11 => ?_) (fun h11 => ?_)
      · refine lv_iload_n hx hb dX0_hullBound_100 rfl (lv_at hl 3 rfl) ?_
        exact zr_ret (z := hbd n w h x i) hx hb hr hlocks hQ (congrArg (hbd n w h x) (by omega)) dX0_hullBound_101
      · refine lv_aload_n hx hb dX0_hullBound_14 rfl (lv_at hl 1 rfl) ?_
        refine lv_iload hx hb dX0_hullBound_15 (lv_at hl 4 rfl) ?_
        refine z_iald hx hb hK hP 1 0 rfl rfl i (by omega) dX0_hullBound_17 ?_
        refine lv_istore (lv' := [(5, .int (iI (h i))), (0, .ref h0), (1, .ref a1), (2, .ref a2), (3, .int (iI (hbd n w h x i))), (4, .int (iI (i : Int)))]) hx hb dX0_hullBound_18 hl (by decide) rfl (fun ls hl => ?_)
        refine lv_aload_n hx hb dX0_hullBound_20 rfl (lv_at hl 2 rfl) ?_
        refine lv_iload hx hb dX0_hullBound_21 (lv_at hl 5 rfl) ?_
        refine z_iald hx hb hK hP 1 0 rfl rfl i (by omega) dX0_hullBound_23 ?_
        refine lv_istore (lv' := [(6, .int (iI (h i))), (5, .int (iI (h i))), (0, .ref h0), (1, .ref a1), (2, .ref a2), (3, .int (iI (hbd n w h x i))), (4, .int (iI (i : Int)))]) hx hb dX0_hullBound_24 hl (by decide) rfl (fun ls hl => ?_)
        refine lv_aload_n hx hb dX0_hullBound_26 rfl (lv_at hl 2 rfl) ?_
        refine lv_iload hx hb dX0_hullBound_27 (lv_at hl 6 rfl) ?_
        refine zr_i (va_runV (As := [.int (iI (i : Int))]) (rest := []) ⟨hx, hb, hml, hown, hts⟩ (c_last l dC dI cI h0 aq ar ac ap ps n w i hn hw (by omega)) (cwV 1 hts (ga_V wd_322 wd_324 wd_4 wd_29 wd_325) rfl rfl rfl (by decide +kernel) ⟨(show 0 + 1 ≤ R.frames by omega), (show 8 + (2 + 11) + 0 ≤ R.locals by omega)⟩) (rd_preV (q0 := 0) (ci := 0) hP hK [0] rfl rfl rfl) rfl rfl hl.1 rfl (lv_room (Nat.le_of_ble_eq_true rfl)) dX0_hullBound_29 ⟨by omega, by omega⟩) (fun zl hzl => ?_)
        refine lv_istore (lv' := [(7, .int (iI zl)), (6, .int (iI (h i))), (5, .int (iI (h i))), (0, .ref h0), (1, .ref a1), (2, .ref a2), (3, .int (iI (hbd n w h x i))), (4, .int (iI (i : Int)))]) hx hb dX0_hullBound_32 hl (by decide) rfl (fun ls hl => ?_)
        refine lv_aload_n hx hb dX0_hullBound_34 rfl (lv_at hl 3 rfl) ?_
        refine lv_iload hx hb dX0_hullBound_35 (lv_at hl 7 rfl) ?_
        refine zr_i (va_runV (As := [.int (iI (i : Int))]) (rest := []) ⟨hx, hb, hml, hown, hts⟩ (c_first l dC dI cI h0 aq ar ac ap ps n w i hn hw (by omega)) (cwV 1 hts (ga_V wd_326 wd_328 wd_5 wd_29 wd_329) rfl rfl rfl (by decide +kernel) ⟨(show 0 + 1 ≤ R.frames by omega), (show 8 + (2 + 11) + 0 ≤ R.locals by omega)⟩) (rd_preV (q0 := 0) (ci := 0) hP hK [0] rfl rfl rfl) rfl rfl hl.1 rfl (lv_room (Nat.le_of_ble_eq_true rfl)) dX0_hullBound_37 ⟨by omega, by omega⟩) (fun zf hzf => ?_)
        have ezf : zf = ((i - w : Nat) : Int) := hzf
        subst ezf
        refine lv_istore (lv' := [(8, .int (iI ((i - w : Nat) : Int))), (7, .int (iI zl)), (6, .int (iI (h i))), (5, .int (iI (h i))), (0, .ref h0), (1, .ref a1), (2, .ref a2), (3, .int (iI (hbd n w h x i))), (4, .int (iI (i : Int)))]) hx hb dX0_hullBound_40 hl (by decide) rfl (fun ls hl => ?_)
        have inner : ∀ (k9 : Nat) (p9 : Nat) (lw hg : Int) (ls : Array Slot), (i - w ≤ p9 ∧ p9 ≤ min (i + w) (n - 1) + 1) → (loI w i p9 h lw) → (hiI w i p9 h hg) → min (i + w) (n - 1) + 1 - p9 = k9 → lv_has ls 9 [(0, .ref h0), (1, .ref a1), (2, .ref a2), (3, .int (iI (hbd n w h x i))), (4, .int (iI (i : Int))), (5, .int (iI lw)), (6, .int (iI hg)), (7, .int (iI zl)), (8, .int (iI (p9 : Int)))] → W p l e R s m args below meth c s.heap [] 0 0 Q (F0 m 42 ls []) := by
          intro k9
          induction k9 using Nat.strongRecOn with
          | ind k9 ih_inner =>
            intro p9 lw hg ls hp9 iLo iHi hk9 hl
            have hzl2 : zl = ((min (i + w) (n - 1) : Nat) : Int) := hzl
            have hvi := hvh i (by omega)
            have rlo := iLo.2
            have rhi := iHi.2
            refine lv_iload hx hb dX0_hullBound_42 (lv_at hl 8 rfl) ?_
            refine lv_iload hx hb dX0_hullBound_44 (lv_at hl 7 rfl) ?_
            refine z_icmp_gt (tgt := 77) hx hb dX0_hullBound_46 (by decide) (by omega) (fun h46 => ?_) (fun h46 => ?_)
            · have elo : lw = hlo w h i n := loI_end hvh (by omega) iLo (by omega)
              have ehi : hg = hhi w h i n := hiI_end hvh (by omega) iHi (by omega)
              refine lv_iload_n hx hb dX0_hullBound_77 rfl (lv_at hl 3 rfl) ?_
              refine lv_aload_n hx hb dX0_hullBound_78 rfl (lv_at hl 2 rfl) ?_
              refine lv_iload hx hb dX0_hullBound_79 (lv_at hl 4 rfl) ?_
              refine z_iald hx hb hK hP 2 0 rfl rfl i (by omega) dX0_hullBound_81 ?_
              refine lv_iload hx hb dX0_hullBound_82 (lv_at hl 5 rfl) ?_
              refine lv_iload hx hb dX0_hullBound_84 (lv_at hl 6 rfl) ?_
              refine zr_i (va_runS (As := [.int (iI (x i)), .int (iI lw), .int (iI hg)]) (rest := [.int (iI (hbd n w h x i))]) ⟨hx, hb, hml, hown, hts⟩ (c_gap l dC dI cI (x i) lw hg (hvx i (by omega)) rlo rhi) (cwS 3 hts (ga_S wd_363 wd_364 wd_29 wd_365) rfl rfl rfl (by decide +kernel) ⟨(show 0 + 1 ≤ R.frames by omega), (show 8 + (3 + 11) + 0 ≤ R.locals by omega)⟩) (rd_preS hP hK [] rfl) rfl rfl hl.1 rfl (lv_room (Nat.le_of_ble_eq_true rfl)) dX0_hullBound_86 ⟨by omega, by omega⟩) (fun zg hzg => ?_)
              refine zr_i (va_runS (As := [.int (iI zg)]) (rest := [.int (iI (hbd n w h x i))]) ⟨hx, hb, hml, hown, hts⟩ (c_square l dC dI cI zg) (cwS 1 hts (ga_S wd_341 wd_342 wd_29 wd_343) rfl rfl rfl (by decide +kernel) ⟨(show 0 + 1 ≤ R.frames by omega), (show 8 + (1 + 11) + 0 ≤ R.locals by omega)⟩) (rd_preS hP hK [] rfl) rfl rfl hl.1 rfl (lv_room (Nat.le_of_ble_eq_true rfl)) dX0_hullBound_89 ⟨by omega, by omega⟩) (fun zs hzs => ?_)
              refine z_iadd hx hb dX0_hullBound_92 ?_
              refine z_top (b := hbd n w h x (i + 1)) (by rw [hbd, hzs, hzg, elo, ehi]) ?_
              refine lv_istore_n (lv' := [(3, .int (iI (hbd n w h x (i + 1)))), (0, .ref h0), (1, .ref a1), (2, .ref a2), (4, .int (iI (i : Int))), (5, .int (iI lw)), (6, .int (iI hg)), (7, .int (iI zl)), (8, .int (iI (p9 : Int)))]) hx hb dX0_hullBound_93 rfl hl (by decide) rfl (fun ls hl => ?_)
              refine z_iinc (k := 4) (b := ((i + 1 : Nat) : Int)) (lv' := [(4, .int (iI ((i + 1 : Nat) : Int))), (3, .int (iI (hbd n w h x (i + 1)))), (0, .ref h0), (1, .ref a1), (2, .ref a2), (5, .int (iI lw)), (6, .int (iI hg)), (7, .int (iI zl)), (8, .int (iI (p9 : Int)))]) hx hb dX0_hullBound_94 hl rfl (by omega) (by decide) rfl (fun ls hl => ?_)
              refine lv_goto (tgt := 5) hx hb dX0_hullBound_97 (by decide) ?_
              exact ih_outer _ (by omega) (i + 1) ls (by omega) rfl (lv_sub hl [2, 3, 4, 1, 0] rfl)
            · have hvp := hvh p9 (by omega)
              refine lv_iload hx hb dX0_hullBound_49 (lv_at hl 5 rfl) ?_
              refine lv_aload_n hx hb dX0_hullBound_51 rfl (lv_at hl 1 rfl) ?_
              refine lv_iload hx hb dX0_hullBound_52 (lv_at hl 8 rfl) ?_
              refine z_iald hx hb hK hP 1 0 rfl rfl p9 (by omega) dX0_hullBound_54 ?_
              refine z_min hx hb (hml.trans hl.1.symm) hown ml_54 st_min hMath cd_min (by omega) (by show 0 + 13 ≤ R.locals; omega) (by omega) (by omega) (by omega) dX0_hullBound_55 ?_
              refine lv_istore (lv' := [(5, .int (iI (min lw (h p9)))), (0, .ref h0), (1, .ref a1), (2, .ref a2), (3, .int (iI (hbd n w h x i))), (4, .int (iI (i : Int))), (6, .int (iI hg)), (7, .int (iI zl)), (8, .int (iI (p9 : Int)))]) hx hb dX0_hullBound_58 hl (by decide) rfl (fun ls hl => ?_)
              refine lv_iload hx hb dX0_hullBound_60 (lv_at hl 6 rfl) ?_
              refine lv_aload_n hx hb dX0_hullBound_62 rfl (lv_at hl 2 rfl) ?_
              refine lv_iload hx hb dX0_hullBound_63 (lv_at hl 8 rfl) ?_
              refine z_iald hx hb hK hP 1 0 rfl rfl p9 (by omega) dX0_hullBound_65 ?_
              refine z_max hx hb (hml.trans hl.1.symm) hown ml_60 st_max hMath cd_max (by omega) (by show 0 + 13 ≤ R.locals; omega) (by omega) (by omega) (by omega) dX0_hullBound_66 ?_
              refine lv_istore (lv' := [(6, .int (iI (max hg (h p9)))), (5, .int (iI (min lw (h p9)))), (0, .ref h0), (1, .ref a1), (2, .ref a2), (3, .int (iI (hbd n w h x i))), (4, .int (iI (i : Int))), (7, .int (iI zl)), (8, .int (iI (p9 : Int)))]) hx hb dX0_hullBound_69 hl (by decide) rfl (fun ls hl => ?_)
              refine z_iinc (k := 8) (b := ((p9 + 1 : Nat) : Int)) (lv' := [(8, .int (iI ((p9 + 1 : Nat) : Int))), (6, .int (iI (max hg (h p9)))), (5, .int (iI (min lw (h p9)))), (0, .ref h0), (1, .ref a1), (2, .ref a2), (3, .int (iI (hbd n w h x i))), (4, .int (iI (i : Int))), (7, .int (iI zl))]) hx hb dX0_hullBound_71 hl rfl (by omega) (by decide) rfl (fun ls hl => ?_)
              refine lv_goto (tgt := 42) hx hb dX0_hullBound_74 (by decide) ?_
              exact ih_inner _ (by omega) (p9 + 1) (min lw (h p9)) (max hg (h p9)) ls (by omega) (hull_lo iLo (hvh p9 (by omega)) (by omega)) (hull_hi iHi (hvh p9 (by omega)) (by omega)) rfl (lv_sub hl [3, 4, 5, 6, 7, 2, 1, 8, 0] rfl)
        exact inner _ (i - w) (h i) (h i) ls (by omega) (loI_0 (hvh i (by omega))) (hiI_0 (hvh i (by omega))) rfl (lv_sub hl [4, 5, 6, 7, 8, 3, 2, 1, 0] rfl)
  exact outer _ 0 ls (by omega) rfl (lv_sub hl [2, 3, 4, 1, 0] rfl)
set_option maxRecDepth 100000 in
set_option maxHeartbeats 4000000 in
theorem c_lowerBound (l : Launch) (dC : Nat → ClassId) (dI : Nat → Nat → Nat) (cI : ClassId) (h0 aq ar ac ap : Nat) (ps : Int) (n w : Nat) (q r : Nat → Int) (which : Int) (hn : 2 ≤ n ∧ n ≤ 16) (hw : w ≤ 15) (hvq : vals n q) (hvr : vals n r) (hwh : 0 ≤ which ∧ which ≤ 2) : Met l yX0_lowerBound wsX0_lowerBound ({ frames := 2, cells := 0, slots := 0, locals := 50 }) (rdP dC dI [(cI, .int)] [(h0, .inr (0, [.ref aq, .ref ar, .ref ac, .ref ap, .int (iI ps), .int (iI (n : Int)), .int (iI (w : Int))])), (aq, .inl (cI, 16, .inl (iA q))), (ar, .inl (cI, 16, .inl (iA r)))] [.ref h0, .int (iI which)]) (rdQ (fun z => z = lbd n w q r which)) 0 0 (fun _ => False) := by
  refine Met.ofW (cc := cX0_lowerBound) (maxL := 2) (ret := (some .int)) (by decide) rfl ?_
  intro p e s m args below meth c s₁ B hml hv
  obtain ⟨rfl, hP, hK⟩ := hv
  have hx := B.exec
  have hb := B.bytes
  have hr := B.returns
  have hts : ∀ w ∈ wsX0_lowerBound, w.before _ s = true := atoms_spec (ws := wsX0_lowerBound) B.pre
  have hown : s.vm.findClass RX0 = some m.cls := findClass_of_methodNamed B.named
  have hlocks := B.notSynchronized
  have hl := lv_entry ([.ref h0, .int (iI which)]) (n := 2) (Nat.le_of_ble_eq_true rfl)
  rw [lg_entry_eq]
  generalize (lg_sl ([.ref h0, .int (iI which)]) ++ List.replicate (2 - (lg_sl ([.ref h0, .int (iI which)])).length) Slot.unset).toArray = ls at hl ⊢
  have hl : lv_has ls 2 [(0, .ref h0), (1, .int (iI which))] := hl
  generalize hargs : ([.ref h0, .int (iI which)] : List Value).toArray = args at hts ⊢
  refine z_intro (fun R Q hR hQ => ?_)
  have hRf : R.frames = 2 := by rw [hR]; rfl
  have hRl : R.locals = 50 := by rw [hR]; rfl
  have hRc : R.cells = 0 := by rw [hR]; rfl
  have hRs : R.slots = 0 := by rw [hR]; rfl
  have in_X0 : ∀ w ∈ u_ws RX0 TX0 7, w ∈ wsX0_lowerBound := fun w h => List.mem_cons_of_mem _ (inW_X0 w h)
  have fl_9 := wa_hts hts wd_55
  have fl_15 := wa_hts hts wd_56
  have fl_28 := wa_hts hts wd_60
  clear hR hargs B
  refine lv_iload_n hx hb dX0_lowerBound_0 rfl (lv_at hl 1 rfl) ?_
  refine z_if_ne (tgt := 48) hx hb dX0_lowerBound_1 (by decide) (by omega) (fun h1 => ?_) (fun h1 => ?_)
  · refine lv_iload_n hx hb dX0_lowerBound_48 rfl (lv_at hl 1 rfl) ?_
    refine lv_iconst (v := iI (1 : Int)) hx hb dX0_lowerBound_49 (by decide) ?_
    refine z_icmp_ne (tgt := 68) hx hb dX0_lowerBound_50 (by decide) (by omega) (fun h50 => ?_) (fun h50 => ?_)
    · refine lv_aload_n hx hb dX0_lowerBound_68 rfl (lv_at hl 0 rfl) ?_
      refine lv_aload_n hx hb dX0_lowerBound_69 rfl (lv_at hl 0 rfl) ?_
      refine va_get (D := (dC, dI)) (ci := 0) (v := .ref ar) (C := RX0) (T := TX0) (N := 7) hx hb hts in_X0 hown hK hP 0 rfl rfl 1 (by decide) fl_15 (fun _ h9 => h9) rfl dX0_lowerBound_70 ?_
      refine lv_aload_n hx hb dX0_lowerBound_73 rfl (lv_at hl 0 rfl) ?_
      refine va_get (D := (dC, dI)) (ci := 0) (v := .ref aq) (C := RX0) (T := TX0) (N := 7) hx hb hts in_X0 hown hK hP 0 rfl rfl 0 (by decide) fl_9 (fun _ h9 => h9) rfl dX0_lowerBound_74 ?_
      refine zr_i (va_runV (As := [.ref ar, .ref aq]) (rest := []) ⟨hx, hb, hml, hown, hts⟩ (c_hullBound l dC dI cI h0 aq ar ac ap ps n w ar aq r q hn hw hvr hvq) (cwV 2 hts (ga_V wd_356 wd_358 wd_8 wd_29 wd_359) rfl rfl rfl (by decide +kernel) ⟨(show 1 + 1 ≤ R.frames by omega), (show 8 + (9 + 11) + 22 ≤ R.locals by omega)⟩) (rd_preV (q0 := 0) (ci := 0) hP hK [0, 2, 1] rfl rfl rfl) rfl rfl hl.1 rfl (lv_room (Nat.le_of_ble_eq_true rfl)) dX0_lowerBound_77 ⟨by omega, by omega⟩) (fun z77 hz77 => ?_)
      exact zr_ret (z := z77) hx hb hr hlocks hQ (by unfold lbd; rw [if_neg h1, if_neg h50, hz77]) dX0_lowerBound_80
    · refine lv_aload_n hx hb dX0_lowerBound_53 rfl (lv_at hl 0 rfl) ?_
      refine lv_aload_n hx hb dX0_lowerBound_54 rfl (lv_at hl 0 rfl) ?_
      refine va_get (D := (dC, dI)) (ci := 0) (v := .ref aq) (C := RX0) (T := TX0) (N := 7) hx hb hts in_X0 hown hK hP 0 rfl rfl 0 (by decide) fl_9 (fun _ h9 => h9) rfl dX0_lowerBound_55 ?_
      refine lv_aload_n hx hb dX0_lowerBound_58 rfl (lv_at hl 0 rfl) ?_
      refine va_get (D := (dC, dI)) (ci := 0) (v := .ref ar) (C := RX0) (T := TX0) (N := 7) hx hb hts in_X0 hown hK hP 0 rfl rfl 1 (by decide) fl_15 (fun _ h9 => h9) rfl dX0_lowerBound_59 ?_
      refine zr_i (va_runV (As := [.ref aq, .ref ar]) (rest := []) ⟨hx, hb, hml, hown, hts⟩ (c_hullBound l dC dI cI h0 aq ar ac ap ps n w aq ar q r hn hw hvq hvr) (cwV 2 hts (ga_V wd_356 wd_358 wd_8 wd_29 wd_359) rfl rfl rfl (by decide +kernel) ⟨(show 1 + 1 ≤ R.frames by omega), (show 8 + (9 + 11) + 22 ≤ R.locals by omega)⟩) (rd_preV (q0 := 0) (ci := 0) hP hK [0, 1, 2] rfl rfl rfl) rfl rfl hl.1 rfl (lv_room (Nat.le_of_ble_eq_true rfl)) dX0_lowerBound_62 ⟨by omega, by omega⟩) (fun z62 hz62 => ?_)
      refine lv_goto (tgt := 80) hx hb dX0_lowerBound_65 (by decide) ?_
      exact zr_ret (z := z62) hx hb hr hlocks hQ (by unfold lbd; rw [if_neg h1, if_pos h50, hz62]) dX0_lowerBound_80
  · refine lv_aload_n hx hb dX0_lowerBound_4 rfl (lv_at hl 0 rfl) ?_
    refine va_get (D := (dC, dI)) (ci := 0) (v := .ref aq) (C := RX0) (T := TX0) (N := 7) hx hb hts in_X0 hown hK hP 0 rfl rfl 0 (by decide) fl_9 (fun _ h9 => h9) rfl dX0_lowerBound_5 ?_
    refine lv_iconst (v := iI (0 : Int)) hx hb dX0_lowerBound_8 (by decide) ?_
    refine z_iald hx hb hK hP 1 0 rfl rfl 0 (by omega) dX0_lowerBound_9 ?_
    refine lv_aload_n hx hb dX0_lowerBound_10 rfl (lv_at hl 0 rfl) ?_
    refine va_get (D := (dC, dI)) (ci := 0) (v := .ref ar) (C := RX0) (T := TX0) (N := 7) hx hb hts in_X0 hown hK hP 0 rfl rfl 1 (by decide) fl_15 (fun _ h9 => h9) rfl dX0_lowerBound_11 ?_
    refine lv_iconst (v := iI (0 : Int)) hx hb dX0_lowerBound_14 (by decide) ?_
    refine z_iald hx hb hK hP 2 0 rfl rfl 0 (by omega) dX0_lowerBound_15 ?_
    refine z_isub hx hb dX0_lowerBound_16 ?_
    refine zr_i (va_runS (As := [.int (iI ((q 0) - (r 0)))]) (rest := []) ⟨hx, hb, hml, hown, hts⟩ (c_square l dC dI cI ((q 0) - (r 0))) (cwS 1 hts (ga_S wd_341 wd_342 wd_29 wd_343) rfl rfl rfl (by decide +kernel) ⟨(show 0 + 1 ≤ R.frames by omega), (show 8 + (1 + 11) + 0 ≤ R.locals by omega)⟩) (rd_preS hP hK [] rfl) rfl rfl hl.1 rfl (lv_room (Nat.le_of_ble_eq_true rfl)) dX0_lowerBound_17 ⟨by omega, by omega⟩) (fun z17 hz17 => ?_)
    refine lv_aload_n hx hb dX0_lowerBound_20 rfl (lv_at hl 0 rfl) ?_
    refine va_get (D := (dC, dI)) (ci := 0) (v := .ref aq) (C := RX0) (T := TX0) (N := 7) hx hb hts in_X0 hown hK hP 0 rfl rfl 0 (by decide) fl_9 (fun _ h9 => h9) rfl dX0_lowerBound_21 ?_
    refine lv_aload_n hx hb dX0_lowerBound_24 rfl (lv_at hl 0 rfl) ?_
    refine va_get (D := (dC, dI)) (ci := 0) (v := .int (iI (n : Int))) (C := RX0) (T := TX0) (N := 7) hx hb hts in_X0 hown hK hP 0 rfl rfl 5 (by decide) fl_28 (fun _ h9 => h9) rfl dX0_lowerBound_25 ?_
    refine lv_iconst (v := iI (1 : Int)) hx hb dX0_lowerBound_28 (by decide) ?_
    refine z_isub hx hb dX0_lowerBound_29 ?_
    refine z_top (b := ((n - 1 : Nat) : Int)) (by omega) ?_
    refine z_iald hx hb hK hP 1 0 rfl rfl (n - 1) (by omega) dX0_lowerBound_30 ?_
    refine lv_aload_n hx hb dX0_lowerBound_31 rfl (lv_at hl 0 rfl) ?_
    refine va_get (D := (dC, dI)) (ci := 0) (v := .ref ar) (C := RX0) (T := TX0) (N := 7) hx hb hts in_X0 hown hK hP 0 rfl rfl 1 (by decide) fl_15 (fun _ h9 => h9) rfl dX0_lowerBound_32 ?_
    refine lv_aload_n hx hb dX0_lowerBound_35 rfl (lv_at hl 0 rfl) ?_
    refine va_get (D := (dC, dI)) (ci := 0) (v := .int (iI (n : Int))) (C := RX0) (T := TX0) (N := 7) hx hb hts in_X0 hown hK hP 0 rfl rfl 5 (by decide) fl_28 (fun _ h9 => h9) rfl dX0_lowerBound_36 ?_
    refine lv_iconst (v := iI (1 : Int)) hx hb dX0_lowerBound_39 (by decide) ?_
    refine z_isub hx hb dX0_lowerBound_40 ?_
    refine z_top (b := ((n - 1 : Nat) : Int)) (by omega) ?_
    refine z_iald hx hb hK hP 2 0 rfl rfl (n - 1) (by omega) dX0_lowerBound_41 ?_
    refine z_isub hx hb dX0_lowerBound_42 ?_
    refine zr_i (va_runS (As := [.int (iI ((q (n - 1)) - (r (n - 1))))]) (rest := [.int (iI z17)]) ⟨hx, hb, hml, hown, hts⟩ (c_square l dC dI cI ((q (n - 1)) - (r (n - 1)))) (cwS 1 hts (ga_S wd_341 wd_342 wd_29 wd_343) rfl rfl rfl (by decide +kernel) ⟨(show 0 + 1 ≤ R.frames by omega), (show 8 + (1 + 11) + 0 ≤ R.locals by omega)⟩) (rd_preS hP hK [] rfl) rfl rfl hl.1 rfl (lv_room (Nat.le_of_ble_eq_true rfl)) dX0_lowerBound_43 ⟨by omega, by omega⟩) (fun z43 hz43 => ?_)
    refine z_iadd hx hb dX0_lowerBound_46 ?_
    exact zr_ret (z := z17 + z43) hx hb hr hlocks hQ (by unfold lbd; rw [if_pos h1, hz17, hz43]; rfl) dX0_lowerBound_47
