/-! what the law finds at its entry -/
theorem tb_in {i : Nat} {w : Cond} (h : lw_tbl[i]? = some w) : w ∈ lw_tbl := List.mem_of_getElem? h
theorem st_hts {args : Array Value} {s : State} (h : ∀ w ∈ lw_tbl, w.before args s = true) : ∀ w ∈ wsL_law, w.before args s = true := by
  intro w hw
  rcases List.mem_cons.mp hw with rfl | hw
  · rfl
  · exact h w (List.mem_filter.mp hw).1
theorem st_zN {args : Array Value} {s : State} (h : ∀ w ∈ lw_tbl, w.before args s = true) : zN s := ⟨va_Nw.of (A := args) rfl (h _ (tb_in (i := 89) (by decide +kernel))), va_Nw.of (A := args) rfl (h _ (tb_in (i := 87) (by decide +kernel))), va_Nw.of (A := args) rfl (h _ (tb_in (i := 85) (by decide +kernel)))⟩
theorem st_zM {args : Array Value} {s : State} (h : ∀ w ∈ lw_tbl, w.before args s = true) : zM s := ⟨va_Nw.of (A := args) rfl (h _ (tb_in (i := 51) (by decide +kernel))), va_Nw.of (A := args) rfl (h _ (tb_in (i := 80) (by decide +kernel)))⟩
theorem st_str {args : Array Value} {s : State} {k : Nat} {tx : String} (h1 : (Cond.stringRef "WarpSearch" k tx).before args s = true) (h2 : (Cond.exactly (.string "WarpSearch" k) "java/lang/String").before args s = true) : ∃ sa : Nat, vk_R "WarpSearch" k tx sa s := by
  obtain ⟨a, c, cell, k', e, -⟩ := Cond.exactly_spec (show (Cond.exactly (.string "WarpSearch" k) "java/lang/String").holds args s none s [] = true from h2)
  exact ⟨a, vk_R.of (A := args) h1 e⟩
theorem st_Nc {args : Array Value} {s : State} (hg : (Jvm.Cond.and given_1 narrow_1).before args s = true) : zNc s := ⟨va_Nc.of (flat_of_before _ hg _ (by decide +kernel)), va_Nc.of (flat_of_before _ hg _ (by decide +kernel))⟩
theorem st_s54 {args : Array Value} {s : State} (h : ∀ w ∈ lw_tbl, w.before args s = true) (hg : (Jvm.Cond.and given_1 narrow_1).before args s = true) : ∃ sa : Nat, vk_R "WarpSearch" 54 "n is not 2 .. 16" sa s := st_str (h _ (tb_in (i := 183) (by decide +kernel))) (flat_of_before _ hg _ (by decide +kernel))
theorem st_s71 {args : Array Value} {s : State} (h : ∀ w ∈ lw_tbl, w.before args s = true) (hg : (Jvm.Cond.and given_1 narrow_1).before args s = true) : ∃ sa : Nat, vk_R "WarpSearch" 71 "the question has no such number" sa s := st_str (h _ (tb_in (i := 234) (by decide +kernel))) (flat_of_before _ hg _ (by decide +kernel))
theorem st_s78 {args : Array Value} {s : State} (h : ∀ w ∈ lw_tbl, w.before args s = true) (hg : (Jvm.Cond.and given_1 narrow_1).before args s = true) : ∃ sa : Nat, vk_R "WarpSearch" 78 "v is not -1000 .. 1000" sa s := st_str (h _ (tb_in (i := 244) (by decide +kernel))) (flat_of_before _ hg _ (by decide +kernel))
theorem st_s80 {args : Array Value} {s : State} (h : ∀ w ∈ lw_tbl, w.before args s = true) (hg : (Jvm.Cond.and given_1 narrow_1).before args s = true) : ∃ sa : Nat, vk_R "WarpSearch" 80 "label is not 0 .. 7" sa s := st_str (h _ (tb_in (i := 253) (by decide +kernel))) (flat_of_before _ hg _ (by decide +kernel))
theorem st_s84 {args : Array Value} {s : State} (h : ∀ w ∈ lw_tbl, w.before args s = true) (hg : (Jvm.Cond.and given_1 narrow_1).before args s = true) : ∃ sa : Nat, vk_R "WarpSearch" 84 "there are 12 rows" sa s := st_str (h _ (tb_in (i := 263) (by decide +kernel))) (flat_of_before _ hg _ (by decide +kernel))
theorem st_s151 {args : Array Value} {s : State} (h : ∀ w ∈ lw_tbl, w.before args s = true) (hg : (Jvm.Cond.and given_1 narrow_1).before args s = true) : ∃ sa : Nat, vk_R "WarpSearch" 151 "there is no such row" sa s := st_str (h _ (tb_in (i := 284) (by decide +kernel))) (flat_of_before _ hg _ (by decide +kernel))
theorem st_s96 {args : Array Value} {s : State} (h : ∀ w ∈ lw_tbl, w.before args s = true) (hg : (Jvm.Cond.and given_1 narrow_1).before args s = true) : ∃ sa : Nat, vk_R "WarpSearch" 96 "w is not 0 .. 15" sa s := st_str (h _ (tb_in (i := 292) (by decide +kernel))) (flat_of_before _ hg _ (by decide +kernel))
theorem st_s105 {args : Array Value} {s : State} (h : ∀ w ∈ lw_tbl, w.before args s = true) (hg : (Jvm.Cond.and given_1 narrow_1).before args s = true) : ∃ sa : Nat, vk_R "WarpSearch" 105 "which is not 0 .. 2" sa s := st_str (h _ (tb_in (i := 351) (by decide +kernel))) (flat_of_before _ hg _ (by decide +kernel))
theorem st_s114 {args : Array Value} {s : State} (h : ∀ w ∈ lw_tbl, w.before args s = true) (hg : (Jvm.Cond.and given_1 narrow_1).before args s = true) : ∃ sa : Nat, vk_R "WarpSearch" 114 "the path has no such pair" sa s := st_str (h _ (tb_in (i := 385) (by decide +kernel))) (flat_of_before _ hg _ (by decide +kernel))
theorem st_s155 {args : Array Value} {s : State} (h : ∀ w ∈ lw_tbl, w.before args s = true) (hg : (Jvm.Cond.and given_1 narrow_1).before args s = true) : ∃ sa : Nat, vk_R "WarpSearch" 155 "k is not 1 .. 12" sa s := st_str (h _ (tb_in (i := 400) (by decide +kernel))) (flat_of_before _ hg _ (by decide +kernel))
theorem st_s153 {args : Array Value} {s : State} (h : ∀ w ∈ lw_tbl, w.before args s = true) (hg : (Jvm.Cond.and given_1 narrow_1).before args s = true) : ∃ sa : Nat, vk_R "WarpSearch" 153 "there is no row" sa s := st_str (h _ (tb_in (i := 405) (by decide +kernel))) (flat_of_before _ hg _ (by decide +kernel))
theorem st_s132 {args : Array Value} {s : State} (h : ∀ w ∈ lw_tbl, w.before args s = true) (hg : (Jvm.Cond.and given_1 narrow_1).before args s = true) : ∃ sa : Nat, vk_R "WarpSearch" 132 "the list has no such row" sa s := st_str (h _ (tb_in (i := 434) (by decide +kernel))) (flat_of_before _ hg _ (by decide +kernel))
theorem st_s143 {args : Array Value} {s : State} (h : ∀ w ∈ lw_tbl, w.before args s = true) (hg : (Jvm.Cond.and given_1 narrow_1).before args s = true) : ∃ sa : Nat, vk_R "WarpSearch" 143 "what is not 0 .. 4" sa s := st_str (h _ (tb_in (i := 453) (by decide +kernel))) (flat_of_before _ hg _ (by decide +kernel))
theorem st_s145 {args : Array Value} {s : State} (h : ∀ w ∈ lw_tbl, w.before args s = true) (hg : (Jvm.Cond.and given_1 narrow_1).before args s = true) : ∃ sa : Nat, vk_R "WarpSearch" 145 "there are 64 numbers" sa s := st_str (h _ (tb_in (i := 461) (by decide +kernel))) (flat_of_before _ hg _ (by decide +kernel))
theorem st_s147 {args : Array Value} {s : State} (h : ∀ w ∈ lw_tbl, w.before args s = true) (hg : (Jvm.Cond.and given_1 narrow_1).before args s = true) : ∃ sa : Nat, vk_R "WarpSearch" 147 "there is no window" sa s := st_str (h _ (tb_in (i := 469) (by decide +kernel))) (flat_of_before _ hg _ (by decide +kernel))
theorem st_s149 {args : Array Value} {s : State} (h : ∀ w ∈ lw_tbl, w.before args s = true) (hg : (Jvm.Cond.and given_1 narrow_1).before args s = true) : ∃ sa : Nat, vk_R "WarpSearch" 149 "the stream has not so many numbers" sa s := st_str (h _ (tb_in (i := 477) (by decide +kernel))) (flat_of_before _ hg _ (by decide +kernel))
theorem st_zX {args : Array Value} {s : State} (h : ∀ w ∈ lw_tbl, w.before args s = true) (hg : (Jvm.Cond.and given_1 narrow_1).before args s = true) : zX (fun q => s.heap.size ≤ q) s := by
  have hn : ∀ a : Nat, a < s.heap.size → ¬ s.heap.size ≤ a := fun a h1 h2 => by omega
  exact ⟨st_zN h, ⟨va_Nw.of (A := args) rfl (h _ (tb_in (i := 144) (by decide +kernel))), va_Nw.of (A := args) rfl (h _ (tb_in (i := 227) (by decide +kernel))), va_Nw.of (A := args) rfl (h _ (tb_in (i := 256) (by decide +kernel)))⟩, ⟨va_Nw.of (A := args) rfl (h _ (tb_in (i := 146) (by decide +kernel))), va_Nw.of (A := args) rfl (h _ (tb_in (i := 148) (by decide +kernel))), va_Nw.of (A := args) rfl (h _ (tb_in (i := 150) (by decide +kernel)))⟩, ⟨vx_Zqof (h _ (tb_in (i := 169) (by decide +kernel))) (h _ (tb_in (i := 32) (by decide +kernel))) (flat_of_before _ hg _ (by decide +kernel)) hn, vx_Zqof (h _ (tb_in (i := 171) (by decide +kernel))) (h _ (tb_in (i := 32) (by decide +kernel))) (flat_of_before _ hg _ (by decide +kernel)) hn⟩, List.forall_mem_cons.mpr ⟨st_s54 h hg, List.forall_mem_cons.mpr ⟨st_s71 h hg, List.forall_mem_cons.mpr ⟨st_s78 h hg, List.forall_mem_cons.mpr ⟨st_s80 h hg, List.forall_mem_cons.mpr ⟨st_s84 h hg, List.forall_mem_cons.mpr ⟨st_s151 h hg, List.forall_mem_cons.mpr ⟨st_s96 h hg, List.forall_mem_cons.mpr ⟨st_s105 h hg, List.forall_mem_cons.mpr ⟨st_s114 h hg, List.forall_mem_cons.mpr ⟨st_s155 h hg, List.forall_mem_cons.mpr ⟨st_s153 h hg, List.forall_mem_cons.mpr ⟨st_s132 h hg, List.forall_mem_cons.mpr ⟨st_s143 h hg, List.forall_mem_cons.mpr ⟨st_s145 h hg, List.forall_mem_cons.mpr ⟨st_s147 h hg, List.forall_mem_cons.mpr ⟨st_s149 h hg, fun _ h9 => absurd h9 List.not_mem_nil⟩⟩⟩⟩⟩⟩⟩⟩⟩⟩⟩⟩⟩⟩⟩⟩⟩
theorem st_K {args : Array Value} {s : State} (hts : ∀ w ∈ wsL_law, w.before args s = true) : ∃ (dC : Nat → ClassId) (dI : Nat → Nat → Nat) (cI : ClassId), va_K (dC, dI) vwCl [(cI, .int)] s := by
  obtain ⟨c0, i0, k0⟩ := u_known (C := RX0) (T := TX0) (N := 7) hts (fun w h => List.mem_cons_of_mem _ (inW_X0 w h)) (wa_hts hts wd_50)
  obtain ⟨c1, i1, k1⟩ := u_known (C := RX1) (T := TX1) (N := 4) hts (fun w h => List.mem_cons_of_mem _ (inW_X1 w h)) (wa_hts hts wd_79)
  obtain ⟨c2, i2, k2⟩ := u_known (C := RX2) (T := TX2) (N := 11) hts (fun w h => List.mem_cons_of_mem _ (inW_X2 w h)) (wa_hts hts wd_42)
  obtain ⟨c3, i3, k3⟩ := u_known (C := RX3) (T := TX3) (N := 17) hts (fun w h => List.mem_cons_of_mem _ (inW_X3 w h)) (wa_hts hts wd_479)
  obtain ⟨cI, kI, comp, h1, h2, h3⟩ := Cond.arrayClass_spec (show (Cond.arrayClass .int).holds args s none s [] = true from wa_hts hts wd_77)
  refine ⟨fun c => match c with | 0 => c0 | 1 => c1 | 2 => c2 | _ => c3, fun c => match c with | 0 => i0 | 1 => i1 | 2 => i2 | _ => i3, cI, fun c q hq => ?_, fun k q hq => ?_⟩
  · match c, hq with
    | 0, hq => cases hq; exact k0
    | 1, hq => cases hq; exact k1
    | 2, hq => cases hq; exact k2
    | 3, hq => cases hq; exact k3
  · match k, hq with
    | 0, hq => cases hq; exact ⟨fun n z => ⟨fun k h => (by cases h), kI, h2, comp, h3⟩, h1⟩
abbrev sg0 : Sg := ((2, 0, 0, 0), (zZ, zZ, zZ, zZ), (31, 2, 0, zZ, zZ, zZ, zZ), (0, 1, zZ, zZ, zZ))
abbrev mg0 : Mg := ((0, 2, 0, 0, 0, 0, 0), (zZ, zZ, zZ, zZ, zZ, zZ, zZ, zZ, zZ, zZ))
theorem vals_Z (n : Nat) : vals n zZ := fun a _ => by rw [zZ_v]; omega
theorem rgA_Z : rgA zZ := fun a => by rw [zZ_v]; omega
theorem J_0 : J sg0 mg0 := by
  refine ⟨⟨⟨?_, ?_, ?_, ?_⟩, ⟨vals_Z _, vals_Z _, rgA_Z, vals_Z _⟩, rgA_Z, ⟨?_, rgA_Z, fun k h => ?_⟩, ?_⟩, ⟨rfl, rfl, rfl, rfl⟩, ⟨fun _ _ => rfl, fun _ _ => rfl, fun _ _ => rfl, fun _ _ => rfl⟩, ⟨rfl, fun _ _ => rfl, fun _ _ => rfl, fun _ _ => rfl⟩, rgA_Z, rgA_Z, rgA_Z⟩
  all_goals first | decide | exact absurd h (Nat.not_lt_zero _)
